/-! Sentences: codes that can be told, and where the reference's reader stands -/
theorem dp_ne {q : pS} {v : Int32} {j : Nat} (h : j ≠ 48) : (dpI q v).1 j = q.1 j := va_ne h
theorem tp_ne {q : pS} {v j : Nat} (h : j ≠ 47) : (tpI q v).1 j = q.1 j := va_ne h
theorem cd_ne {q : pS} {v j : Nat} (h : j ≠ 45) : (cdI q v).1 j = q.1 j := va_ne h
theorem wh_ne {q : pS} {v j : Nat} (h : j ≠ 49) : (whI q v).1 j = q.1 j := va_ne h
theorem on_ne {q : pS} {j : Nat} (h : j ≠ 46) : (onI q).1 j = q.1 j := va_ne h
theorem dp_s {q : pS} {v : Int32} : (dpI q v).1 48 = v := by unfold dpI; dsimp only; exact va_sf
theorem wh_s {q : pS} {v : Nat} : (whI q v).1 49 = nI v := by unfold whI; dsimp only; exact va_sf
theorem on_s {q : pS} : (onI q).1 46 = q.1 46 + nI 1 := by unfold onI; dsimp only; exact va_sf
def bnS : List Nat → Nat
  | [] => 0
  | a :: S => (if a = 21 ∨ a = 22 then 1 else 0) + bnS S
/-- the codes, the latest first, run well and leave m answers -/
def wfC : List cS → Nat → Prop
  | [], m => m = 0
  | c :: cs, m => ∃ k, wfC cs k ∧ k ≤ 20 ∧ ((c.1 = nI 20 ∧ 1 ≤ k ∧ m = k) ∨ ((c.1 = nI 21 ∨ c.1 = nI 22) ∧ 2 ≤ k ∧ m = k - 1) ∨ (∃ w, w < 13 ∧ c.1 = nI w ∧ m = k + 1))
def wfI (x : sS) (o wh : Nat) : Prop := wfC x.2.1 (wh + bnS x.2.2) ∧ wh + bnS x.2.2 ≤ o ∧ o ≤ 20
theorem wf_nots : ∀ (S : List Nat) (q : pS) (cs : List cS) (o : Nat), wfC cs (1 + bnS S) → 1 + bnS S ≤ o → o ≤ 20 → wfC (notsA S q cs).2.1 (1 + bnS (notsA S q cs).2.2) ∧ 1 + bnS (notsA S q cs).2.2 ≤ o
  | [], q, cs, o, h1, h2, h3 => ⟨h1, h2⟩
  | a :: S, q, cs, o, h1, h2, h3 => by
    rw [notsA]
    split
    · rename_i z
      subst z
      have e1 : bnS (20 :: S) = bnS S := by simp [bnS]
      rw [e1] at h1 h2
      exact wf_nots S _ _ o ⟨1 + bnS S, h1, by omega, Or.inl ⟨rfl, by omega, rfl⟩⟩ h2 h3
    · exact ⟨h1, h2⟩
theorem wf_joins {till : Nat} : ∀ (S : List Nat) (q : pS) (cs : List cS) (o : Nat), wfC cs (1 + bnS S) → 1 + bnS S ≤ o → o ≤ 20 → wfC (joinsA till S q cs).2.1 (1 + bnS (joinsA till S q cs).2.2) ∧ 1 + bnS (joinsA till S q cs).2.2 ≤ o
  | [], q, cs, o, h1, h2, h3 => ⟨h1, h2⟩
  | a :: S, q, cs, o, h1, h2, h3 => by
    rw [joinsA]
    split
    · rename_i z
      have za : a = 21 ∨ a = 22 := by omega
      have e1 : bnS (a :: S) = 1 + bnS S := by rw [bnS, if_pos za]
      rw [e1] at h1 h2
      refine wf_joins S _ _ o ⟨1 + (1 + bnS S), h1, by omega, Or.inr (Or.inl ⟨?_, by omega, by omega⟩)⟩ (by omega) h3
      rcases za with rfl | rfl
      · exact Or.inl rfl
      · exact Or.inr rfl
    · exact ⟨h1, h2⟩
theorem wf_op {e : pE} {nm : Nat → Int64} {F : Nat} {x : sS} {o : Nat} (hw : wfI x o 0) (h46 : x.1.1 46 = nI o) (hl : ∀ k, lfN e.2.2.2 x.1 = some k → k < 13) (hs : (opS e nm F x).1 = true) (wh : Nat) (h49 : (opS e nm F x).2.1.1 49 = nI wh) (hwh : wh ≤ 1) (hx : x.1.1 49 = nI 0) : wfI (opS e nm F x).2 (o + 1) wh := by
  obtain ⟨w1, w2, w3⟩ := hw
  unfold opS at hs h49 ⊢
  by_cases g1 : isWordB 7237492 x.1 = false ∧ isSignB (nI 40) x.1 = false ∧ lfN e.2.2.2 x.1 = none
  · rw [if_pos g1] at hs; cases hs
  rw [if_neg g1] at hs h49 ⊢
  by_cases g2 : x.1.1 46 = nI 20 ∨ nI 8 < x.1.1 48
  · rw [if_pos g2] at hs; cases hs
  rw [if_neg g2] at hs h49 ⊢
  have o20 : o < 20 := by
    rcases Nat.lt_or_ge o 20 with g | g
    · exact g
    · exact absurd (Or.inl (by rw [h46]; congr 1; omega)) g2
  by_cases g3 : isWordB 7237492 x.1 = true ∨ isSignB (nI 40) x.1 = true
  · rw [if_pos g3] at h49 ⊢
    have e49 : nI 0 = nI wh := by
      rw [← h49]
      dsimp only
      rw [dp_ne (by omega), tp_ne (by omega), nxE, nx_f fX_49, on_ne (by omega)]; exact hx.symm
    have ewh : wh = 0 := by
      apply Classical.byContradiction
      intro z
      have : ¬ nI 0 = nI wh := by rw [nI_eq_f (by omega) (by omega) (by omega)]; exact id
      exact this e49
    subst ewh
    have eb : bnS ((if isWordB 7237492 x.1 = true then 20 else 23) :: x.2.2) = bnS x.2.2 := by
      split <;> simp [bnS]
    refine ⟨?_, ?_, by omega⟩
    · show wfC x.2.1 (0 + bnS ((if isWordB 7237492 x.1 = true then 20 else 23) :: x.2.2))
      rw [eb]; exact w1
    · show 0 + bnS ((if isWordB 7237492 x.1 = true then 20 else 23) :: x.2.2) ≤ o + 1
      rw [eb]; omega
  · rw [if_neg g3] at hs h49 ⊢
    cases hlf : lfN e.2.2.2 x.1 with
    | none =>
      refine absurd ⟨?_, ?_, hlf⟩ g1
      · cases hz : isWordB 7237492 x.1
        · rfl
        · exact absurd (Or.inl hz) g3
      · cases hz : isSignB (nI 40) x.1
        · rfl
        · exact absurd (Or.inr hz) g3
    | some k =>
      have k13 := hl k hlf
      rw [hlf] at hs h49
      have e1 : (some k).getD 0 = k := rfl
      rw [e1] at hs h49 ⊢
      have y49 : (whI (nxE e (onI x.1)) 1).1 49 = nI 1 := wh_s
      generalize whI (nxE e (onI x.1)) 1 = y at hs h49 y49 ⊢
      have key : ∀ (q : pS) (a c f : Int32) (k : Nat), k < 13 → a = nI k → q.1 49 = nI wh → y.1 49 = q.1 49 → wfI (codeS a c f (q, x.2)) (o + 1) wh := by
        intro q a c f k hk ha hq hy
        have : wh = 1 := by
          apply Classical.byContradiction
          intro z
          have hz : wh = 0 := by omega
          rw [← hy, y49, hz] at hq
          exact n_1z hq
        subst this
        refine ⟨⟨0 + bnS x.2.2, w1, by omega, Or.inr (Or.inr ⟨k, hk, ha, by show 1 + bnS x.2.2 = _; omega⟩)⟩, ?_, by omega⟩
        show 1 + bnS x.2.2 ≤ o + 1
        omega
      unfold lfS at hs h49 ⊢
      by_cases c1 : k < 3
      · rw [if_pos c1] at h49 ⊢
        refine key _ _ _ _ k k13 rfl ?_ rfl
        rw [← h49]; unfold codeS; dsimp only; rw [cd_ne (by omega)]
      rw [if_neg c1] at hs h49 ⊢
      by_cases c2 : k = 3
      · rw [if_pos c2] at hs h49 ⊢
        by_cases c3 : (toP e nm F y).1 = true
        · rw [if_pos c3] at h49 ⊢
          refine key _ _ _ _ 3 (by omega) rfl ?_ (to_f fX_49).symm
          rw [← h49]; unfold codeS; dsimp only; rw [cd_ne (by omega)]
        · rw [if_neg c3] at hs; cases hs
      rw [if_neg c2] at hs h49 ⊢
      by_cases c4 : k = 4
      · rw [if_pos c4] at hs h49 ⊢
        by_cases c3 : (tGiftP e.1 e.2.1 e.2.2.1 e.2.2.2 y).1 = true
        · rw [if_pos c3] at h49 ⊢
          refine key _ _ _ _ 4 (by omega) rfl ?_ (gift_f fX_49).symm
          rw [← h49]; unfold codeS; dsimp only; rw [cd_ne (by omega)]
        · rw [if_neg c3] at hs; cases hs
      rw [if_neg c4] at hs h49 ⊢
      by_cases c5 : y.1 11 = nI 3 ∧ nI 60 ≤ y.1 14 ∧ y.1 14 ≤ nI 62
      · rw [if_pos c5] at hs h49 ⊢
        by_cases c6 : (nxE e y).1 11 = nI 2
        · rw [if_pos c6] at h49 ⊢
          have e49 : (nxE e y).1 49 = nI wh := by
            rw [← h49]; unfold codeS; dsimp only
            rw [show (nxE e (cdI (nxE e y) (x.2.1.length + 1))).1 49 = (cdI (nxE e y) (x.2.1.length + 1)).1 49 from nx_f fX_49, cd_ne (by omega)]
          exact key (nxE e y) (nI k) (y.1 14) ((nxE e y).1 14) k k13 rfl e49 (by rw [nxE, nx_f fX_49])
        · rw [if_neg c6] at hs; cases hs
      · rw [if_neg c5] at hs; cases hs
theorem wf_bh {e : pE} {x : sS} {o : Nat} (hw : wfI x o 1) (hs : (bhS e x).1 = true) (wh : Nat) (h49 : (bhS e x).2.1.1 49 = nI wh) (hwh : wh ≤ 1) (hx : x.1.1 49 = nI 1) : wfI (bhS e x).2 o wh := by
  obtain ⟨w1, w2, w3⟩ := hw
  obtain ⟨v1, v2⟩ := wf_nots x.2.2 x.1 x.2.1 o w1 w2 w3
  have y49 : (notsS x).1.1 49 = nI 1 := (notsA_q (by omega) (by omega) (by omega) _ _ _).1.trans hx
  have v1 : wfC (notsS x).2.1 (1 + bnS (notsS x).2.2) := v1
  have v2 : 1 + bnS (notsS x).2.2 ≤ o := v2
  unfold bhS at hs h49 ⊢
  generalize notsS x = y at v1 v2 y49 hs h49 ⊢
  unfold bh2S at hs h49 ⊢
  by_cases g1 : isWordB 6385252 y.1 = true ∨ isWordB 28530 y.1 = true
  · rw [if_pos g1] at h49 ⊢
    have ht : (if isWordB 6385252 y.1 = true then 21 else 22) = 21 ∨ (if isWordB 6385252 y.1 = true then 21 else 22) = 22 := by split <;> simp
    generalize (if isWordB 6385252 y.1 = true then 21 else 22) = till at h49 ht ⊢
    obtain ⟨u1, u2⟩ := wf_joins (till := till) y.2.2 y.1 y.2.1 o v1 v2 w3
    have u1 : wfC (joinsS till y).2.1 (1 + bnS (joinsS till y).2.2) := u1
    have u2 : 1 + bnS (joinsS till y).2.2 ≤ o := u2
    have e49 : nI 0 = nI wh := by
      rw [← h49]
      dsimp only
      rw [nxE, nx_f fX_49, wh_s]
    have ewh : wh = 0 := by
      apply Classical.byContradiction
      intro z
      have : ¬ nI 0 = nI wh := by rw [nI_eq_f (by omega) (by omega) (by omega)]; exact id
      exact this e49
    subst ewh
    have eb : bnS (till :: (joinsS till y).2.2) = 1 + bnS (joinsS till y).2.2 := by rw [bnS, if_pos ht]
    refine ⟨?_, ?_, w3⟩
    · show wfC (joinsS till y).2.1 (0 + bnS (till :: (joinsS till y).2.2))
      rw [eb, Nat.zero_add]; exact u1
    · show 0 + bnS (till :: (joinsS till y).2.2) ≤ o
      rw [eb]; omega
  · rw [if_neg g1] at hs h49 ⊢
    obtain ⟨u1, u2⟩ := wf_joins (till := 22) y.2.2 y.1 y.2.1 o v1 v2 w3
    have u1 : wfC (joinsS 22 y).2.1 (1 + bnS (joinsS 22 y).2.2) := u1
    have u2 : 1 + bnS (joinsS 22 y).2.2 ≤ o := u2
    have z49 : (joinsS 22 y).1.1 49 = nI 1 := (joinsA_q (by omega) (by omega) _ _ _).1.trans y49
    have ztop : ∀ a S, (joinsS 22 y).2.2 = a :: S → ¬ (a = 21 ∨ a = 22) := by
      have : ∀ (S : List Nat) (q : pS) (cs : List cS) a S', (joinsA 22 S q cs).2.2 = a :: S' → ¬ (a = 21 ∨ a = 22) := by
        intro S
        induction S with
        | nil => intro q cs a S' h; cases h
        | cons b S ih =>
          intro q cs a S' h
          rw [joinsA] at h
          split at h
          · exact ih _ _ _ _ h
          · rename_i z
            cases h
            omega
      exact this _ _ _
    by_cases g2 : isSignB (nI 41) (joinsS 22 y).1 = true ∧ ¬ (joinsS 22 y).2.2 = []
    · rw [if_pos g2] at h49 ⊢
      have e49 : nI 1 = nI wh := by
        rw [← h49]
        dsimp only
        rw [nxE, nx_f fX_49, dp_ne (by omega), tp_ne (by omega)]; exact z49.symm
      have ewh : wh = 1 := by
        apply Classical.byContradiction
        intro z
        have hz : wh = 0 := by omega
        rw [hz] at e49
        exact n_1z e49
      subst ewh
      have eb : bnS (joinsS 22 y).2.2.tail = bnS (joinsS 22 y).2.2 := by
        cases hS : (joinsS 22 y).2.2 with
        | nil => rfl
        | cons a S => rw [List.tail_cons, bnS, if_neg (ztop a S hS), Nat.zero_add]
      refine ⟨?_, ?_, w3⟩
      · show wfC (joinsS 22 y).2.1 (1 + bnS (joinsS 22 y).2.2.tail)
        rw [eb]; exact u1
      · show 1 + bnS (joinsS 22 y).2.2.tail ≤ o
        rw [eb]; exact u2
    · rw [if_neg g2] at hs; cases hs
theorem lf_13 {rs : Nat → Int64} {q : pS} {k : Nat} (h : lfN rs q = some k) : k < 13 := by
  unfold lfN at h
  repeat' split at h
  all_goals first | (cases h; omega) | skip
  · rename_i z
    cases h
    have hh := fstN_val (p := fun k => decide (q.1 11 = nI 1) && decide (q.2 = rs (8 + k))) (N := 4) (by decide)
    have hh : gwN rs q = -1 ∨ ∃ k, k < 4 ∧ gwN rs q = nI k := hh
    rcases hh with hh | ⟨j, hj, hh⟩
    · rw [hh] at z; exact absurd z (by decide)
    · rw [hh, nI_clamp (by omega)]; omega
  · cases h
/-- the reference's reader stands at x and will come to Y -/
def On (e : pE) (nm : Nat → Int64) (F : Nat) (Y : Bool × sS) (x : sS) (o wh : Nat) : Prop := sInv e x o wh ∧ wfI x o wh ∧ ∃ k, 8 * (20 - o) + 2 * x.2.2.length + 5 * wh < k ∧ senN e nm F k x = Y
theorem nI_01 {a b : Nat} (ha : a ≤ 1) (hb : b ≤ 1) (h : nI a = nI b) : a = b := by
  apply Classical.byContradiction
  intro z
  rw [nI_eq_f z (by omega) (by omega)] at h
  exact h
theorem On_op {e : pE} {nm : Nat → Int64} {F : Nat} {Y : Bool × sS} {x : sS} {o : Nat} (h : On e nm F Y x o 0) : ((opS e nm F x).1 = true → ∃ wh, (opS e nm F x).2.1.1 49 = nI wh ∧ On e nm F Y (opS e nm F x).2 (o + 1) wh) ∧ ((opS e nm F x).1 = false → Y = opS e nm F x) := by
  obtain ⟨hi, hw, k, hk, hs⟩ := h
  obtain ⟨i1, i2, i3, i4, i5, i6⟩ := id hi
  cases k with
  | zero => omega
  | succ k =>
    rw [senN, if_neg (fun z => z.1 i4), if_pos i4] at hs
    refine ⟨fun ho => ?_, fun ho => ?_⟩
    · rw [if_pos ho] at hs
      obtain ⟨wh, j1, j2, j3⟩ := op_inv hi ho
      exact ⟨wh, j1.2.2.2.1, j1, wf_op hw i2 (fun k => lf_13) ho wh j1.2.2.2.1 j1.2.2.2.2.1 i4, k, by omega, hs⟩
    · rw [if_neg (by rw [ho]; exact Bool.false_ne_true)] at hs
      exact hs.symm
theorem On_bh {e : pE} {nm : Nat → Int64} {F : Nat} {Y : Bool × sS} {x : sS} {o : Nat} (h : On e nm F Y x o 1) (h0 : ¬ x.1.1 11 = nI 0) : ((bhS e x).1 = true → ∃ wh, (bhS e x).2.1.1 49 = nI wh ∧ On e nm F Y (bhS e x).2 o wh) ∧ ((bhS e x).1 = false → Y = bhS e x) := by
  obtain ⟨hi, hw, k, hk, hs⟩ := h
  obtain ⟨i1, i2, i3, i4, i5, i6⟩ := id hi
  have hz : ¬ x.1.1 49 = nI 0 := by rw [i4]; exact n_1z
  cases k with
  | zero => omega
  | succ k =>
    rw [senN, if_neg (fun z => h0 z.2), if_neg hz] at hs
    refine ⟨fun ho => ?_, fun ho => ?_⟩
    · rw [if_pos ho] at hs
      obtain ⟨wh, j1, j2⟩ := bh_inv hi ho
      exact ⟨wh, j1.2.2.2.1, j1, wf_bh hw ho wh j1.2.2.2.1 j1.2.2.2.2.1 i4, k, by omega, hs⟩
    · rw [if_neg (by rw [ho]; exact Bool.false_ne_true)] at hs
      exact hs.symm
theorem On_end {e : pE} {nm : Nat → Int64} {F : Nat} {Y : Bool × sS} {x : sS} {o : Nat} (h : On e nm F Y x o 1) (h0 : x.1.1 11 = nI 0) : Y = if (joinsS 22 (notsS x)).2.2 = [] then (true, joinsS 22 (notsS x)) else (false, badP (nI 1) (joinsS 22 (notsS x)).1, (joinsS 22 (notsS x)).2) := by
  obtain ⟨hi, hw, k, hk, hs⟩ := h
  obtain ⟨i1, i2, i3, i4, i5, i6⟩ := id hi
  have hz : ¬ x.1.1 49 = nI 0 := by rw [i4]; exact n_1z
  cases k with
  | zero => omega
  | succ k =>
    rw [senN, if_pos ⟨hz, h0⟩] at hs
    exact hs.symm
