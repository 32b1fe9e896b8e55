/-! The reference's reader: numbers of a tower that was read -/
theorem and_tr {r : Bool × tS} {f : tS → Bool × tS} (h : (andT r f).1 = true) : r.1 = true ∧ (f r.2).1 = true ∧ andT r f = f r.2 := by
  cases hr : r.1
  · rw [and_f hr] at h; rw [hr] at h; cases h
  · rw [and_t hr] at h; exact ⟨rfl, h, and_t hr⟩
theorem puts_tr {e : pE} {to : Nat} {a c : Nat} (ha : a < 2 ^ 31) (hc : c < 2 ^ 31) {x : tS} (h : (putsT e to (nI a) (nI c) x).1 = true) : ∃ v, a ≤ v ∧ v ≤ c ∧ (putsT e to (nI a) (nI c) x).2.2 = (va_up x.2.1 to (nI v), x.2.2) ∧ (putsT e to (nI a) (nI c) x).2.1.1 15 = x.1.1 15 := by
  unfold putsT at h ⊢
  obtain ⟨h1, h2, h3⟩ := and_tr h
  rw [h3]
  have h1 : (takesP e.1 e.2.1 e.2.2.1 (nI a) (nI c) x.1).1 = true := h1
  obtain ⟨k, k1, k2, k3⟩ := in_nIr ha hc (takes_ok h1).2
  refine ⟨k, k1, k2, ?_, takes_15 h1⟩
  show (va_up x.2.1 to ((takesP e.1 e.2.1 e.2.2.1 (nI a) (nI c) x.1).2.1 18), x.2.2) = _
  rw [takes_18 h1, k3]
theorem fresh_tr {e : pE} {to : Nat} {x : tS} (h : (freshT e to x).1 = true) : (freshT e to x).2.2.1 = x.2.1 ∧ (freshT e to x).2.1.1 15 = x.1.1 15 := by
  rw [(fresh_ok h).2]
  exact ⟨rfl, nx_15⟩
theorem rg_floor {h h' : Nat → Int32} {k g v : Nat} (hr : rg5 h) (hk : h 0 = nI k) (h8 : k < 8) (h0 : h' 0 = nI (k + 1)) (hg : g < 4) (eg : h' (5 + k) = nI g) (v1 : 1 ≤ v) (v2 : v ≤ 9) (ev : h' (13 + k) = nI v) (ho : ∀ j, j ≠ 0 → j ≠ 21 → j ≠ 5 + k → j ≠ 13 + k → h' j = h j) (c1 : cnt h 1 ≤ 6) (c2 : cnt h 2 ≤ 5) : rg5 h' := by
  obtain ⟨r1, r2, r3, r4, r5⟩ := hr
  have e0 : cnt h 0 = k := nI_cnt (by omega) hk
  have e0' : cnt h' 0 = k + 1 := nI_cnt (by omega) h0
  have e1 : cnt h' 1 = cnt h 1 := by unfold cnt; rw [ho 1 (by omega) (by omega) (by omega) (by omega)]
  have e2 : cnt h' 2 = cnt h 2 := by unfold cnt; rw [ho 2 (by omega) (by omega) (by omega) (by omega)]
  unfold rg5
  rw [e0', e1, e2]
  refine ⟨fun f hf => ?_, fun c hc => ?_, fun u hu => ?_, ?_, ?_⟩
  · by_cases z : f = k
    · subst z; exact ⟨⟨g, hg, eg⟩, v, v1, v2, ev⟩
    · rw [ho _ (by omega) (by omega) (by omega) (by omega), ho (13 + f) (by omega) (by omega) (by omega) (by omega)]
      exact r1 f (by omega)
  · rw [ho _ (by omega) (by omega) (by omega) (by omega)]; exact r2 c hc
  · rw [ho _ (by omega) (by omega) (by omega) (by omega)]; exact r3 u hu
  · rw [ho _ (by omega) (by omega) (by omega) (by omega)]; exact r4
  · rw [ho _ (by omega) (by omega) (by omega) (by omega)]; exact r5
theorem rg_child {h : Nat → Int32} {k v : Nat} (hr : rg5 h) (hk : h 1 = nI k) (h6 : k < 6) (v2 : v ≤ 20) (c0 : cnt h 0 ≤ 8) (c2 : cnt h 2 ≤ 5) {y : Int32} (hy : y = nI (k + 1)) : rg5 (va_up (va_up h (22 + k) (nI v)) 1 y) := by
  obtain ⟨r1, r2, r3, r4, r5⟩ := hr
  have e1 : cnt h 1 = k := nI_cnt (by omega) hk
  have e1' : cnt (va_up (va_up h (22 + k) (nI v)) 1 y) 1 = k + 1 := nI_cnt (by omega) (by rw [va_sf, hy])
  have ho : ∀ j, j ≠ 1 → j ≠ 22 + k → va_up (va_up h (22 + k) (nI v)) 1 y j = h j := fun j z1 z2 => by rw [va_ne z1, va_ne z2]
  have e0 : cnt (va_up (va_up h (22 + k) (nI v)) 1 y) 0 = cnt h 0 := by unfold cnt; rw [ho 0 (by omega) (by omega)]
  have e2 : cnt (va_up (va_up h (22 + k) (nI v)) 1 y) 2 = cnt h 2 := by unfold cnt; rw [ho 2 (by omega) (by omega)]
  unfold rg5
  rw [e0, e1', e2]
  refine ⟨fun f hf => ?_, fun c hc => ?_, fun u hu => ?_, ?_, ?_⟩
  · rw [ho _ (by omega) (by omega), ho (13 + f) (by omega) (by omega)]; exact r1 f hf
  · by_cases z : c = k
    · subst z; rw [va_ne (by omega), va_sf]; exact ⟨v, v2, rfl⟩
    · rw [ho _ (by omega) (by omega)]; exact r2 c (by omega)
  · rw [ho _ (by omega) (by omega)]; exact r3 u hu
  · rw [ho _ (by omega) (by omega)]; exact r4
  · rw [ho _ (by omega) (by omega)]; exact r5
theorem rg_uncle {h : Nat → Int32} {k v : Nat} (hr : rg5 h) (hk : h 2 = nI k) (h6 : k < 5) (v2 : v ≤ 20) (c0 : cnt h 0 ≤ 8) (c1 : cnt h 1 ≤ 6) {y : Int32} (hy : y = nI (k + 1)) : rg5 (va_up (va_up h (28 + k) (nI v)) 2 y) := by
  obtain ⟨r1, r2, r3, r4, r5⟩ := hr
  have e1 : cnt h 2 = k := nI_cnt (by omega) hk
  have e1' : cnt (va_up (va_up h (28 + k) (nI v)) 2 y) 2 = k + 1 := nI_cnt (by omega) (by rw [va_sf, hy])
  have ho : ∀ j, j ≠ 2 → j ≠ 28 + k → va_up (va_up h (28 + k) (nI v)) 2 y j = h j := fun j z1 z2 => by rw [va_ne z1, va_ne z2]
  have e0 : cnt (va_up (va_up h (28 + k) (nI v)) 2 y) 0 = cnt h 0 := by unfold cnt; rw [ho 0 (by omega) (by omega)]
  have e2 : cnt (va_up (va_up h (28 + k) (nI v)) 2 y) 1 = cnt h 1 := by unfold cnt; rw [ho 1 (by omega) (by omega)]
  unfold rg5
  rw [e0, e2, e1']
  refine ⟨fun f hf => ?_, fun c hc => ?_, fun u hu => ?_, ?_, ?_⟩
  · rw [ho _ (by omega) (by omega), ho (13 + f) (by omega) (by omega)]; exact r1 f hf
  · rw [ho _ (by omega) (by omega)]; exact r2 c hc
  · by_cases z : u = k
    · subst z; rw [va_ne (by omega), va_sf]; exact ⟨v, v2, rfl⟩
    · rw [ho _ (by omega) (by omega)]; exact r3 u (by omega)
  · rw [ho _ (by omega) (by omega)]; exact r4
  · rw [ho _ (by omega) (by omega)]; exact r5
theorem rg_34 {h : Nat → Int32} {j v a c : Nat} (hr : rg5 h) (c0 : cnt h 0 ≤ 8) (c1 : cnt h 1 ≤ 6) (c2 : cnt h 2 ≤ 5) (hj : j = 3 ∧ a = 1 ∧ c = 500 ∨ j = 4 ∧ a = 1 ∧ c = 48) (v1 : a ≤ v) (v2 : v ≤ c) : rg5 (va_up h j (nI v)) := by
  obtain ⟨r1, r2, r3, r4, r5⟩ := hr
  have ho : ∀ i, i ≠ 3 → i ≠ 4 → va_up h j (nI v) i = h i := fun i z1 z2 => va_ne (by omega)
  have e0 : cnt (va_up h j (nI v)) 0 = cnt h 0 := by unfold cnt; rw [ho 0 (by omega) (by omega)]
  have e1 : cnt (va_up h j (nI v)) 1 = cnt h 1 := by unfold cnt; rw [ho 1 (by omega) (by omega)]
  have e2 : cnt (va_up h j (nI v)) 2 = cnt h 2 := by unfold cnt; rw [ho 2 (by omega) (by omega)]
  unfold rg5
  rw [e0, e1, e2]
  refine ⟨fun f hf => ?_, fun c hc => ?_, fun u hu => ?_, ?_, ?_⟩
  · rw [ho _ (by omega) (by omega), ho (13 + f) (by omega) (by omega)]; exact r1 f hf
  · rw [ho _ (by omega) (by omega)]; exact r2 c hc
  · rw [ho _ (by omega) (by omega)]; exact r3 u hu
  · rcases hj with ⟨rfl, rfl, rfl⟩ | ⟨rfl, rfl, rfl⟩
    · rw [va_sf]; exact ⟨v, v1, v2, rfl⟩
    · rw [va_ne (by omega)]; exact r4
  · rcases hj with ⟨rfl, rfl, rfl⟩ | ⟨rfl, rfl, rfl⟩
    · rw [va_ne (by omega)]; exact r5
    · rw [va_sf]; exact ⟨v, v1, v2, rfl⟩
theorem gift_tr {t : Nat → Int32} {sz lm : Nat} {rs : Nat → Int64} {q : pS} (h : (tGiftP t sz lm rs q).1 = true) : ∃ g, g < 4 ∧ (tGiftP t sz lm rs q).2.1 18 = nI g := by
  unfold tGiftP at h ⊢
  split
  · rename_i z
    rw [nx_18]
    obtain ⟨k, k1, k2, k3, k4⟩ := fstN_nn (p := fun k => decide (q.1 11 = nI 1) && decide (q.2 = rs (8 + k))) 4 0 (by decide) z
    refine ⟨k, by omega, ?_⟩
    dsimp only
    rw [va_sf]; exact k3
  · rename_i z; rw [if_neg z] at h; cases h
theorem man_tr {e : pE} {j most nm wt : Nat} {x : tS} (h : (manT e j most nm wt x).1 = true) : ¬ x.2.1 j = nI most ∧ ∃ v, v ≤ 20 ∧ (manT e j most nm wt x).2.2.1 = va_up (va_up x.2.1 (wt + cnt x.2.1 j) (nI v)) j (va_up x.2.1 (wt + cnt x.2.1 j) (nI v) j + nI 1) ∧ (manT e j most nm wt x).2.1.1 15 = x.1.1 15 := by
  unfold manT at h ⊢
  by_cases z : x.2.1 j = nI most
  · rw [if_pos z] at h; cases h
  rw [if_neg z] at h ⊢
  refine ⟨z, ?_⟩
  obtain ⟨h1, h2, h3⟩ := and_tr h
  rw [h3]
  obtain ⟨h4, h5, h6⟩ := and_tr h1
  rw [h6] at h2 h3 ⊢
  obtain ⟨f1, f2⟩ := fresh_tr h4
  obtain ⟨v, v1, v2, v3, v4⟩ := puts_tr (by decide) (by decide) h5
  refine ⟨v, v2, ?_, v4.trans (f2.trans nx_15)⟩
  show va_up (putsT e (wt + cnt x.2.1 j) (nI 1) (nI 20) (freshT e (nm + cnt x.2.1 j) (nxT e x)).2).2.2.1 j ((putsT e (wt + cnt x.2.1 j) (nI 1) (nI 20) (freshT e (nm + cnt x.2.1 j) (nxT e x)).2).2.2.1 j + nI 1) = _
  rw [v3]
  dsimp only
  rw [f1]
  rfl
theorem rP_line {e : pE} {x : tS} {f0 : Int32} (hk : tOk e x) (h : (lineT e x).1 = true) (hr : rP f0 x) : rP f0 (lineT e x).2 := by
  obtain ⟨hr1, hr2⟩ := hr
  obtain ⟨k1, ⟨a0, b0⟩, ⟨a1, b1⟩, a2, b2⟩ := hk
  have once : ∀ k to a c, a < 2 ^ 31 → c < 2 ^ 31 → (to = 3 ∧ 1 ≤ a ∧ c = 500 ∨ to = 4 ∧ 1 ≤ a ∧ c = 48) → (onceT e k to (nI a) (nI c) x).1 = true → rP f0 (onceT e k to (nI a) (nI c) x).2 := by
    intro k to a c ha hc hto h
    unfold onceT at h ⊢
    by_cases z : bitF (x.1.1 20) (nI k) = true
    · rw [if_pos z] at h; cases h
    rw [if_neg z] at h ⊢
    obtain ⟨v, v1, v2, v3, v4⟩ := puts_tr ha hc h
    refine ⟨?_, v4.trans (nx_15.trans ?_)⟩
    · rw [v3]
      rcases hto with ⟨rfl, z1, rfl⟩ | ⟨rfl, z1, rfl⟩
      · exact rg_34 hr1 b0 b1 b2 (Or.inl ⟨rfl, rfl, rfl⟩) (by omega) v2
      · exact rg_34 hr1 b0 b1 b2 (Or.inr ⟨rfl, rfl, rfl⟩) (by omega) v2
    · dsimp only
      rw [va_ne (by omega)]; exact hr2
  unfold lineT at h ⊢
  by_cases z0 : isWordB 439905906546 x.1 = true
  · rw [if_pos z0] at h ⊢
    unfold floorT at h ⊢
    by_cases z : x.2.1 0 = nI 8
    · rw [if_pos z] at h; cases h
    rw [if_neg z] at h ⊢
    have h8 : cnt x.2.1 0 < 8 := by
      rcases Nat.lt_or_ge (cnt x.2.1 0) 8 with q | q
      · exact q
      · exact absurd (by rw [a0]; congr 1; omega) z
    obtain ⟨h1, h2, h3⟩ := and_tr h
    rw [h3]
    obtain ⟨h4, h5, h6⟩ := and_tr h1
    rw [h6] at h2 h3 ⊢
    obtain ⟨f1, f2⟩ := fresh_tr h4
    obtain ⟨g, hg, eg⟩ := gift_tr h5
    have g15 := gift_15 h5
    obtain ⟨h7, h9, h10⟩ := and_tr h2
    rw [h10]
    obtain ⟨v, v1, v2, v3, v4⟩ := puts_tr (by decide) (by decide) h7
    generalize hz : (putsT e (13 + cnt x.2.1 0) (nI 1) (nI 9) (setT (5 + cnt x.2.1 0) ((upT (tGiftP e.1 e.2.1 e.2.2.1 e.2.2.2 (freshT e (19 + cnt x.2.1 0) (nxT e x)).2.1) (freshT e (19 + cnt x.2.1 0) (nxT e x)).2).2.1.1 18) (upT (tGiftP e.1 e.2.1 e.2.2.1 e.2.2.2 (freshT e (19 + cnt x.2.1 0) (nxT e x)).2.1) (freshT e (19 + cnt x.2.1 0) (nxT e x)).2).2)).2 = z9 at v3 v4 ⊢
    have z21 : z9.2.1 = va_up (va_up x.2.1 (5 + cnt x.2.1 0) (nI g)) (13 + cnt x.2.1 0) (nI v) := by
      rw [v3]
      show va_up (va_up (freshT e (19 + cnt x.2.1 0) (nxT e x)).2.2.1 (5 + cnt x.2.1 0) ((tGiftP e.1 e.2.1 e.2.2.1 e.2.2.2 (freshT e (19 + cnt x.2.1 0) (nxT e x)).2.1).2.1 18)) (13 + cnt x.2.1 0) (nI v) = _
      rw [eg, f1]; rfl
    have z15 : z9.1.1 15 = f0 := v4.trans (g15.trans (f2.trans (nx_15.trans hr2)))
    have c21 : ∀ j, j ≠ 21 → (coldT e (cnt x.2.1 0) z9).2.1 j = z9.2.1 j := fun j hj => by
      unfold coldT
      split
      · exact va_ne hj
      · rfl
    have c15 : (coldT e (cnt x.2.1 0) z9).1.1 15 = f0 := by
      unfold coldT
      split
      · exact nx_15.trans z15
      · exact z15
    refine ⟨rg_floor (k := cnt x.2.1 0) (g := g) (v := v) hr1 a0 h8 ?_ hg ?_ v1 v2 ?_ ?_ b1 b2, c15⟩
    · show va_up (coldT e (cnt x.2.1 0) z9).2.1 0 ((coldT e (cnt x.2.1 0) z9).2.1 0 + nI 1) 0 = _
      rw [va_sf, c21 0 (by omega), z21, va_ne (by omega), va_ne (by omega), a0, nI_add]
    · show va_up (coldT e (cnt x.2.1 0) z9).2.1 0 ((coldT e (cnt x.2.1 0) z9).2.1 0 + nI 1) (5 + cnt x.2.1 0) = _
      rw [va_ne (by omega), c21 _ (by omega), z21, va_ne (by omega), va_sf]
    · show va_up (coldT e (cnt x.2.1 0) z9).2.1 0 ((coldT e (cnt x.2.1 0) z9).2.1 0 + nI 1) (13 + cnt x.2.1 0) = _
      rw [va_ne (by omega), c21 _ (by omega), z21, va_sf]
    · intro j j0 j21 j5 j13
      show va_up (coldT e (cnt x.2.1 0) z9).2.1 0 ((coldT e (cnt x.2.1 0) z9).2.1 0 + nI 1) j = _
      rw [va_ne j0, c21 _ j21, z21, va_ne j13, va_ne j5]
  rw [if_neg z0] at h ⊢
  by_cases z1 : isWordB 426953501796 x.1 = true
  · rw [if_pos z1] at h ⊢
    obtain ⟨m1, v, m2, m3, m4⟩ := man_tr h
    refine ⟨?_, m4.trans hr2⟩
    rw [m3]
    refine rg_child (k := cnt x.2.1 1) hr1 a1 ?_ m2 b0 b2 ?_
    · rcases Nat.lt_or_ge (cnt x.2.1 1) 6 with q | q
      · exact q
      · exact absurd (by rw [a1]; congr 1; omega) m1
    · rw [va_ne (by omega), a1, nI_add]
  rw [if_neg z1] at h ⊢
  by_cases z2 : isWordB 504363183205 x.1 = true
  · rw [if_pos z2] at h ⊢
    obtain ⟨m1, v, m2, m3, m4⟩ := man_tr h
    refine ⟨?_, m4.trans hr2⟩
    rw [m3]
    refine rg_uncle (k := cnt x.2.1 2) hr1 a2 ?_ m2 b0 b1 ?_
    · rcases Nat.lt_or_ge (cnt x.2.1 2) 5 with q | q
      · exact q
      · exact absurd (by rw [a2]; congr 1; omega) m1
    · rw [va_ne (by omega), a2, nI_add]
  rw [if_neg z2] at h ⊢
  by_cases z3 : isWordB 7102839 x.1 = true
  · rw [if_pos z3] at h ⊢
    unfold lawT at h ⊢
    by_cases y1 : nI 0 ≤ gwN e.2.2.2 (nxT e x).1
    · rw [if_pos y1] at h ⊢
      split at h
      · cases h
      · rename_i y2
        rw [if_neg y2]
        obtain ⟨v, v1, v2, v3, v4⟩ := puts_tr (by decide) (by decide) h
        refine ⟨?_, v4.trans (nx_15.trans (nx_15.trans hr2))⟩
        rw [v3]
        exact rg_set hr1 b0 b1 b2 (Or.inl (by omega))
    · rw [if_neg y1] at h; cases h
  rw [if_neg z3] at h ⊢
  by_cases z4 : isWordB 465625113971 x.1 = true
  · rw [if_pos z4] at h ⊢
    unfold likeT at h ⊢
    obtain ⟨h1, h2, h3⟩ := and_tr h
    rw [h3]
    have n15 := name_15 h1
    obtain ⟨h4, h5, h6⟩ := and_tr h2
    rw [h6]
    have l15 := looks_15 h4
    split at h5
    · cases h5
    · rename_i y2
      rw [if_neg y2]
      obtain ⟨v, v1, v2, v3, v4⟩ := puts_tr (by decide) (by decide) h5
      refine ⟨?_, v4.trans (nx_15.trans (l15.trans (n15.trans (nx_15.trans hr2))))⟩
      rw [v3]
      exact rg_set hr1 b0 b1 b2 (Or.inl (by omega))
  rw [if_neg z4] at h ⊢
  by_cases z5 : isWordB 1919905893 x.1 = true
  · rw [if_pos z5] at h ⊢
    exact once 0 3 10 500 (by decide) (by decide) (Or.inl ⟨rfl, by decide, rfl⟩) h
  rw [if_neg z5] at h ⊢
  by_cases z6 : isWordB 1735552887 x.1 = true
  · rw [if_pos z6] at h ⊢
    exact once 1 4 1 48 (by decide) (by decide) (Or.inr ⟨rfl, by decide, rfl⟩) h
  rw [if_neg z6] at h; cases h
theorem rP_tow {e : pE} {f0 : Int32} : ∀ (k : Nat) (x : tS), tOk e x → rP f0 x → (towN e k x).1 = true → rP f0 (towN e k x).2 ∧ tOk e (towN e k x).2
  | 0, x, _, _, h => by cases h
  | k + 1, x, hk, hr, h => by
    rw [towN] at h ⊢
    split at h
    · rename_i z; rw [if_pos z]; exact ⟨hr, hk⟩
    · rename_i z
      rw [if_neg z]
      split at h
      · rename_i z1
        rw [if_pos z1]
        split at h
        · rename_i z2
          rw [if_pos z2]
          have hl := rP_line hk z1 hr
          have hkl := tOk_line hk
          refine rP_tow k _ ?_ ?_ h
          · refine tKp_ok hkl ⟨?_, fun j hj => rfl⟩
            exact pOk_up (pOk_sign hkl.1) (by decide)
          · refine ⟨hl.1, ?_⟩
            show va_up (signP e.1 e.2.1 e.2.2.1 (nI 59) (lineT e x).2.1).2.1 19 ((signP e.1 e.2.1 e.2.2.1 (nI 59) (lineT e x).2.1).2.1 19 + nI 1) 15 = f0
            rw [va_ne (by omega)]
            exact (sign_15 z2).trans hl.2
        · cases h
      · cases h
