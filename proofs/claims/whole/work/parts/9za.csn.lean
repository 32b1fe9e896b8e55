/-! The class: sentence; what reading one keeps -/
def sK (J0 : Nat → Int32) (q : pS) : Prop := pW q.2 ∧ ∀ j, fX j → j < 45 ∨ 49 < j → q.1 j = J0 j
section SK
variable {J0 : Nat → Int32} {e : pE} {nm : Nat → Int64} {F : Nat} {q : pS}
theorem sK_nx (h : sK J0 q) : sK J0 (nxE e q) := ⟨pW_nx h.1, fun j h1 h2 => (nx_f h1).trans (h.2 j h1 h2)⟩
theorem sK_bad {k : Int32} (h : sK J0 q) : sK J0 (badP k q) := ⟨h.1, fun j h1 h2 => (bad_f h1).trans (h.2 j h1 h2)⟩
theorem sK_up {i : Nat} {v : Int32} (hi : 45 ≤ i ∧ i ≤ 49) (h : sK J0 q) : sK J0 (va_up q.1 i v, q.2) := ⟨h.1, fun j h1 h2 => by dsimp only; rw [va_ne (by omega)]; exact h.2 j h1 h2⟩
theorem sK_to (h : sK J0 q) : sK J0 (toP e nm F q).2 := ⟨pW_to h.1, fun j h1 h2 => (to_f h1).trans (h.2 j h1 h2)⟩
theorem sK_gift (h : sK J0 q) : sK J0 (tGiftP e.1 e.2.1 e.2.2.1 e.2.2.2 q).2 := ⟨pW_gift h.1, fun j h1 h2 => (gift_f h1).trans (h.2 j h1 h2)⟩
theorem sK_nots : ∀ (S : List Nat) (q : pS) (cs : List cS), sK J0 q → sK J0 (notsA S q cs).1
  | [], q, cs, h => h
  | a :: S, q, cs, h => by
    rw [notsA]
    split
    · exact sK_nots S _ _ (sK_up ⟨by omega, by omega⟩ (sK_up ⟨by omega, by omega⟩ (sK_up (i := 47) ⟨by omega, by omega⟩ h)))
    · exact h
theorem sK_joins {till : Nat} : ∀ (S : List Nat) (q : pS) (cs : List cS), sK J0 q → sK J0 (joinsA till S q cs).1
  | [], q, cs, h => h
  | a :: S, q, cs, h => by
    rw [joinsA]
    split
    · exact sK_joins S _ _ (sK_up ⟨by omega, by omega⟩ (sK_up (i := 47) ⟨by omega, by omega⟩ h))
    · exact h
theorem sK_lf {k : Nat} {z : List cS × List Nat} (h : sK J0 q) : sK J0 (lfS e nm F k q z).2.1 := by
  unfold lfS
  split
  · exact sK_up ⟨by omega, by omega⟩ h
  · split
    · split
      · exact sK_up ⟨by omega, by omega⟩ (sK_to h)
      · exact sK_to h
    · split
      · split
        · exact sK_up ⟨by omega, by omega⟩ (sK_gift h)
        · exact sK_gift h
      · split
        · split
          · exact sK_nx (sK_up (i := 45) ⟨by omega, by omega⟩ (sK_nx h))
          · exact sK_bad (sK_nx h)
        · exact sK_bad h
theorem sK_op {x : sS} (h : sK J0 x.1) : sK J0 (opS e nm F x).2.1 := by
  unfold opS
  split
  · exact sK_bad h
  · split
    · exact sK_bad h
    · split
      · exact sK_up ⟨by omega, by omega⟩ (sK_up (i := 47) ⟨by omega, by omega⟩ (sK_nx (sK_up (i := 46) ⟨by omega, by omega⟩ h)))
      · exact sK_lf (sK_up (i := 49) ⟨by omega, by omega⟩ (sK_nx (sK_up (i := 46) ⟨by omega, by omega⟩ h)))
theorem sK_bh {x : sS} (h : sK J0 x.1) : sK J0 (bhS e x).2.1 := by
  have h1 : sK J0 (notsS x).1 := sK_nots _ _ _ h
  have h2 : ∀ till, sK J0 (joinsS till (notsS x)).1 := fun till => sK_joins _ _ _ h1
  unfold bhS bh2S
  split
  · exact sK_nx (sK_up (i := 49) ⟨by omega, by omega⟩ (sK_up (i := 47) ⟨by omega, by omega⟩ (h2 _)))
  · split
    · exact sK_nx (sK_up (i := 48) ⟨by omega, by omega⟩ (sK_up (i := 47) ⟨by omega, by omega⟩ (h2 _)))
    · exact sK_bad (h2 _)
theorem sK_sen : ∀ (k : Nat) (x : sS), sK J0 x.1 → sK J0 (senN e nm F k x).2.1
  | 0, x, h => h
  | k + 1, x, h => by
    rw [senN]
    split
    · split
      · exact sK_joins _ _ _ (sK_nots _ _ _ h)
      · exact sK_bad (sK_joins _ _ _ (sK_nots _ _ _ h))
    · split
      · split
        · exact sK_sen k _ (sK_op h)
        · exact sK_op h
      · split
        · exact sK_sen k _ (sK_bh h)
        · exact sK_bh h
theorem nots_15 : ∀ (S : List Nat) (q : pS) (cs : List cS), (notsA S q cs).1.1 15 = q.1 15
  | [], q, cs => rfl
  | a :: S, q, cs => by
    rw [notsA]
    split
    · rw [nots_15 S]; rfl
    · rfl
theorem joins_15 {till : Nat} : ∀ (S : List Nat) (q : pS) (cs : List cS), (joinsA till S q cs).1.1 15 = q.1 15
  | [], q, cs => rfl
  | a :: S, q, cs => by
    rw [joinsA]
    split
    · rw [joins_15 S]; rfl
    · rfl
theorem lf_15 {k : Nat} {z : List cS × List Nat} (h : (lfS e nm F k q z).1 = true) : (lfS e nm F k q z).2.1.1 15 = q.1 15 := by
  unfold lfS at h ⊢
  by_cases z1 : k < 3
  · rw [if_pos z1]; rfl
  rw [if_neg z1] at h ⊢
  by_cases z2 : k = 3
  · rw [if_pos z2] at h ⊢
    by_cases z3 : (toP e nm F q).1 = true
    · rw [if_pos z3]; exact to_15 z3
    · rw [if_neg z3] at h; cases h
  rw [if_neg z2] at h ⊢
  by_cases z2 : k = 4
  · rw [if_pos z2] at h ⊢
    by_cases z3 : (tGiftP e.1 e.2.1 e.2.2.1 e.2.2.2 q).1 = true
    · rw [if_pos z3]; exact gift_15 z3
    · rw [if_neg z3] at h; cases h
  rw [if_neg z2] at h ⊢
  by_cases z3 : q.1 11 = nI 3 ∧ nI 60 ≤ q.1 14 ∧ q.1 14 ≤ nI 62
  · rw [if_pos z3] at h ⊢
    by_cases z4 : (nxE e q).1 11 = nI 2
    · rw [if_pos z4]; exact nx_15.trans nx_15
    · rw [if_neg z4] at h; cases h
  · rw [if_neg z3] at h; cases h
theorem op_15 {x : sS} (h : (opS e nm F x).1 = true) : (opS e nm F x).2.1.1 15 = x.1.1 15 := by
  unfold opS at h ⊢
  by_cases z1 : isWordB 7237492 x.1 = false ∧ isSignB (nI 40) x.1 = false ∧ lfN e.2.2.2 x.1 = none
  · rw [if_pos z1] at h; cases h
  rw [if_neg z1] at h ⊢
  by_cases z2 : x.1.1 46 = nI 20 ∨ nI 8 < x.1.1 48
  · rw [if_pos z2] at h; cases h
  rw [if_neg z2] at h ⊢
  by_cases z3 : isWordB 7237492 x.1 = true ∨ isSignB (nI 40) x.1 = true
  · rw [if_pos z3]; exact nx_15
  · rw [if_neg z3] at h ⊢
    exact (lf_15 h).trans nx_15
theorem bh_15 {x : sS} (h : (bhS e x).1 = true) : (bhS e x).2.1.1 15 = x.1.1 15 := by
  have h1 : (notsS x).1.1 15 = x.1.1 15 := nots_15 _ _ _
  have h2 : ∀ till, (joinsS till (notsS x)).1.1 15 = x.1.1 15 := fun till => (joins_15 _ _ _).trans h1
  unfold bhS bh2S at h ⊢
  split
  · exact nx_15.trans (h2 _)
  · rename_i z1
    rw [if_neg z1] at h
    split
    · exact nx_15.trans (h2 _)
    · rename_i z2
      rw [if_neg z2] at h; cases h
theorem sen_15 : ∀ (k : Nat) (x : sS), (senN e nm F k x).1 = true → (senN e nm F k x).2.1.1 15 = x.1.1 15
  | 0, x, h => by rw [senN] at h; cases h
  | k + 1, x, h => by
    rw [senN] at h ⊢
    by_cases z1 : ¬ x.1.1 49 = nI 0 ∧ x.1.1 11 = nI 0
    · rw [if_pos z1] at h ⊢
      by_cases z2 : (joinsS 22 (notsS x)).2.2 = []
      · rw [if_pos z2]; exact (joins_15 _ _ _).trans (nots_15 _ _ _)
      · rw [if_neg z2] at h; cases h
    rw [if_neg z1] at h ⊢
    by_cases z2 : x.1.1 49 = nI 0
    · rw [if_pos z2] at h ⊢
      by_cases z3 : (opS e nm F x).1 = true
      · rw [if_pos z3] at h ⊢; exact (sen_15 k _ h).trans (op_15 z3)
      · rw [if_neg z3] at h; exact absurd h z3
    · rw [if_neg z2] at h ⊢
      by_cases z3 : (bhS e x).1 = true
      · rw [if_pos z3] at h ⊢; exact (sen_15 k _ h).trans (bh_15 z3)
      · rw [if_neg z3] at h; exact absurd h z3
end SK
section PBl
variable {G : iG} {b : Nat} {g : iH} {F n U : Nat}
theorem pB_lo {um : Int32} {s t u : Nat → Int32} (h : pB G b g um s u F n U) (ho : ∀ j, j < 144 → t j = s j) : pB G b g um t u F n U := by
  obtain ⟨I, tp, sz, h1, h2, h3, h4, h5, h6, h7, h8⟩ := h
  refine ⟨I, tp, sz, h1, h2, h3, h4, h5, h6, h7, fun j hj => ?_⟩
  have he : ∀ q, q < 144 → hsR t u j q = hsR s u j q := fun q hq => by
    unfold hsR va_cpy
    split
    · rfl
    · exact ho q hq
  obtain ⟨⟨w, h9⟩, h10⟩ := h8 j hj
  refine ⟨⟨w, ?_⟩, gWF_of h10 he⟩
  rw [stE_congr (t := hsR s u j) (fun q _ hq => he q hq)]
  exact h9
theorem seRel_cp {s I I1 : Nat → Int32} {A A1 : Nat → Nat → Int32} (h : seRel s I1 A1) : seRel s (va_up (va_up I 4 (I1 4)) 5 (I1 5)) (cpS A1 A) := by
  obtain ⟨c, what, h1, h2, h3, h4, h5⟩ := h
  have e : ∀ k, 1 ≤ k → k ≤ 4 → ∀ i, i < 40 → cpS A1 A k i = A1 k i := fun k k1 k4 i hi => by
    unfold cpS
    rcases (show k = 1 ∨ k = 2 ∨ k = 3 ∨ k = 4 by omega) with rfl | rfl | rfl | rfl
    all_goals simp [va_up, va_cpy, hi]
  refine ⟨c, what, h1, h2, h3, fun i hi => ?_, h5⟩
  rw [e 1 (by omega) (by omega) i (by omega), e 2 (by omega) (by omega) i (by omega), e 3 (by omega) (by omega) i (by omega), e 4 (by omega) (by omega) i (by omega)]
  exact h4 i hi
end PBl
