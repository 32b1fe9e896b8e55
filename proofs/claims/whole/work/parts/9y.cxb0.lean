/-! The class: book -/
section BKL
variable {e : pE} {nm : Nat → Int64} {F n U m : Nat}
theorem pW_who {w : Nat} {q : pS} (h : pW q.2) : pW (whoP e nm n U w q).2.2 := by
  unfold whoP
  split
  · exact pW_takes h
  · split
    · exact pW_name h
    · exact pW_name h
theorem who_15 {w : Nat} {q : pS} (h : (whoP e nm n U w q).1 = true) : (whoP e nm n U w q).2.1 15 = q.1 15 := by
  unfold whoP at h ⊢
  split
  · rename_i z; rw [if_pos z] at h; exact takes_15 h
  · rename_i z; rw [if_neg z] at h
    split
    · rename_i z2; rw [if_pos z2] at h; exact name_15 h
    · rename_i z2; rw [if_neg z2] at h; exact name_15 h
theorem pW_bl {x : bS} (h : pW x.1.2) : pW (blP e nm F n U m x).2.1.2 := by
  unfold blP
  split
  · exact h
  · split
    · exact h
    · unfold bl2P
      split
      · split
        · split
          · exact pW_to (pW_who (pW_nx h))
          · exact pW_to (pW_who (pW_nx h))
        · exact pW_who (pW_nx h)
      · exact pW_who (pW_nx h)
theorem bl_15 {x : bS} (h : (blP e nm F n U m x).1 = true) : (blP e nm F n U m x).2.1.1 15 = x.1.1 15 := by
  unfold blP at h ⊢
  split at h
  · cases h
  · rename_i w hw
    by_cases z : m = 40
    · rw [if_pos z] at h; cases h
    rw [if_neg z] at h ⊢
    unfold bl2P at h ⊢
    by_cases z1 : (whoP e nm n U w (nxP e.1 e.2.1 e.2.2.1 x.1)).1 = true
    · rw [if_pos z1] at h ⊢
      by_cases z2 : w = 0
      · rw [if_pos z2] at h ⊢
        by_cases z3 : (toP e nm F (whoP e nm n U w (nxP e.1 e.2.1 e.2.2.1 x.1)).2).1 = true
        · rw [if_pos z3] at h ⊢
          exact (to_15 z3).trans ((who_15 z1).trans nx_15)
        · rw [if_neg z3] at h; cases h
      · rw [if_neg z2] at h ⊢
        exact (who_15 z1).trans nx_15
    · rw [if_neg z1] at h; cases h
theorem pW_bk : ∀ (k m : Nat) (x : bS), pW x.1.2 → pW (bkN e nm F n U k m x).2.2.1.2
  | 0, m, x, h => h
  | k + 1, m, x, h => by
    rw [bkN]
    split
    · exact h
    · split
      · split
        · exact pW_bk k _ _ (pW_sign (pW_bl h))
        · exact pW_sign (pW_bl h)
      · exact pW_bl h
theorem bk_15 : ∀ (k m : Nat) (x : bS), (bkN e nm F n U k m x).1 = true → (bkN e nm F n U k m x).2.2.1.1 15 = x.1.1 15
  | 0, m, x, h => by rw [bkN] at h; cases h
  | k + 1, m, x, h => by
    rw [bkN] at h ⊢
    by_cases z : x.1.1 11 = nI 0
    · rw [if_pos z]
    rw [if_neg z] at h ⊢
    by_cases z1 : (blP e nm F n U m x).1 = true
    · rw [if_pos z1] at h ⊢
      by_cases z2 : (signP e.1 e.2.1 e.2.2.1 (nI 59) (blP e nm F n U m x).2.1).1 = true
      · rw [if_pos z2] at h ⊢
        rw [bk_15 k _ _ h]
        dsimp only
        rw [va_ne (by omega), sign_15 z2, bl_15 z1]
      · rw [if_neg z2] at h; cases h
    · rw [if_neg z1] at h; cases h
theorem does_s {s : Nat → Int32} {w k : Nat} {f : Int32} (h : ¬ (doesF s n U w k f).1 ≤ nI 0) : (doesF s n U w k f).2 = s := by
  unfold doesF at h ⊢
  have no : ∀ {p : Prop}, ¬ nI 0 ≤ nI 0 → p := fun z => absurd (Int32.le_refl _) z
  repeat' split
  all_goals first | rfl | skip
  all_goals simp_all [Int32.le_refl]
theorem ex_cnt {row : Nat → Int32} : ∀ (k i c : Nat) (s t : Nat → Int32), t 1 = nI c → c + k ≤ 100 → ∃ j, c ≤ j ∧ j ≤ 100 ∧ (exN n U row k i s t).2.1 1 = nI j
  | 0, i, c, s, t, h, hc => ⟨c, by omega, by omega, h⟩
  | k + 1, i, c, s, t, h, hc => by
    rw [exN]
    split
    · obtain ⟨j, h1, h2, h3⟩ := ex_cnt (row := row) k (i + 1) (c + 1) (doesF s n U (row (3 * i)).toNatClampNeg (row (3 * i + 1)).toNatClampNeg (row (3 * i + 2))).2 (upd (upd t 0 (doesF s n U (row (3 * i)).toNatClampNeg (row (3 * i + 1)).toNatClampNeg (row (3 * i + 2))).1) 1 (t 1 + nI 1)) (by rw [upd_self, h, nI_add]) (by omega)
      exact ⟨j, by omega, h2, h3⟩
    · exact ⟨c, by omega, by omega, by dsimp only; rw [upd_ne (by omega)]; exact h⟩
theorem ex_none {row : Nat → Int32} {k i : Nat} {s t : Nat → Int32} (hk : k ≤ 40) (h : t 1 = nI 0) (hr : (exN n U row k i s t).2.1 1 ≤ nI 0) : (exN n U row k i s t).1 = s := by
  cases k with
  | zero => rfl
  | succ k =>
    rw [exN] at hr ⊢
    split
    · rename_i z
      rw [if_pos z] at hr
      obtain ⟨j, h1, h2, h3⟩ := ex_cnt (n := n) (U := U) (row := row) k (i + 1) 1 (doesF s n U (row (3 * i)).toNatClampNeg (row (3 * i + 1)).toNatClampNeg (row (3 * i + 2))).2 (upd (upd t 0 (doesF s n U (row (3 * i)).toNatClampNeg (row (3 * i + 1)).toNatClampNeg (row (3 * i + 2))).1) 1 (t 1 + nI 1)) (by rw [upd_self, h, nI_add]) (by omega)
      rw [h3, nI_le_f (by omega) (by omega)] at hr
      exact hr.elim
    · rename_i z
      exact does_s z
theorem cpy_id {s r c : Nat → Int32} (hc : ∀ j, j < 59 → c j = s (85 + j)) (ho : mOut s r) : va_cpy c r 0 85 59 = s := by
  funext j
  unfold va_cpy
  by_cases z : 85 ≤ j ∧ j < 85 + 59
  · rw [if_pos z, hc _ (by omega)]; congr 1; omega
  · rw [if_neg z]; exact ho j (by omega)
theorem bkB_at {A : Nat → Nat → Int32} {j : Nat} (hj : j < 59) : bkB A j = A 2 (85 + j) := by
  unfold bkB va_cpy
  rw [if_pos (by omega)]; congr 1
theorem keep_bk {A : Nat → Nat → Int32} {r : Nat → Int32} {u : Nat} : va_cpy (bkB A) (keepU (A 7) r u) 0 (59 * (keepM u - 1)) 59 = keepU (A 7) (A 2) u := by
  unfold keepU keepM
  funext j
  by_cases h8 : u = 8
  · simp only [h8, if_true]
    unfold va_cpy
    by_cases z : 59 * (8 - 1) ≤ j ∧ j < 59 * (8 - 1) + 59
    · rw [if_pos z, if_pos (by omega)]
      have := bkB_at (A := A) (j := j - 413) (by omega)
      rw [show 0 + (j - 59 * (8 - 1)) = j - 413 by omega, this]
    · have z' : ¬ (413 ≤ j ∧ j < 413 + 59) := by omega
      rw [if_neg z]; simp only [z', if_false]
  · simp only [h8, if_false]
    rw [show u + 1 - 1 = u by omega]
    unfold va_cpy
    by_cases z : 59 * u ≤ j ∧ j < 59 * u + 59
    · rw [if_pos z, if_pos z]
      have := bkB_at (A := A) (j := j - 59 * u) (by omega)
      rw [show 0 + (j - 59 * u) = j - 59 * u by omega, this]
    · rw [if_neg z, if_neg z, if_neg z]
end BKL
