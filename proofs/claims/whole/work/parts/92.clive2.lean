/-! The class: its reader beside the reference's -/
/-- what the reader's tokens are of: words, tape, size, limit, rows of tokens -/
abbrev rE : Type := (Nat → Nat) × Bool × (Nat → Int32) × Nat × Nat × (Nat → Nat → Int32) × (Nat → Nat → Int64) × (Nat → Nat → Option Nat) × Nat × (Nat → Nat)
def rEk (e : rE) : Prop := TKS e.1 e.2.1 e.2.2.1 e.2.2.2.1 e.2.2.2.2.1 e.2.2.2.2.2.1 e.2.2.2.2.2.2.1 e.2.2.2.2.2.2.2.1 e.2.2.2.2.2.2.2.2.1 e.2.2.2.2.2.2.2.2.2
def rEp (e : rE) : pE := (e.2.2.1, e.2.2.2.1, e.2.2.2.2.1, rsW)
def rEH (G : iG) (r : Nat) (e : rE) (h : iH) (I : Nat → Int32) : iH := rdH G r I e.2.2.2.2.2.1 e.2.2.2.2.2.2.1 e.2.2.2.2.2.2.2.1 h
/-- no fault: the reader stands where the reference stands -/
def rL (e : rE) (I : Nat → Int32) (q : pS) : Prop := ∃ k, rLv e.1 e.2.1 I e.2.2.2.2.2.1 e.2.2.2.2.2.2.1 e.2.2.2.2.2.2.2.1 e.2.2.2.2.2.2.2.2.1 k q ∧ q.1 4 = nI (e.2.2.2.2.2.2.2.2.2 (k + 1)) ∧ pOk e.2.2.2.1 e.2.2.2.2.1 q.1 ∧ I 6 = zI e.2.1
/-- a fault, the reference's -/
def rF (e : rE) (I : Nat → Int32) (q : pS) : Prop := ¬ I 7 = nI 0 ∧ I 7 = q.1 15 ∧ I 8 = q.1 16 ∧ ∃ k, k < e.2.2.2.2.2.2.2.2.1 ∧ I 5 = nI k
def rO (e : rE) (I : Nat → Int32) (x : Bool × pS) : Prop := (x.1 = true ∧ rL e I x.2) ∨ (x.1 = false ∧ rF e I x.2)
section RL
variable {e : rE} {I : Nat → Int32} {q : pS}
theorem rL_next {k : Nat} {q' : pS} (hk : rEk e) (hl : rLv e.1 e.2.1 I e.2.2.2.2.2.1 e.2.2.2.2.2.2.1 e.2.2.2.2.2.2.2.1 e.2.2.2.2.2.2.2.2.1 k q) (h4 : q.1 4 = nI (e.2.2.2.2.2.2.2.2.2 (k + 1))) (hp : pOk e.2.2.2.1 e.2.2.2.2.1 q'.1) (h6 : I 6 = zI e.2.1) (hz : ¬ e.2.2.2.2.2.1 1 k = nI 0) (h4' : q'.1 4 = q.1 4) : rL e (va_up I 5 (nI (k + 1))) (nxP e.2.2.1 e.2.2.2.1 e.2.2.2.2.1 q') := by
  obtain ⟨k1, k2, k3, t0, t1, t2⟩ := hk
  obtain ⟨l1, l2, l3, l4, l5, l6, l7⟩ := hl
  have hlt : k + 1 < e.2.2.2.2.2.2.2.2.1 := by
    apply Classical.byContradiction
    intro z
    exact hz (l6.mpr (by omega))
  obtain ⟨m1, m2⟩ := t2 (k + 1) hlt q' hp (by rw [h4', h4])
  exact ⟨k + 1, ⟨l1, rfl, l3, l4, hlt, k3 (k + 1) hlt, m1⟩, m2, pOk_nx hp, h6⟩
theorem rF_bad {k : Nat} {kd : Int32} (hl : rLv e.1 e.2.1 I e.2.2.2.2.2.1 e.2.2.2.2.2.2.1 e.2.2.2.2.2.2.2.1 e.2.2.2.2.2.2.2.2.1 k q) (hk : ¬ kd = nI 0) {q' : pS} (h12 : q'.1 12 = q.1 12) : rF e (va_up (va_up I 7 kd) 8 (q.1 12)) (badP kd q') := by
  obtain ⟨l1, l2, l3, l4, l5, l6, l7⟩ := hl
  refine ⟨hk, rfl, ?_, k, l5, l2⟩
  show q.1 12 = q'.1 12
  exact h12.symm
end RL
section CLi
variable {G : iG} {d : Nat} {h : iH} {r : Nat} {e : rE} {I : Nat → Int32} {q : pS} {al : Nat}
theorem z_skip (hG : SG G e.1 al) (hk : rEk e) (hl : rL e I q) {i : Nat} (hi : i < 31) : C G (d + 1) 0 0 mX5_skipWord [.ref r, .ref (e.1 i)] (rEH G r e h I) (fun v g => v = some (.int (zI (isWordB (rsW i) q))) ∧ ∃ I', g = rEH G r e h I' ∧ rL e I' (if isWordB (rsW i) q = true then nxP e.2.2.1 e.2.2.2.1 e.2.2.2.2.1 q else q)) := by
  obtain ⟨k, l1, l2, l3, l4⟩ := hl
  refine C_mono (r_skip hG l1 hi) (fun v g hv => ?_)
  obtain ⟨rfl, rfl⟩ := hv
  refine ⟨rfl, _, rfl, ?_⟩
  cases hw : isWordB (rsW i) q
  · exact ⟨k, l1, l2, l3, l4⟩
  · simp only [if_true]
    refine rL_next hk l1 l2 l3 l4 (fun z => ?_) rfl
    have hm := l1.2.2.2.2.2.2
    rw [mt_word hG hm hi] at hw
    have hw2 := of_decide_eq_true hw
    obtain ⟨-, h | h | h | h | h | h | h⟩ := hm
    · obtain ⟨h1, j, hj, h2, h3, h4⟩ := h
      rw [h3] at z; exact n_1z z
    · rw [h.2.2.2.2.2] at hw2; cases hw2
    · rw [h.2.2.2] at hw2; cases hw2
    · rw [h.2.2.2] at hw2; cases hw2
    · rw [h.2.2] at hw2; cases hw2
    · rw [h.2.2.2] at hw2; cases hw2
    · rw [h.2.2.2] at hw2; cases hw2
theorem z_sign (hk : rEk e) (hl : rL e I q) {c : Int32} : C G (d + 1) 0 0 mX5_takeSign [.ref r, .int c] (rEH G r e h I) (fun v g => v = none ∧ ∃ I', g = rEH G r e h I' ∧ rO e I' (signP e.2.2.1 e.2.2.2.1 e.2.2.2.2.1 c q)) := by
  obtain ⟨k, l1, l2, l3, l4⟩ := hl
  refine C_mono (r_sign l1) (fun v g hv => ?_)
  obtain ⟨rfl, rfl⟩ := hv
  refine ⟨rfl, _, rfl, ?_⟩
  unfold signP
  cases hw : isSignB c q
  · simp only [Bool.false_eq_true, if_false]
    exact Or.inr ⟨rfl, rF_bad l1 n_1z rfl⟩
  · simp only [if_true]
    refine Or.inl ⟨rfl, rL_next hk l1 l2 l3 l4 (fun z => ?_) rfl⟩
    rw [mt_sign l1.2.2.2.2.2.2, z] at hw
    simp [n_04] at hw
theorem z_number (hk : rEk e) (hl : rL e I q) {lo hi : Int32} : C G (d + 1) 0 0 mX5_takeNumber [.ref r, .int lo, .int hi] (rEH G r e h I) (fun v g => ∃ I', g = rEH G r e h I' ∧ rO e I' (takesP e.2.2.1 e.2.2.2.1 e.2.2.2.2.1 lo hi q) ∧ v = some (.int (if (takesP e.2.2.1 e.2.2.2.1 e.2.2.2.2.1 lo hi q).1 = true then q.1 14 else -1))) := by
  obtain ⟨k, l1, l2, l3, l4⟩ := hl
  refine C_mono (r_number l1) (fun v g hv => ?_)
  unfold takesP
  by_cases z : q.1 11 = nI 2
  · rw [if_neg (fun w => w z)] at hv
    rw [if_neg (fun w => w z)]
    cases hb : inF (q.1 14) lo hi
    · rw [hb] at hv
      simp only [Bool.false_eq_true, if_false] at hv ⊢
      obtain ⟨rfl, rfl⟩ := hv
      exact ⟨_, rfl, Or.inr ⟨rfl, rF_bad l1 n_20 rfl⟩, rfl⟩
    · rw [hb] at hv
      simp only [if_true] at hv ⊢
      obtain ⟨rfl, rfl⟩ := hv
      refine ⟨_, rfl, Or.inl ⟨rfl, rL_next hk l1 l2 (pOk_up l3 (by decide)) l4 (fun w => ?_) rfl⟩, rfl⟩
      have := (mt_num l1.2.2.2.2.2.2).1.mp z
      rw [w] at this; exact n_03 this
  · rw [if_pos z] at hv
    rw [if_pos z]
    obtain ⟨rfl, rfl⟩ := hv
    exact ⟨_, rfl, Or.inr ⟨rfl, rF_bad l1 n_1z rfl⟩, rfl⟩
theorem z_gift (hG : SG G e.1 al) (hk : rEk e) (hl : rL e I q) : C G (d + 2) 0 0 mX5_takeGift [.ref r] (rEH G r e h I) (fun v g => v = some (.int (gwN rsW q)) ∧ ∃ I', g = rEH G r e h I' ∧ rO e I' (tGiftP e.2.2.1 e.2.2.2.1 e.2.2.2.2.1 rsW q)) := by
  obtain ⟨k, l1, l2, l3, l4⟩ := hl
  refine C_mono (r_gift hG l1) (fun v g hv => ?_)
  obtain ⟨rfl, rfl⟩ := hv
  refine ⟨rfl, _, rfl, ?_⟩
  unfold tGiftP
  by_cases z : nI 0 ≤ gwN rsW q
  · rw [if_pos z, if_pos z]
    refine Or.inl ⟨rfl, rL_next hk l1 l2 (pOk_up l3 (by decide)) l4 (fun w => ?_) rfl⟩
    have hgn := mt_gift hG l1.2.2.2.2.2.2
    obtain ⟨-, h | h | h | h | h | h | h⟩ := l1.2.2.2.2.2.2
    · obtain ⟨h1, j, hj, h2, h3, h4⟩ := h
      rw [h3] at w; exact n_1z w
    · rw [h.2.2.2.1] at w; exact n_20 w
    · rw [h.2.1] at w; exact n_30 w
    · rw [h.2.1] at w; exact n_40 w
    · rw [h.2.1] at w; exact n_50 w
    · rw [h.2.2.2, sjF_n, show gnF (-1) = -1 by decide +kernel] at hgn; rw [hgn, m1_ge0] at z; exact z
    · rw [h.2.2.2, sjF_n, show gnF (-1) = -1 by decide +kernel] at hgn; rw [hgn, m1_ge0] at z; exact z
  · rw [if_neg z, if_neg z]
    exact Or.inr ⟨rfl, rF_bad l1 n_1z rfl⟩
theorem z_name (hk : rEk e) (hl : rL e I q) {b : Bool} {v18 : Int32} : C G (d + 1) 0 0 mX5_takeName [.ref r, .int (zI b)] (rEH G r e h I) (fun v g => v = none ∧ ∃ I', g = rEH G r e h I' ∧ rO e I' (if isNameB rsW q = true then (if b = true then (true, nxP e.2.2.1 e.2.2.2.1 e.2.2.2.2.1 (va_up q.1 18 v18, q.2)) else (false, badP (nI 3) (va_up q.1 18 v18, q.2))) else (false, badP (nI 1) q))) := by
  obtain ⟨k, l1, l2, l3, l4⟩ := hl
  refine C_mono (r_name l1) (fun v g hv => ?_)
  obtain ⟨rfl, rfl⟩ := hv
  refine ⟨rfl, _, rfl, ?_⟩
  cases hn : isNameB rsW q
  · simp only [Bool.false_eq_true, if_false]
    exact Or.inr ⟨rfl, rF_bad l1 n_1z rfl⟩
  · simp only [if_true]
    cases b
    · simp only [Bool.false_eq_true, if_false]
      exact Or.inr ⟨rfl, rF_bad l1 n_30 rfl⟩
    · simp only [if_true]
      refine Or.inl ⟨rfl, rL_next hk l1 l2 (pOk_up l3 (by decide)) l4 (fun w => ?_) rfl⟩
      rw [mt_name l1.2.2.2.2.2.2, w] at hn
      simp [n_02] at hn
theorem z_finish (hl : rL e I q) : C G (d + 1) 0 0 mX5_finish [.ref r] (rEH G r e h I) (fun v g => v = none ∧ ∃ I', g = rEH G r e h I' ∧ ((q.1 11 = nI 0 ∧ I' = I) ∨ (¬ q.1 11 = nI 0 ∧ rF e I' (badP (nI 1) q)))) := by
  obtain ⟨k, l1, l2, l3, l4⟩ := hl
  refine C_mono (r_finish l1 l4) (fun v g hv => ?_)
  obtain ⟨rfl, rfl⟩ := hv
  refine ⟨rfl, _, rfl, ?_⟩
  by_cases z : q.1 11 = nI 0
  · rw [if_pos z]; exact Or.inl ⟨z, rfl⟩
  · rw [if_neg z]; exact Or.inr ⟨z, rF_bad l1 n_1z rfl⟩
theorem z_atEnd (hl : rL e I q) : C G d 0 0 mX5_atEnd [.ref r] (rEH G r e h I) (fun v g => g = rEH G r e h I ∧ ∃ b, v = some (.int (zI b)) ∧ (b = false → ¬ q.1 11 = nI 0) ∧ (b = true → q.1 11 = nI 0 ∨ ∀ i, i < 31 → isWordB (rsW i) q = false)) := by
  sorry
end CLi
