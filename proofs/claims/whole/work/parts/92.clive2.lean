/-! The class: its reader beside the reference's -/
/-- what the reader's tokens are of: words, tape, size, limit, rows of tokens -/
abbrev rE : Type := (Nat → Nat) × Bool × (Nat → Int32) × Nat × Nat × (Nat → Nat → Int32) × (Nat → Nat → Int64) × (Nat → Nat → Option Nat) × Nat × (Nat → Nat)
def rEk (e : rE) : Prop := TKS e.1 e.2.1 e.2.2.1 e.2.2.2.1 e.2.2.2.2.1 e.2.2.2.2.2.1 e.2.2.2.2.2.2.1 e.2.2.2.2.2.2.2.1 e.2.2.2.2.2.2.2.2.1 e.2.2.2.2.2.2.2.2.2
def rEp (e : rE) : pE := (e.2.2.1, e.2.2.2.1, e.2.2.2.2.1, rsW)
def rEH (G : iG) (r : Nat) (e : rE) (h : iH) (I : Nat → Int32) : iH := rdH G r I e.2.2.2.2.2.1 e.2.2.2.2.2.2.1 e.2.2.2.2.2.2.2.1 h
/-- no fault: the reader stands where the reference stands -/
def rL (e : rE) (I : Nat → Int32) (q : pS) : Prop := ∃ k, rLv e.1 e.2.1 I e.2.2.2.2.2.1 e.2.2.2.2.2.2.1 e.2.2.2.2.2.2.2.1 e.2.2.2.2.2.2.2.2.1 k q ∧ q.1 4 = nI (e.2.2.2.2.2.2.2.2.2 (k + 1)) ∧ pOk e.2.2.2.1 e.2.2.2.2.1 q.1 ∧ I 6 = zI e.2.1
/-- a fault, the reference's -/
def rF (e : rE) (I : Nat → Int32) (q : pS) : Prop := ¬ I 7 = nI 0 ∧ I 7 = q.1 15 ∧ I 8 = q.1 16 ∧ ∃ k, k < e.2.2.2.2.2.2.2.2.1 ∧ I 5 = nI k ∧ (e.2.2.2.2.2.2.2.1 4 k = none ∨ ∃ i, i < 31 ∧ e.2.2.2.2.2.2.2.1 4 k = some (e.1 i))
def rO (e : rE) (I : Nat → Int32) (x : Bool × pS) : Prop := (x.1 = true ∧ rL e I x.2) ∨ (x.1 = false ∧ rF e I x.2)
section RL
variable {e : rE} {I : Nat → Int32} {q : pS}
theorem rL_next {k : Nat} {q' : pS} (hk : rEk e) (hl : rLv e.1 e.2.1 I e.2.2.2.2.2.1 e.2.2.2.2.2.2.1 e.2.2.2.2.2.2.2.1 e.2.2.2.2.2.2.2.2.1 k q) (h4 : q.1 4 = nI (e.2.2.2.2.2.2.2.2.2 (k + 1))) (hp : pOk e.2.2.2.1 e.2.2.2.2.1 q'.1) (h6 : I 6 = zI e.2.1) (hz : ¬ e.2.2.2.2.2.1 1 k = nI 0) (h4' : q'.1 4 = q.1 4) : rL e (va_up I 5 (nI (k + 1))) (nxP e.2.2.1 e.2.2.2.1 e.2.2.2.2.1 q') := by
  obtain ⟨k1, k2, k3, t0, t1, t2⟩ := hk
  obtain ⟨l1, l2, l3, l4, l5, l6, l7⟩ := hl
  have hlt : k + 1 < e.2.2.2.2.2.2.2.2.1 := by
    apply Classical.byContradiction
    intro z
    exact hz (l6.mpr (by omega))
  obtain ⟨m1, m2⟩ := t2 (k + 1) hlt q' hp (by rw [h4', h4])
  exact ⟨k + 1, ⟨l1, rfl, l3, l4, hlt, k3 (k + 1) hlt, m1⟩, m2, pOk_nx hp, h6⟩
theorem rF_bad {k : Nat} {kd : Int32} (hl : rLv e.1 e.2.1 I e.2.2.2.2.2.1 e.2.2.2.2.2.2.1 e.2.2.2.2.2.2.2.1 e.2.2.2.2.2.2.2.2.1 k q) (hk : ¬ kd = nI 0) {q' : pS} (h12 : q'.1 12 = q.1 12) : rF e (va_up (va_up I 7 kd) 8 (q.1 12)) (badP kd q') := by
  obtain ⟨l1, l2, l3, l4, l5, l6, l7⟩ := hl
  refine ⟨hk, rfl, ?_, k, l5, l2, mt_wd l7⟩
  show q.1 12 = q'.1 12
  exact h12.symm
end RL
theorem C_mono {G : iG} {d mc ms : Nat} {Y : iM} {av : List Value} {h : iH} {Q Q' : Option Value → iH → Prop} (k : C G d mc ms Y av h Q) (hm : ∀ r g, Q r g → Q' r g) : C G d mc ms Y av h Q' := by
  intro p e ha hc hf s m args below h1 h2 h3 h4
  obtain ⟨n, o, a1, a2, a3, a4, L, a5⟩ := k p e ha hc hf s m args below h1 h2 h3 h4
  exact ⟨n, o, a1, a2, a3, iQ_mono hm a4, L, a5⟩
section CLi
variable {G : iG} {d : Nat} {h : iH} {r : Nat} {e : rE} {I : Nat → Int32} {q : pS} {al : Nat}
theorem z_skip (hG : SG G e.1 al) (hk : rEk e) (hl : rL e I q) {i : Nat} (hi : i < 31) : C G (d + 1) 0 0 mX5_skipWord [.ref r, .ref (e.1 i)] (rEH G r e h I) (fun v g => v = some (.int (zI (isWordB (rsW i) q))) ∧ ∃ I', g = rEH G r e h I' ∧ rL e I' (if isWordB (rsW i) q = true then nxP e.2.2.1 e.2.2.2.1 e.2.2.2.2.1 q else q)) := by
  obtain ⟨k, l1, l2, l3, l4⟩ := hl
  refine C_mono (r_skip hG l1 hi) (fun v g hv => ?_)
  obtain ⟨rfl, rfl⟩ := hv
  refine ⟨rfl, _, rfl, ?_⟩
  cases hw : isWordB (rsW i) q
  · exact ⟨k, l1, l2, l3, l4⟩
  · simp only [if_true]
    refine rL_next hk l1 l2 l3 l4 (fun z => ?_) rfl
    have hm := l1.2.2.2.2.2.2
    rw [mt_word hG hm hi] at hw
    have hw2 := of_decide_eq_true hw
    obtain ⟨-, h | h | h | h | h | h | h⟩ := hm
    · obtain ⟨h1, j, hj, h2, h3, h4⟩ := h
      rw [h3] at z; exact n_1z z
    · rw [h.2.2.2.2.2] at hw2; cases hw2
    · rw [h.2.2.2] at hw2; cases hw2
    · rw [h.2.2.2] at hw2; cases hw2
    · rw [h.2.2] at hw2; cases hw2
    · rw [h.2.2.2] at hw2; cases hw2
    · rw [h.2.2.2] at hw2; cases hw2
theorem z_sign (hk : rEk e) (hl : rL e I q) {c : Int32} : C G (d + 1) 0 0 mX5_takeSign [.ref r, .int c] (rEH G r e h I) (fun v g => v = none ∧ ∃ I', g = rEH G r e h I' ∧ rO e I' (signP e.2.2.1 e.2.2.2.1 e.2.2.2.2.1 c q)) := by
  obtain ⟨k, l1, l2, l3, l4⟩ := hl
  refine C_mono (r_sign l1) (fun v g hv => ?_)
  obtain ⟨rfl, rfl⟩ := hv
  refine ⟨rfl, _, rfl, ?_⟩
  unfold signP
  cases hw : isSignB c q
  · simp only [Bool.false_eq_true, if_false]
    exact Or.inr ⟨rfl, rF_bad l1 n_1z rfl⟩
  · simp only [if_true]
    refine Or.inl ⟨rfl, rL_next hk l1 l2 l3 l4 (fun z => ?_) rfl⟩
    rw [mt_sign l1.2.2.2.2.2.2, z] at hw
    simp [n_04] at hw
theorem z_number (hk : rEk e) (hl : rL e I q) {lo hi : Int32} : C G (d + 1) 0 0 mX5_takeNumber [.ref r, .int lo, .int hi] (rEH G r e h I) (fun v g => ∃ I', g = rEH G r e h I' ∧ rO e I' (takesP e.2.2.1 e.2.2.2.1 e.2.2.2.2.1 lo hi q) ∧ v = some (.int (if (takesP e.2.2.1 e.2.2.2.1 e.2.2.2.2.1 lo hi q).1 = true then q.1 14 else -1))) := by
  obtain ⟨k, l1, l2, l3, l4⟩ := hl
  refine C_mono (r_number l1) (fun v g hv => ?_)
  unfold takesP
  by_cases z : q.1 11 = nI 2
  · rw [if_neg (fun w => w z)] at hv
    rw [if_neg (fun w => w z)]
    cases hb : inF (q.1 14) lo hi
    · rw [hb] at hv
      simp only [Bool.false_eq_true, if_false] at hv ⊢
      obtain ⟨rfl, rfl⟩ := hv
      exact ⟨_, rfl, Or.inr ⟨rfl, rF_bad l1 n_20 rfl⟩, rfl⟩
    · rw [hb] at hv
      simp only [if_true] at hv ⊢
      obtain ⟨rfl, rfl⟩ := hv
      refine ⟨_, rfl, Or.inl ⟨rfl, rL_next hk l1 l2 (pOk_up l3 (by decide)) l4 (fun w => ?_) rfl⟩, rfl⟩
      have := (mt_num l1.2.2.2.2.2.2).1.mp z
      rw [w] at this; exact n_03 this
  · rw [if_pos z] at hv
    rw [if_pos z]
    obtain ⟨rfl, rfl⟩ := hv
    exact ⟨_, rfl, Or.inr ⟨rfl, rF_bad l1 n_1z rfl⟩, rfl⟩
theorem z_gift (hG : SG G e.1 al) (hk : rEk e) (hl : rL e I q) : C G (d + 2) 0 0 mX5_takeGift [.ref r] (rEH G r e h I) (fun v g => v = some (.int (gwN rsW q)) ∧ ∃ I', g = rEH G r e h I' ∧ rO e I' (tGiftP e.2.2.1 e.2.2.2.1 e.2.2.2.2.1 rsW q)) := by
  obtain ⟨k, l1, l2, l3, l4⟩ := hl
  refine C_mono (r_gift hG l1) (fun v g hv => ?_)
  obtain ⟨rfl, rfl⟩ := hv
  refine ⟨rfl, _, rfl, ?_⟩
  unfold tGiftP
  by_cases z : nI 0 ≤ gwN rsW q
  · rw [if_pos z, if_pos z]
    refine Or.inl ⟨rfl, rL_next hk l1 l2 (pOk_up l3 (by decide)) l4 (fun w => ?_) rfl⟩
    have hgn := mt_gift hG l1.2.2.2.2.2.2
    obtain ⟨-, h | h | h | h | h | h | h⟩ := l1.2.2.2.2.2.2
    · obtain ⟨h1, j, hj, h2, h3, h4⟩ := h
      rw [h3] at w; exact n_1z w
    · rw [h.2.2.2.1] at w; exact n_20 w
    · rw [h.2.1] at w; exact n_30 w
    · rw [h.2.1] at w; exact n_40 w
    · rw [h.2.1] at w; exact n_50 w
    · rw [h.2.2.2, sjF_n, show gnF (-1) = -1 by decide +kernel] at hgn; rw [hgn, m1_ge0] at z; exact z
    · rw [h.2.2.2, sjF_n, show gnF (-1) = -1 by decide +kernel] at hgn; rw [hgn, m1_ge0] at z; exact z
  · rw [if_neg z, if_neg z]
    exact Or.inr ⟨rfl, rF_bad l1 n_1z rfl⟩
theorem z_name (hk : rEk e) (hl : rL e I q) {b : Bool} {v18 : Int32} : C G (d + 1) 0 0 mX5_takeName [.ref r, .int (zI b)] (rEH G r e h I) (fun v g => v = none ∧ ∃ I', g = rEH G r e h I' ∧ rO e I' (if isNameB rsW q = true then (if b = true then (true, nxP e.2.2.1 e.2.2.2.1 e.2.2.2.2.1 (va_up q.1 18 v18, q.2)) else (false, badP (nI 3) (va_up q.1 18 v18, q.2))) else (false, badP (nI 1) q))) := by
  obtain ⟨k, l1, l2, l3, l4⟩ := hl
  refine C_mono (r_name l1) (fun v g hv => ?_)
  obtain ⟨rfl, rfl⟩ := hv
  refine ⟨rfl, _, rfl, ?_⟩
  cases hn : isNameB rsW q
  · simp only [Bool.false_eq_true, if_false]
    exact Or.inr ⟨rfl, rF_bad l1 n_1z rfl⟩
  · simp only [if_true]
    cases b
    · simp only [Bool.false_eq_true, if_false]
      exact Or.inr ⟨rfl, rF_bad l1 n_30 rfl⟩
    · simp only [if_true]
      refine Or.inl ⟨rfl, rL_next hk l1 l2 (pOk_up l3 (by decide)) l4 (fun w => ?_) rfl⟩
      rw [mt_name l1.2.2.2.2.2.2, w] at hn
      simp [n_02] at hn
theorem z_finish (hl : rL e I q) : C G (d + 1) 0 0 mX5_finish [.ref r] (rEH G r e h I) (fun v g => v = none ∧ ∃ I', g = rEH G r e h I' ∧ ((q.1 11 = nI 0 ∧ I' = I) ∨ (¬ q.1 11 = nI 0 ∧ rF e I' (badP (nI 1) q)))) := by
  obtain ⟨k, l1, l2, l3, l4⟩ := hl
  refine C_mono (r_finish l1 l4) (fun v g hv => ?_)
  obtain ⟨rfl, rfl⟩ := hv
  refine ⟨rfl, _, rfl, ?_⟩
  by_cases z : q.1 11 = nI 0
  · rw [if_pos z]; exact Or.inl ⟨z, rfl⟩
  · rw [if_neg z]; exact Or.inr ⟨z, rF_bad l1 n_1z rfl⟩
theorem z_atEnd (hl : rL e I q) : C G d 0 0 mX5_atEnd [.ref r] (rEH G r e h I) (fun v g => g = rEH G r e h I ∧ ∃ b, v = some (.int (zI b)) ∧ (b = false → ¬ q.1 11 = nI 0) ∧ (b = true → q.1 11 = nI 0 ∨ q.1 11 = nI 4)) := by
  obtain ⟨k, l1, l2, l3, l4⟩ := hl
  refine C_mono (r_atEnd l1.2.1 (by have := l1.2.2.2.1; have := l1.2.2.2.2.1; omega)) (fun v g hv => ?_)
  obtain ⟨rfl, rfl⟩ := hv
  have hm := l1.2.2.2.2.2.2
  refine ⟨rfl, _, rfl, fun hb z => ?_, fun hb => ?_⟩
  · have := (mt_end hm).mp z
    rw [decide_eq_false_iff_not] at hb
    exact hb this.1
  · have hb := of_decide_eq_true hb
    obtain ⟨-, h | h | h | h | h | h | h⟩ := hm
    · obtain ⟨h1, j, hj, h2, h3, h4⟩ := h
      rw [h3] at hb; exact (n_1z hb).elim
    · rw [h.2.2.2.1] at hb; exact (n_20 hb).elim
    · rw [h.2.1] at hb; exact (n_30 hb).elim
    · rw [h.2.1] at hb; exact (n_40 hb).elim
    · rw [h.2.1] at hb; exact (n_50 hb).elim
    · exact Or.inr h.1
    · exact Or.inl h.1
theorem z_isWord (hG : SG G e.1 al) (hl : rL e I q) {i : Nat} (hi : i < 31) : C G d 0 0 mX5_isWord [.ref r, .ref (e.1 i)] (rEH G r e h I) (iR (some (.int (zI (isWordB (rsW i) q)))) (rEH G r e h I)) := by
  obtain ⟨k, l1, l2, l3, l4⟩ := hl
  rw [mt_word hG l1.2.2.2.2.2.2 hi]
  exact r_isWord l1.2.1 (by have := l1.2.2.2.1; have := l1.2.2.2.2.1; omega)
theorem z_isSignNow (hl : rL e I q) {c : Int32} : C G d 0 0 mX5_isSignNow [.ref r, .int c] (rEH G r e h I) (iR (some (.int (zI (isSignB c q)))) (rEH G r e h I)) := by
  obtain ⟨k, l1, l2, l3, l4⟩ := hl
  rw [mt_sign l1.2.2.2.2.2.2]
  exact r_isSignNow l1.2.1 (by have := l1.2.2.2.1; have := l1.2.2.2.2.1; omega)
theorem z_giftNow (hG : SG G e.1 al) (hl : rL e I q) : C G (d + 1) 0 0 mX5_giftNow [.ref r] (rEH G r e h I) (iR (some (.int (gwN rsW q))) (rEH G r e h I)) := by
  obtain ⟨k, l1, l2, l3, l4⟩ := hl
  rw [mt_gift hG l1.2.2.2.2.2.2]
  exact r_giftNow hG l1.2.1 (by have := l1.2.2.2.1; have := l1.2.2.2.2.1; omega) (mt_wd l1.2.2.2.2.2.2)
/-- the name now: the reference's word where a name stands -/
theorem z_nameNow (hl : rL e I q) : C G d 0 0 mX5_nameNow [.ref r] (rEH G r e h I) (iR (some (.long (if isNameB rsW q = true then q.2 else 0))) (rEH G r e h I)) := by
  obtain ⟨k, l1, l2, l3, l4⟩ := hl
  have hm := l1.2.2.2.2.2.2
  have hk : k < 941 := by have := l1.2.2.2.1; have := l1.2.2.2.2.1; omega
  have kk := r_nameNow (G := G) (d := d) (h := h) (r := r) (I := I) (A := e.2.2.2.2.2.1) (N := e.2.2.2.2.2.2.1) (R := e.2.2.2.2.2.2.2.1) l1.2.1 hk
  have e9 : (if e.2.2.2.2.2.1 1 k = nI 2 then e.2.2.2.2.2.2.1 3 k else 0) = (if isNameB rsW q = true then q.2 else 0) := by
    rw [mt_name hm]
    by_cases z : e.2.2.2.2.2.1 1 k = nI 2
    · simp only [z, decide_true, if_true]
      obtain ⟨-, h | h | h | h | h | h | h⟩ := hm
      · obtain ⟨h1, j, hj, h2, h3, h4⟩ := h
        rw [h3] at z; exact (n_12 z).elim
      · exact h.2.2.2.2.1
      · rw [h.2.1] at z; exact (n_32 z).elim
      · rw [h.2.1] at z; exact (n_42 z).elim
      · rw [h.2.1] at z; exact (n_52 z).elim
      · rw [h.2.1] at z; exact (n_02 z).elim
      · rw [h.2.1] at z; exact (n_02 z).elim
    · simp only [z, decide_false, Bool.false_eq_true, if_false]
  rw [e9] at kk
  exact kk
theorem z_failed (hl : rL e I q) : C G d 0 0 mX5_failed [.ref r] (rEH G r e h I) (iR (some (.int (nI 0))) (rEH G r e h I)) := by
  obtain ⟨k, l1, l2, l3, l4⟩ := hl
  have kk := r_failed (G := G) (d := d) (h := h) (r := r) (I := I) (A := e.2.2.2.2.2.1) (N := e.2.2.2.2.2.2.1) (R := e.2.2.2.2.2.2.2.1)
  simp only [l1.1, zI_ff] at kk
  exact kk
theorem z_failedD (hl : rF e I q) : C G d 0 0 mX5_failed [.ref r] (rEH G r e h I) (iR (some (.int (nI 1))) (rEH G r e h I)) := by
  have kk := r_failed (G := G) (d := d) (h := h) (r := r) (I := I) (A := e.2.2.2.2.2.1) (N := e.2.2.2.2.2.2.1) (R := e.2.2.2.2.2.2.2.1)
  have e9 : zI (!(decide (I 7 = nI 0))) = nI 1 := by simp [hl.1]; rfl
  rw [e9] at kk
  exact kk
theorem z_fail (hl : rL e I q) {kd : Int32} (hkd : ¬ kd = nI 0) : C G d 0 0 mX5_fail [.ref r, .int kd] (rEH G r e h I) (fun v g => v = none ∧ ∃ I', g = rEH G r e h I' ∧ rF e I' (badP kd q)) := by
  obtain ⟨k, l1, l2, l3, l4⟩ := hl
  refine C_mono (r_fail l1.2.1 (by have := l1.2.2.2.1; have := l1.2.2.2.2.1; omega)) (fun v g hv => ?_)
  obtain ⟨rfl, rfl⟩ := hv
  refine ⟨rfl, _, rfl, ?_⟩
  rw [rLv_fail l1]
  exact rF_bad l1 hkd rfl
theorem z_next (hk : rEk e) (hl : rL e I q) (hz : ¬ q.1 11 = nI 0) (h4 : ¬ q.1 11 = nI 4) : C G d 0 0 mX5_next [.ref r] (rEH G r e h I) (fun v g => v = none ∧ ∃ I', g = rEH G r e h I' ∧ rL e I' (nxP e.2.2.1 e.2.2.2.1 e.2.2.2.2.1 q)) := by
  obtain ⟨k, l1, l2, l3, l4⟩ := hl
  have hm := l1.2.2.2.2.2.2
  have hn : ¬ e.2.2.2.2.2.1 1 k = nI 0 := fun w => by
    obtain ⟨-, h | h | h | h | h | h | h⟩ := hm
    · obtain ⟨h1, j, hj, h2, h3, h4⟩ := h
      rw [h3] at w; exact n_1z w
    · rw [h.2.2.2.1] at w; exact n_20 w
    · rw [h.2.1] at w; exact n_30 w
    · rw [h.2.1] at w; exact n_40 w
    · rw [h.2.1] at w; exact n_50 w
    · exact h4 h.1
    · exact hz h.1
  refine C_mono (r_next l1.2.1 l1.2.2.1 l1.2.2.2.1 l1.2.2.2.2.1) (fun v g hv => ?_)
  obtain ⟨rfl, rfl⟩ := hv
  refine ⟨rfl, _, rfl, ?_⟩
  rw [rLv_next l1 hn]
  exact rL_next hk l1 l2 l3 l4 hn rfl
end CLi
