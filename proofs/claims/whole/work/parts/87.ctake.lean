/-! The class: what its reader takes -/
/-- a token of the class tells the state q of the reference's reader -/
def mtok (wa : Nat → Nat) (tl : Bool) (kd pl : Int32) (vl : Int64) (wd : Option Nat) (q : pS) : Prop :=
  pl = q.1 12 ∧
  ((q.1 11 = nI 1 ∧ ∃ i, i < 31 ∧ q.2 = rsW i ∧ kd = nI 1 ∧ wd = some (wa i)) ∨
   (q.1 11 = nI 1 ∧ (∀ i, i < 31 → ¬ q.2 = rsW i) ∧ ¬ q.2 = 0 ∧ kd = nI 2 ∧ vl = q.2 ∧ wd = none) ∨
   (q.1 11 = nI 2 ∧ kd = nI 3 ∧ (∃ v, v < 1000 ∧ q.1 14 = nI v ∧ vl = (nI v).toInt64) ∧ wd = none) ∨
   (q.1 11 = nI 3 ∧ kd = nI 4 ∧ vl = (q.1 14).toInt64 ∧ wd = none) ∨
   (q.1 11 = nI 4 ∧ kd = nI 5 ∧ wd = none) ∨
   (q.1 11 = nI 4 ∧ kd = nI 0 ∧ tl = true ∧ wd = none) ∨
   (q.1 11 = nI 0 ∧ kd = nI 0 ∧ tl = false ∧ wd = none))
theorem n_12 : ¬ nI 1 = nI 2 := by decide +kernel
theorem n_13 : ¬ nI 1 = nI 3 := by decide +kernel
theorem n_21 : ¬ nI 2 = nI 1 := by decide +kernel
theorem n_23 : ¬ nI 2 = nI 3 := by decide +kernel
theorem n_31 : ¬ nI 3 = nI 1 := by decide +kernel
theorem n_32 : ¬ nI 3 = nI 2 := by decide +kernel
theorem n_41 : ¬ nI 4 = nI 1 := by decide +kernel
theorem n_42 : ¬ nI 4 = nI 2 := by decide +kernel
theorem n_43 : ¬ nI 4 = nI 3 := by decide +kernel
theorem n_01 : ¬ nI 0 = nI 1 := by decide +kernel
theorem n_02 : ¬ nI 0 = nI 2 := by decide +kernel
theorem n_03 : ¬ nI 0 = nI 3 := by decide +kernel
theorem n_04 : ¬ nI 0 = nI 4 := by decide +kernel
theorem n_14 : ¬ nI 1 = nI 4 := by decide +kernel
theorem n_24 : ¬ nI 2 = nI 4 := by decide +kernel
theorem n_34 : ¬ nI 3 = nI 4 := by decide +kernel
theorem n_52 : ¬ nI 5 = nI 2 := by decide +kernel
theorem n_53 : ¬ nI 5 = nI 3 := by decide +kernel
theorem n_54 : ¬ nI 5 = nI 4 := by decide +kernel
theorem n_50 : ¬ nI 5 = nI 0 := by decide +kernel
theorem n_20 : ¬ nI 2 = nI 0 := by decide +kernel
theorem n_30 : ¬ nI 3 = nI 0 := by decide +kernel
theorem n_40 : ¬ nI 4 = nI 0 := by decide +kernel
theorem n_1z : ¬ nI 1 = nI 0 := by decide +kernel
theorem i64_inj {x y : Int32} : x.toInt64 = y.toInt64 ↔ x = y := by
  constructor
  · intro h
    apply Int32.toInt_inj.mp
    rw [← Int32.toInt_toInt64, ← Int32.toInt_toInt64, h]
  · intro h; rw [h]
section MT
variable {wa : Nat → Nat} {tl : Bool} {kd pl : Int32} {vl : Int64} {wd : Option Nat} {q : pS} {G : iG} {al : Nat}
theorem mt_word (hG : SG G wa al) (hm : mtok wa tl kd pl vl wd q) {i : Nat} (hi : i < 31) : isWordB (rsW i) q = decide (wd = some (wa i)) := by
  obtain ⟨-, h | h | h | h | h | h | h⟩ := hm
  · obtain ⟨h1, j, hj, h2, h3, h4⟩ := h
    unfold isWordB
    rw [h1, h2, h4]
    by_cases e : j = i
    · subst e; simp
    · have e1 : ¬ rsW j = rsW i := fun q => e (rsW_inj j hj i hi q)
      have e2 : ¬ wa j = wa i := fun q => e (hG.2.2.2.2.2.1 j i hj hi q)
      simp [e1, e2]
  · unfold isWordB
    rw [h.2.2.2.2.2]
    simp [h.2.1 i hi]
  · unfold isWordB
    rw [h.1, h.2.2.2]; simp [n_21]
  · unfold isWordB
    rw [h.1, h.2.2.2]; simp [n_31]
  · unfold isWordB
    rw [h.1, h.2.2]; simp [n_41]
  · unfold isWordB
    rw [h.1, h.2.2.2]; simp [n_41]
  · unfold isWordB
    rw [h.1, h.2.2.2]; simp [n_01]
theorem mt_sign (hm : mtok wa tl kd pl vl wd q) {c : Int32} : isSignB c q = (decide (kd = nI 4) && decide (vl = c.toInt64)) := by
  obtain ⟨-, h | h | h | h | h | h | h⟩ := hm
  · obtain ⟨h1, j, hj, h2, h3, h4⟩ := h
    unfold isSignB
    rw [h1, h3]; simp [n_13, n_14]
  · unfold isSignB
    rw [h.1, h.2.2.2.1]; simp [n_13, n_24]
  · unfold isSignB
    rw [h.1, h.2.1]; simp [n_23, n_34]
  · unfold isSignB
    rw [h.1, h.2.1, h.2.2.1]
    simp [i64_inj]
  · unfold isSignB
    rw [h.1, h.2.1]; simp [n_43, n_54]
  · unfold isSignB
    rw [h.1, h.2.1]; simp [n_43, n_04]
  · unfold isSignB
    rw [h.1, h.2.1]; simp [n_03, n_04]
theorem allN_iff {p : Nat → Bool} : ∀ k, allN p k = true ↔ ∀ j, j < k → p j = true
  | 0 => ⟨fun _ j hj => by omega, fun _ => rfl⟩
  | k + 1 => by
    rw [allN, Bool.and_eq_true, allN_iff k]
    constructor
    · rintro ⟨a, b⟩ j hj
      by_cases e : j = k
      · subst e; exact b
      · exact a j (by omega)
    · intro h
      exact ⟨fun j hj => h j (by omega), h k (by omega)⟩
theorem mt_name (hm : mtok wa tl kd pl vl wd q) : isNameB rsW q = decide (kd = nI 2) := by
  obtain ⟨-, h | h | h | h | h | h | h⟩ := hm
  · obtain ⟨h1, j, hj, h2, h3, h4⟩ := h
    unfold isNameB
    have : allN (fun k => decide (¬ q.2 = rsW k)) 31 = false := by
      cases e : allN (fun k => decide (¬ q.2 = rsW k)) 31
      · rfl
      · have := (allN_iff 31).mp e j hj
        rw [h2] at this; simp at this
    rw [h1, h3, this]; simp [n_12]
  · unfold isNameB
    have : allN (fun k => decide (¬ q.2 = rsW k)) 31 = true := (allN_iff 31).mpr (fun j hj => by simpa using h.2.1 j hj)
    rw [h.1, h.2.2.2.1, this]; simp
  · unfold isNameB
    rw [h.1, h.2.1]; simp [n_21, n_32]
  · unfold isNameB
    rw [h.1, h.2.1]; simp [n_31, n_42]
  · unfold isNameB
    rw [h.1, h.2.1]; simp [n_41, n_52]
  · unfold isNameB
    rw [h.1, h.2.1]; simp [n_41, n_02]
  · unfold isNameB
    rw [h.1, h.2.1]; simp [n_01, n_02]
theorem mt_wd (hm : mtok wa tl kd pl vl wd q) : wd = none ∨ ∃ i, i < 31 ∧ wd = some (wa i) := by
  obtain ⟨-, h | h | h | h | h | h | h⟩ := hm
  · obtain ⟨h1, j, hj, h2, h3, h4⟩ := h
    exact Or.inr ⟨j, hj, h4⟩
  · exact Or.inl h.2.2.2.2.2
  · exact Or.inl h.2.2.2
  · exact Or.inl h.2.2.2
  · exact Or.inl h.2.2
  · exact Or.inl h.2.2.2
  · exact Or.inl h.2.2.2
theorem gw_none {p : Nat → Bool} (h : ∀ k, k < 4 → p k = false) : fstN p 0 4 = -1 := by
  simp [fstN, h 0 (by omega), h 1 (by omega), h 2 (by omega), h 3 (by omega)]
theorem mt_gift (hG : SG G wa al) (hm : mtok wa tl kd pl vl wd q) : gwN rsW q = gnF (sjF wa wd) := by
  have hn : ∀ (x : Int32), q.1 11 = x → ¬ x = nI 1 → gwN rsW q = -1 := fun x e hx => by
    unfold gwN
    exact gw_none (fun k _ => by rw [e]; simp [hx])
  have g0 : gnF (sjF wa none) = -1 := by rw [sjF_n]; decide +kernel
  obtain ⟨-, h | h | h | h | h | h | h⟩ := hm
  · obtain ⟨h1, j, hj, h2, h3, h4⟩ := h
    rw [h4, sjF_s hG hj]
    unfold gwN
    rw [h1, h2]
    by_cases z : 8 ≤ j ∧ j < 12
    · have e1 : sbW j = nI (j - 8) := by rw [sbW, if_pos z]
      have e2 : gnF (nI (j - 8)) = nI (j - 8) := by rw [gnF, if_neg (nI_ge (by omega) (by omega))]
      rw [e1, e2]
      rcases (show j = 8 ∨ j = 9 ∨ j = 10 ∨ j = 11 by omega) with rfl | rfl | rfl | rfl <;> decide +kernel
    · have e1 : gnF (sbW j) = -1 := by
        unfold sbW
        rw [if_neg z]
        split
        · rw [gnF, if_pos (nI_le (by omega) (by omega))]
        · decide +kernel
      rw [e1]
      refine gw_none (fun k hk => ?_)
      have : ¬ rsW j = rsW (8 + k) := fun q => by have := rsW_inj j hj (8 + k) (by omega) q; omega
      simp [this]
  · rw [h.2.2.2.2.2, g0]
    unfold gwN
    refine gw_none (fun k hk => ?_)
    simp [h.2.1 (8 + k) (by omega)]
  · rw [h.2.2.2, g0]; exact hn _ h.1 n_21
  · rw [h.2.2.2, g0]; exact hn _ h.1 n_31
  · rw [h.2.2, g0]; exact hn _ h.1 n_41
  · rw [h.2.2.2, g0]; exact hn _ h.1 n_41
  · rw [h.2.2.2, g0]; exact hn _ h.1 n_01
theorem mt_num (hm : mtok wa tl kd pl vl wd q) : (q.1 11 = nI 2 ↔ kd = nI 3) ∧ (kd = nI 3 → ∃ v, v < 1000 ∧ q.1 14 = nI v ∧ vl = (nI v).toInt64) := by
  obtain ⟨-, h | h | h | h | h | h | h⟩ := hm
  · obtain ⟨h1, j, hj, h2, h3, h4⟩ := h
    rw [h1, h3]; exact ⟨⟨fun e => (n_12 e).elim, fun e => (n_13 e).elim⟩, fun e => (n_13 e).elim⟩
  · rw [h.1, h.2.2.2.1]; exact ⟨⟨fun e => (n_12 e).elim, fun e => (n_23 e).elim⟩, fun e => (n_23 e).elim⟩
  · rw [h.1, h.2.1]; exact ⟨⟨fun _ => rfl, fun _ => rfl⟩, fun _ => h.2.2.1⟩
  · rw [h.1, h.2.1]; exact ⟨⟨fun e => (n_32 e).elim, fun e => (n_43 e).elim⟩, fun e => (n_43 e).elim⟩
  · rw [h.1, h.2.1]; exact ⟨⟨fun e => (n_42 e).elim, fun e => (n_53 e).elim⟩, fun e => (n_53 e).elim⟩
  · rw [h.1, h.2.1]; exact ⟨⟨fun e => (n_42 e).elim, fun e => (n_03 e).elim⟩, fun e => (n_03 e).elim⟩
  · rw [h.1, h.2.1]; exact ⟨⟨fun e => (n_02 e).elim, fun e => (n_03 e).elim⟩, fun e => (n_03 e).elim⟩
/-- the reference stands at its end -/
theorem mt_end (hm : mtok wa tl kd pl vl wd q) : q.1 11 = nI 0 ↔ (kd = nI 0 ∧ tl = false) := by
  obtain ⟨-, h | h | h | h | h | h | h⟩ := hm
  · obtain ⟨h1, j, hj, h2, h3, h4⟩ := h
    rw [h1, h3]; exact ⟨fun e => (n_1z e).elim, fun e => (n_1z e.1).elim⟩
  · rw [h.1, h.2.2.2.1]; exact ⟨fun e => (n_1z e).elim, fun e => (n_20 e.1).elim⟩
  · rw [h.1, h.2.1]; exact ⟨fun e => (n_20 e).elim, fun e => (n_30 e.1).elim⟩
  · rw [h.1, h.2.1]; exact ⟨fun e => (n_30 e).elim, fun e => (n_40 e.1).elim⟩
  · rw [h.1, h.2.1]; exact ⟨fun e => (n_40 e).elim, fun e => (n_50 e.1).elim⟩
  · rw [h.1, h.2.2.1]; exact ⟨fun e => (n_40 e).elim, fun e => by cases e.2⟩
  · exact ⟨fun _ => ⟨h.2.1, h.2.2.1⟩, fun _ => h.1⟩
end MT
