/-! The reference's reader: words have small bytes, rows have small numbers, what stays -/
theorem toI64_n : ∀ v, v < 128 → (nI v).toInt64.toBitVec = BitVec.ofNat 64 v := by decide +kernel
theorem pW_0 : pW 0 := fun i hi => by
  show (0#64).getLsbD (8 * i + 7) = false
  simp
theorem pW_sh {w : Int64} {v : Nat} (h : pW w) (hv : v < 128) : pW ((w <<< ((nI 8).toInt64 &&& 63)) ||| (nI v).toInt64) := by
  intro i hi
  have e8 : (nI 8).toInt64 &&& 63 = 8 := by decide +kernel
  rw [e8]
  have e1 : ((w <<< (8 : Int64)) ||| (nI v).toInt64).toBitVec = (w.toBitVec <<< (8#64).smod 64) ||| (nI v).toInt64.toBitVec := rfl
  rw [e1, toI64_n v hv, BitVec.getLsbD_or]
  have e2 : (8#64).smod 64 = 8#64 := by decide +kernel
  rw [e2, BitVec.shiftLeft_eq', show (8#64).toNat = 8 from rfl, BitVec.getLsbD_shiftLeft]
  have e3 : (BitVec.ofNat 64 v).getLsbD (8 * i + 7) = false := by
    rw [BitVec.getLsbD_ofNat]
    have : v.testBit (8 * i + 7) = false := Nat.testBit_lt_two_pow (Nat.lt_of_lt_of_le (show v < 2 ^ 7 by omega) (Nat.pow_le_pow_right (by decide) (by omega)))
    rw [this, Bool.and_false]
  rw [e3, Bool.or_false]
  by_cases z : 8 * i + 7 < 8
  · simp [z]
  · have h9 := h (i - 1) (by omega)
    rw [show 8 * i + 7 - 8 = 8 * (i - 1) + 7 by omega, h9, Bool.and_false]
theorem sm_v {c : Int32} (h : smF c = true ∨ dgF c = true) : ∃ v, v < 128 ∧ c = nI v := by
  have hh : ∀ a b : Nat, b < 128 → a < 128 → (decide (nI a ≤ c) && decide (c ≤ nI b)) = true → ∃ v, v < 128 ∧ c = nI v := fun a b hb ha hx => by
    obtain ⟨k, k1, k2, k3⟩ := in_nIr (c := c) (a := a) (n := b) (by omega) (by omega) hx
    exact ⟨k, by omega, k3⟩
  rcases h with h | h
  · exact hh 97 122 (by decide) (by decide) h
  · exact hh 48 57 (by decide) (by decide) h
theorem pW_rn {t : Nat → Int32} {sz : Nat} {sm : Bool} : ∀ (k : Nat) (r : Nat × Nat × Int64 × Int32 × Bool), pW r.2.2.1 → pW (rnN t sz sm k r).2.2.1
  | 0, r, h => h
  | k + 1, r, h => by
    rw [rnN]
    split
    · rename_i z
      refine pW_rn k _ ?_
      dsimp only
      split
      · obtain ⟨v, hv, ev⟩ := sm_v (by simpa [Bool.or_eq_true] using z)
        rw [ev]
        exact pW_sh h hv
      · exact h
    · exact h
theorem pW_nx {t : Nat → Int32} {sz lm : Nat} {q : pS} (h : pW q.2) : pW (nxP t sz lm q).2 := by
  unfold nxP nextF
  split
  · exact h
  · split
    · exact h
    · split
      · exact pW_rn _ _ pW_0
      · exact h
theorem pW_takes {t : Nat → Int32} {sz lm : Nat} {lo hi : Int32} {q : pS} (h : pW q.2) : pW (takesP t sz lm lo hi q).2.2 := by
  unfold takesP
  split
  · exact h
  · split
    · exact pW_nx (q := (va_up q.1 18 (q.1 14), q.2)) h
    · exact h
theorem pW_gift {t : Nat → Int32} {sz lm : Nat} {rs : Nat → Int64} {q : pS} (h : pW q.2) : pW (tGiftP t sz lm rs q).2.2 := by
  unfold tGiftP
  split
  · exact pW_nx (q := (va_up q.1 18 _, q.2)) h
  · exact h
theorem pW_looks {rs nm : Nat → Int64} {fr m : Nat} {q : pS} (h : pW q.2) : pW (looksP rs nm fr m q).2.2 := by
  unfold looksP
  split
  · split
    · exact h
    · exact h
  · exact h
theorem pW_name {t : Nat → Int32} {sz lm : Nat} {rs nm : Nat → Int64} {fr m : Nat} {q : pS} (h : pW q.2) : pW (tNameP t sz lm rs nm fr m q).2.2 := by
  unfold tNameP
  split
  · exact pW_nx (pW_looks h)
  · exact pW_looks h
theorem pW_sign {t : Nat → Int32} {sz lm : Nat} {c : Int32} {q : pS} (h : pW q.2) : pW (signP t sz lm c q).2.2 := by
  unfold signP
  split
  · exact pW_nx h
  · exact h
theorem pW_to {e : pE} {nm : Nat → Int64} {F : Nat} {q : pS} (h : pW q.2) : pW (toP e nm F q).2.2 := by
  unfold toP
  split
  · exact pW_nx (q := (va_up q.1 18 (nI 0), q.2)) h
  · split
    · exact pW_name h
    · exact pW_name h
theorem nx_15 {t : Nat → Int32} {sz lm : Nat} {q : pS} : (nxP t sz lm q).1 15 = q.1 15 := by
  unfold nxP nextF
  repeat' split
  all_goals simp [va_up, tkI]
theorem takes_15 {t : Nat → Int32} {sz lm : Nat} {lo hi : Int32} {q : pS} (h : (takesP t sz lm lo hi q).1 = true) : (takesP t sz lm lo hi q).2.1 15 = q.1 15 := by
  rw [(takes_ok h).1, nx_15]; simp [va_up]
theorem gift_15 {t : Nat → Int32} {sz lm : Nat} {rs : Nat → Int64} {q : pS} (h : (tGiftP t sz lm rs q).1 = true) : (tGiftP t sz lm rs q).2.1 15 = q.1 15 := by
  unfold tGiftP at h ⊢
  split
  · rw [nx_15]; simp [va_up]
  · rename_i z; rw [if_neg z] at h; cases h
theorem looks_15 {rs nm : Nat → Int64} {fr m : Nat} {q : pS} (h : (looksP rs nm fr m q).1 = true) : (looksP rs nm fr m q).2.1 15 = q.1 15 := by
  unfold looksP at h ⊢
  split
  · rename_i z1
    rw [if_pos z1] at h
    split
    · simp [va_up]
    · rename_i z2; rw [if_neg z2] at h; cases h
  · rename_i z1; rw [if_neg z1] at h; cases h
theorem name_15 {t : Nat → Int32} {sz lm : Nat} {rs nm : Nat → Int64} {fr m : Nat} {q : pS} (h : (tNameP t sz lm rs nm fr m q).1 = true) : (tNameP t sz lm rs nm fr m q).2.1 15 = q.1 15 := by
  unfold tNameP at h ⊢
  split
  · rename_i z; rw [nx_15]; exact looks_15 z
  · rename_i z; rw [if_neg z] at h; exact absurd h z
theorem sign_15 {t : Nat → Int32} {sz lm : Nat} {c : Int32} {q : pS} (h : (signP t sz lm c q).1 = true) : (signP t sz lm c q).2.1 15 = q.1 15 := by
  unfold signP at h ⊢
  split
  · exact nx_15
  · rename_i z; rw [if_neg z] at h; cases h
theorem to_15 {e : pE} {nm : Nat → Int64} {F : Nat} {q : pS} (h : (toP e nm F q).1 = true) : (toP e nm F q).2.1 15 = q.1 15 := by
  unfold toP at h ⊢
  split
  · rw [nx_15]; simp [va_up]
  · rename_i z
    rw [if_neg z] at h
    split
    · rename_i z2
      dsimp only
      rw [va_ne (by omega)]
      exact name_15 z2
    · rename_i z2; rw [if_neg z2] at h; cases h
/-- what a line of a tower keeps in every case: names that stand, small bytes, cells beside the reader's -/
def nP (nm0 : Nat → Int64) (J0 : Nat → Int32) (y : tS) : Prop := (∀ j, j < 19 → y.2.2 j = nm0 j) ∧ (∀ j, pW (y.2.2 j)) ∧ pW y.1.2 ∧ ∀ j, fX j → j ≠ 19 → j ≠ 20 → y.1.1 j = J0 j
section NP
variable {nm0 : Nat → Int64} {J0 : Nat → Int32} {e : pE}
theorem nP_nx {y : tS} (h : nP nm0 J0 y) : nP nm0 J0 (nxT e y) := ⟨h.1, h.2.1, pW_nx h.2.2.1, fun j h1 h2 h3 => (nx_f h1).trans (h.2.2.2 j h1 h2 h3)⟩
theorem nP_bad {y : tS} {k : Int32} (h : nP nm0 J0 y) : nP nm0 J0 (badT k y).2 := ⟨h.1, h.2.1, h.2.2.1, fun j h1 h2 h3 => (bad_f h1).trans (h.2.2.2 j h1 h2 h3)⟩
theorem nP_set {y : tS} {j : Nat} {v : Int32} (h : nP nm0 J0 y) : nP nm0 J0 (setT j v y) := h
theorem nP_and {r : Bool × tS} {f : tS → Bool × tS} (h : nP nm0 J0 r.2) (hf : ∀ y, nP nm0 J0 y → nP nm0 J0 (f y).2) : nP nm0 J0 (andT r f).2 := by
  unfold andT
  split
  · exact hf _ h
  · exact h
theorem nP_puts {y : tS} {to : Nat} {lo hi : Int32} (h : nP nm0 J0 y) : nP nm0 J0 (putsT e to lo hi y).2 := nP_and ⟨h.1, h.2.1, pW_takes h.2.2.1, fun j h1 h2 h3 => (takes_f h1).trans (h.2.2.2 j h1 h2 h3)⟩ (fun _ hz => nP_set hz)
theorem nP_fresh {y : tS} {to : Nat} (ht : 19 ≤ to) (h : nP nm0 J0 y) : nP nm0 J0 (freshT e to y).2 := by
  unfold freshT
  split
  · split
    · exact nP_bad h
    · refine nP_nx (y := (y.1, y.2.1, va_up y.2.2 to y.1.2)) ⟨fun j hj => ?_, fun j => ?_, h.2.2⟩
      · show va_up y.2.2 to y.1.2 j = _
        rw [va_up_ne _ _ (by omega)]; exact h.1 j hj
      · show pW (va_up y.2.2 to y.1.2 j)
        by_cases z : j = to
        · subst z; rw [va_sf]; exact h.2.2.1
        · rw [va_ne z]; exact h.2.1 j
  · exact nP_bad h
theorem nP_line {x : tS} (h : nP nm0 J0 x) : nP nm0 J0 (lineT e x).2 := by
  have hm : ∀ j most nm wt, 19 ≤ nm → nP nm0 J0 (manT e j most nm wt x).2 := fun j most nm wt hnm => by
    unfold manT
    split
    · exact nP_bad h
    · exact nP_and (nP_and (nP_fresh (by omega) (nP_nx h)) (fun y hy => nP_puts hy)) (fun z hz => nP_set hz)
  have ho : ∀ k to lo hi, nP nm0 J0 (onceT e k to lo hi x).2 := fun k to lo hi => by
    unfold onceT
    split
    · exact nP_bad h
    · refine nP_puts (nP_nx ⟨h.1, h.2.1, h.2.2.1, fun j h1 h2 h3 => ?_⟩)
      show va_up x.1.1 20 (x.1.1 20 ||| nI 1 <<< (nI k &&& 31)) j = _
      rw [va_ne h3]; exact h.2.2.2 j h1 h2 h3
  unfold lineT
  split
  · unfold floorT
    split
    · exact nP_bad h
    · refine nP_and (nP_and (nP_fresh (by omega) (nP_nx h)) (fun y hy => ⟨hy.1, hy.2.1, pW_gift hy.2.2.1, fun j h1 h2 h3 => (gift_f h1).trans (hy.2.2.2 j h1 h2 h3)⟩)) (fun y hy => nP_and (nP_puts (nP_set hy)) (fun z hz => nP_set ?_))
      unfold coldT
      split
      · exact nP_nx (nP_set hz)
      · exact hz
  · split
    · exact hm _ _ _ _ (by omega)
    · split
      · exact hm _ _ _ _ (by omega)
      · split
        · unfold lawT
          split
          · split
            · exact nP_bad (nP_nx h)
            · exact nP_puts (nP_nx (nP_nx h))
          · exact nP_bad (nP_nx h)
        · split
          · unfold likeT
            refine nP_and ⟨h.1, h.2.1, pW_name (nP_nx h).2.2.1, fun j h1 h2 h3 => (name_f h1).trans ((nP_nx h).2.2.2 j h1 h2 h3)⟩ (fun z hz => nP_and ⟨hz.1, hz.2.1, pW_looks hz.2.2.1, fun j h1 h2 h3 => (looks_f h1).trans (hz.2.2.2 j h1 h2 h3)⟩ (fun w hw => ?_))
            split
            · exact nP_bad hw
            · exact nP_puts (nP_nx hw)
          · split
            · exact ho _ _ _ _
            · split
              · exact ho _ _ _ _
              · exact nP_bad h
theorem nP_tow : ∀ (k : Nat) (x : tS), nP nm0 J0 x → nP nm0 J0 (towN e k x).2
  | 0, x, h => h
  | k + 1, x, h => by
    have hl := nP_line (e := e) h
    have hs : nP nm0 J0 (upT (signP e.1 e.2.1 e.2.2.1 (nI 59) (lineT e x).2.1) (lineT e x).2).2 := ⟨hl.1, hl.2.1, pW_sign hl.2.2.1, fun j h1 h2 h3 => (sign_f h1).trans (hl.2.2.2 j h1 h2 h3)⟩
    rw [towN]
    split
    · exact h
    · split
      · split
        · refine nP_tow k _ ⟨hs.1, hs.2.1, hs.2.2.1, fun j h1 h2 h3 => ?_⟩
          show va_up (upT (signP e.1 e.2.1 e.2.2.1 (nI 59) (lineT e x).2.1) (lineT e x).2).2.1.1 19 ((upT (signP e.1 e.2.1 e.2.2.1 (nI 59) (lineT e x).2.1) (lineT e x).2).2.1.1 19 + nI 1) j = _
          rw [va_ne h2]; exact hs.2.2.2 j h1 h2 h3
        · exact hs
      · exact hl
end NP
/-- what a line that is well keeps: no fault, small numbers -/
def rg5 (h : Nat → Int32) : Prop := (∀ f, f < cnt h 0 → (∃ g, g < 4 ∧ h (5 + f) = nI g) ∧ ∃ v, 1 ≤ v ∧ v ≤ 9 ∧ h (13 + f) = nI v) ∧ (∀ c, c < cnt h 1 → ∃ v, v ≤ 20 ∧ h (22 + c) = nI v) ∧ (∀ u, u < cnt h 2 → ∃ v, v ≤ 20 ∧ h (28 + u) = nI v) ∧ (∃ v, 1 ≤ v ∧ v ≤ 500 ∧ h 3 = nI v) ∧ ∃ v, 1 ≤ v ∧ v ≤ 48 ∧ h 4 = nI v
def rP (f0 : Int32) (y : tS) : Prop := rg5 y.2.1 ∧ y.1.1 15 = f0
theorem rg_set {h : Nat → Int32} {j : Nat} {v : Int32} (hr : rg5 h) (h0 : cnt h 0 ≤ 8) (h1 : cnt h 1 ≤ 6) (h2 : cnt h 2 ≤ 5) (hj : 33 ≤ j ∨ j = 21 ∨ j = 5 + cnt h 0 ∧ cnt h 0 < 8 ∨ j = 13 + cnt h 0 ∧ cnt h 0 < 8 ∨ j = 22 + cnt h 1 ∧ cnt h 1 < 6 ∨ j = 28 + cnt h 2 ∧ cnt h 2 < 5) : rg5 (va_up h j v) := by
  obtain ⟨r1, r2, r3, r4, r5⟩ := hr
  have c0 : cnt (va_up h j v) 0 = cnt h 0 := by unfold cnt; rw [va_ne (by omega)]
  have c1 : cnt (va_up h j v) 1 = cnt h 1 := by unfold cnt; rw [va_ne (by omega)]
  have c2 : cnt (va_up h j v) 2 = cnt h 2 := by unfold cnt; rw [va_ne (by omega)]
  unfold rg5
  rw [c0, c1, c2]
  refine ⟨fun f hf => ?_, fun c hc => ?_, fun u hu => ?_, ?_, ?_⟩
  · rw [va_ne (by omega), va_ne (by omega)]; exact r1 f hf
  · rw [va_ne (by omega)]; exact r2 c hc
  · rw [va_ne (by omega)]; exact r3 u hu
  · rw [va_ne (by omega)]; exact r4
  · rw [va_ne (by omega)]; exact r5
