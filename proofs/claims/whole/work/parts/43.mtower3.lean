/-! The reference: the tower -/
theorem N_same {A : Nat → Nat → Int64} (j : Nat) : va_up A j (A j) = A := by funext i; by_cases h : i = j <;> simp [va_up, h]
def cpL (f g : Nat → Int64) (sp dp k : Nat) : Nat → Int64 := fun j => if dp ≤ j ∧ j < dp + k then f (sp + (j - dp)) else g j
theorem cpL_up {f g : Nat → Int64} {sp dp k : Nat} : vp_updL (cpL f g sp dp k) (dp + k) (f (sp + k)) = cpL f g sp dp (k + 1) := by
  funext j
  by_cases h : j = dp + k
  · subst h
    have e1 : dp ≤ dp + k ∧ dp + k < dp + (k + 1) := by omega
    simp [vp_updL, cpL, e1]
  · by_cases h2 : dp ≤ j ∧ j < dp + k
    · have e2 : dp ≤ j ∧ j < dp + (k + 1) := by omega
      simp [vp_updL, cpL, h, h2, e2]
    · have e2 : ¬ (dp ≤ j ∧ j < dp + (k + 1)) := by omega
      simp [vp_updL, cpL, h, h2, e2]
theorem cpL_0 {f g : Nat → Int64} {sp dp : Nat} : cpL f g sp dp 0 = g := by
  funext j
  have : ¬ (dp ≤ j ∧ j < dp + 0) := by omega
  simp only [cpL, if_neg this]
theorem cpL_off {f g : Nat → Int64} {sp dp k j : Nat} (h : j < dp ∨ dp + k ≤ j) : cpL f g sp dp k j = g j := by
  have : ¬ (dp ≤ j ∧ j < dp + k) := by omega
  simp only [cpL, if_neg this]
theorem cpL_up0 {f g : Nat → Int64} {sp k : Nat} : vp_updL (cpL f g sp 0 k) k (f (sp + k)) = cpL f g sp 0 (k + 1) := by
  have := cpL_up (f := f) (g := g) (sp := sp) (dp := 0) (k := k)
  rwa [Nat.zero_add] at this
/-- a row of zeros, k long, before g -/
def zrF (g : Nat → Int32) (k : Nat) : Nat → Int32 := fun j => if j < k then nI 0 else g j
theorem zrF_up {g : Nat → Int32} {k : Nat} : upd (zrF g k) k (nI 0) = zrF g (k + 1) := by
  funext j
  by_cases h : j = k
  · subst h; simp [upd, zrF]
  · by_cases h2 : j < k
    · have : j < k + 1 := by omega
      simp [upd, zrF, h, h2, this]
    · have : ¬ j < k + 1 := by omega
      simp [upd, zrF, h, h2, this]
theorem zrF_0 {g : Nat → Int32} : zrF g 0 = g := by funext j; simp [zrF]
def clrH (g : Nat → Int32) : Nat → Int32 := va_up (va_up (zrF g 85) 3 (nI 100)) 4 (nI 6)
/-- the row s of a fresh tower, k told -/
def sT1 (h s : Nat → Int32) (k : Nat) : Nat → Int32 := fun j => if j < k then (if j < 85 then h j else nI 0) else s j
theorem sT1_up {h s : Nat → Int32} {k : Nat} : upd (sT1 h s k) k (if k < 85 then h k else nI 0) = sT1 h s (k + 1) := by
  funext j
  by_cases e : j = k
  · subst e; simp [upd, sT1]
  · by_cases h2 : j < k
    · have : j < k + 1 := by omega
      simp [upd, sT1, e, h2, this]
    · have : ¬ j < k + 1 := by omega
      simp [upd, sT1, e, h2, this]
theorem sT1_0 {h s : Nat → Int32} : sT1 h s 0 = s := by funext j; simp [sT1]
def sTw (h s : Nat → Int32) : Nat → Int32 := va_cpy (sT1 h s 325) (sT1 h s 325) 22 96 6
def tPs (x : tS) : Nat := (x.1.1 4).toNatClampNeg
/-- y is further on than x, and has read what it stands at behind x -/
def tAd (e : pE) (x y : tS) : Prop := pOk e.2.1 e.2.2.1 y.1.1 ∧ tPs x ≤ tPs y ∧ (y.1.1 11 = nI 3 → tPs x < tPs y)
theorem skN_ge {t : Nat → Int32} {sz : Nat} : ∀ (k p : Nat), p ≤ skN t sz k p
  | 0, p => Nat.le_refl _
  | k + 1, p => by
    rw [skN]
    split
    · exact Nat.le_trans (Nat.le_succ p) (skN_ge k (p + 1))
    · exact Nat.le_refl _
theorem rnN_ge {t : Nat → Int32} {sz : Nat} {sm : Bool} : ∀ (k : Nat) (r : Nat × Nat × Int64 × Int32 × Bool), r.1 ≤ (rnN t sz sm k r).1
  | 0, r => Nat.le_refl _
  | k + 1, r => by
    rw [rnN]
    split
    · exact Nat.le_trans (Nat.le_succ r.1) (rnN_ge (sm := sm) k (r.1 + 1, r.2.1 + 1, _, _, _))
    · exact Nat.le_refl _
theorem nI_4_3 : ¬ (nI 4 = nI 3) := by decide +kernel
theorem nI_0_3 : ¬ (nI 0 = nI 3) := by decide +kernel
theorem kd_3 {r : Nat × Nat × Int64 × Int32 × Bool} {sm : Bool} : ¬ (kdF r sm = nI 3) := by
  unfold kdF
  cases sm <;> (repeat' split) <;> first | decide +kernel | simp_all
theorem nx_ad {t : Nat → Int32} {sz lm : Nat} {q : pS} (h : pOk sz lm q.1) : (q.1 4).toNatClampNeg ≤ ((nxP t sz lm q).1 4).toNatClampNeg ∧ ((nxP t sz lm q).1 11 = nI 3 → (q.1 4).toNatClampNeg < ((nxP t sz lm q).1 4).toNatClampNeg) := by
  obtain ⟨h1, h2, h3, h5, p, hp, h4⟩ := h
  have hk := skN_le (t := t) (sz + 1 - p) p hp
  have hg := skN_ge (t := t) (sz := sz) (sz + 1 - p) p
  have e4 : (q.1 4).toNatClampNeg = p := by rw [h4, nI_clamp (by omega)]
  unfold nxP nextF
  simp only [e4]
  generalize skN t sz (sz + 1 - p) p = k at hk hg ⊢
  split
  · simp [va_up, nI_4_3, nI_clamp (show k < 2 ^ 31 by omega), hg]
  · split
    · simp [va_up, nI_0_3, nI_clamp (show k < 2 ^ 31 by omega), hg]
    · split
      · have hr := rnN_le (t := t) (sz := sz) (sm := smF (pkF t sz k)) (sz + 1) (k, 0, 0, nI 0, true) hk (Nat.zero_le _)
        have hr2 := rnN_ge (t := t) (sz := sz) (sm := smF (pkF t sz k)) (sz + 1) (k, 0, 0, nI 0, true)
        generalize rnN t sz (smF (pkF t sz k)) (sz + 1) (k, 0, 0, nI 0, true) = r at hr hr2 ⊢
        have hr3 : k ≤ r.1 := hr2
        simp [va_up, tkI, kd_3, nI_clamp (show r.1 < 2 ^ 31 by omega)]
        omega
      · simp [va_up, nI_clamp (show k + 1 < 2 ^ 31 by omega)]
        omega
theorem tAd_nx {e : pE} {x y : tS} (hk : pOk e.2.1 e.2.2.1 y.1.1) (h : tPs x ≤ tPs y) : tAd e x (nxT e y) := by
  have := nx_ad (t := e.1) (q := y.1) hk
  exact ⟨pOk_nx (q := y.1) hk, Nat.le_trans h this.1, fun g => Nat.lt_of_le_of_lt h (this.2 g)⟩
theorem tAd_n {e : pE} {x y : tS} (h : tAd e x y) : tAd e x (nxT e y) := tAd_nx h.1 h.2.1
theorem tAd_set {e : pE} {x y : tS} {j : Nat} {v : Int32} (h : tAd e x y) : tAd e x (setT j v y) := h
theorem tAd_and {e : pE} {x : tS} {r : Bool × tS} {f : tS → Bool × tS} (h : r.1 = true → tAd e x r.2) (hf : ∀ y, tAd e x y → (f y).1 = true → tAd e x (f y).2) : (andT r f).1 = true → tAd e x (andT r f).2 := by
  unfold andT
  by_cases hr : r.1 = true
  · rw [if_pos hr]; exact hf _ (h hr)
  · rw [if_neg hr]; exact fun g => absurd g hr
theorem tAd_takes {e : pE} {x y : tS} {lo hi : Int32} (h : tAd e x y) : (upT (takesP e.1 e.2.1 e.2.2.1 lo hi y.1) y).1 = true → tAd e x (upT (takesP e.1 e.2.1 e.2.2.1 lo hi y.1) y).2 := by
  unfold takesP
  split
  · intro g; cases g
  · split
    · intro _
      exact tAd_nx (y := ((va_up y.1.1 18 (y.1.1 14), y.1.2), y.2)) (pOk_up h.1 (by decide)) h.2.1
    · intro g; cases g
theorem tAd_puts {e : pE} {x y : tS} {to : Nat} {lo hi : Int32} (h : tAd e x y) : (putsT e to lo hi y).1 = true → tAd e x (putsT e to lo hi y).2 := tAd_and (tAd_takes h) (fun _ hz _ => tAd_set hz)
theorem tAd_fresh {e : pE} {x y : tS} {to : Nat} (h : tAd e x y) : (freshT e to y).1 = true → tAd e x (freshT e to y).2 := by
  unfold freshT
  split
  · split
    · intro g; cases g
    · intro _
      exact tAd_nx (y := (y.1, y.2.1, _)) h.1 h.2.1
  · intro g; cases g
theorem tAd_gift {e : pE} {x y : tS} (h : tAd e x y) : (upT (tGiftP e.1 e.2.1 e.2.2.1 e.2.2.2 y.1) y).1 = true → tAd e x (upT (tGiftP e.1 e.2.1 e.2.2.1 e.2.2.2 y.1) y).2 := by
  unfold tGiftP
  split
  · intro _
    exact tAd_nx (y := ((va_up y.1.1 18 _, y.1.2), y.2)) (pOk_up h.1 (by decide)) h.2.1
  · intro g; cases g
theorem tAd_looks {e : pE} {x y : tS} {nm : Nat → Int64} {fr m : Nat} (h : tAd e x y) : (upT (looksP e.2.2.2 nm fr m y.1) y).1 = true → tAd e x (upT (looksP e.2.2.2 nm fr m y.1) y).2 := by
  unfold looksP
  split
  · split
    · intro _
      exact ⟨pOk_up h.1 (by decide), h.2⟩
    · intro g; cases g
  · intro g; cases g
theorem tAd_name {e : pE} {x y : tS} {nm : Nat → Int64} {fr m : Nat} (h : tAd e x y) : (upT (tNameP e.1 e.2.1 e.2.2.1 e.2.2.2 nm fr m y.1) y).1 = true → tAd e x (upT (tNameP e.1 e.2.1 e.2.2.1 e.2.2.2 nm fr m y.1) y).2 := by
  unfold tNameP
  by_cases hl : (looksP e.2.2.2 nm fr m y.1).1 = true
  · rw [if_pos hl]
    intro _
    have := tAd_looks (nm := nm) (fr := fr) (m := m) h hl
    exact tAd_nx (y := ((looksP e.2.2.2 nm fr m y.1).2, y.2)) this.1 this.2.1
  · rw [if_neg hl]
    exact fun g => absurd g hl
theorem tAd_cold {e : pE} {x y : tS} {k : Nat} (h : tAd e x y) : tAd e x (coldT e k y) := by
  unfold coldT
  split
  · exact tAd_n (tAd_set h)
  · exact h
theorem tAd_0 {e : pE} {x : tS} (hk : pOk e.2.1 e.2.2.1 x.1.1) : tAd e x (nxT e x) := tAd_nx hk (Nat.le_refl _)
theorem tAd_line {e : pE} {x : tS} (hk : pOk e.2.1 e.2.2.1 x.1.1) : (lineT e x).1 = true → tAd e x (lineT e x).2 := by
  have h0 := tAd_0 hk
  unfold lineT
  split
  · unfold floorT
    split
    · intro g; cases g
    · exact tAd_and (tAd_and (tAd_fresh h0) (fun _ hy => tAd_gift hy)) (fun _ hy => tAd_and (tAd_puts (tAd_set hy)) (fun _ hz _ => tAd_set (tAd_cold hz)))
  split
  · unfold manT
    split
    · intro g; cases g
    · exact tAd_and (tAd_and (tAd_fresh h0) (fun _ hy => tAd_puts hy)) (fun _ hy _ => tAd_set hy)
  split
  · unfold manT
    split
    · intro g; cases g
    · exact tAd_and (tAd_and (tAd_fresh h0) (fun _ hy => tAd_puts hy)) (fun _ hy _ => tAd_set hy)
  split
  · unfold lawT
    split
    · split
      · intro g; cases g
      · exact tAd_puts (tAd_n h0)
    · intro g; cases g
  split
  · unfold likeT
    refine tAd_and (tAd_name h0) (fun z hz => tAd_and (tAd_looks hz) (fun w hw => ?_))
    split
    · intro g; cases g
    · exact tAd_puts (tAd_n hw)
  split
  · unfold onceT
    split
    · intro g; cases g
    · exact tAd_puts (tAd_nx (y := ((va_up x.1.1 20 _, x.1.2), x.2)) (pOk_up hk (by decide)) (Nat.le_refl _))
  split
  · unfold onceT
    split
    · intro g; cases g
    · exact tAd_puts (tAd_nx (y := ((va_up x.1.1 20 _, x.1.2), x.2)) (pOk_up hk (by decide)) (Nat.le_refl _))
  · intro g; cases g
/-- the lines of a tower, till the stop or a fault -/
def lnT (x : tS) : tS := ((va_up x.1.1 19 (x.1.1 19 + nI 1), x.1.2), x.2)
def towN (e : pE) : Nat → tS → Bool × tS
  | 0, x => (false, x)
  | k + 1, x => if x.1.1 11 = nI 0 then (true, x) else
    if (lineT e x).1 = true then
      (if (upT (signP e.1 e.2.1 e.2.2.1 (nI 59) (lineT e x).2.1) (lineT e x).2).1 = true then towN e k (lnT (upT (signP e.1 e.2.1 e.2.2.1 (nI 59) (lineT e x).2.1) (lineT e x).2).2)
      else (false, (upT (signP e.1 e.2.1 e.2.2.1 (nI 59) (lineT e x).2.1) (lineT e x).2).2))
    else (false, (lineT e x).2)
theorem tOk_bump {e : pE} {x z : tS} {j most : Nat} (hk : tOk e x) (h1 : tKp e x z) (hj : j = 0 ∧ most = 8 ∨ j = 1 ∧ most = 6 ∨ j = 2 ∧ most = 5) (h8 : ¬ x.2.1 j = nI most) : tOk e (setT j (z.2.1 j + nI 1) z) := by
  obtain ⟨k1, k2⟩ := h1
  obtain ⟨_, ⟨a0, a1⟩, ⟨b0, b1⟩, c0, c1⟩ := hk
  have z0 := k2 0 (by decide)
  have z1 := k2 1 (by decide)
  have z2 := k2 2 (by decide)
  rcases hj with ⟨rfl, rfl⟩ | ⟨rfl, rfl⟩ | ⟨rfl, rfl⟩
  · have hlt : cnt x.2.1 0 < 8 := by
      rcases Nat.lt_or_ge (cnt x.2.1 0) 8 with g | g
      · exact g
      · exact absurd (by rw [a0]; congr 1; omega) h8
    refine ⟨k1, ?_, ?_, ?_⟩
    · simp only [setT, cnt, va_up_self, z0]
      rw [a0, nI_add, nI_clamp (by omega)]
      exact ⟨rfl, by omega⟩
    · simp only [setT, cnt, va_up_app, Nat.reduceEqDiff, if_false, z1]
      exact ⟨b0, b1⟩
    · simp only [setT, cnt, va_up_app, Nat.reduceEqDiff, if_false, z2]
      exact ⟨c0, c1⟩
  · have hlt : cnt x.2.1 1 < 6 := by
      rcases Nat.lt_or_ge (cnt x.2.1 1) 6 with g | g
      · exact g
      · exact absurd (by rw [b0]; congr 1; omega) h8
    refine ⟨k1, ?_, ?_, ?_⟩
    · simp only [setT, cnt, va_up_app, Nat.reduceEqDiff, if_false, z0]
      exact ⟨a0, a1⟩
    · simp only [setT, cnt, va_up_self, z1]
      rw [b0, nI_add, nI_clamp (by omega)]
      exact ⟨rfl, by omega⟩
    · simp only [setT, cnt, va_up_app, Nat.reduceEqDiff, if_false, z2]
      exact ⟨c0, c1⟩
  · have hlt : cnt x.2.1 2 < 5 := by
      rcases Nat.lt_or_ge (cnt x.2.1 2) 5 with g | g
      · exact g
      · exact absurd (by rw [c0]; congr 1; omega) h8
    refine ⟨k1, ?_, ?_, ?_⟩
    · simp only [setT, cnt, va_up_app, Nat.reduceEqDiff, if_false, z0]
      exact ⟨a0, a1⟩
    · simp only [setT, cnt, va_up_app, Nat.reduceEqDiff, if_false, z1]
      exact ⟨b0, b1⟩
    · simp only [setT, cnt, va_up_self, z2]
      rw [c0, nI_add, nI_clamp (by omega)]
      exact ⟨rfl, by omega⟩
theorem tOk_and {e : pE} {x : tS} {r : Bool × tS} {f : tS → Bool × tS} (hk : tOk e x) (h : tKp e x r.2) (hf : ∀ y, tKp e x y → tOk e (f y).2) : tOk e (andT r f).2 := by
  unfold andT
  split
  · exact hf _ h
  · exact tKp_ok hk h
theorem tOk_line {e : pE} {x : tS} (hk : tOk e x) : tOk e (lineT e x).2 := by
  have h0 := tKp_nx (tKp_r hk)
  unfold lineT
  split
  · unfold floorT
    split
    · exact tKp_ok hk (tKp_bad (tKp_r hk))
    · rename_i h8
      refine tOk_and hk (tKp_and (tKp_fresh h0) (fun y hy => ⟨pOk_tGift hy.1, hy.2⟩)) (fun y hy => tOk_and hk (tKp_puts (by omega) (tKp_set (by omega) hy)) (fun z hz => tOk_bump hk ?_ (Or.inl ⟨rfl, rfl⟩) h8))
      unfold coldT
      split
      · exact tKp_nx (tKp_set (by omega) hz)
      · exact hz
  split
  · unfold manT
    split
    · exact tKp_ok hk (tKp_bad (tKp_r hk))
    · rename_i h8
      exact tOk_and hk (tKp_and (tKp_fresh h0) (fun y hy => tKp_puts (by omega) hy)) (fun z hz => tOk_bump hk hz (Or.inr (Or.inl ⟨rfl, rfl⟩)) h8)
  split
  · unfold manT
    split
    · exact tKp_ok hk (tKp_bad (tKp_r hk))
    · rename_i h8
      exact tOk_and hk (tKp_and (tKp_fresh h0) (fun y hy => tKp_puts (by omega) hy)) (fun z hz => tOk_bump hk hz (Or.inr (Or.inr ⟨rfl, rfl⟩)) h8)
  split
  · unfold lawT
    split
    · split
      · exact tKp_ok hk (tKp_bad h0)
      · exact tKp_ok hk (tKp_puts (by omega) (tKp_nx h0))
    · exact tKp_ok hk (tKp_bad h0)
  split
  · unfold likeT
    refine tOk_and hk ⟨pOk_tName h0.1, h0.2⟩ (fun z hz => tOk_and hk ⟨pOk_looks hz.1, hz.2⟩ (fun w hw => ?_))
    split
    · exact tKp_ok hk (tKp_bad hw)
    · exact tKp_ok hk (tKp_puts (by omega) (tKp_nx hw))
  split
  · unfold onceT
    split
    · exact tKp_ok hk (tKp_bad (tKp_r hk))
    · exact tKp_ok hk (tKp_puts (by omega) (tKp_nx (y := ((va_up x.1.1 20 _, x.1.2), x.2)) ⟨pOk_up hk.1 (by decide), fun _ _ => rfl⟩))
  split
  · unfold onceT
    split
    · exact tKp_ok hk (tKp_bad (tKp_r hk))
    · exact tKp_ok hk (tKp_puts (by omega) (tKp_nx (y := ((va_up x.1.1 20 _, x.1.2), x.2)) ⟨pOk_up hk.1 (by decide), fun _ _ => rfl⟩))
  · exact tKp_ok hk (tKp_bad (tKp_r hk))
theorem pOk_sign {e : pE} {c : Int32} {q : pS} (h : pOk e.2.1 e.2.2.1 q.1) : pOk e.2.1 e.2.2.1 (signP e.1 e.2.1 e.2.2.1 c q).2.1 := by
  unfold signP
  split
  · exact pOk_nx h
  · exact pOk_bad h
theorem sign_gt {e : pE} {c : Int32} {x y : tS} (h : tAd e x y) (hs : (upT (signP e.1 e.2.1 e.2.2.1 c y.1) y).1 = true) : tPs x < tPs (upT (signP e.1 e.2.1 e.2.2.1 c y.1) y).2 := by
  unfold signP at hs ⊢
  by_cases hb : isSignB c y.1 = true
  · rw [if_pos hb]
    have h3 : y.1.1 11 = nI 3 := by
      unfold isSignB at hb
      simp at hb
      exact hb.1
    exact Nat.lt_of_lt_of_le (h.2.2 h3) (nx_ad (q := y.1) h.1).1
  · rw [if_neg hb] at hs; cases hs
section MTy
variable {G : iG} {d : Nat} {b : Nat} {I : Nat → Int32} {W : Int64} {A : Nat → Nat → Int32} {N : Nat → Nat → Int64} {h0 h : iH} {Q : Option Value → iH → Prop} {e : pE}
theorem L_clears {g0 : Nat → Int32} : ∀ (k g : Nat), g + k = 85 → K G d 0 0 mX12_clears 2 [some (.ref b), some (.int (nI g))] [] (mH G b I W (va_up A 3 (zrF g0 g)) N h0) (iR none (mH G b I W (va_up A 3 (clrH g0)) N h0)) := by
  intro k
  induction k with
  | zero =>
    intro g hg
    obtain rfl : g = 85 := by omega
    refine wp_ok (cuts := []) 30 _ _ _ _ ?_
    simp (config := { maxSteps := 2000000 }) (disch := omega) only [wp_su, wp_0, eX12_clears_0, eX12_clears_1, eX12_clears_2, eX12_clears_3, eX12_clears_5, eX12_clears_8, eX12_clears_9, eX12_clears_12, eX12_clears_13, eX12_clears_14, eX12_clears_15, eX12_clears_18, eX12_clears_21, eX12_clears_22, eX12_clears_25, eX12_clears_26, eX12_clears_28, eX12_clears_29, eX12_clears_30, eX12_clears_33, eX12_clears_34, eX12_clears_36, eX12_clears_37, S_aload_n0, S_aload_n0N, S_bipush, S_getf, S_goto, S_iast, S_icmp_ge, S_iconst, S_iinc_1, S_iload_n1, S_istore_1, S_return, g_RX12_37, iCk_i, iCk_l, iCk_n, iCk_o, iCk_r, iS1_1, jb_100, jb_6, jb_85, jc_0, jc_1, jc_3, jc_4, aX12_clears, bX12_clears, rX12_clears, nar_i, nar_n0, nar_n1, List.mem_cons, List.not_mem_nil, or_false, or_self, if_false, if_true, true_and, and_true, Nat.reduceEqDiff, Nat.reduceAdd, Nat.reduceLT, reduceIte, iSet_1, iEnt_e, iEn_n, iEn_i, iEn_r, iEn_u, iEn_l, List.cons_append, List.nil_append, List.length_cons, List.length_nil, Nat.reduceSub, List.replicate_succ, List.replicate_zero, Nat.zero_add, nI_lit0, va_up_app, nI_add, nI_mul, nI_sub, nI_clamp, vp_nI, nI_le_t, nI_le_f, nI_lt_t, nI_lt_f, imp_t, imp_f, not_true_eq_false, not_false_eq_true, iR_t, nar_zI, zI_f0, zI_t0, va_up_same, upd_ne, upd_self, m_o, mFs_len, mf_7, m_3, mu_3]
    exact iR_i
  | succ k ih =>
    intro g hg
    refine wp_ok (cuts := []) 1 _ _ _ _ ?_
    simp only [wp_su, wp_0, eX12_clears_2, S_iload_n1, List.not_mem_nil, if_false]
    refine wp_ok (cuts := [2]) 40 _ _ _ _ ?_
    simp (config := { maxSteps := 2000000 }) (disch := omega) only [wp_su, wp_0, eX12_clears_0, eX12_clears_1, eX12_clears_2, eX12_clears_3, eX12_clears_5, eX12_clears_8, eX12_clears_9, eX12_clears_12, eX12_clears_13, eX12_clears_14, eX12_clears_15, eX12_clears_18, eX12_clears_21, eX12_clears_22, eX12_clears_25, eX12_clears_26, eX12_clears_28, eX12_clears_29, eX12_clears_30, eX12_clears_33, eX12_clears_34, eX12_clears_36, eX12_clears_37, S_aload_n0, S_aload_n0N, S_bipush, S_getf, S_goto, S_iast, S_icmp_ge, S_iconst, S_iinc_1, S_iload_n1, S_istore_1, S_return, g_RX12_37, iCk_i, iCk_l, iCk_n, iCk_o, iCk_r, iS1_1, jb_100, jb_6, jb_85, jc_0, jc_1, jc_3, jc_4, aX12_clears, bX12_clears, rX12_clears, nar_i, nar_n0, nar_n1, List.mem_cons, List.not_mem_nil, or_false, or_self, if_false, if_true, true_and, and_true, Nat.reduceEqDiff, Nat.reduceAdd, Nat.reduceLT, reduceIte, iSet_1, iEnt_e, iEn_n, iEn_i, iEn_r, iEn_u, iEn_l, List.cons_append, List.nil_append, List.length_cons, List.length_nil, Nat.reduceSub, List.replicate_succ, List.replicate_zero, Nat.zero_add, nI_lit0, va_up_app, nI_add, nI_mul, nI_sub, nI_clamp, vp_nI, nI_le_t, nI_le_f, nI_lt_t, nI_lt_f, imp_t, imp_f, not_true_eq_false, not_false_eq_true, iR_t, nar_zI, zI_f0, zI_t0, va_up_same, upd_ne, upd_self, m_o, mFs_len, mf_7, m_3, mu_3, zrF_up]
    exact ih (g + 1) (by omega)
theorem t_clears : C G d 0 0 mX12_clears [.ref b] (mH G b I W A N h0) (iR none (mH G b I W (va_up A 3 (clrH (A 3))) N h0)) := by
  refine C_in p_RX12 (Nat.le_of_ble_eq_true rfl) rfl ?_
  refine wp_ok (cuts := [2]) 30 _ _ _ _ ?_
  simp (config := { maxSteps := 2000000 }) (disch := omega) only [wp_su, wp_0, eX12_clears_0, eX12_clears_1, eX12_clears_2, eX12_clears_3, eX12_clears_5, eX12_clears_8, eX12_clears_9, eX12_clears_12, eX12_clears_13, eX12_clears_14, eX12_clears_15, eX12_clears_18, eX12_clears_21, eX12_clears_22, eX12_clears_25, eX12_clears_26, eX12_clears_28, eX12_clears_29, eX12_clears_30, eX12_clears_33, eX12_clears_34, eX12_clears_36, eX12_clears_37, S_aload_n0, S_aload_n0N, S_bipush, S_getf, S_goto, S_iast, S_icmp_ge, S_iconst, S_iinc_1, S_iload_n1, S_istore_1, S_return, g_RX12_37, iCk_i, iCk_l, iCk_n, iCk_o, iCk_r, iS1_1, jb_100, jb_6, jb_85, jc_0, jc_1, jc_3, jc_4, aX12_clears, bX12_clears, rX12_clears, nar_i, nar_n0, nar_n1, List.mem_cons, List.not_mem_nil, or_false, or_self, if_false, if_true, true_and, and_true, Nat.reduceEqDiff, Nat.reduceAdd, Nat.reduceLT, reduceIte, iSet_1, iEnt_e, iEn_n, iEn_i, iEn_r, iEn_u, iEn_l, List.cons_append, List.nil_append, List.length_cons, List.length_nil, Nat.reduceSub, List.replicate_succ, List.replicate_zero, Nat.zero_add, nI_lit0, va_up_app, nI_add, nI_mul, nI_sub, nI_clamp, vp_nI, nI_le_t, nI_le_f, nI_lt_t, nI_lt_f, imp_t, imp_f, not_true_eq_false, not_false_eq_true, iR_t, nar_zI, zI_f0, zI_t0, va_up_same, upd_ne, upd_self, m_o, mFs_len, mf_7, m_3, mu_3]
  have k := L_clears (G := G) (d := d) (b := b) (I := I) (W := W) (A := A) (N := N) (h0 := h0) (g0 := A 3) 85 0 rfl
  rw [zrF_0, A_same] at k
  exact k
theorem L_tower1 (cont : K G (d + 6) 0 0 mX12_tower 115 [some (.ref b), some (.int (nI 325))] [] (mH G b I W (va_up A 2 (sT1 (A 3) (A 2) 325)) N h0) Q) : ∀ (k g : Nat), g + k = 325 → K G (d + 6) 0 0 mX12_tower 80 [some (.ref b), some (.int (nI g))] [] (mH G b I W (va_up A 2 (sT1 (A 3) (A 2) g)) N h0) Q := by
  intro k
  induction k with
  | zero =>
    intro g hg
    obtain rfl : g = 325 := by omega
    refine wp_ok (cuts := [115]) 30 _ _ _ _ ?_
    simp (config := { maxSteps := 2000000 }) (disch := omega) only [wp_su, wp_0, eX12_tower_0, eX12_tower_1, eX12_tower_2, eX12_tower_5, eX12_tower_6, eX12_tower_9, eX12_tower_12, eX12_tower_13, eX12_tower_14, eX12_tower_17, eX12_tower_18, eX12_tower_19, eX12_tower_22, eX12_tower_23, eX12_tower_24, eX12_tower_27, eX12_tower_28, eX12_tower_31, eX12_tower_32, eX12_tower_35, eX12_tower_36, eX12_tower_39, eX12_tower_42, eX12_tower_43, eX12_tower_46, eX12_tower_49, eX12_tower_50, eX12_tower_52, eX12_tower_55, eX12_tower_58, eX12_tower_59, eX12_tower_60, eX12_tower_63, eX12_tower_64, eX12_tower_65, eX12_tower_66, eX12_tower_67, eX12_tower_70, eX12_tower_71, eX12_tower_72, eX12_tower_75, eX12_tower_78, eX12_tower_79, eX12_tower_80, eX12_tower_81, eX12_tower_84, eX12_tower_87, eX12_tower_88, eX12_tower_91, eX12_tower_92, eX12_tower_93, eX12_tower_95, eX12_tower_98, eX12_tower_99, eX12_tower_102, eX12_tower_103, eX12_tower_104, eX12_tower_107, eX12_tower_108, eX12_tower_109, eX12_tower_112, eX12_tower_115, eX12_tower_116, eX12_tower_117, eX12_tower_118, eX12_tower_120, eX12_tower_123, eX12_tower_124, eX12_tower_127, eX12_tower_128, eX12_tower_129, eX12_tower_132, eX12_tower_134, eX12_tower_135, eX12_tower_136, eX12_tower_137, eX12_tower_138, eX12_tower_141, eX12_tower_144, eX12_tower_145, eX12_tower_146, eX12_tower_147, eX12_tower_149, eX12_tower_152, eX12_tower_153, eX12_tower_156, eX12_tower_158, eX12_tower_159, eX12_tower_160, eX12_tower_161, eX12_tower_164, eX12_tower_166, eX12_tower_167, eX12_tower_168, eX12_tower_169, eX12_tower_170, eX12_tower_173, eX12_tower_176, eX12_tower_177, eX12_tower_178, eX12_tower_181, eX12_tower_182, eX12_tower_185, S_aload_n0, S_aload_n0N, S_bipush, S_callV, S_dupi, S_dupr, S_getf, S_goto, S_iadd, S_iald, S_iast, S_icmp_ge, S_iconst, S_if_eq, S_if_ne, S_iinc_1, S_iload_n1, S_ireturn, S_istore_1, S_isub, S_lald, S_last, S_puti, S_putl, S_sipush, g_RX12_1, g_RX12_189, g_RX12_206, g_RX12_209, g_RX12_253, g_RX12_284, g_RX12_293, g_RX12_33, g_RX12_37, g_RX12_43, iCk_i, iCk_l, iCk_n, iCk_o, iCk_r, iS1_1, ic_m1, jb_19, jb_22, jb_59, jb_6, jb_85, jb_96, jc_0, jc_1, js_325, js_900, aX12_tower, bX12_tower, rX12_tower, nar_i, nar_n0, nar_n1, List.mem_cons, List.not_mem_nil, or_false, or_self, if_false, if_true, true_and, and_true, Nat.reduceEqDiff, Nat.reduceAdd, Nat.reduceLT, reduceIte, iSet_1, iEnt_e, iEn_n, iEn_i, iEn_r, iEn_u, iEn_l, List.cons_append, List.nil_append, List.length_cons, List.length_nil, Nat.reduceSub, List.replicate_succ, List.replicate_zero, Nat.zero_add, nI_lit0, va_up_app, nI_add, nI_mul, nI_sub, nI_clamp, vp_nI, nI_le_t, nI_le_f, nI_lt_t, nI_lt_f, imp_t, imp_f, not_true_eq_false, not_false_eq_true, iR_t, nar_zI, zI_f0, zI_t0, va_up_same, upd_ne, upd_self, m_o, mFs_len, mf_0, mk_0, mp_0, mf_15, mk_15, mp_15, mf_19, mk_19, mp_19, mf_20, mk_20, mp_20, mf_11, mf_16, mf_6, m_2, mu_2, mf_7, m_3, mu_3, mf_9, m_5, mu_5, mf_23, mk_23, mp_23]
    exact cont
  | succ k ih =>
    intro g hg
    have e := ih (g + 1) (by omega)
    rw [← sT1_up] at e
    refine wp_ok (cuts := []) 1 _ _ _ _ ?_
    simp only [wp_su, wp_0, eX12_tower_80, S_iload_n1, List.not_mem_nil, if_false]
    by_cases h9 : g < 85
    · rw [if_pos h9] at e
      refine wp_ok (cuts := [80]) 40 _ _ _ _ ?_
      simp (config := { maxSteps := 2000000 }) (disch := omega) only [wp_su, wp_0, eX12_tower_0, eX12_tower_1, eX12_tower_2, eX12_tower_5, eX12_tower_6, eX12_tower_9, eX12_tower_12, eX12_tower_13, eX12_tower_14, eX12_tower_17, eX12_tower_18, eX12_tower_19, eX12_tower_22, eX12_tower_23, eX12_tower_24, eX12_tower_27, eX12_tower_28, eX12_tower_31, eX12_tower_32, eX12_tower_35, eX12_tower_36, eX12_tower_39, eX12_tower_42, eX12_tower_43, eX12_tower_46, eX12_tower_49, eX12_tower_50, eX12_tower_52, eX12_tower_55, eX12_tower_58, eX12_tower_59, eX12_tower_60, eX12_tower_63, eX12_tower_64, eX12_tower_65, eX12_tower_66, eX12_tower_67, eX12_tower_70, eX12_tower_71, eX12_tower_72, eX12_tower_75, eX12_tower_78, eX12_tower_79, eX12_tower_80, eX12_tower_81, eX12_tower_84, eX12_tower_87, eX12_tower_88, eX12_tower_91, eX12_tower_92, eX12_tower_93, eX12_tower_95, eX12_tower_98, eX12_tower_99, eX12_tower_102, eX12_tower_103, eX12_tower_104, eX12_tower_107, eX12_tower_108, eX12_tower_109, eX12_tower_112, eX12_tower_115, eX12_tower_116, eX12_tower_117, eX12_tower_118, eX12_tower_120, eX12_tower_123, eX12_tower_124, eX12_tower_127, eX12_tower_128, eX12_tower_129, eX12_tower_132, eX12_tower_134, eX12_tower_135, eX12_tower_136, eX12_tower_137, eX12_tower_138, eX12_tower_141, eX12_tower_144, eX12_tower_145, eX12_tower_146, eX12_tower_147, eX12_tower_149, eX12_tower_152, eX12_tower_153, eX12_tower_156, eX12_tower_158, eX12_tower_159, eX12_tower_160, eX12_tower_161, eX12_tower_164, eX12_tower_166, eX12_tower_167, eX12_tower_168, eX12_tower_169, eX12_tower_170, eX12_tower_173, eX12_tower_176, eX12_tower_177, eX12_tower_178, eX12_tower_181, eX12_tower_182, eX12_tower_185, S_aload_n0, S_aload_n0N, S_bipush, S_callV, S_dupi, S_dupr, S_getf, S_goto, S_iadd, S_iald, S_iast, S_icmp_ge, S_iconst, S_if_eq, S_if_ne, S_iinc_1, S_iload_n1, S_ireturn, S_istore_1, S_isub, S_lald, S_last, S_puti, S_putl, S_sipush, g_RX12_1, g_RX12_189, g_RX12_206, g_RX12_209, g_RX12_253, g_RX12_284, g_RX12_293, g_RX12_33, g_RX12_37, g_RX12_43, iCk_i, iCk_l, iCk_n, iCk_o, iCk_r, iS1_1, ic_m1, jb_19, jb_22, jb_59, jb_6, jb_85, jb_96, jc_0, jc_1, js_325, js_900, aX12_tower, bX12_tower, rX12_tower, nar_i, nar_n0, nar_n1, List.mem_cons, List.not_mem_nil, or_false, or_self, if_false, if_true, true_and, and_true, Nat.reduceEqDiff, Nat.reduceAdd, Nat.reduceLT, reduceIte, iSet_1, iEnt_e, iEn_n, iEn_i, iEn_r, iEn_u, iEn_l, List.cons_append, List.nil_append, List.length_cons, List.length_nil, Nat.reduceSub, List.replicate_succ, List.replicate_zero, Nat.zero_add, nI_lit0, va_up_app, nI_add, nI_mul, nI_sub, nI_clamp, vp_nI, nI_le_t, nI_le_f, nI_lt_t, nI_lt_f, imp_t, imp_f, not_true_eq_false, not_false_eq_true, iR_t, nar_zI, zI_f0, zI_t0, va_up_same, upd_ne, upd_self, m_o, mFs_len, mf_0, mk_0, mp_0, mf_15, mk_15, mp_15, mf_19, mk_19, mp_19, mf_20, mk_20, mp_20, mf_11, mf_16, mf_6, m_2, mu_2, mf_7, m_3, mu_3, mf_9, m_5, mu_5, mf_23, mk_23, mp_23]
      exact e
    · rw [if_neg h9] at e
      refine wp_ok (cuts := [80]) 40 _ _ _ _ ?_
      simp (config := { maxSteps := 2000000 }) (disch := omega) only [wp_su, wp_0, eX12_tower_0, eX12_tower_1, eX12_tower_2, eX12_tower_5, eX12_tower_6, eX12_tower_9, eX12_tower_12, eX12_tower_13, eX12_tower_14, eX12_tower_17, eX12_tower_18, eX12_tower_19, eX12_tower_22, eX12_tower_23, eX12_tower_24, eX12_tower_27, eX12_tower_28, eX12_tower_31, eX12_tower_32, eX12_tower_35, eX12_tower_36, eX12_tower_39, eX12_tower_42, eX12_tower_43, eX12_tower_46, eX12_tower_49, eX12_tower_50, eX12_tower_52, eX12_tower_55, eX12_tower_58, eX12_tower_59, eX12_tower_60, eX12_tower_63, eX12_tower_64, eX12_tower_65, eX12_tower_66, eX12_tower_67, eX12_tower_70, eX12_tower_71, eX12_tower_72, eX12_tower_75, eX12_tower_78, eX12_tower_79, eX12_tower_80, eX12_tower_81, eX12_tower_84, eX12_tower_87, eX12_tower_88, eX12_tower_91, eX12_tower_92, eX12_tower_93, eX12_tower_95, eX12_tower_98, eX12_tower_99, eX12_tower_102, eX12_tower_103, eX12_tower_104, eX12_tower_107, eX12_tower_108, eX12_tower_109, eX12_tower_112, eX12_tower_115, eX12_tower_116, eX12_tower_117, eX12_tower_118, eX12_tower_120, eX12_tower_123, eX12_tower_124, eX12_tower_127, eX12_tower_128, eX12_tower_129, eX12_tower_132, eX12_tower_134, eX12_tower_135, eX12_tower_136, eX12_tower_137, eX12_tower_138, eX12_tower_141, eX12_tower_144, eX12_tower_145, eX12_tower_146, eX12_tower_147, eX12_tower_149, eX12_tower_152, eX12_tower_153, eX12_tower_156, eX12_tower_158, eX12_tower_159, eX12_tower_160, eX12_tower_161, eX12_tower_164, eX12_tower_166, eX12_tower_167, eX12_tower_168, eX12_tower_169, eX12_tower_170, eX12_tower_173, eX12_tower_176, eX12_tower_177, eX12_tower_178, eX12_tower_181, eX12_tower_182, eX12_tower_185, S_aload_n0, S_aload_n0N, S_bipush, S_callV, S_dupi, S_dupr, S_getf, S_goto, S_iadd, S_iald, S_iast, S_icmp_ge, S_iconst, S_if_eq, S_if_ne, S_iinc_1, S_iload_n1, S_ireturn, S_istore_1, S_isub, S_lald, S_last, S_puti, S_putl, S_sipush, g_RX12_1, g_RX12_189, g_RX12_206, g_RX12_209, g_RX12_253, g_RX12_284, g_RX12_293, g_RX12_33, g_RX12_37, g_RX12_43, iCk_i, iCk_l, iCk_n, iCk_o, iCk_r, iS1_1, ic_m1, jb_19, jb_22, jb_59, jb_6, jb_85, jb_96, jc_0, jc_1, js_325, js_900, aX12_tower, bX12_tower, rX12_tower, nar_i, nar_n0, nar_n1, List.mem_cons, List.not_mem_nil, or_false, or_self, if_false, if_true, true_and, and_true, Nat.reduceEqDiff, Nat.reduceAdd, Nat.reduceLT, reduceIte, iSet_1, iEnt_e, iEn_n, iEn_i, iEn_r, iEn_u, iEn_l, List.cons_append, List.nil_append, List.length_cons, List.length_nil, Nat.reduceSub, List.replicate_succ, List.replicate_zero, Nat.zero_add, nI_lit0, va_up_app, nI_add, nI_mul, nI_sub, nI_clamp, vp_nI, nI_le_t, nI_le_f, nI_lt_t, nI_lt_f, imp_t, imp_f, not_true_eq_false, not_false_eq_true, iR_t, nar_zI, zI_f0, zI_t0, va_up_same, upd_ne, upd_self, m_o, mFs_len, mf_0, mk_0, mp_0, mf_15, mk_15, mp_15, mf_19, mk_19, mp_19, mf_20, mk_20, mp_20, mf_11, mf_16, mf_6, m_2, mu_2, mf_7, m_3, mu_3, mf_9, m_5, mu_5, mf_23, mk_23, mp_23]
      exact e
theorem L_tower2 (cont : K G (d + 6) 0 0 mX12_tower 144 [some (.ref b), some (.int (nI 19))] [] (mH G b I W A (va_up N 5 (cpL (N 5) (N 5) 19 0 19)) h0) Q) : ∀ (k g : Nat), g + k = 19 → K G (d + 6) 0 0 mX12_tower 117 [some (.ref b), some (.int (nI g))] [] (mH G b I W A (va_up N 5 (cpL (N 5) (N 5) 19 0 g)) h0) Q := by
  intro k
  induction k with
  | zero =>
    intro g hg
    obtain rfl : g = 19 := by omega
    refine wp_ok (cuts := [144]) 30 _ _ _ _ ?_
    simp (config := { maxSteps := 2000000 }) (disch := omega) only [wp_su, wp_0, eX12_tower_0, eX12_tower_1, eX12_tower_2, eX12_tower_5, eX12_tower_6, eX12_tower_9, eX12_tower_12, eX12_tower_13, eX12_tower_14, eX12_tower_17, eX12_tower_18, eX12_tower_19, eX12_tower_22, eX12_tower_23, eX12_tower_24, eX12_tower_27, eX12_tower_28, eX12_tower_31, eX12_tower_32, eX12_tower_35, eX12_tower_36, eX12_tower_39, eX12_tower_42, eX12_tower_43, eX12_tower_46, eX12_tower_49, eX12_tower_50, eX12_tower_52, eX12_tower_55, eX12_tower_58, eX12_tower_59, eX12_tower_60, eX12_tower_63, eX12_tower_64, eX12_tower_65, eX12_tower_66, eX12_tower_67, eX12_tower_70, eX12_tower_71, eX12_tower_72, eX12_tower_75, eX12_tower_78, eX12_tower_79, eX12_tower_80, eX12_tower_81, eX12_tower_84, eX12_tower_87, eX12_tower_88, eX12_tower_91, eX12_tower_92, eX12_tower_93, eX12_tower_95, eX12_tower_98, eX12_tower_99, eX12_tower_102, eX12_tower_103, eX12_tower_104, eX12_tower_107, eX12_tower_108, eX12_tower_109, eX12_tower_112, eX12_tower_115, eX12_tower_116, eX12_tower_117, eX12_tower_118, eX12_tower_120, eX12_tower_123, eX12_tower_124, eX12_tower_127, eX12_tower_128, eX12_tower_129, eX12_tower_132, eX12_tower_134, eX12_tower_135, eX12_tower_136, eX12_tower_137, eX12_tower_138, eX12_tower_141, eX12_tower_144, eX12_tower_145, eX12_tower_146, eX12_tower_147, eX12_tower_149, eX12_tower_152, eX12_tower_153, eX12_tower_156, eX12_tower_158, eX12_tower_159, eX12_tower_160, eX12_tower_161, eX12_tower_164, eX12_tower_166, eX12_tower_167, eX12_tower_168, eX12_tower_169, eX12_tower_170, eX12_tower_173, eX12_tower_176, eX12_tower_177, eX12_tower_178, eX12_tower_181, eX12_tower_182, eX12_tower_185, S_aload_n0, S_aload_n0N, S_bipush, S_callV, S_dupi, S_dupr, S_getf, S_goto, S_iadd, S_iald, S_iast, S_icmp_ge, S_iconst, S_if_eq, S_if_ne, S_iinc_1, S_iload_n1, S_ireturn, S_istore_1, S_isub, S_lald, S_last, S_puti, S_putl, S_sipush, g_RX12_1, g_RX12_189, g_RX12_206, g_RX12_209, g_RX12_253, g_RX12_284, g_RX12_293, g_RX12_33, g_RX12_37, g_RX12_43, iCk_i, iCk_l, iCk_n, iCk_o, iCk_r, iS1_1, ic_m1, jb_19, jb_22, jb_59, jb_6, jb_85, jb_96, jc_0, jc_1, js_325, js_900, aX12_tower, bX12_tower, rX12_tower, nar_i, nar_n0, nar_n1, List.mem_cons, List.not_mem_nil, or_false, or_self, if_false, if_true, true_and, and_true, Nat.reduceEqDiff, Nat.reduceAdd, Nat.reduceLT, reduceIte, iSet_1, iEnt_e, iEn_n, iEn_i, iEn_r, iEn_u, iEn_l, List.cons_append, List.nil_append, List.length_cons, List.length_nil, Nat.reduceSub, List.replicate_succ, List.replicate_zero, Nat.zero_add, nI_lit0, va_up_app, nI_add, nI_mul, nI_sub, nI_clamp, vp_nI, nI_le_t, nI_le_f, nI_lt_t, nI_lt_f, imp_t, imp_f, not_true_eq_false, not_false_eq_true, iR_t, nar_zI, zI_f0, zI_t0, va_up_same, upd_ne, upd_self, m_o, mFs_len, mf_0, mk_0, mp_0, mf_15, mk_15, mp_15, mf_19, mk_19, mp_19, mf_20, mk_20, mp_20, mf_11, mf_16, mf_6, m_2, mu_2, mf_7, m_3, mu_3, mf_9, m_5, mu_5, mf_23, mk_23, mp_23]
    exact cont
  | succ k ih =>
    intro g hg
    have e := ih (g + 1) (by omega)
    rw [← cpL_up0] at e
    refine wp_ok (cuts := []) 1 _ _ _ _ ?_
    simp only [wp_su, wp_0, eX12_tower_117, S_iload_n1, List.not_mem_nil, if_false]
    refine wp_ok (cuts := [117]) 40 _ _ _ _ ?_
    simp (config := { maxSteps := 2000000 }) (disch := omega) only [wp_su, wp_0, eX12_tower_0, eX12_tower_1, eX12_tower_2, eX12_tower_5, eX12_tower_6, eX12_tower_9, eX12_tower_12, eX12_tower_13, eX12_tower_14, eX12_tower_17, eX12_tower_18, eX12_tower_19, eX12_tower_22, eX12_tower_23, eX12_tower_24, eX12_tower_27, eX12_tower_28, eX12_tower_31, eX12_tower_32, eX12_tower_35, eX12_tower_36, eX12_tower_39, eX12_tower_42, eX12_tower_43, eX12_tower_46, eX12_tower_49, eX12_tower_50, eX12_tower_52, eX12_tower_55, eX12_tower_58, eX12_tower_59, eX12_tower_60, eX12_tower_63, eX12_tower_64, eX12_tower_65, eX12_tower_66, eX12_tower_67, eX12_tower_70, eX12_tower_71, eX12_tower_72, eX12_tower_75, eX12_tower_78, eX12_tower_79, eX12_tower_80, eX12_tower_81, eX12_tower_84, eX12_tower_87, eX12_tower_88, eX12_tower_91, eX12_tower_92, eX12_tower_93, eX12_tower_95, eX12_tower_98, eX12_tower_99, eX12_tower_102, eX12_tower_103, eX12_tower_104, eX12_tower_107, eX12_tower_108, eX12_tower_109, eX12_tower_112, eX12_tower_115, eX12_tower_116, eX12_tower_117, eX12_tower_118, eX12_tower_120, eX12_tower_123, eX12_tower_124, eX12_tower_127, eX12_tower_128, eX12_tower_129, eX12_tower_132, eX12_tower_134, eX12_tower_135, eX12_tower_136, eX12_tower_137, eX12_tower_138, eX12_tower_141, eX12_tower_144, eX12_tower_145, eX12_tower_146, eX12_tower_147, eX12_tower_149, eX12_tower_152, eX12_tower_153, eX12_tower_156, eX12_tower_158, eX12_tower_159, eX12_tower_160, eX12_tower_161, eX12_tower_164, eX12_tower_166, eX12_tower_167, eX12_tower_168, eX12_tower_169, eX12_tower_170, eX12_tower_173, eX12_tower_176, eX12_tower_177, eX12_tower_178, eX12_tower_181, eX12_tower_182, eX12_tower_185, S_aload_n0, S_aload_n0N, S_bipush, S_callV, S_dupi, S_dupr, S_getf, S_goto, S_iadd, S_iald, S_iast, S_icmp_ge, S_iconst, S_if_eq, S_if_ne, S_iinc_1, S_iload_n1, S_ireturn, S_istore_1, S_isub, S_lald, S_last, S_puti, S_putl, S_sipush, g_RX12_1, g_RX12_189, g_RX12_206, g_RX12_209, g_RX12_253, g_RX12_284, g_RX12_293, g_RX12_33, g_RX12_37, g_RX12_43, iCk_i, iCk_l, iCk_n, iCk_o, iCk_r, iS1_1, ic_m1, jb_19, jb_22, jb_59, jb_6, jb_85, jb_96, jc_0, jc_1, js_325, js_900, aX12_tower, bX12_tower, rX12_tower, nar_i, nar_n0, nar_n1, List.mem_cons, List.not_mem_nil, or_false, or_self, if_false, if_true, true_and, and_true, Nat.reduceEqDiff, Nat.reduceAdd, Nat.reduceLT, reduceIte, iSet_1, iEnt_e, iEn_n, iEn_i, iEn_r, iEn_u, iEn_l, List.cons_append, List.nil_append, List.length_cons, List.length_nil, Nat.reduceSub, List.replicate_succ, List.replicate_zero, Nat.zero_add, nI_lit0, va_up_app, nI_add, nI_mul, nI_sub, nI_clamp, vp_nI, nI_le_t, nI_le_f, nI_lt_t, nI_lt_f, imp_t, imp_f, not_true_eq_false, not_false_eq_true, iR_t, nar_zI, zI_f0, zI_t0, va_up_same, upd_ne, upd_self, m_o, mFs_len, mf_0, mk_0, mp_0, mf_15, mk_15, mp_15, mf_19, mk_19, mp_19, mf_20, mk_20, mp_20, mf_11, mf_16, mf_6, m_2, mu_2, mf_7, m_3, mu_3, mf_9, m_5, mu_5, mf_23, mk_23, mp_23, cpL_off]
    exact e
theorem L_tower3 {n : Int32} (hn : I 19 = n) : ∀ (k g : Nat), g + k = 6 → K G (d + 6) 0 0 mX12_tower 146 [some (.ref b), some (.int (nI g))] [] (mH G b I W (va_up A 2 (va_cpy (A 2) (A 2) 22 96 g)) N h0) (iR (some (.int n)) (mH G b (va_up I 23 (nI 0)) W (va_up A 2 (va_cpy (A 2) (A 2) 22 96 6)) N h0)) := by
  intro k
  induction k with
  | zero =>
    intro g hg
    obtain rfl : g = 6 := by omega
    refine wp_ok (cuts := []) 30 _ _ _ _ ?_
    simp (config := { maxSteps := 2000000 }) (disch := omega) only [wp_su, wp_0, eX12_tower_0, eX12_tower_1, eX12_tower_2, eX12_tower_5, eX12_tower_6, eX12_tower_9, eX12_tower_12, eX12_tower_13, eX12_tower_14, eX12_tower_17, eX12_tower_18, eX12_tower_19, eX12_tower_22, eX12_tower_23, eX12_tower_24, eX12_tower_27, eX12_tower_28, eX12_tower_31, eX12_tower_32, eX12_tower_35, eX12_tower_36, eX12_tower_39, eX12_tower_42, eX12_tower_43, eX12_tower_46, eX12_tower_49, eX12_tower_50, eX12_tower_52, eX12_tower_55, eX12_tower_58, eX12_tower_59, eX12_tower_60, eX12_tower_63, eX12_tower_64, eX12_tower_65, eX12_tower_66, eX12_tower_67, eX12_tower_70, eX12_tower_71, eX12_tower_72, eX12_tower_75, eX12_tower_78, eX12_tower_79, eX12_tower_80, eX12_tower_81, eX12_tower_84, eX12_tower_87, eX12_tower_88, eX12_tower_91, eX12_tower_92, eX12_tower_93, eX12_tower_95, eX12_tower_98, eX12_tower_99, eX12_tower_102, eX12_tower_103, eX12_tower_104, eX12_tower_107, eX12_tower_108, eX12_tower_109, eX12_tower_112, eX12_tower_115, eX12_tower_116, eX12_tower_117, eX12_tower_118, eX12_tower_120, eX12_tower_123, eX12_tower_124, eX12_tower_127, eX12_tower_128, eX12_tower_129, eX12_tower_132, eX12_tower_134, eX12_tower_135, eX12_tower_136, eX12_tower_137, eX12_tower_138, eX12_tower_141, eX12_tower_144, eX12_tower_145, eX12_tower_146, eX12_tower_147, eX12_tower_149, eX12_tower_152, eX12_tower_153, eX12_tower_156, eX12_tower_158, eX12_tower_159, eX12_tower_160, eX12_tower_161, eX12_tower_164, eX12_tower_166, eX12_tower_167, eX12_tower_168, eX12_tower_169, eX12_tower_170, eX12_tower_173, eX12_tower_176, eX12_tower_177, eX12_tower_178, eX12_tower_181, eX12_tower_182, eX12_tower_185, S_aload_n0, S_aload_n0N, S_bipush, S_callV, S_dupi, S_dupr, S_getf, S_goto, S_iadd, S_iald, S_iast, S_icmp_ge, S_iconst, S_if_eq, S_if_ne, S_iinc_1, S_iload_n1, S_ireturn, S_istore_1, S_isub, S_lald, S_last, S_puti, S_putl, S_sipush, g_RX12_1, g_RX12_189, g_RX12_206, g_RX12_209, g_RX12_253, g_RX12_284, g_RX12_293, g_RX12_33, g_RX12_37, g_RX12_43, iCk_i, iCk_l, iCk_n, iCk_o, iCk_r, iS1_1, ic_m1, jb_19, jb_22, jb_59, jb_6, jb_85, jb_96, jc_0, jc_1, js_325, js_900, aX12_tower, bX12_tower, rX12_tower, nar_i, nar_n0, nar_n1, List.mem_cons, List.not_mem_nil, or_false, or_self, if_false, if_true, true_and, and_true, Nat.reduceEqDiff, Nat.reduceAdd, Nat.reduceLT, reduceIte, iSet_1, iEnt_e, iEn_n, iEn_i, iEn_r, iEn_u, iEn_l, List.cons_append, List.nil_append, List.length_cons, List.length_nil, Nat.reduceSub, List.replicate_succ, List.replicate_zero, Nat.zero_add, nI_lit0, va_up_app, nI_add, nI_mul, nI_sub, nI_clamp, vp_nI, nI_le_t, nI_le_f, nI_lt_t, nI_lt_f, imp_t, imp_f, not_true_eq_false, not_false_eq_true, iR_t, nar_zI, zI_f0, zI_t0, va_up_same, upd_ne, upd_self, m_o, mFs_len, mf_0, mk_0, mp_0, mf_15, mk_15, mp_15, mf_19, mk_19, mp_19, mf_20, mk_20, mp_20, mf_11, mf_16, mf_6, m_2, mu_2, mf_7, m_3, mu_3, mf_9, m_5, mu_5, mf_23, mk_23, mp_23, hn]
  | succ k ih =>
    intro g hg
    have e := ih (g + 1) (by omega)
    rw [← upd_cpy] at e
    refine wp_ok (cuts := []) 1 _ _ _ _ ?_
    simp only [wp_su, wp_0, eX12_tower_146, S_iload_n1, List.not_mem_nil, if_false]
    refine wp_ok (cuts := [146]) 40 _ _ _ _ ?_
    simp (config := { maxSteps := 2000000 }) (disch := omega) only [wp_su, wp_0, eX12_tower_0, eX12_tower_1, eX12_tower_2, eX12_tower_5, eX12_tower_6, eX12_tower_9, eX12_tower_12, eX12_tower_13, eX12_tower_14, eX12_tower_17, eX12_tower_18, eX12_tower_19, eX12_tower_22, eX12_tower_23, eX12_tower_24, eX12_tower_27, eX12_tower_28, eX12_tower_31, eX12_tower_32, eX12_tower_35, eX12_tower_36, eX12_tower_39, eX12_tower_42, eX12_tower_43, eX12_tower_46, eX12_tower_49, eX12_tower_50, eX12_tower_52, eX12_tower_55, eX12_tower_58, eX12_tower_59, eX12_tower_60, eX12_tower_63, eX12_tower_64, eX12_tower_65, eX12_tower_66, eX12_tower_67, eX12_tower_70, eX12_tower_71, eX12_tower_72, eX12_tower_75, eX12_tower_78, eX12_tower_79, eX12_tower_80, eX12_tower_81, eX12_tower_84, eX12_tower_87, eX12_tower_88, eX12_tower_91, eX12_tower_92, eX12_tower_93, eX12_tower_95, eX12_tower_98, eX12_tower_99, eX12_tower_102, eX12_tower_103, eX12_tower_104, eX12_tower_107, eX12_tower_108, eX12_tower_109, eX12_tower_112, eX12_tower_115, eX12_tower_116, eX12_tower_117, eX12_tower_118, eX12_tower_120, eX12_tower_123, eX12_tower_124, eX12_tower_127, eX12_tower_128, eX12_tower_129, eX12_tower_132, eX12_tower_134, eX12_tower_135, eX12_tower_136, eX12_tower_137, eX12_tower_138, eX12_tower_141, eX12_tower_144, eX12_tower_145, eX12_tower_146, eX12_tower_147, eX12_tower_149, eX12_tower_152, eX12_tower_153, eX12_tower_156, eX12_tower_158, eX12_tower_159, eX12_tower_160, eX12_tower_161, eX12_tower_164, eX12_tower_166, eX12_tower_167, eX12_tower_168, eX12_tower_169, eX12_tower_170, eX12_tower_173, eX12_tower_176, eX12_tower_177, eX12_tower_178, eX12_tower_181, eX12_tower_182, eX12_tower_185, S_aload_n0, S_aload_n0N, S_bipush, S_callV, S_dupi, S_dupr, S_getf, S_goto, S_iadd, S_iald, S_iast, S_icmp_ge, S_iconst, S_if_eq, S_if_ne, S_iinc_1, S_iload_n1, S_ireturn, S_istore_1, S_isub, S_lald, S_last, S_puti, S_putl, S_sipush, g_RX12_1, g_RX12_189, g_RX12_206, g_RX12_209, g_RX12_253, g_RX12_284, g_RX12_293, g_RX12_33, g_RX12_37, g_RX12_43, iCk_i, iCk_l, iCk_n, iCk_o, iCk_r, iS1_1, ic_m1, jb_19, jb_22, jb_59, jb_6, jb_85, jb_96, jc_0, jc_1, js_325, js_900, aX12_tower, bX12_tower, rX12_tower, nar_i, nar_n0, nar_n1, List.mem_cons, List.not_mem_nil, or_false, or_self, if_false, if_true, true_and, and_true, Nat.reduceEqDiff, Nat.reduceAdd, Nat.reduceLT, reduceIte, iSet_1, iEnt_e, iEn_n, iEn_i, iEn_r, iEn_u, iEn_l, List.cons_append, List.nil_append, List.length_cons, List.length_nil, Nat.reduceSub, List.replicate_succ, List.replicate_zero, Nat.zero_add, nI_lit0, va_up_app, nI_add, nI_mul, nI_sub, nI_clamp, vp_nI, nI_le_t, nI_le_f, nI_lt_t, nI_lt_f, imp_t, imp_f, not_true_eq_false, not_false_eq_true, iR_t, nar_zI, zI_f0, zI_t0, va_up_same, upd_ne, upd_self, m_o, mFs_len, mf_0, mk_0, mp_0, mf_15, mk_15, mp_15, mf_19, mk_19, mp_19, mf_20, mk_20, mp_20, mf_11, mf_16, mf_6, m_2, mu_2, mf_7, m_3, mu_3, mf_9, m_5, mu_5, mf_23, mk_23, mp_23, va_cpy_off]
    exact e
theorem t_signT {x : tS} {c : Int32} (hk : pOk e.2.1 e.2.2.1 x.1.1) (ht : A 1 = e.1) : C G (d + 2) 0 0 mX12_sign [.ref b, .int c] (mH G b (x).1.1 (x).1.2 (va_up A 3 (x).2.1) (va_up N 5 (x).2.2) h0) (iR (some (.int (zI (upT (signP e.1 e.2.1 e.2.2.1 c x.1) x).1))) (mH G b ((upT (signP e.1 e.2.1 e.2.2.1 c x.1) x).2).1.1 ((upT (signP e.1 e.2.1 e.2.2.1 c x.1) x).2).1.2 (va_up A 3 ((upT (signP e.1 e.2.1 e.2.2.1 c x.1) x).2).2.1) (va_up N 5 ((upT (signP e.1 e.2.1 e.2.2.1 c x.1) x).2).2.2) h0)) := t_sign hk ht
theorem L_tower0 (ht : A 1 = e.1) (hr : N 6 = e.2.2.2) : ∀ (k : Nat) (x : tS), tOk e x → e.2.1 < tPs x + k →
    (∀ y, towN e k x = (true, y) → tOk e y → K G (d + 6) 0 0 mX12_tower 78 [some (.ref b), none] [] (mH G b (y).1.1 (y).1.2 (va_up A 3 (y).2.1) (va_up N 5 (y).2.2) h0) Q) →
    (∀ y, towN e k x = (false, y) → Q (some (.int (-1 - y.1.1 16))) (mH G b (y).1.1 (y).1.2 (va_up A 3 (y).2.1) (va_up N 5 (y).2.2) h0)) →
    K G (d + 6) 0 0 mX12_tower 35 [some (.ref b), none] [] (mH G b (x).1.1 (x).1.2 (va_up A 3 (x).2.1) (va_up N 5 (x).2.2) h0) Q := by
  intro k
  induction k with
  | zero =>
    intro x hx hz
    exfalso
    obtain ⟨⟨a1, a2, a3, a4, p, hp, a5⟩, _⟩ := hx
    have : tPs x = p := by unfold tPs; rw [a5, nI_clamp (by omega)]
    omega
  | succ k ih =>
    intro x hx hz c1 c2
    rw [towN] at c1 c2
    refine wp_ok (cuts := []) 1 _ _ _ _ ?_
    simp only [wp_su, wp_0, eX12_tower_35, S_aload_n0, List.not_mem_nil, if_false]
    by_cases h1 : x.1.1 11 = nI 0
    · rw [if_pos h1] at c1
      refine wp_ok (cuts := [78]) 30 _ _ _ _ ?_
      simp (config := { maxSteps := 2000000 }) (disch := omega) only [wp_su, wp_0, eX12_tower_0, eX12_tower_1, eX12_tower_2, eX12_tower_5, eX12_tower_6, eX12_tower_9, eX12_tower_12, eX12_tower_13, eX12_tower_14, eX12_tower_17, eX12_tower_18, eX12_tower_19, eX12_tower_22, eX12_tower_23, eX12_tower_24, eX12_tower_27, eX12_tower_28, eX12_tower_31, eX12_tower_32, eX12_tower_35, eX12_tower_36, eX12_tower_39, eX12_tower_42, eX12_tower_43, eX12_tower_46, eX12_tower_49, eX12_tower_50, eX12_tower_52, eX12_tower_55, eX12_tower_58, eX12_tower_59, eX12_tower_60, eX12_tower_63, eX12_tower_64, eX12_tower_65, eX12_tower_66, eX12_tower_67, eX12_tower_70, eX12_tower_71, eX12_tower_72, eX12_tower_75, eX12_tower_78, eX12_tower_79, eX12_tower_80, eX12_tower_81, eX12_tower_84, eX12_tower_87, eX12_tower_88, eX12_tower_91, eX12_tower_92, eX12_tower_93, eX12_tower_95, eX12_tower_98, eX12_tower_99, eX12_tower_102, eX12_tower_103, eX12_tower_104, eX12_tower_107, eX12_tower_108, eX12_tower_109, eX12_tower_112, eX12_tower_115, eX12_tower_116, eX12_tower_117, eX12_tower_118, eX12_tower_120, eX12_tower_123, eX12_tower_124, eX12_tower_127, eX12_tower_128, eX12_tower_129, eX12_tower_132, eX12_tower_134, eX12_tower_135, eX12_tower_136, eX12_tower_137, eX12_tower_138, eX12_tower_141, eX12_tower_144, eX12_tower_145, eX12_tower_146, eX12_tower_147, eX12_tower_149, eX12_tower_152, eX12_tower_153, eX12_tower_156, eX12_tower_158, eX12_tower_159, eX12_tower_160, eX12_tower_161, eX12_tower_164, eX12_tower_166, eX12_tower_167, eX12_tower_168, eX12_tower_169, eX12_tower_170, eX12_tower_173, eX12_tower_176, eX12_tower_177, eX12_tower_178, eX12_tower_181, eX12_tower_182, eX12_tower_185, S_aload_n0, S_aload_n0N, S_bipush, S_callV, S_dupi, S_dupr, S_getf, S_goto, S_iadd, S_iald, S_iast, S_icmp_ge, S_iconst, S_if_eq, S_if_ne, S_iinc_1, S_iload_n1, S_ireturn, S_istore_1, S_isub, S_lald, S_last, S_puti, S_putl, S_sipush, g_RX12_1, g_RX12_189, g_RX12_206, g_RX12_209, g_RX12_253, g_RX12_284, g_RX12_293, g_RX12_33, g_RX12_37, g_RX12_43, iCk_i, iCk_l, iCk_n, iCk_o, iCk_r, iS1_1, ic_m1, jb_19, jb_22, jb_59, jb_6, jb_85, jb_96, jc_0, jc_1, js_325, js_900, aX12_tower, bX12_tower, rX12_tower, nar_i, nar_n0, nar_n1, List.mem_cons, List.not_mem_nil, or_false, or_self, if_false, if_true, true_and, and_true, Nat.reduceEqDiff, Nat.reduceAdd, Nat.reduceLT, reduceIte, iSet_1, iEnt_e, iEn_n, iEn_i, iEn_r, iEn_u, iEn_l, List.cons_append, List.nil_append, List.length_cons, List.length_nil, Nat.reduceSub, List.replicate_succ, List.replicate_zero, Nat.zero_add, nI_lit0, va_up_app, nI_add, nI_mul, nI_sub, nI_clamp, vp_nI, nI_le_t, nI_le_f, nI_lt_t, nI_lt_f, imp_t, imp_f, not_true_eq_false, not_false_eq_true, iR_t, nar_zI, zI_f0, zI_t0, va_up_same, upd_ne, upd_self, m_o, mFs_len, mf_0, mk_0, mp_0, mf_15, mk_15, mp_15, mf_19, mk_19, mp_19, mf_20, mk_20, mp_20, mf_11, mf_16, mf_6, m_2, mu_2, mf_7, m_3, mu_3, mf_9, m_5, mu_5, mf_23, mk_23, mp_23, h1, nI_eq_t]
      exact c1 x rfl hx
    · rw [if_neg h1] at c1 c2
      refine wp_ok (cuts := []) 30 _ _ _ _ ?_
      simp (config := { maxSteps := 2000000 }) (disch := omega) only [wp_su, wp_0, eX12_tower_0, eX12_tower_1, eX12_tower_2, eX12_tower_5, eX12_tower_6, eX12_tower_9, eX12_tower_12, eX12_tower_13, eX12_tower_14, eX12_tower_17, eX12_tower_18, eX12_tower_19, eX12_tower_22, eX12_tower_23, eX12_tower_24, eX12_tower_27, eX12_tower_28, eX12_tower_31, eX12_tower_32, eX12_tower_35, eX12_tower_36, eX12_tower_39, eX12_tower_42, eX12_tower_43, eX12_tower_46, eX12_tower_49, eX12_tower_50, eX12_tower_52, eX12_tower_55, eX12_tower_58, eX12_tower_59, eX12_tower_60, eX12_tower_63, eX12_tower_64, eX12_tower_65, eX12_tower_66, eX12_tower_67, eX12_tower_70, eX12_tower_71, eX12_tower_72, eX12_tower_75, eX12_tower_78, eX12_tower_79, eX12_tower_80, eX12_tower_81, eX12_tower_84, eX12_tower_87, eX12_tower_88, eX12_tower_91, eX12_tower_92, eX12_tower_93, eX12_tower_95, eX12_tower_98, eX12_tower_99, eX12_tower_102, eX12_tower_103, eX12_tower_104, eX12_tower_107, eX12_tower_108, eX12_tower_109, eX12_tower_112, eX12_tower_115, eX12_tower_116, eX12_tower_117, eX12_tower_118, eX12_tower_120, eX12_tower_123, eX12_tower_124, eX12_tower_127, eX12_tower_128, eX12_tower_129, eX12_tower_132, eX12_tower_134, eX12_tower_135, eX12_tower_136, eX12_tower_137, eX12_tower_138, eX12_tower_141, eX12_tower_144, eX12_tower_145, eX12_tower_146, eX12_tower_147, eX12_tower_149, eX12_tower_152, eX12_tower_153, eX12_tower_156, eX12_tower_158, eX12_tower_159, eX12_tower_160, eX12_tower_161, eX12_tower_164, eX12_tower_166, eX12_tower_167, eX12_tower_168, eX12_tower_169, eX12_tower_170, eX12_tower_173, eX12_tower_176, eX12_tower_177, eX12_tower_178, eX12_tower_181, eX12_tower_182, eX12_tower_185, S_aload_n0, S_aload_n0N, S_bipush, S_callV, S_dupi, S_dupr, S_getf, S_goto, S_iadd, S_iald, S_iast, S_icmp_ge, S_iconst, S_if_eq, S_if_ne, S_iinc_1, S_iload_n1, S_ireturn, S_istore_1, S_isub, S_lald, S_last, S_puti, S_putl, S_sipush, g_RX12_1, g_RX12_189, g_RX12_206, g_RX12_209, g_RX12_253, g_RX12_284, g_RX12_293, g_RX12_33, g_RX12_37, g_RX12_43, iCk_i, iCk_l, iCk_n, iCk_o, iCk_r, iS1_1, ic_m1, jb_19, jb_22, jb_59, jb_6, jb_85, jb_96, jc_0, jc_1, js_325, js_900, aX12_tower, bX12_tower, rX12_tower, nar_i, nar_n0, nar_n1, List.mem_cons, List.not_mem_nil, or_false, or_self, if_false, if_true, true_and, and_true, Nat.reduceEqDiff, Nat.reduceAdd, Nat.reduceLT, reduceIte, iSet_1, iEnt_e, iEn_n, iEn_i, iEn_r, iEn_u, iEn_l, List.cons_append, List.nil_append, List.length_cons, List.length_nil, Nat.reduceSub, List.replicate_succ, List.replicate_zero, Nat.zero_add, nI_lit0, va_up_app, nI_add, nI_mul, nI_sub, nI_clamp, vp_nI, nI_le_t, nI_le_f, nI_lt_t, nI_lt_f, imp_t, imp_f, not_true_eq_false, not_false_eq_true, iR_t, nar_zI, zI_f0, zI_t0, va_up_same, upd_ne, upd_self, m_o, mFs_len, mf_0, mk_0, mp_0, mf_15, mk_15, mp_15, mf_19, mk_19, mp_19, mf_20, mk_20, mp_20, mf_11, mf_16, mf_6, m_2, mu_2, mf_7, m_3, mu_3, mf_9, m_5, mu_5, mf_23, mk_23, mp_23, h1]
      refine dV0 (Y' := mX12_line) eX12_tower_43 l_RX12_287 kX12_line iX12_line nX12_line m_o rfl rfl (Nat.le_of_ble_eq_true rfl) (t_line hx ht hr) ?_
      have hy := tOk_line hx
      have hy2 := tAd_line hx.1
      generalize lineT e x = r at hy hy2 c1 c2 ⊢
      obtain ⟨r1, y⟩ := r
      dsimp only at hy hy2 c1 c2 ⊢
      cases r1
      · have q := c2 y rfl
        refine wp_ok (cuts := []) 30 _ _ _ _ ?_
        simp (config := { maxSteps := 2000000 }) (disch := omega) only [wp_su, wp_0, eX12_tower_0, eX12_tower_1, eX12_tower_2, eX12_tower_5, eX12_tower_6, eX12_tower_9, eX12_tower_12, eX12_tower_13, eX12_tower_14, eX12_tower_17, eX12_tower_18, eX12_tower_19, eX12_tower_22, eX12_tower_23, eX12_tower_24, eX12_tower_27, eX12_tower_28, eX12_tower_31, eX12_tower_32, eX12_tower_35, eX12_tower_36, eX12_tower_39, eX12_tower_42, eX12_tower_43, eX12_tower_46, eX12_tower_49, eX12_tower_50, eX12_tower_52, eX12_tower_55, eX12_tower_58, eX12_tower_59, eX12_tower_60, eX12_tower_63, eX12_tower_64, eX12_tower_65, eX12_tower_66, eX12_tower_67, eX12_tower_70, eX12_tower_71, eX12_tower_72, eX12_tower_75, eX12_tower_78, eX12_tower_79, eX12_tower_80, eX12_tower_81, eX12_tower_84, eX12_tower_87, eX12_tower_88, eX12_tower_91, eX12_tower_92, eX12_tower_93, eX12_tower_95, eX12_tower_98, eX12_tower_99, eX12_tower_102, eX12_tower_103, eX12_tower_104, eX12_tower_107, eX12_tower_108, eX12_tower_109, eX12_tower_112, eX12_tower_115, eX12_tower_116, eX12_tower_117, eX12_tower_118, eX12_tower_120, eX12_tower_123, eX12_tower_124, eX12_tower_127, eX12_tower_128, eX12_tower_129, eX12_tower_132, eX12_tower_134, eX12_tower_135, eX12_tower_136, eX12_tower_137, eX12_tower_138, eX12_tower_141, eX12_tower_144, eX12_tower_145, eX12_tower_146, eX12_tower_147, eX12_tower_149, eX12_tower_152, eX12_tower_153, eX12_tower_156, eX12_tower_158, eX12_tower_159, eX12_tower_160, eX12_tower_161, eX12_tower_164, eX12_tower_166, eX12_tower_167, eX12_tower_168, eX12_tower_169, eX12_tower_170, eX12_tower_173, eX12_tower_176, eX12_tower_177, eX12_tower_178, eX12_tower_181, eX12_tower_182, eX12_tower_185, S_aload_n0, S_aload_n0N, S_bipush, S_callV, S_dupi, S_dupr, S_getf, S_goto, S_iadd, S_iald, S_iast, S_icmp_ge, S_iconst, S_if_eq, S_if_ne, S_iinc_1, S_iload_n1, S_ireturn, S_istore_1, S_isub, S_lald, S_last, S_puti, S_putl, S_sipush, g_RX12_1, g_RX12_189, g_RX12_206, g_RX12_209, g_RX12_253, g_RX12_284, g_RX12_293, g_RX12_33, g_RX12_37, g_RX12_43, iCk_i, iCk_l, iCk_n, iCk_o, iCk_r, iS1_1, ic_m1, jb_19, jb_22, jb_59, jb_6, jb_85, jb_96, jc_0, jc_1, js_325, js_900, aX12_tower, bX12_tower, rX12_tower, nar_i, nar_n0, nar_n1, List.mem_cons, List.not_mem_nil, or_false, or_self, if_false, if_true, true_and, and_true, Nat.reduceEqDiff, Nat.reduceAdd, Nat.reduceLT, reduceIte, iSet_1, iEnt_e, iEn_n, iEn_i, iEn_r, iEn_u, iEn_l, List.cons_append, List.nil_append, List.length_cons, List.length_nil, Nat.reduceSub, List.replicate_succ, List.replicate_zero, Nat.zero_add, nI_lit0, va_up_app, nI_add, nI_mul, nI_sub, nI_clamp, vp_nI, nI_le_t, nI_le_f, nI_lt_t, nI_lt_f, imp_t, imp_f, not_true_eq_false, not_false_eq_true, iR_t, nar_zI, zI_f0, zI_t0, va_up_same, upd_ne, upd_self, m_o, mFs_len, mf_0, mk_0, mp_0, mf_15, mk_15, mp_15, mf_19, mk_19, mp_19, mf_20, mk_20, mp_20, mf_11, mf_16, mf_6, m_2, mu_2, mf_7, m_3, mu_3, mf_9, m_5, mu_5, mf_23, mk_23, mp_23, ic_m1]
        exact q
      · simp only [if_true] at c1 c2
        refine wp_ok (cuts := []) 30 _ _ _ _ ?_
        simp (config := { maxSteps := 2000000 }) (disch := omega) only [wp_su, wp_0, eX12_tower_0, eX12_tower_1, eX12_tower_2, eX12_tower_5, eX12_tower_6, eX12_tower_9, eX12_tower_12, eX12_tower_13, eX12_tower_14, eX12_tower_17, eX12_tower_18, eX12_tower_19, eX12_tower_22, eX12_tower_23, eX12_tower_24, eX12_tower_27, eX12_tower_28, eX12_tower_31, eX12_tower_32, eX12_tower_35, eX12_tower_36, eX12_tower_39, eX12_tower_42, eX12_tower_43, eX12_tower_46, eX12_tower_49, eX12_tower_50, eX12_tower_52, eX12_tower_55, eX12_tower_58, eX12_tower_59, eX12_tower_60, eX12_tower_63, eX12_tower_64, eX12_tower_65, eX12_tower_66, eX12_tower_67, eX12_tower_70, eX12_tower_71, eX12_tower_72, eX12_tower_75, eX12_tower_78, eX12_tower_79, eX12_tower_80, eX12_tower_81, eX12_tower_84, eX12_tower_87, eX12_tower_88, eX12_tower_91, eX12_tower_92, eX12_tower_93, eX12_tower_95, eX12_tower_98, eX12_tower_99, eX12_tower_102, eX12_tower_103, eX12_tower_104, eX12_tower_107, eX12_tower_108, eX12_tower_109, eX12_tower_112, eX12_tower_115, eX12_tower_116, eX12_tower_117, eX12_tower_118, eX12_tower_120, eX12_tower_123, eX12_tower_124, eX12_tower_127, eX12_tower_128, eX12_tower_129, eX12_tower_132, eX12_tower_134, eX12_tower_135, eX12_tower_136, eX12_tower_137, eX12_tower_138, eX12_tower_141, eX12_tower_144, eX12_tower_145, eX12_tower_146, eX12_tower_147, eX12_tower_149, eX12_tower_152, eX12_tower_153, eX12_tower_156, eX12_tower_158, eX12_tower_159, eX12_tower_160, eX12_tower_161, eX12_tower_164, eX12_tower_166, eX12_tower_167, eX12_tower_168, eX12_tower_169, eX12_tower_170, eX12_tower_173, eX12_tower_176, eX12_tower_177, eX12_tower_178, eX12_tower_181, eX12_tower_182, eX12_tower_185, S_aload_n0, S_aload_n0N, S_bipush, S_callV, S_dupi, S_dupr, S_getf, S_goto, S_iadd, S_iald, S_iast, S_icmp_ge, S_iconst, S_if_eq, S_if_ne, S_iinc_1, S_iload_n1, S_ireturn, S_istore_1, S_isub, S_lald, S_last, S_puti, S_putl, S_sipush, g_RX12_1, g_RX12_189, g_RX12_206, g_RX12_209, g_RX12_253, g_RX12_284, g_RX12_293, g_RX12_33, g_RX12_37, g_RX12_43, iCk_i, iCk_l, iCk_n, iCk_o, iCk_r, iS1_1, ic_m1, jb_19, jb_22, jb_59, jb_6, jb_85, jb_96, jc_0, jc_1, js_325, js_900, aX12_tower, bX12_tower, rX12_tower, nar_i, nar_n0, nar_n1, List.mem_cons, List.not_mem_nil, or_false, or_self, if_false, if_true, true_and, and_true, Nat.reduceEqDiff, Nat.reduceAdd, Nat.reduceLT, reduceIte, iSet_1, iEnt_e, iEn_n, iEn_i, iEn_r, iEn_u, iEn_l, List.cons_append, List.nil_append, List.length_cons, List.length_nil, Nat.reduceSub, List.replicate_succ, List.replicate_zero, Nat.zero_add, nI_lit0, va_up_app, nI_add, nI_mul, nI_sub, nI_clamp, vp_nI, nI_le_t, nI_le_f, nI_lt_t, nI_lt_f, imp_t, imp_f, not_true_eq_false, not_false_eq_true, iR_t, nar_zI, zI_f0, zI_t0, va_up_same, upd_ne, upd_self, m_o, mFs_len, mf_0, mk_0, mp_0, mf_15, mk_15, mp_15, mf_19, mk_19, mp_19, mf_20, mk_20, mp_20, mf_11, mf_16, mf_6, m_2, mu_2, mf_7, m_3, mu_3, mf_9, m_5, mu_5, mf_23, mk_23, mp_23]
        refine dV1 (Y' := mX12_sign) eX12_tower_52 l_RX12_290 kX12_sign iX12_sign nX12_sign m_o rfl rfl (Nat.le_of_ble_eq_true rfl) (t_signT hy.1 ht) ?_
        have hs := sign_gt (c := nI 59) (hy2 rfl)
        have hz2 : tOk e (upT (signP e.1 e.2.1 e.2.2.1 (nI 59) y.1) y).2 := ⟨pOk_sign hy.1, hy.2⟩
        generalize upT (signP e.1 e.2.1 e.2.2.1 (nI 59) y.1) y = r at hs hz2 c1 c2 ⊢
        obtain ⟨r1, z⟩ := r
        dsimp only at hs hz2 c1 c2 ⊢
        cases r1
        · have q := c2 z rfl
          refine wp_ok (cuts := []) 30 _ _ _ _ ?_
          simp (config := { maxSteps := 2000000 }) (disch := omega) only [wp_su, wp_0, eX12_tower_0, eX12_tower_1, eX12_tower_2, eX12_tower_5, eX12_tower_6, eX12_tower_9, eX12_tower_12, eX12_tower_13, eX12_tower_14, eX12_tower_17, eX12_tower_18, eX12_tower_19, eX12_tower_22, eX12_tower_23, eX12_tower_24, eX12_tower_27, eX12_tower_28, eX12_tower_31, eX12_tower_32, eX12_tower_35, eX12_tower_36, eX12_tower_39, eX12_tower_42, eX12_tower_43, eX12_tower_46, eX12_tower_49, eX12_tower_50, eX12_tower_52, eX12_tower_55, eX12_tower_58, eX12_tower_59, eX12_tower_60, eX12_tower_63, eX12_tower_64, eX12_tower_65, eX12_tower_66, eX12_tower_67, eX12_tower_70, eX12_tower_71, eX12_tower_72, eX12_tower_75, eX12_tower_78, eX12_tower_79, eX12_tower_80, eX12_tower_81, eX12_tower_84, eX12_tower_87, eX12_tower_88, eX12_tower_91, eX12_tower_92, eX12_tower_93, eX12_tower_95, eX12_tower_98, eX12_tower_99, eX12_tower_102, eX12_tower_103, eX12_tower_104, eX12_tower_107, eX12_tower_108, eX12_tower_109, eX12_tower_112, eX12_tower_115, eX12_tower_116, eX12_tower_117, eX12_tower_118, eX12_tower_120, eX12_tower_123, eX12_tower_124, eX12_tower_127, eX12_tower_128, eX12_tower_129, eX12_tower_132, eX12_tower_134, eX12_tower_135, eX12_tower_136, eX12_tower_137, eX12_tower_138, eX12_tower_141, eX12_tower_144, eX12_tower_145, eX12_tower_146, eX12_tower_147, eX12_tower_149, eX12_tower_152, eX12_tower_153, eX12_tower_156, eX12_tower_158, eX12_tower_159, eX12_tower_160, eX12_tower_161, eX12_tower_164, eX12_tower_166, eX12_tower_167, eX12_tower_168, eX12_tower_169, eX12_tower_170, eX12_tower_173, eX12_tower_176, eX12_tower_177, eX12_tower_178, eX12_tower_181, eX12_tower_182, eX12_tower_185, S_aload_n0, S_aload_n0N, S_bipush, S_callV, S_dupi, S_dupr, S_getf, S_goto, S_iadd, S_iald, S_iast, S_icmp_ge, S_iconst, S_if_eq, S_if_ne, S_iinc_1, S_iload_n1, S_ireturn, S_istore_1, S_isub, S_lald, S_last, S_puti, S_putl, S_sipush, g_RX12_1, g_RX12_189, g_RX12_206, g_RX12_209, g_RX12_253, g_RX12_284, g_RX12_293, g_RX12_33, g_RX12_37, g_RX12_43, iCk_i, iCk_l, iCk_n, iCk_o, iCk_r, iS1_1, ic_m1, jb_19, jb_22, jb_59, jb_6, jb_85, jb_96, jc_0, jc_1, js_325, js_900, aX12_tower, bX12_tower, rX12_tower, nar_i, nar_n0, nar_n1, List.mem_cons, List.not_mem_nil, or_false, or_self, if_false, if_true, true_and, and_true, Nat.reduceEqDiff, Nat.reduceAdd, Nat.reduceLT, reduceIte, iSet_1, iEnt_e, iEn_n, iEn_i, iEn_r, iEn_u, iEn_l, List.cons_append, List.nil_append, List.length_cons, List.length_nil, Nat.reduceSub, List.replicate_succ, List.replicate_zero, Nat.zero_add, nI_lit0, va_up_app, nI_add, nI_mul, nI_sub, nI_clamp, vp_nI, nI_le_t, nI_le_f, nI_lt_t, nI_lt_f, imp_t, imp_f, not_true_eq_false, not_false_eq_true, iR_t, nar_zI, zI_f0, zI_t0, va_up_same, upd_ne, upd_self, m_o, mFs_len, mf_0, mk_0, mp_0, mf_15, mk_15, mp_15, mf_19, mk_19, mp_19, mf_20, mk_20, mp_20, mf_11, mf_16, mf_6, m_2, mu_2, mf_7, m_3, mu_3, mf_9, m_5, mu_5, mf_23, mk_23, mp_23, ic_m1]
          exact q
        · simp only [if_true] at c1 c2
          have hs2 := hs rfl
          have go := ih (lnT z) ⟨pOk_up hz2.1 (by decide), hz2.2⟩ (by
            have : tPs (lnT z) = tPs z := by unfold tPs lnT; simp [va_up]
            omega) c1 c2
          refine wp_ok (cuts := [35]) 30 _ _ _ _ ?_
          simp (config := { maxSteps := 2000000 }) (disch := omega) only [wp_su, wp_0, eX12_tower_0, eX12_tower_1, eX12_tower_2, eX12_tower_5, eX12_tower_6, eX12_tower_9, eX12_tower_12, eX12_tower_13, eX12_tower_14, eX12_tower_17, eX12_tower_18, eX12_tower_19, eX12_tower_22, eX12_tower_23, eX12_tower_24, eX12_tower_27, eX12_tower_28, eX12_tower_31, eX12_tower_32, eX12_tower_35, eX12_tower_36, eX12_tower_39, eX12_tower_42, eX12_tower_43, eX12_tower_46, eX12_tower_49, eX12_tower_50, eX12_tower_52, eX12_tower_55, eX12_tower_58, eX12_tower_59, eX12_tower_60, eX12_tower_63, eX12_tower_64, eX12_tower_65, eX12_tower_66, eX12_tower_67, eX12_tower_70, eX12_tower_71, eX12_tower_72, eX12_tower_75, eX12_tower_78, eX12_tower_79, eX12_tower_80, eX12_tower_81, eX12_tower_84, eX12_tower_87, eX12_tower_88, eX12_tower_91, eX12_tower_92, eX12_tower_93, eX12_tower_95, eX12_tower_98, eX12_tower_99, eX12_tower_102, eX12_tower_103, eX12_tower_104, eX12_tower_107, eX12_tower_108, eX12_tower_109, eX12_tower_112, eX12_tower_115, eX12_tower_116, eX12_tower_117, eX12_tower_118, eX12_tower_120, eX12_tower_123, eX12_tower_124, eX12_tower_127, eX12_tower_128, eX12_tower_129, eX12_tower_132, eX12_tower_134, eX12_tower_135, eX12_tower_136, eX12_tower_137, eX12_tower_138, eX12_tower_141, eX12_tower_144, eX12_tower_145, eX12_tower_146, eX12_tower_147, eX12_tower_149, eX12_tower_152, eX12_tower_153, eX12_tower_156, eX12_tower_158, eX12_tower_159, eX12_tower_160, eX12_tower_161, eX12_tower_164, eX12_tower_166, eX12_tower_167, eX12_tower_168, eX12_tower_169, eX12_tower_170, eX12_tower_173, eX12_tower_176, eX12_tower_177, eX12_tower_178, eX12_tower_181, eX12_tower_182, eX12_tower_185, S_aload_n0, S_aload_n0N, S_bipush, S_callV, S_dupi, S_dupr, S_getf, S_goto, S_iadd, S_iald, S_iast, S_icmp_ge, S_iconst, S_if_eq, S_if_ne, S_iinc_1, S_iload_n1, S_ireturn, S_istore_1, S_isub, S_lald, S_last, S_puti, S_putl, S_sipush, g_RX12_1, g_RX12_189, g_RX12_206, g_RX12_209, g_RX12_253, g_RX12_284, g_RX12_293, g_RX12_33, g_RX12_37, g_RX12_43, iCk_i, iCk_l, iCk_n, iCk_o, iCk_r, iS1_1, ic_m1, jb_19, jb_22, jb_59, jb_6, jb_85, jb_96, jc_0, jc_1, js_325, js_900, aX12_tower, bX12_tower, rX12_tower, nar_i, nar_n0, nar_n1, List.mem_cons, List.not_mem_nil, or_false, or_self, if_false, if_true, true_and, and_true, Nat.reduceEqDiff, Nat.reduceAdd, Nat.reduceLT, reduceIte, iSet_1, iEnt_e, iEn_n, iEn_i, iEn_r, iEn_u, iEn_l, List.cons_append, List.nil_append, List.length_cons, List.length_nil, Nat.reduceSub, List.replicate_succ, List.replicate_zero, Nat.zero_add, nI_lit0, va_up_app, nI_add, nI_mul, nI_sub, nI_clamp, vp_nI, nI_le_t, nI_le_f, nI_lt_t, nI_lt_f, imp_t, imp_f, not_true_eq_false, not_false_eq_true, iR_t, nar_zI, zI_f0, zI_t0, va_up_same, upd_ne, upd_self, m_o, mFs_len, mf_0, mk_0, mp_0, mf_15, mk_15, mp_15, mf_19, mk_19, mp_19, mf_20, mk_20, mp_20, mf_11, mf_16, mf_6, m_2, mu_2, mf_7, m_3, mu_3, mf_9, m_5, mu_5, mf_23, mk_23, mp_23]
          exact go
/-- what tower() reads from: the tape of sz bytes, and what its reader begins with -/
def towX (I : Nat → Int32) (W : Int64) (A : Nat → Nat → Int32) (N : Nat → Nat → Int64) : tS := ((va_up (va_up (va_up (va_up (va_up (va_up (va_up (va_up I 0 (nI 0)) 3 (I 2)) 2 (nI 0)) 4 (nI 0)) 5 (nI 900)) 15 (nI 0)) 19 (nI 0)) 20 (nI 0), W), clrH (A 3), N 5)
def towR (A : Nat → Nat → Int32) (N : Nat → Nat → Int64) (sz : Nat) (x : tS) : Bool × tS := towN (A 1, sz, 900, N 6) (sz + 1) (nxT (A 1, sz, 900, N 6) x)
theorem t_tower {sz : Nat} (h2 : I 2 = nI sz) (hsz : sz ≤ 940) : C G (d + 6) 0 0 mX12_tower [.ref b] (mH G b I W A N h0)
    (fun v g => if (towR A N sz (towX I W A N)).1 = true then v = some (.int ((towR A N sz (towX I W A N)).2.1.1 19)) ∧ g = mH G b (va_up (towR A N sz (towX I W A N)).2.1.1 23 (nI 0)) (towR A N sz (towX I W A N)).2.1.2 (va_up (va_up A 3 (towR A N sz (towX I W A N)).2.2.1) 2 (sTw (towR A N sz (towX I W A N)).2.2.1 (A 2))) (va_up N 5 (cpL (towR A N sz (towX I W A N)).2.2.2 (towR A N sz (towX I W A N)).2.2.2 19 0 19)) h0
      else v = some (.int (-1 - (towR A N sz (towX I W A N)).2.1.1 16)) ∧ g = mH G b (towR A N sz (towX I W A N)).2.1.1 (towR A N sz (towX I W A N)).2.1.2 (va_up A 3 (towR A N sz (towX I W A N)).2.2.1) (va_up N 5 (towR A N sz (towX I W A N)).2.2.2) h0) := by
  refine C_in p_RX12 (Nat.le_of_ble_eq_true rfl) rfl ?_
  refine wp_ok (cuts := []) 30 _ _ _ _ ?_
  simp (config := { maxSteps := 2000000 }) (disch := omega) only [wp_su, wp_0, eX12_tower_0, eX12_tower_1, eX12_tower_2, eX12_tower_5, eX12_tower_6, eX12_tower_9, eX12_tower_12, eX12_tower_13, eX12_tower_14, eX12_tower_17, eX12_tower_18, eX12_tower_19, eX12_tower_22, eX12_tower_23, eX12_tower_24, eX12_tower_27, eX12_tower_28, eX12_tower_31, eX12_tower_32, eX12_tower_35, eX12_tower_36, eX12_tower_39, eX12_tower_42, eX12_tower_43, eX12_tower_46, eX12_tower_49, eX12_tower_50, eX12_tower_52, eX12_tower_55, eX12_tower_58, eX12_tower_59, eX12_tower_60, eX12_tower_63, eX12_tower_64, eX12_tower_65, eX12_tower_66, eX12_tower_67, eX12_tower_70, eX12_tower_71, eX12_tower_72, eX12_tower_75, eX12_tower_78, eX12_tower_79, eX12_tower_80, eX12_tower_81, eX12_tower_84, eX12_tower_87, eX12_tower_88, eX12_tower_91, eX12_tower_92, eX12_tower_93, eX12_tower_95, eX12_tower_98, eX12_tower_99, eX12_tower_102, eX12_tower_103, eX12_tower_104, eX12_tower_107, eX12_tower_108, eX12_tower_109, eX12_tower_112, eX12_tower_115, eX12_tower_116, eX12_tower_117, eX12_tower_118, eX12_tower_120, eX12_tower_123, eX12_tower_124, eX12_tower_127, eX12_tower_128, eX12_tower_129, eX12_tower_132, eX12_tower_134, eX12_tower_135, eX12_tower_136, eX12_tower_137, eX12_tower_138, eX12_tower_141, eX12_tower_144, eX12_tower_145, eX12_tower_146, eX12_tower_147, eX12_tower_149, eX12_tower_152, eX12_tower_153, eX12_tower_156, eX12_tower_158, eX12_tower_159, eX12_tower_160, eX12_tower_161, eX12_tower_164, eX12_tower_166, eX12_tower_167, eX12_tower_168, eX12_tower_169, eX12_tower_170, eX12_tower_173, eX12_tower_176, eX12_tower_177, eX12_tower_178, eX12_tower_181, eX12_tower_182, eX12_tower_185, S_aload_n0, S_aload_n0N, S_bipush, S_callV, S_dupi, S_dupr, S_getf, S_goto, S_iadd, S_iald, S_iast, S_icmp_ge, S_iconst, S_if_eq, S_if_ne, S_iinc_1, S_iload_n1, S_ireturn, S_istore_1, S_isub, S_lald, S_last, S_puti, S_putl, S_sipush, g_RX12_1, g_RX12_189, g_RX12_206, g_RX12_209, g_RX12_253, g_RX12_284, g_RX12_293, g_RX12_33, g_RX12_37, g_RX12_43, iCk_i, iCk_l, iCk_n, iCk_o, iCk_r, iS1_1, ic_m1, jb_19, jb_22, jb_59, jb_6, jb_85, jb_96, jc_0, jc_1, js_325, js_900, aX12_tower, bX12_tower, rX12_tower, nar_i, nar_n0, nar_n1, List.mem_cons, List.not_mem_nil, or_false, or_self, if_false, if_true, true_and, and_true, Nat.reduceEqDiff, Nat.reduceAdd, Nat.reduceLT, reduceIte, iSet_1, iEnt_e, iEn_n, iEn_i, iEn_r, iEn_u, iEn_l, List.cons_append, List.nil_append, List.length_cons, List.length_nil, Nat.reduceSub, List.replicate_succ, List.replicate_zero, Nat.zero_add, nI_lit0, va_up_app, nI_add, nI_mul, nI_sub, nI_clamp, vp_nI, nI_le_t, nI_le_f, nI_lt_t, nI_lt_f, imp_t, imp_f, not_true_eq_false, not_false_eq_true, iR_t, nar_zI, zI_f0, zI_t0, va_up_same, upd_ne, upd_self, m_o, mFs_len, mf_0, mk_0, mp_0, mf_15, mk_15, mp_15, mf_19, mk_19, mp_19, mf_20, mk_20, mp_20, mf_11, mf_16, mf_6, m_2, mu_2, mf_7, m_3, mu_3, mf_9, m_5, mu_5, mf_23, mk_23, mp_23]
  refine dVu1 (Y' := mX12_taken) eX12_tower_9 l_RX12_281 kX12_taken iX12_taken nX12_taken m_o rfl rfl (Nat.le_of_ble_eq_true rfl) t_taken ?_
  refine wp_ok (cuts := []) 30 _ _ _ _ ?_
  simp (config := { maxSteps := 2000000 }) (disch := omega) only [wp_su, wp_0, eX12_tower_0, eX12_tower_1, eX12_tower_2, eX12_tower_5, eX12_tower_6, eX12_tower_9, eX12_tower_12, eX12_tower_13, eX12_tower_14, eX12_tower_17, eX12_tower_18, eX12_tower_19, eX12_tower_22, eX12_tower_23, eX12_tower_24, eX12_tower_27, eX12_tower_28, eX12_tower_31, eX12_tower_32, eX12_tower_35, eX12_tower_36, eX12_tower_39, eX12_tower_42, eX12_tower_43, eX12_tower_46, eX12_tower_49, eX12_tower_50, eX12_tower_52, eX12_tower_55, eX12_tower_58, eX12_tower_59, eX12_tower_60, eX12_tower_63, eX12_tower_64, eX12_tower_65, eX12_tower_66, eX12_tower_67, eX12_tower_70, eX12_tower_71, eX12_tower_72, eX12_tower_75, eX12_tower_78, eX12_tower_79, eX12_tower_80, eX12_tower_81, eX12_tower_84, eX12_tower_87, eX12_tower_88, eX12_tower_91, eX12_tower_92, eX12_tower_93, eX12_tower_95, eX12_tower_98, eX12_tower_99, eX12_tower_102, eX12_tower_103, eX12_tower_104, eX12_tower_107, eX12_tower_108, eX12_tower_109, eX12_tower_112, eX12_tower_115, eX12_tower_116, eX12_tower_117, eX12_tower_118, eX12_tower_120, eX12_tower_123, eX12_tower_124, eX12_tower_127, eX12_tower_128, eX12_tower_129, eX12_tower_132, eX12_tower_134, eX12_tower_135, eX12_tower_136, eX12_tower_137, eX12_tower_138, eX12_tower_141, eX12_tower_144, eX12_tower_145, eX12_tower_146, eX12_tower_147, eX12_tower_149, eX12_tower_152, eX12_tower_153, eX12_tower_156, eX12_tower_158, eX12_tower_159, eX12_tower_160, eX12_tower_161, eX12_tower_164, eX12_tower_166, eX12_tower_167, eX12_tower_168, eX12_tower_169, eX12_tower_170, eX12_tower_173, eX12_tower_176, eX12_tower_177, eX12_tower_178, eX12_tower_181, eX12_tower_182, eX12_tower_185, S_aload_n0, S_aload_n0N, S_bipush, S_callV, S_dupi, S_dupr, S_getf, S_goto, S_iadd, S_iald, S_iast, S_icmp_ge, S_iconst, S_if_eq, S_if_ne, S_iinc_1, S_iload_n1, S_ireturn, S_istore_1, S_isub, S_lald, S_last, S_puti, S_putl, S_sipush, g_RX12_1, g_RX12_189, g_RX12_206, g_RX12_209, g_RX12_253, g_RX12_284, g_RX12_293, g_RX12_33, g_RX12_37, g_RX12_43, iCk_i, iCk_l, iCk_n, iCk_o, iCk_r, iS1_1, ic_m1, jb_19, jb_22, jb_59, jb_6, jb_85, jb_96, jc_0, jc_1, js_325, js_900, aX12_tower, bX12_tower, rX12_tower, nar_i, nar_n0, nar_n1, List.mem_cons, List.not_mem_nil, or_false, or_self, if_false, if_true, true_and, and_true, Nat.reduceEqDiff, Nat.reduceAdd, Nat.reduceLT, reduceIte, iSet_1, iEnt_e, iEn_n, iEn_i, iEn_r, iEn_u, iEn_l, List.cons_append, List.nil_append, List.length_cons, List.length_nil, Nat.reduceSub, List.replicate_succ, List.replicate_zero, Nat.zero_add, nI_lit0, va_up_app, nI_add, nI_mul, nI_sub, nI_clamp, vp_nI, nI_le_t, nI_le_f, nI_lt_t, nI_lt_f, imp_t, imp_f, not_true_eq_false, not_false_eq_true, iR_t, nar_zI, zI_f0, zI_t0, va_up_same, upd_ne, upd_self, m_o, mFs_len, mf_0, mk_0, mp_0, mf_15, mk_15, mp_15, mf_19, mk_19, mp_19, mf_20, mk_20, mp_20, mf_11, mf_16, mf_6, m_2, mu_2, mf_7, m_3, mu_3, mf_9, m_5, mu_5, mf_23, mk_23, mp_23]
  refine dVu0 (Y' := mX12_clears) eX12_tower_28 l_RX12_176 kX12_clears iX12_clears nX12_clears m_o rfl rfl (Nat.le_of_ble_eq_true rfl) t_clears ?_
  have x0 : mH G b (va_up (va_up (va_up (va_up (va_up (va_up (va_up (va_up I 0 (nI 0)) 3 (I 2)) 2 (nI 0)) 4 (nI 0)) 5 (nI 900)) 15 (nI 0)) 19 (nI 0)) 20 (nI 0)) W (va_up A 3 (clrH (A 3))) N h0 = (mH G b (towX I W A N).1.1 (towX I W A N).1.2 (va_up A 3 (towX I W A N).2.1) (va_up N 5 (towX I W A N).2.2) h0) := by
    unfold towX
    dsimp only
    rw [N_same]
  have ok0 : tOk (A 1, sz, 900, N 6) (towX I W A N) := by
    refine ⟨⟨hsz, (show 900 ≤ 940 from by decide), ?_, ?_, 0, Nat.zero_le _, ?_⟩, ?_, ?_, ?_⟩
    · simp [towX, va_up, h2]
    · simp [towX, va_up]
    · simp [towX, va_up]
    · constructor <;> simp [towX, clrH, cnt, va_up, zrF] <;> decide +kernel
    · constructor <;> simp [towX, clrH, cnt, va_up, zrF] <;> decide +kernel
    · constructor <;> simp [towX, clrH, cnt, va_up, zrF] <;> decide +kernel
  refine wp_ok (cuts := []) 30 _ _ _ _ ?_
  simp (config := { maxSteps := 2000000 }) (disch := omega) only [wp_su, wp_0, eX12_tower_0, eX12_tower_1, eX12_tower_2, eX12_tower_5, eX12_tower_6, eX12_tower_9, eX12_tower_12, eX12_tower_13, eX12_tower_14, eX12_tower_17, eX12_tower_18, eX12_tower_19, eX12_tower_22, eX12_tower_23, eX12_tower_24, eX12_tower_27, eX12_tower_28, eX12_tower_31, eX12_tower_32, eX12_tower_35, eX12_tower_36, eX12_tower_39, eX12_tower_42, eX12_tower_43, eX12_tower_46, eX12_tower_49, eX12_tower_50, eX12_tower_52, eX12_tower_55, eX12_tower_58, eX12_tower_59, eX12_tower_60, eX12_tower_63, eX12_tower_64, eX12_tower_65, eX12_tower_66, eX12_tower_67, eX12_tower_70, eX12_tower_71, eX12_tower_72, eX12_tower_75, eX12_tower_78, eX12_tower_79, eX12_tower_80, eX12_tower_81, eX12_tower_84, eX12_tower_87, eX12_tower_88, eX12_tower_91, eX12_tower_92, eX12_tower_93, eX12_tower_95, eX12_tower_98, eX12_tower_99, eX12_tower_102, eX12_tower_103, eX12_tower_104, eX12_tower_107, eX12_tower_108, eX12_tower_109, eX12_tower_112, eX12_tower_115, eX12_tower_116, eX12_tower_117, eX12_tower_118, eX12_tower_120, eX12_tower_123, eX12_tower_124, eX12_tower_127, eX12_tower_128, eX12_tower_129, eX12_tower_132, eX12_tower_134, eX12_tower_135, eX12_tower_136, eX12_tower_137, eX12_tower_138, eX12_tower_141, eX12_tower_144, eX12_tower_145, eX12_tower_146, eX12_tower_147, eX12_tower_149, eX12_tower_152, eX12_tower_153, eX12_tower_156, eX12_tower_158, eX12_tower_159, eX12_tower_160, eX12_tower_161, eX12_tower_164, eX12_tower_166, eX12_tower_167, eX12_tower_168, eX12_tower_169, eX12_tower_170, eX12_tower_173, eX12_tower_176, eX12_tower_177, eX12_tower_178, eX12_tower_181, eX12_tower_182, eX12_tower_185, S_aload_n0, S_aload_n0N, S_bipush, S_callV, S_dupi, S_dupr, S_getf, S_goto, S_iadd, S_iald, S_iast, S_icmp_ge, S_iconst, S_if_eq, S_if_ne, S_iinc_1, S_iload_n1, S_ireturn, S_istore_1, S_isub, S_lald, S_last, S_puti, S_putl, S_sipush, g_RX12_1, g_RX12_189, g_RX12_206, g_RX12_209, g_RX12_253, g_RX12_284, g_RX12_293, g_RX12_33, g_RX12_37, g_RX12_43, iCk_i, iCk_l, iCk_n, iCk_o, iCk_r, iS1_1, ic_m1, jb_19, jb_22, jb_59, jb_6, jb_85, jb_96, jc_0, jc_1, js_325, js_900, aX12_tower, bX12_tower, rX12_tower, nar_i, nar_n0, nar_n1, List.mem_cons, List.not_mem_nil, or_false, or_self, if_false, if_true, true_and, and_true, Nat.reduceEqDiff, Nat.reduceAdd, Nat.reduceLT, reduceIte, iSet_1, iEnt_e, iEn_n, iEn_i, iEn_r, iEn_u, iEn_l, List.cons_append, List.nil_append, List.length_cons, List.length_nil, Nat.reduceSub, List.replicate_succ, List.replicate_zero, Nat.zero_add, nI_lit0, va_up_app, nI_add, nI_mul, nI_sub, nI_clamp, vp_nI, nI_le_t, nI_le_f, nI_lt_t, nI_lt_f, imp_t, imp_f, not_true_eq_false, not_false_eq_true, iR_t, nar_zI, zI_f0, zI_t0, va_up_same, upd_ne, upd_self, m_o, mFs_len, mf_0, mk_0, mp_0, mf_15, mk_15, mp_15, mf_19, mk_19, mp_19, mf_20, mk_20, mp_20, mf_11, mf_16, mf_6, m_2, mu_2, mf_7, m_3, mu_3, mf_9, m_5, mu_5, mf_23, mk_23, mp_23, x0]
  refine dVu0 (Y' := mX12_next) eX12_tower_32 l_RX12_218 kX12_next iX12_next nX12_next m_o rfl rfl (Nat.le_of_ble_eq_true rfl) (t_nextT (e := (A 1, sz, 900, N 6)) ok0.1 rfl) ?_
  have ok1 : tOk (A 1, sz, 900, N 6) (nxT (A 1, sz, 900, N 6) (towX I W A N)) := tKp_ok ok0 (tKp_nx (tKp_r ok0))
  refine L_tower0 (e := (A 1, sz, 900, N 6)) rfl rfl (sz + 1) _ ok1 (by show sz < _ + (sz + 1); omega) (fun y hy oky => ?_) (fun y hy => ?_)
  · have e1 : towR A N sz (towX I W A N) = (true, y) := hy
    rw [e1]
    simp only [if_true]
    refine wp_ok (cuts := [80]) 30 _ _ _ _ ?_
    simp (config := { maxSteps := 2000000 }) (disch := omega) only [wp_su, wp_0, eX12_tower_0, eX12_tower_1, eX12_tower_2, eX12_tower_5, eX12_tower_6, eX12_tower_9, eX12_tower_12, eX12_tower_13, eX12_tower_14, eX12_tower_17, eX12_tower_18, eX12_tower_19, eX12_tower_22, eX12_tower_23, eX12_tower_24, eX12_tower_27, eX12_tower_28, eX12_tower_31, eX12_tower_32, eX12_tower_35, eX12_tower_36, eX12_tower_39, eX12_tower_42, eX12_tower_43, eX12_tower_46, eX12_tower_49, eX12_tower_50, eX12_tower_52, eX12_tower_55, eX12_tower_58, eX12_tower_59, eX12_tower_60, eX12_tower_63, eX12_tower_64, eX12_tower_65, eX12_tower_66, eX12_tower_67, eX12_tower_70, eX12_tower_71, eX12_tower_72, eX12_tower_75, eX12_tower_78, eX12_tower_79, eX12_tower_80, eX12_tower_81, eX12_tower_84, eX12_tower_87, eX12_tower_88, eX12_tower_91, eX12_tower_92, eX12_tower_93, eX12_tower_95, eX12_tower_98, eX12_tower_99, eX12_tower_102, eX12_tower_103, eX12_tower_104, eX12_tower_107, eX12_tower_108, eX12_tower_109, eX12_tower_112, eX12_tower_115, eX12_tower_116, eX12_tower_117, eX12_tower_118, eX12_tower_120, eX12_tower_123, eX12_tower_124, eX12_tower_127, eX12_tower_128, eX12_tower_129, eX12_tower_132, eX12_tower_134, eX12_tower_135, eX12_tower_136, eX12_tower_137, eX12_tower_138, eX12_tower_141, eX12_tower_144, eX12_tower_145, eX12_tower_146, eX12_tower_147, eX12_tower_149, eX12_tower_152, eX12_tower_153, eX12_tower_156, eX12_tower_158, eX12_tower_159, eX12_tower_160, eX12_tower_161, eX12_tower_164, eX12_tower_166, eX12_tower_167, eX12_tower_168, eX12_tower_169, eX12_tower_170, eX12_tower_173, eX12_tower_176, eX12_tower_177, eX12_tower_178, eX12_tower_181, eX12_tower_182, eX12_tower_185, S_aload_n0, S_aload_n0N, S_bipush, S_callV, S_dupi, S_dupr, S_getf, S_goto, S_iadd, S_iald, S_iast, S_icmp_ge, S_iconst, S_if_eq, S_if_ne, S_iinc_1, S_iload_n1, S_ireturn, S_istore_1, S_isub, S_lald, S_last, S_puti, S_putl, S_sipush, g_RX12_1, g_RX12_189, g_RX12_206, g_RX12_209, g_RX12_253, g_RX12_284, g_RX12_293, g_RX12_33, g_RX12_37, g_RX12_43, iCk_i, iCk_l, iCk_n, iCk_o, iCk_r, iS1_1, ic_m1, jb_19, jb_22, jb_59, jb_6, jb_85, jb_96, jc_0, jc_1, js_325, js_900, aX12_tower, bX12_tower, rX12_tower, nar_i, nar_n0, nar_n1, List.mem_cons, List.not_mem_nil, or_false, or_self, if_false, if_true, true_and, and_true, Nat.reduceEqDiff, Nat.reduceAdd, Nat.reduceLT, reduceIte, iSet_1, iEnt_e, iEn_n, iEn_i, iEn_r, iEn_u, iEn_l, List.cons_append, List.nil_append, List.length_cons, List.length_nil, Nat.reduceSub, List.replicate_succ, List.replicate_zero, Nat.zero_add, nI_lit0, va_up_app, nI_add, nI_mul, nI_sub, nI_clamp, vp_nI, nI_le_t, nI_le_f, nI_lt_t, nI_lt_f, imp_t, imp_f, not_true_eq_false, not_false_eq_true, iR_t, nar_zI, zI_f0, zI_t0, va_up_same, upd_ne, upd_self, m_o, mFs_len, mf_0, mk_0, mp_0, mf_15, mk_15, mp_15, mf_19, mk_19, mp_19, mf_20, mk_20, mp_20, mf_11, mf_16, mf_6, m_2, mu_2, mf_7, m_3, mu_3, mf_9, m_5, mu_5, mf_23, mk_23, mp_23]
    have c3 := L_tower3 (G := G) (d := d) (b := b) (I := y.1.1) (W := y.1.2) (A := va_up (va_up A 3 y.2.1) 2 (sT1 y.2.1 (A 2) 325)) (N := va_up N 5 (cpL y.2.2 y.2.2 19 0 19)) (h0 := h0) (n := y.1.1 19) rfl 6 0 rfl
    have c2 := L_tower2 (G := G) (d := d) (b := b) (I := y.1.1) (W := y.1.2) (A := va_up (va_up A 3 y.2.1) 2 (sT1 y.2.1 (A 2) 325)) (N := va_up N 5 y.2.2) (h0 := h0) (Q := fun v g => v = some (.int (y.1.1 19)) ∧ g = mH G b (va_up y.1.1 23 (nI 0)) y.1.2 (va_up (va_up A 3 y.2.1) 2 (sTw y.2.1 (A 2))) (va_up N 5 (cpL y.2.2 y.2.2 19 0 19)) h0) (by
      refine wp_ok (cuts := [146]) 30 _ _ _ _ ?_
      simp (config := { maxSteps := 2000000 }) (disch := omega) only [wp_su, wp_0, eX12_tower_0, eX12_tower_1, eX12_tower_2, eX12_tower_5, eX12_tower_6, eX12_tower_9, eX12_tower_12, eX12_tower_13, eX12_tower_14, eX12_tower_17, eX12_tower_18, eX12_tower_19, eX12_tower_22, eX12_tower_23, eX12_tower_24, eX12_tower_27, eX12_tower_28, eX12_tower_31, eX12_tower_32, eX12_tower_35, eX12_tower_36, eX12_tower_39, eX12_tower_42, eX12_tower_43, eX12_tower_46, eX12_tower_49, eX12_tower_50, eX12_tower_52, eX12_tower_55, eX12_tower_58, eX12_tower_59, eX12_tower_60, eX12_tower_63, eX12_tower_64, eX12_tower_65, eX12_tower_66, eX12_tower_67, eX12_tower_70, eX12_tower_71, eX12_tower_72, eX12_tower_75, eX12_tower_78, eX12_tower_79, eX12_tower_80, eX12_tower_81, eX12_tower_84, eX12_tower_87, eX12_tower_88, eX12_tower_91, eX12_tower_92, eX12_tower_93, eX12_tower_95, eX12_tower_98, eX12_tower_99, eX12_tower_102, eX12_tower_103, eX12_tower_104, eX12_tower_107, eX12_tower_108, eX12_tower_109, eX12_tower_112, eX12_tower_115, eX12_tower_116, eX12_tower_117, eX12_tower_118, eX12_tower_120, eX12_tower_123, eX12_tower_124, eX12_tower_127, eX12_tower_128, eX12_tower_129, eX12_tower_132, eX12_tower_134, eX12_tower_135, eX12_tower_136, eX12_tower_137, eX12_tower_138, eX12_tower_141, eX12_tower_144, eX12_tower_145, eX12_tower_146, eX12_tower_147, eX12_tower_149, eX12_tower_152, eX12_tower_153, eX12_tower_156, eX12_tower_158, eX12_tower_159, eX12_tower_160, eX12_tower_161, eX12_tower_164, eX12_tower_166, eX12_tower_167, eX12_tower_168, eX12_tower_169, eX12_tower_170, eX12_tower_173, eX12_tower_176, eX12_tower_177, eX12_tower_178, eX12_tower_181, eX12_tower_182, eX12_tower_185, S_aload_n0, S_aload_n0N, S_bipush, S_callV, S_dupi, S_dupr, S_getf, S_goto, S_iadd, S_iald, S_iast, S_icmp_ge, S_iconst, S_if_eq, S_if_ne, S_iinc_1, S_iload_n1, S_ireturn, S_istore_1, S_isub, S_lald, S_last, S_puti, S_putl, S_sipush, g_RX12_1, g_RX12_189, g_RX12_206, g_RX12_209, g_RX12_253, g_RX12_284, g_RX12_293, g_RX12_33, g_RX12_37, g_RX12_43, iCk_i, iCk_l, iCk_n, iCk_o, iCk_r, iS1_1, ic_m1, jb_19, jb_22, jb_59, jb_6, jb_85, jb_96, jc_0, jc_1, js_325, js_900, aX12_tower, bX12_tower, rX12_tower, nar_i, nar_n0, nar_n1, List.mem_cons, List.not_mem_nil, or_false, or_self, if_false, if_true, true_and, and_true, Nat.reduceEqDiff, Nat.reduceAdd, Nat.reduceLT, reduceIte, iSet_1, iEnt_e, iEn_n, iEn_i, iEn_r, iEn_u, iEn_l, List.cons_append, List.nil_append, List.length_cons, List.length_nil, Nat.reduceSub, List.replicate_succ, List.replicate_zero, Nat.zero_add, nI_lit0, va_up_app, nI_add, nI_mul, nI_sub, nI_clamp, vp_nI, nI_le_t, nI_le_f, nI_lt_t, nI_lt_f, imp_t, imp_f, not_true_eq_false, not_false_eq_true, iR_t, nar_zI, zI_f0, zI_t0, va_up_same, upd_ne, upd_self, m_o, mFs_len, mf_0, mk_0, mp_0, mf_15, mk_15, mp_15, mf_19, mk_19, mp_19, mf_20, mk_20, mp_20, mf_11, mf_16, mf_6, m_2, mu_2, mf_7, m_3, mu_3, mf_9, m_5, mu_5, mf_23, mk_23, mp_23]
      rw [va_cpy_0] at c3
      rw [va_up_self, va_up_same, va_up_same] at c3
      exact c3) 19 0 rfl
    have c1 := L_tower1 (G := G) (d := d) (b := b) (I := y.1.1) (W := y.1.2) (A := va_up A 3 y.2.1) (N := va_up N 5 y.2.2) (h0 := h0) (Q := fun v g => v = some (.int (y.1.1 19)) ∧ g = mH G b (va_up y.1.1 23 (nI 0)) y.1.2 (va_up (va_up A 3 y.2.1) 2 (sTw y.2.1 (A 2))) (va_up N 5 (cpL y.2.2 y.2.2 19 0 19)) h0) (by
      refine wp_ok (cuts := [117]) 30 _ _ _ _ ?_
      simp (config := { maxSteps := 2000000 }) (disch := omega) only [wp_su, wp_0, eX12_tower_0, eX12_tower_1, eX12_tower_2, eX12_tower_5, eX12_tower_6, eX12_tower_9, eX12_tower_12, eX12_tower_13, eX12_tower_14, eX12_tower_17, eX12_tower_18, eX12_tower_19, eX12_tower_22, eX12_tower_23, eX12_tower_24, eX12_tower_27, eX12_tower_28, eX12_tower_31, eX12_tower_32, eX12_tower_35, eX12_tower_36, eX12_tower_39, eX12_tower_42, eX12_tower_43, eX12_tower_46, eX12_tower_49, eX12_tower_50, eX12_tower_52, eX12_tower_55, eX12_tower_58, eX12_tower_59, eX12_tower_60, eX12_tower_63, eX12_tower_64, eX12_tower_65, eX12_tower_66, eX12_tower_67, eX12_tower_70, eX12_tower_71, eX12_tower_72, eX12_tower_75, eX12_tower_78, eX12_tower_79, eX12_tower_80, eX12_tower_81, eX12_tower_84, eX12_tower_87, eX12_tower_88, eX12_tower_91, eX12_tower_92, eX12_tower_93, eX12_tower_95, eX12_tower_98, eX12_tower_99, eX12_tower_102, eX12_tower_103, eX12_tower_104, eX12_tower_107, eX12_tower_108, eX12_tower_109, eX12_tower_112, eX12_tower_115, eX12_tower_116, eX12_tower_117, eX12_tower_118, eX12_tower_120, eX12_tower_123, eX12_tower_124, eX12_tower_127, eX12_tower_128, eX12_tower_129, eX12_tower_132, eX12_tower_134, eX12_tower_135, eX12_tower_136, eX12_tower_137, eX12_tower_138, eX12_tower_141, eX12_tower_144, eX12_tower_145, eX12_tower_146, eX12_tower_147, eX12_tower_149, eX12_tower_152, eX12_tower_153, eX12_tower_156, eX12_tower_158, eX12_tower_159, eX12_tower_160, eX12_tower_161, eX12_tower_164, eX12_tower_166, eX12_tower_167, eX12_tower_168, eX12_tower_169, eX12_tower_170, eX12_tower_173, eX12_tower_176, eX12_tower_177, eX12_tower_178, eX12_tower_181, eX12_tower_182, eX12_tower_185, S_aload_n0, S_aload_n0N, S_bipush, S_callV, S_dupi, S_dupr, S_getf, S_goto, S_iadd, S_iald, S_iast, S_icmp_ge, S_iconst, S_if_eq, S_if_ne, S_iinc_1, S_iload_n1, S_ireturn, S_istore_1, S_isub, S_lald, S_last, S_puti, S_putl, S_sipush, g_RX12_1, g_RX12_189, g_RX12_206, g_RX12_209, g_RX12_253, g_RX12_284, g_RX12_293, g_RX12_33, g_RX12_37, g_RX12_43, iCk_i, iCk_l, iCk_n, iCk_o, iCk_r, iS1_1, ic_m1, jb_19, jb_22, jb_59, jb_6, jb_85, jb_96, jc_0, jc_1, js_325, js_900, aX12_tower, bX12_tower, rX12_tower, nar_i, nar_n0, nar_n1, List.mem_cons, List.not_mem_nil, or_false, or_self, if_false, if_true, true_and, and_true, Nat.reduceEqDiff, Nat.reduceAdd, Nat.reduceLT, reduceIte, iSet_1, iEnt_e, iEn_n, iEn_i, iEn_r, iEn_u, iEn_l, List.cons_append, List.nil_append, List.length_cons, List.length_nil, Nat.reduceSub, List.replicate_succ, List.replicate_zero, Nat.zero_add, nI_lit0, va_up_app, nI_add, nI_mul, nI_sub, nI_clamp, vp_nI, nI_le_t, nI_le_f, nI_lt_t, nI_lt_f, imp_t, imp_f, not_true_eq_false, not_false_eq_true, iR_t, nar_zI, zI_f0, zI_t0, va_up_same, upd_ne, upd_self, m_o, mFs_len, mf_0, mk_0, mp_0, mf_15, mk_15, mp_15, mf_19, mk_19, mp_19, mf_20, mk_20, mp_20, mf_11, mf_16, mf_6, m_2, mu_2, mf_7, m_3, mu_3, mf_9, m_5, mu_5, mf_23, mk_23, mp_23]
      rw [cpL_0] at c2
      rw [va_up_self, va_up_same] at c2
      exact c2) 325 0 rfl
    rw [sT1_0, A_same] at c1
    exact c1
  · have e1 : towR A N sz (towX I W A N) = (false, y) := hy
    rw [e1]
    simp
end MTy
