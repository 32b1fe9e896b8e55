/-! The reference's object: scalars I, the word W, rows of ints A (by their places behind the object), rows of longs N -/
def mFs (b : Nat) (I : Nat → Int32) (W : Int64) : List Value := [.int (I 0), .ref (b + 1), .int (I 2), .int (I 3), .int (I 4), .int (I 5), .ref (b + 2), .ref (b + 3), .ref (b + 4), .ref (b + 5), .ref (b + 6), .int (I 11), .int (I 12), .int (I 13), .int (I 14), .int (I 15), .int (I 16), .long W, .int (I 18), .int (I 19), .int (I 20), .ref (b + 7), .ref (b + 8), .int (I 23), .ref (b + 9), .ref (b + 10), .int (I 26), .int (I 27), .ref (b + 11), .ref (b + 12), .ref (b + 13), .int (I 31), .int (I 32), .int (I 33), .int (I 34), .ref (b + 14), .ref (b + 15), .int (I 37), .ref (b + 16), .int (I 39), .int (I 40), .int (I 41), .ref (b + 17), .int (I 43), .ref (b + 18), .int (I 45), .int (I 46), .int (I 47), .int (I 48), .int (I 49), .ref (b + 19), .ref (b + 20), .ref (b + 21), .ref (b + 22)]
def mAr (G : iG) (A : Nat → Nat → Int32) (N : Nat → Nat → Int64) (j : Nat) : va_E := match j with
  | 1 => .inl (G.2.2.2.1 1, 940, .inl (A 1))
  | 2 => .inl (G.2.2.2.1 0, 325, .inl (A 2))
  | 3 => .inl (G.2.2.2.1 0, 85, .inl (A 3))
  | 4 => .inl (G.2.2.2.1 0, 135, .inl (A 4))
  | 5 => .inl (G.2.2.2.1 2, 38, .inr (.inl (N 5)))
  | 6 => .inl (G.2.2.2.1 2, 31, .inr (.inl (N 6)))
  | 7 => .inl (G.2.2.2.1 0, 472, .inl (A 7))
  | 8 => .inl (G.2.2.2.1 0, 59, .inl (A 8))
  | 9 => .inl (G.2.2.2.1 0, 4, .inl (A 9))
  | 10 => .inl (G.2.2.2.1 0, 4, .inl (A 10))
  | 11 => .inl (G.2.2.2.1 0, 4, .inl (A 11))
  | 12 => .inl (G.2.2.2.1 0, 4, .inl (A 12))
  | 13 => .inl (G.2.2.2.1 0, 9, .inl (A 13))
  | 14 => .inl (G.2.2.2.1 0, 6, .inl (A 14))
  | 15 => .inl (G.2.2.2.1 0, 6, .inl (A 15))
  | 16 => .inl (G.2.2.2.1 1, 72, .inl (A 16))
  | 17 => .inl (G.2.2.2.1 0, 4, .inl (A 17))
  | 18 => .inl (G.2.2.2.1 0, 45, .inl (A 18))
  | 19 => .inl (G.2.2.2.1 3, 45, .inl (A 19))
  | 20 => .inl (G.2.2.2.1 0, 650, .inl (A 20))
  | 21 => .inl (G.2.2.2.1 2, 38, .inr (.inl (N 21)))
  | _ => .inl (G.2.2.2.1 3, 2, .inl (A 22))
def mH (G : iG) (b : Nat) (I : Nat → Int32) (W : Int64) (A : Nat → Nat → Int32) (N : Nat → Nat → Int64) (h0 : iH) : iH := (fun a => if a = b then some (.inr (11, mFs b I W)) else if b < a ∧ a < b + 23 then some (mAr G A N (a - b)) else h0.1 a, h0.2)
section MH
variable {G : iG} {b : Nat} {I : Nat → Int32} {W : Int64} {A : Nat → Nat → Int32} {N : Nat → Nat → Int64} {h0 : iH}
theorem m_o : (mH G b I W A N h0).1 b = some (.inr (11, mFs b I W)) := by simp [mH]
theorem m_a (j : Nat) (h1 : 0 < j) (h2 : j < 23) : (mH G b I W A N h0).1 (b + j) = some (mAr G A N j) := by
  have e1 : ¬ (b + j = b) := by omega
  have e2 : b < b + j ∧ b + j < b + 23 := by omega
  simp only [mH, e1, if_false, e2, and_self, if_true, Nat.add_sub_cancel_left]
theorem mFs_len : (mFs b I W).length = 54 := rfl
theorem m_so (fs : List Value) (I' : Nat → Int32) (W' : Int64) (hf : fs = mFs b I' W') : iSet (mH G b I W A N h0) b (.inr (11, fs)) = mH G b I' W' A N h0 := by
  subst hf
  unfold iSet mH
  congr 1
  funext a
  by_cases ha : a = b <;> simp [ha]
theorem m_sa (j : Nat) (h1 : 0 < j) (h2 : j < 23) {e : va_E} {A' : Nat → Nat → Int32} {N' : Nat → Nat → Int64} (he : ∀ i, mAr G A' N' i = if i = j then e else mAr G A N i) : iSet (mH G b I W A N h0) (b + j) e = mH G b I W A' N' h0 := by
  unfold iSet mH
  congr 1
  funext a
  by_cases hb : a = b
  · subst hb
    have e1 : ¬ (a = a + j) := by omega
    simp [e1]
    omega
  · by_cases ha : a = b + j
    · subst ha
      have e2 : b < b + j ∧ b + j < b + 23 := by omega
      simp [hb, e2, he]
      omega
    · by_cases hr : b < a ∧ a < b + 23
      · have e3 : ¬ (a - b = j) := by omega
        simp [hb, ha, hr, he, e3]
      · simp [hb, ha, hr]
end MH
theorem mAr_A_1 {G : iG} {A : Nat → Nat → Int32} {N : Nat → Nat → Int64} (f : Nat → Int32) : ∀ i, mAr G (va_up A 1 f) N i = if i = 1 then .inl (G.2.2.2.1 1, 940, .inl f) else mAr G A N i := by
  intro i
  unfold mAr
  split <;> simp_all [va_up]
theorem mAr_A_2 {G : iG} {A : Nat → Nat → Int32} {N : Nat → Nat → Int64} (f : Nat → Int32) : ∀ i, mAr G (va_up A 2 f) N i = if i = 2 then .inl (G.2.2.2.1 0, 325, .inl f) else mAr G A N i := by
  intro i
  unfold mAr
  split <;> simp_all [va_up]
theorem mAr_A_3 {G : iG} {A : Nat → Nat → Int32} {N : Nat → Nat → Int64} (f : Nat → Int32) : ∀ i, mAr G (va_up A 3 f) N i = if i = 3 then .inl (G.2.2.2.1 0, 85, .inl f) else mAr G A N i := by
  intro i
  unfold mAr
  split <;> simp_all [va_up]
theorem mAr_A_4 {G : iG} {A : Nat → Nat → Int32} {N : Nat → Nat → Int64} (f : Nat → Int32) : ∀ i, mAr G (va_up A 4 f) N i = if i = 4 then .inl (G.2.2.2.1 0, 135, .inl f) else mAr G A N i := by
  intro i
  unfold mAr
  split <;> simp_all [va_up]
theorem mAr_N_5 {G : iG} {A : Nat → Nat → Int32} {N : Nat → Nat → Int64} (f : Nat → Int64) : ∀ i, mAr G A (va_up N 5 f) i = if i = 5 then .inl (G.2.2.2.1 2, 38, .inr (.inl f)) else mAr G A N i := by
  intro i
  unfold mAr
  split <;> simp_all [va_up]
theorem mAr_N_6 {G : iG} {A : Nat → Nat → Int32} {N : Nat → Nat → Int64} (f : Nat → Int64) : ∀ i, mAr G A (va_up N 6 f) i = if i = 6 then .inl (G.2.2.2.1 2, 31, .inr (.inl f)) else mAr G A N i := by
  intro i
  unfold mAr
  split <;> simp_all [va_up]
theorem mAr_A_7 {G : iG} {A : Nat → Nat → Int32} {N : Nat → Nat → Int64} (f : Nat → Int32) : ∀ i, mAr G (va_up A 7 f) N i = if i = 7 then .inl (G.2.2.2.1 0, 472, .inl f) else mAr G A N i := by
  intro i
  unfold mAr
  split <;> simp_all [va_up]
theorem mAr_A_8 {G : iG} {A : Nat → Nat → Int32} {N : Nat → Nat → Int64} (f : Nat → Int32) : ∀ i, mAr G (va_up A 8 f) N i = if i = 8 then .inl (G.2.2.2.1 0, 59, .inl f) else mAr G A N i := by
  intro i
  unfold mAr
  split <;> simp_all [va_up]
theorem mAr_A_9 {G : iG} {A : Nat → Nat → Int32} {N : Nat → Nat → Int64} (f : Nat → Int32) : ∀ i, mAr G (va_up A 9 f) N i = if i = 9 then .inl (G.2.2.2.1 0, 4, .inl f) else mAr G A N i := by
  intro i
  unfold mAr
  split <;> simp_all [va_up]
theorem mAr_A_10 {G : iG} {A : Nat → Nat → Int32} {N : Nat → Nat → Int64} (f : Nat → Int32) : ∀ i, mAr G (va_up A 10 f) N i = if i = 10 then .inl (G.2.2.2.1 0, 4, .inl f) else mAr G A N i := by
  intro i
  unfold mAr
  split <;> simp_all [va_up]
theorem mAr_A_11 {G : iG} {A : Nat → Nat → Int32} {N : Nat → Nat → Int64} (f : Nat → Int32) : ∀ i, mAr G (va_up A 11 f) N i = if i = 11 then .inl (G.2.2.2.1 0, 4, .inl f) else mAr G A N i := by
  intro i
  unfold mAr
  split <;> simp_all [va_up]
theorem mAr_A_12 {G : iG} {A : Nat → Nat → Int32} {N : Nat → Nat → Int64} (f : Nat → Int32) : ∀ i, mAr G (va_up A 12 f) N i = if i = 12 then .inl (G.2.2.2.1 0, 4, .inl f) else mAr G A N i := by
  intro i
  unfold mAr
  split <;> simp_all [va_up]
theorem mAr_A_13 {G : iG} {A : Nat → Nat → Int32} {N : Nat → Nat → Int64} (f : Nat → Int32) : ∀ i, mAr G (va_up A 13 f) N i = if i = 13 then .inl (G.2.2.2.1 0, 9, .inl f) else mAr G A N i := by
  intro i
  unfold mAr
  split <;> simp_all [va_up]
theorem mAr_A_14 {G : iG} {A : Nat → Nat → Int32} {N : Nat → Nat → Int64} (f : Nat → Int32) : ∀ i, mAr G (va_up A 14 f) N i = if i = 14 then .inl (G.2.2.2.1 0, 6, .inl f) else mAr G A N i := by
  intro i
  unfold mAr
  split <;> simp_all [va_up]
theorem mAr_A_15 {G : iG} {A : Nat → Nat → Int32} {N : Nat → Nat → Int64} (f : Nat → Int32) : ∀ i, mAr G (va_up A 15 f) N i = if i = 15 then .inl (G.2.2.2.1 0, 6, .inl f) else mAr G A N i := by
  intro i
  unfold mAr
  split <;> simp_all [va_up]
theorem mAr_A_16 {G : iG} {A : Nat → Nat → Int32} {N : Nat → Nat → Int64} (f : Nat → Int32) : ∀ i, mAr G (va_up A 16 f) N i = if i = 16 then .inl (G.2.2.2.1 1, 72, .inl f) else mAr G A N i := by
  intro i
  unfold mAr
  split <;> simp_all [va_up]
theorem mAr_A_17 {G : iG} {A : Nat → Nat → Int32} {N : Nat → Nat → Int64} (f : Nat → Int32) : ∀ i, mAr G (va_up A 17 f) N i = if i = 17 then .inl (G.2.2.2.1 0, 4, .inl f) else mAr G A N i := by
  intro i
  unfold mAr
  split <;> simp_all [va_up]
theorem mAr_A_18 {G : iG} {A : Nat → Nat → Int32} {N : Nat → Nat → Int64} (f : Nat → Int32) : ∀ i, mAr G (va_up A 18 f) N i = if i = 18 then .inl (G.2.2.2.1 0, 45, .inl f) else mAr G A N i := by
  intro i
  unfold mAr
  split <;> simp_all [va_up]
theorem mAr_A_19 {G : iG} {A : Nat → Nat → Int32} {N : Nat → Nat → Int64} (f : Nat → Int32) : ∀ i, mAr G (va_up A 19 f) N i = if i = 19 then .inl (G.2.2.2.1 3, 45, .inl f) else mAr G A N i := by
  intro i
  unfold mAr
  split <;> simp_all [va_up]
theorem mAr_A_20 {G : iG} {A : Nat → Nat → Int32} {N : Nat → Nat → Int64} (f : Nat → Int32) : ∀ i, mAr G (va_up A 20 f) N i = if i = 20 then .inl (G.2.2.2.1 0, 650, .inl f) else mAr G A N i := by
  intro i
  unfold mAr
  split <;> simp_all [va_up]
theorem mAr_N_21 {G : iG} {A : Nat → Nat → Int32} {N : Nat → Nat → Int64} (f : Nat → Int64) : ∀ i, mAr G A (va_up N 21 f) i = if i = 21 then .inl (G.2.2.2.1 2, 38, .inr (.inl f)) else mAr G A N i := by
  intro i
  unfold mAr
  split <;> simp_all [va_up]
section MH2
variable {G : iG} {b : Nat} {I : Nat → Int32} {W : Int64} {A : Nat → Nat → Int32} {N : Nat → Nat → Int64} {h0 : iH}
theorem m_1 : (mH G b I W A N h0).1 (b + 1) = some (.inl (G.2.2.2.1 1, 940, .inl (A 1))) := m_a 1 (by decide) (by decide)
theorem mu_1 {f : Nat → Int32} : iSet (mH G b I W A N h0) (b + 1) (.inl (G.2.2.2.1 1, 940, .inl f)) = mH G b I W (va_up A 1 f) N h0 := m_sa 1 (by decide) (by decide) (mAr_A_1 f)
theorem m_2 : (mH G b I W A N h0).1 (b + 2) = some (.inl (G.2.2.2.1 0, 325, .inl (A 2))) := m_a 2 (by decide) (by decide)
theorem mu_2 {f : Nat → Int32} : iSet (mH G b I W A N h0) (b + 2) (.inl (G.2.2.2.1 0, 325, .inl f)) = mH G b I W (va_up A 2 f) N h0 := m_sa 2 (by decide) (by decide) (mAr_A_2 f)
theorem m_3 : (mH G b I W A N h0).1 (b + 3) = some (.inl (G.2.2.2.1 0, 85, .inl (A 3))) := m_a 3 (by decide) (by decide)
theorem mu_3 {f : Nat → Int32} : iSet (mH G b I W A N h0) (b + 3) (.inl (G.2.2.2.1 0, 85, .inl f)) = mH G b I W (va_up A 3 f) N h0 := m_sa 3 (by decide) (by decide) (mAr_A_3 f)
theorem m_4 : (mH G b I W A N h0).1 (b + 4) = some (.inl (G.2.2.2.1 0, 135, .inl (A 4))) := m_a 4 (by decide) (by decide)
theorem mu_4 {f : Nat → Int32} : iSet (mH G b I W A N h0) (b + 4) (.inl (G.2.2.2.1 0, 135, .inl f)) = mH G b I W (va_up A 4 f) N h0 := m_sa 4 (by decide) (by decide) (mAr_A_4 f)
theorem m_5 : (mH G b I W A N h0).1 (b + 5) = some (.inl (G.2.2.2.1 2, 38, .inr (.inl (N 5)))) := m_a 5 (by decide) (by decide)
theorem mu_5 {f : Nat → Int64} : iSet (mH G b I W A N h0) (b + 5) (.inl (G.2.2.2.1 2, 38, .inr (.inl f))) = mH G b I W A (va_up N 5 f) h0 := m_sa 5 (by decide) (by decide) (mAr_N_5 f)
theorem m_6 : (mH G b I W A N h0).1 (b + 6) = some (.inl (G.2.2.2.1 2, 31, .inr (.inl (N 6)))) := m_a 6 (by decide) (by decide)
theorem mu_6 {f : Nat → Int64} : iSet (mH G b I W A N h0) (b + 6) (.inl (G.2.2.2.1 2, 31, .inr (.inl f))) = mH G b I W A (va_up N 6 f) h0 := m_sa 6 (by decide) (by decide) (mAr_N_6 f)
theorem m_7 : (mH G b I W A N h0).1 (b + 7) = some (.inl (G.2.2.2.1 0, 472, .inl (A 7))) := m_a 7 (by decide) (by decide)
theorem mu_7 {f : Nat → Int32} : iSet (mH G b I W A N h0) (b + 7) (.inl (G.2.2.2.1 0, 472, .inl f)) = mH G b I W (va_up A 7 f) N h0 := m_sa 7 (by decide) (by decide) (mAr_A_7 f)
theorem m_8 : (mH G b I W A N h0).1 (b + 8) = some (.inl (G.2.2.2.1 0, 59, .inl (A 8))) := m_a 8 (by decide) (by decide)
theorem mu_8 {f : Nat → Int32} : iSet (mH G b I W A N h0) (b + 8) (.inl (G.2.2.2.1 0, 59, .inl f)) = mH G b I W (va_up A 8 f) N h0 := m_sa 8 (by decide) (by decide) (mAr_A_8 f)
theorem m_9 : (mH G b I W A N h0).1 (b + 9) = some (.inl (G.2.2.2.1 0, 4, .inl (A 9))) := m_a 9 (by decide) (by decide)
theorem mu_9 {f : Nat → Int32} : iSet (mH G b I W A N h0) (b + 9) (.inl (G.2.2.2.1 0, 4, .inl f)) = mH G b I W (va_up A 9 f) N h0 := m_sa 9 (by decide) (by decide) (mAr_A_9 f)
theorem m_10 : (mH G b I W A N h0).1 (b + 10) = some (.inl (G.2.2.2.1 0, 4, .inl (A 10))) := m_a 10 (by decide) (by decide)
theorem mu_10 {f : Nat → Int32} : iSet (mH G b I W A N h0) (b + 10) (.inl (G.2.2.2.1 0, 4, .inl f)) = mH G b I W (va_up A 10 f) N h0 := m_sa 10 (by decide) (by decide) (mAr_A_10 f)
theorem m_11 : (mH G b I W A N h0).1 (b + 11) = some (.inl (G.2.2.2.1 0, 4, .inl (A 11))) := m_a 11 (by decide) (by decide)
theorem mu_11 {f : Nat → Int32} : iSet (mH G b I W A N h0) (b + 11) (.inl (G.2.2.2.1 0, 4, .inl f)) = mH G b I W (va_up A 11 f) N h0 := m_sa 11 (by decide) (by decide) (mAr_A_11 f)
theorem m_12 : (mH G b I W A N h0).1 (b + 12) = some (.inl (G.2.2.2.1 0, 4, .inl (A 12))) := m_a 12 (by decide) (by decide)
theorem mu_12 {f : Nat → Int32} : iSet (mH G b I W A N h0) (b + 12) (.inl (G.2.2.2.1 0, 4, .inl f)) = mH G b I W (va_up A 12 f) N h0 := m_sa 12 (by decide) (by decide) (mAr_A_12 f)
theorem m_13 : (mH G b I W A N h0).1 (b + 13) = some (.inl (G.2.2.2.1 0, 9, .inl (A 13))) := m_a 13 (by decide) (by decide)
theorem mu_13 {f : Nat → Int32} : iSet (mH G b I W A N h0) (b + 13) (.inl (G.2.2.2.1 0, 9, .inl f)) = mH G b I W (va_up A 13 f) N h0 := m_sa 13 (by decide) (by decide) (mAr_A_13 f)
theorem m_14 : (mH G b I W A N h0).1 (b + 14) = some (.inl (G.2.2.2.1 0, 6, .inl (A 14))) := m_a 14 (by decide) (by decide)
theorem mu_14 {f : Nat → Int32} : iSet (mH G b I W A N h0) (b + 14) (.inl (G.2.2.2.1 0, 6, .inl f)) = mH G b I W (va_up A 14 f) N h0 := m_sa 14 (by decide) (by decide) (mAr_A_14 f)
theorem m_15 : (mH G b I W A N h0).1 (b + 15) = some (.inl (G.2.2.2.1 0, 6, .inl (A 15))) := m_a 15 (by decide) (by decide)
theorem mu_15 {f : Nat → Int32} : iSet (mH G b I W A N h0) (b + 15) (.inl (G.2.2.2.1 0, 6, .inl f)) = mH G b I W (va_up A 15 f) N h0 := m_sa 15 (by decide) (by decide) (mAr_A_15 f)
theorem m_16 : (mH G b I W A N h0).1 (b + 16) = some (.inl (G.2.2.2.1 1, 72, .inl (A 16))) := m_a 16 (by decide) (by decide)
theorem mu_16 {f : Nat → Int32} : iSet (mH G b I W A N h0) (b + 16) (.inl (G.2.2.2.1 1, 72, .inl f)) = mH G b I W (va_up A 16 f) N h0 := m_sa 16 (by decide) (by decide) (mAr_A_16 f)
theorem m_17 : (mH G b I W A N h0).1 (b + 17) = some (.inl (G.2.2.2.1 0, 4, .inl (A 17))) := m_a 17 (by decide) (by decide)
theorem mu_17 {f : Nat → Int32} : iSet (mH G b I W A N h0) (b + 17) (.inl (G.2.2.2.1 0, 4, .inl f)) = mH G b I W (va_up A 17 f) N h0 := m_sa 17 (by decide) (by decide) (mAr_A_17 f)
theorem m_18 : (mH G b I W A N h0).1 (b + 18) = some (.inl (G.2.2.2.1 0, 45, .inl (A 18))) := m_a 18 (by decide) (by decide)
theorem mu_18 {f : Nat → Int32} : iSet (mH G b I W A N h0) (b + 18) (.inl (G.2.2.2.1 0, 45, .inl f)) = mH G b I W (va_up A 18 f) N h0 := m_sa 18 (by decide) (by decide) (mAr_A_18 f)
theorem m_19 : (mH G b I W A N h0).1 (b + 19) = some (.inl (G.2.2.2.1 3, 45, .inl (A 19))) := m_a 19 (by decide) (by decide)
theorem mu_19 {f : Nat → Int32} : iSet (mH G b I W A N h0) (b + 19) (.inl (G.2.2.2.1 3, 45, .inl f)) = mH G b I W (va_up A 19 f) N h0 := m_sa 19 (by decide) (by decide) (mAr_A_19 f)
theorem m_20 : (mH G b I W A N h0).1 (b + 20) = some (.inl (G.2.2.2.1 0, 650, .inl (A 20))) := m_a 20 (by decide) (by decide)
theorem mu_20 {f : Nat → Int32} : iSet (mH G b I W A N h0) (b + 20) (.inl (G.2.2.2.1 0, 650, .inl f)) = mH G b I W (va_up A 20 f) N h0 := m_sa 20 (by decide) (by decide) (mAr_A_20 f)
theorem m_21 : (mH G b I W A N h0).1 (b + 21) = some (.inl (G.2.2.2.1 2, 38, .inr (.inl (N 21)))) := m_a 21 (by decide) (by decide)
theorem mu_21 {f : Nat → Int64} : iSet (mH G b I W A N h0) (b + 21) (.inl (G.2.2.2.1 2, 38, .inr (.inl f))) = mH G b I W A (va_up N 21 f) h0 := m_sa 21 (by decide) (by decide) (mAr_N_21 f)
theorem m_22 : (mH G b I W A N h0).1 (b + 22) = some (.inl (G.2.2.2.1 3, 2, .inl (A 22))) := m_a 22 (by decide) (by decide)
theorem mu_22 {f : Nat → Int32} : iSet (mH G b I W A N h0) (b + 22) (.inl (G.2.2.2.1 3, 2, .inl f)) = mH G b I W (va_up A 22 f) N h0 := by
  unfold iSet mH
  congr 1
  funext a
  by_cases hb : a = b
  · subst hb
    simp
  · by_cases ha : a = b + 22
    · subst ha
      simp [mAr, va_up]
    · by_cases hr : b < a ∧ a < b + 23
      · obtain ⟨i, rfl⟩ : ∃ i, a = b + i := ⟨a - b, by omega⟩
        have hi : i < 22 ∧ 0 < i := by omega
        simp only [hb, if_false, ha, hr, and_self, if_true, Nat.add_sub_cancel_left]
        rcases (show i = 1 ∨ i = 2 ∨ i = 3 ∨ i = 4 ∨ i = 5 ∨ i = 6 ∨ i = 7 ∨ i = 8 ∨ i = 9 ∨ i = 10 ∨ i = 11 ∨ i = 12 ∨ i = 13 ∨ i = 14 ∨ i = 15 ∨ i = 16 ∨ i = 17 ∨ i = 18 ∨ i = 19 ∨ i = 20 ∨ i = 21 by omega) with rfl | rfl | rfl | rfl | rfl | rfl | rfl | rfl | rfl | rfl | rfl | rfl | rfl | rfl | rfl | rfl | rfl | rfl | rfl | rfl | rfl <;> simp [mAr, va_up]
      · simp [hb, ha, hr]
theorem mf_0 : (mFs b I W)[0]? = some (.int (I 0)) := rfl
theorem mf_1 : (mFs b I W)[1]? = some (.ref (b + 1)) := rfl
theorem mf_2 : (mFs b I W)[2]? = some (.int (I 2)) := rfl
theorem mf_3 : (mFs b I W)[3]? = some (.int (I 3)) := rfl
theorem mf_4 : (mFs b I W)[4]? = some (.int (I 4)) := rfl
theorem mf_5 : (mFs b I W)[5]? = some (.int (I 5)) := rfl
theorem mf_6 : (mFs b I W)[6]? = some (.ref (b + 2)) := rfl
theorem mf_7 : (mFs b I W)[7]? = some (.ref (b + 3)) := rfl
theorem mf_8 : (mFs b I W)[8]? = some (.ref (b + 4)) := rfl
theorem mf_9 : (mFs b I W)[9]? = some (.ref (b + 5)) := rfl
theorem mf_10 : (mFs b I W)[10]? = some (.ref (b + 6)) := rfl
theorem mf_11 : (mFs b I W)[11]? = some (.int (I 11)) := rfl
theorem mf_12 : (mFs b I W)[12]? = some (.int (I 12)) := rfl
theorem mf_13 : (mFs b I W)[13]? = some (.int (I 13)) := rfl
theorem mf_14 : (mFs b I W)[14]? = some (.int (I 14)) := rfl
theorem mf_15 : (mFs b I W)[15]? = some (.int (I 15)) := rfl
theorem mf_16 : (mFs b I W)[16]? = some (.int (I 16)) := rfl
theorem mf_17 : (mFs b I W)[17]? = some (.long W) := rfl
theorem mf_18 : (mFs b I W)[18]? = some (.int (I 18)) := rfl
theorem mf_19 : (mFs b I W)[19]? = some (.int (I 19)) := rfl
theorem mf_20 : (mFs b I W)[20]? = some (.int (I 20)) := rfl
theorem mf_21 : (mFs b I W)[21]? = some (.ref (b + 7)) := rfl
theorem mf_22 : (mFs b I W)[22]? = some (.ref (b + 8)) := rfl
theorem mf_23 : (mFs b I W)[23]? = some (.int (I 23)) := rfl
theorem mf_24 : (mFs b I W)[24]? = some (.ref (b + 9)) := rfl
theorem mf_25 : (mFs b I W)[25]? = some (.ref (b + 10)) := rfl
theorem mf_26 : (mFs b I W)[26]? = some (.int (I 26)) := rfl
theorem mf_27 : (mFs b I W)[27]? = some (.int (I 27)) := rfl
theorem mf_28 : (mFs b I W)[28]? = some (.ref (b + 11)) := rfl
theorem mf_29 : (mFs b I W)[29]? = some (.ref (b + 12)) := rfl
theorem mf_30 : (mFs b I W)[30]? = some (.ref (b + 13)) := rfl
theorem mf_31 : (mFs b I W)[31]? = some (.int (I 31)) := rfl
theorem mf_32 : (mFs b I W)[32]? = some (.int (I 32)) := rfl
theorem mf_33 : (mFs b I W)[33]? = some (.int (I 33)) := rfl
theorem mf_34 : (mFs b I W)[34]? = some (.int (I 34)) := rfl
theorem mf_35 : (mFs b I W)[35]? = some (.ref (b + 14)) := rfl
theorem mf_36 : (mFs b I W)[36]? = some (.ref (b + 15)) := rfl
theorem mf_37 : (mFs b I W)[37]? = some (.int (I 37)) := rfl
theorem mf_38 : (mFs b I W)[38]? = some (.ref (b + 16)) := rfl
theorem mf_39 : (mFs b I W)[39]? = some (.int (I 39)) := rfl
theorem mf_40 : (mFs b I W)[40]? = some (.int (I 40)) := rfl
theorem mf_41 : (mFs b I W)[41]? = some (.int (I 41)) := rfl
theorem mf_42 : (mFs b I W)[42]? = some (.ref (b + 17)) := rfl
theorem mf_43 : (mFs b I W)[43]? = some (.int (I 43)) := rfl
theorem mf_44 : (mFs b I W)[44]? = some (.ref (b + 18)) := rfl
theorem mf_45 : (mFs b I W)[45]? = some (.int (I 45)) := rfl
theorem mf_46 : (mFs b I W)[46]? = some (.int (I 46)) := rfl
theorem mf_47 : (mFs b I W)[47]? = some (.int (I 47)) := rfl
theorem mf_48 : (mFs b I W)[48]? = some (.int (I 48)) := rfl
theorem mf_49 : (mFs b I W)[49]? = some (.int (I 49)) := rfl
theorem mf_50 : (mFs b I W)[50]? = some (.ref (b + 19)) := rfl
theorem mf_51 : (mFs b I W)[51]? = some (.ref (b + 20)) := rfl
theorem mf_52 : (mFs b I W)[52]? = some (.ref (b + 21)) := rfl
theorem mf_53 : (mFs b I W)[53]? = some (.ref (b + 22)) := rfl
theorem ms_0 {x : Int32} : (mFs b I W).set 0 (.int x) = mFs b (va_up I 0 x) W := rfl
theorem mp_0 {x : Int32} : iSet (mH G b I W A N h0) b (.inr (11, (mFs b I W).set 0 (.int x))) = mH G b (va_up I 0 x) W A N h0 := m_so _ _ _ rfl
theorem ms_2 {x : Int32} : (mFs b I W).set 2 (.int x) = mFs b (va_up I 2 x) W := rfl
theorem mp_2 {x : Int32} : iSet (mH G b I W A N h0) b (.inr (11, (mFs b I W).set 2 (.int x))) = mH G b (va_up I 2 x) W A N h0 := m_so _ _ _ rfl
theorem ms_3 {x : Int32} : (mFs b I W).set 3 (.int x) = mFs b (va_up I 3 x) W := rfl
theorem mp_3 {x : Int32} : iSet (mH G b I W A N h0) b (.inr (11, (mFs b I W).set 3 (.int x))) = mH G b (va_up I 3 x) W A N h0 := m_so _ _ _ rfl
theorem ms_4 {x : Int32} : (mFs b I W).set 4 (.int x) = mFs b (va_up I 4 x) W := rfl
theorem mp_4 {x : Int32} : iSet (mH G b I W A N h0) b (.inr (11, (mFs b I W).set 4 (.int x))) = mH G b (va_up I 4 x) W A N h0 := m_so _ _ _ rfl
theorem ms_5 {x : Int32} : (mFs b I W).set 5 (.int x) = mFs b (va_up I 5 x) W := rfl
theorem mp_5 {x : Int32} : iSet (mH G b I W A N h0) b (.inr (11, (mFs b I W).set 5 (.int x))) = mH G b (va_up I 5 x) W A N h0 := m_so _ _ _ rfl
theorem ms_11 {x : Int32} : (mFs b I W).set 11 (.int x) = mFs b (va_up I 11 x) W := rfl
theorem mp_11 {x : Int32} : iSet (mH G b I W A N h0) b (.inr (11, (mFs b I W).set 11 (.int x))) = mH G b (va_up I 11 x) W A N h0 := m_so _ _ _ rfl
theorem ms_12 {x : Int32} : (mFs b I W).set 12 (.int x) = mFs b (va_up I 12 x) W := rfl
theorem mp_12 {x : Int32} : iSet (mH G b I W A N h0) b (.inr (11, (mFs b I W).set 12 (.int x))) = mH G b (va_up I 12 x) W A N h0 := m_so _ _ _ rfl
theorem ms_13 {x : Int32} : (mFs b I W).set 13 (.int x) = mFs b (va_up I 13 x) W := rfl
theorem mp_13 {x : Int32} : iSet (mH G b I W A N h0) b (.inr (11, (mFs b I W).set 13 (.int x))) = mH G b (va_up I 13 x) W A N h0 := m_so _ _ _ rfl
theorem ms_14 {x : Int32} : (mFs b I W).set 14 (.int x) = mFs b (va_up I 14 x) W := rfl
theorem mp_14 {x : Int32} : iSet (mH G b I W A N h0) b (.inr (11, (mFs b I W).set 14 (.int x))) = mH G b (va_up I 14 x) W A N h0 := m_so _ _ _ rfl
theorem ms_15 {x : Int32} : (mFs b I W).set 15 (.int x) = mFs b (va_up I 15 x) W := rfl
theorem mp_15 {x : Int32} : iSet (mH G b I W A N h0) b (.inr (11, (mFs b I W).set 15 (.int x))) = mH G b (va_up I 15 x) W A N h0 := m_so _ _ _ rfl
theorem ms_16 {x : Int32} : (mFs b I W).set 16 (.int x) = mFs b (va_up I 16 x) W := rfl
theorem mp_16 {x : Int32} : iSet (mH G b I W A N h0) b (.inr (11, (mFs b I W).set 16 (.int x))) = mH G b (va_up I 16 x) W A N h0 := m_so _ _ _ rfl
theorem ms_18 {x : Int32} : (mFs b I W).set 18 (.int x) = mFs b (va_up I 18 x) W := rfl
theorem mp_18 {x : Int32} : iSet (mH G b I W A N h0) b (.inr (11, (mFs b I W).set 18 (.int x))) = mH G b (va_up I 18 x) W A N h0 := m_so _ _ _ rfl
theorem ms_19 {x : Int32} : (mFs b I W).set 19 (.int x) = mFs b (va_up I 19 x) W := rfl
theorem mp_19 {x : Int32} : iSet (mH G b I W A N h0) b (.inr (11, (mFs b I W).set 19 (.int x))) = mH G b (va_up I 19 x) W A N h0 := m_so _ _ _ rfl
theorem ms_20 {x : Int32} : (mFs b I W).set 20 (.int x) = mFs b (va_up I 20 x) W := rfl
theorem mp_20 {x : Int32} : iSet (mH G b I W A N h0) b (.inr (11, (mFs b I W).set 20 (.int x))) = mH G b (va_up I 20 x) W A N h0 := m_so _ _ _ rfl
theorem ms_23 {x : Int32} : (mFs b I W).set 23 (.int x) = mFs b (va_up I 23 x) W := rfl
theorem mp_23 {x : Int32} : iSet (mH G b I W A N h0) b (.inr (11, (mFs b I W).set 23 (.int x))) = mH G b (va_up I 23 x) W A N h0 := m_so _ _ _ rfl
theorem ms_26 {x : Int32} : (mFs b I W).set 26 (.int x) = mFs b (va_up I 26 x) W := rfl
theorem mp_26 {x : Int32} : iSet (mH G b I W A N h0) b (.inr (11, (mFs b I W).set 26 (.int x))) = mH G b (va_up I 26 x) W A N h0 := m_so _ _ _ rfl
theorem ms_27 {x : Int32} : (mFs b I W).set 27 (.int x) = mFs b (va_up I 27 x) W := rfl
theorem mp_27 {x : Int32} : iSet (mH G b I W A N h0) b (.inr (11, (mFs b I W).set 27 (.int x))) = mH G b (va_up I 27 x) W A N h0 := m_so _ _ _ rfl
theorem ms_31 {x : Int32} : (mFs b I W).set 31 (.int x) = mFs b (va_up I 31 x) W := rfl
theorem mp_31 {x : Int32} : iSet (mH G b I W A N h0) b (.inr (11, (mFs b I W).set 31 (.int x))) = mH G b (va_up I 31 x) W A N h0 := m_so _ _ _ rfl
theorem ms_32 {x : Int32} : (mFs b I W).set 32 (.int x) = mFs b (va_up I 32 x) W := rfl
theorem mp_32 {x : Int32} : iSet (mH G b I W A N h0) b (.inr (11, (mFs b I W).set 32 (.int x))) = mH G b (va_up I 32 x) W A N h0 := m_so _ _ _ rfl
theorem ms_33 {x : Int32} : (mFs b I W).set 33 (.int x) = mFs b (va_up I 33 x) W := rfl
theorem mp_33 {x : Int32} : iSet (mH G b I W A N h0) b (.inr (11, (mFs b I W).set 33 (.int x))) = mH G b (va_up I 33 x) W A N h0 := m_so _ _ _ rfl
theorem ms_34 {x : Int32} : (mFs b I W).set 34 (.int x) = mFs b (va_up I 34 x) W := rfl
theorem mp_34 {x : Int32} : iSet (mH G b I W A N h0) b (.inr (11, (mFs b I W).set 34 (.int x))) = mH G b (va_up I 34 x) W A N h0 := m_so _ _ _ rfl
theorem ms_37 {x : Int32} : (mFs b I W).set 37 (.int x) = mFs b (va_up I 37 x) W := rfl
theorem mp_37 {x : Int32} : iSet (mH G b I W A N h0) b (.inr (11, (mFs b I W).set 37 (.int x))) = mH G b (va_up I 37 x) W A N h0 := m_so _ _ _ rfl
theorem ms_39 {x : Int32} : (mFs b I W).set 39 (.int x) = mFs b (va_up I 39 x) W := rfl
theorem mp_39 {x : Int32} : iSet (mH G b I W A N h0) b (.inr (11, (mFs b I W).set 39 (.int x))) = mH G b (va_up I 39 x) W A N h0 := m_so _ _ _ rfl
theorem ms_40 {x : Int32} : (mFs b I W).set 40 (.int x) = mFs b (va_up I 40 x) W := rfl
theorem mp_40 {x : Int32} : iSet (mH G b I W A N h0) b (.inr (11, (mFs b I W).set 40 (.int x))) = mH G b (va_up I 40 x) W A N h0 := m_so _ _ _ rfl
theorem ms_41 {x : Int32} : (mFs b I W).set 41 (.int x) = mFs b (va_up I 41 x) W := rfl
theorem mp_41 {x : Int32} : iSet (mH G b I W A N h0) b (.inr (11, (mFs b I W).set 41 (.int x))) = mH G b (va_up I 41 x) W A N h0 := m_so _ _ _ rfl
theorem ms_43 {x : Int32} : (mFs b I W).set 43 (.int x) = mFs b (va_up I 43 x) W := rfl
theorem mp_43 {x : Int32} : iSet (mH G b I W A N h0) b (.inr (11, (mFs b I W).set 43 (.int x))) = mH G b (va_up I 43 x) W A N h0 := m_so _ _ _ rfl
theorem ms_45 {x : Int32} : (mFs b I W).set 45 (.int x) = mFs b (va_up I 45 x) W := rfl
theorem mp_45 {x : Int32} : iSet (mH G b I W A N h0) b (.inr (11, (mFs b I W).set 45 (.int x))) = mH G b (va_up I 45 x) W A N h0 := m_so _ _ _ rfl
theorem ms_46 {x : Int32} : (mFs b I W).set 46 (.int x) = mFs b (va_up I 46 x) W := rfl
theorem mp_46 {x : Int32} : iSet (mH G b I W A N h0) b (.inr (11, (mFs b I W).set 46 (.int x))) = mH G b (va_up I 46 x) W A N h0 := m_so _ _ _ rfl
theorem ms_47 {x : Int32} : (mFs b I W).set 47 (.int x) = mFs b (va_up I 47 x) W := rfl
theorem mp_47 {x : Int32} : iSet (mH G b I W A N h0) b (.inr (11, (mFs b I W).set 47 (.int x))) = mH G b (va_up I 47 x) W A N h0 := m_so _ _ _ rfl
theorem ms_48 {x : Int32} : (mFs b I W).set 48 (.int x) = mFs b (va_up I 48 x) W := rfl
theorem mp_48 {x : Int32} : iSet (mH G b I W A N h0) b (.inr (11, (mFs b I W).set 48 (.int x))) = mH G b (va_up I 48 x) W A N h0 := m_so _ _ _ rfl
theorem ms_49 {x : Int32} : (mFs b I W).set 49 (.int x) = mFs b (va_up I 49 x) W := rfl
theorem mp_49 {x : Int32} : iSet (mH G b I W A N h0) b (.inr (11, (mFs b I W).set 49 (.int x))) = mH G b (va_up I 49 x) W A N h0 := m_so _ _ _ rfl
theorem mp_17 {x : Int64} : iSet (mH G b I W A N h0) b (.inr (11, (mFs b I W).set 17 (.long x))) = mH G b I x A N h0 := m_so _ _ _ rfl
theorem mk_0 : ipk 11 0 = 0 := by decide +kernel
theorem mk_1 : ipk 11 1 = 3 := by decide +kernel
theorem mk_2 : ipk 11 2 = 0 := by decide +kernel
theorem mk_3 : ipk 11 3 = 0 := by decide +kernel
theorem mk_4 : ipk 11 4 = 0 := by decide +kernel
theorem mk_5 : ipk 11 5 = 0 := by decide +kernel
theorem mk_6 : ipk 11 6 = 3 := by decide +kernel
theorem mk_7 : ipk 11 7 = 3 := by decide +kernel
theorem mk_8 : ipk 11 8 = 3 := by decide +kernel
theorem mk_9 : ipk 11 9 = 3 := by decide +kernel
theorem mk_10 : ipk 11 10 = 3 := by decide +kernel
theorem mk_11 : ipk 11 11 = 0 := by decide +kernel
theorem mk_12 : ipk 11 12 = 0 := by decide +kernel
theorem mk_13 : ipk 11 13 = 0 := by decide +kernel
theorem mk_14 : ipk 11 14 = 0 := by decide +kernel
theorem mk_15 : ipk 11 15 = 0 := by decide +kernel
theorem mk_16 : ipk 11 16 = 0 := by decide +kernel
theorem mk_17 : ipk 11 17 = 1 := by decide +kernel
theorem mk_18 : ipk 11 18 = 0 := by decide +kernel
theorem mk_19 : ipk 11 19 = 0 := by decide +kernel
theorem mk_20 : ipk 11 20 = 0 := by decide +kernel
theorem mk_21 : ipk 11 21 = 3 := by decide +kernel
theorem mk_22 : ipk 11 22 = 3 := by decide +kernel
theorem mk_23 : ipk 11 23 = 0 := by decide +kernel
theorem mk_24 : ipk 11 24 = 3 := by decide +kernel
theorem mk_25 : ipk 11 25 = 3 := by decide +kernel
theorem mk_26 : ipk 11 26 = 0 := by decide +kernel
theorem mk_27 : ipk 11 27 = 0 := by decide +kernel
theorem mk_28 : ipk 11 28 = 3 := by decide +kernel
theorem mk_29 : ipk 11 29 = 3 := by decide +kernel
theorem mk_30 : ipk 11 30 = 3 := by decide +kernel
theorem mk_31 : ipk 11 31 = 0 := by decide +kernel
theorem mk_32 : ipk 11 32 = 0 := by decide +kernel
theorem mk_33 : ipk 11 33 = 0 := by decide +kernel
theorem mk_34 : ipk 11 34 = 2 := by decide +kernel
theorem mk_35 : ipk 11 35 = 3 := by decide +kernel
theorem mk_36 : ipk 11 36 = 3 := by decide +kernel
theorem mk_37 : ipk 11 37 = 0 := by decide +kernel
theorem mk_38 : ipk 11 38 = 3 := by decide +kernel
theorem mk_39 : ipk 11 39 = 0 := by decide +kernel
theorem mk_40 : ipk 11 40 = 0 := by decide +kernel
theorem mk_41 : ipk 11 41 = 0 := by decide +kernel
theorem mk_42 : ipk 11 42 = 3 := by decide +kernel
theorem mk_43 : ipk 11 43 = 2 := by decide +kernel
theorem mk_44 : ipk 11 44 = 3 := by decide +kernel
theorem mk_45 : ipk 11 45 = 0 := by decide +kernel
theorem mk_46 : ipk 11 46 = 0 := by decide +kernel
theorem mk_47 : ipk 11 47 = 0 := by decide +kernel
theorem mk_48 : ipk 11 48 = 0 := by decide +kernel
theorem mk_49 : ipk 11 49 = 2 := by decide +kernel
theorem mk_50 : ipk 11 50 = 3 := by decide +kernel
theorem mk_51 : ipk 11 51 = 3 := by decide +kernel
theorem mk_52 : ipk 11 52 = 3 := by decide +kernel
theorem mk_53 : ipk 11 53 = 3 := by decide +kernel
end MH2
