theorem iEn_n : iEn [] = [] := rfl
theorem iEn_i {x : Int32} {r : List Value} : iEn (.int x :: r) = some (.int x) :: iEn r := rfl
theorem iEn_r {x : Nat} {r : List Value} : iEn (.ref x :: r) = some (.ref x) :: iEn r := rfl
theorem iEn_u {r : List Value} : iEn (.null :: r) = some .null :: iEn r := rfl
theorem iEn_l {x : Int64} {r : List Value} : iEn (.long x :: r) = some (.long x) :: none :: iEn r := rfl
theorem iEnt_e {n : Nat} {av : List Value} : iEnt n av = iEn av ++ List.replicate (n - (iEn av).length) none := rfl
-- numbers
theorem jb_9 : (Int8.ofInt 9).toInt32 = nI 9 := by decide +kernel
theorem jb_6 : (Int8.ofInt 6).toInt32 = nI 6 := by decide +kernel
theorem jc_0 : Int32.ofInt 0 = nI 0 := by decide +kernel
theorem jb_48 : (Int8.ofInt 48).toInt32 = nI 48 := by decide +kernel
theorem jc_1 : Int32.ofInt 1 = nI 1 := by decide +kernel
theorem jb_40 : (Int8.ofInt 40).toInt32 = nI 40 := by decide +kernel
theorem jb_59 : (Int8.ofInt 59).toInt32 = nI 59 := by decide +kernel
theorem jc_4 : Int32.ofInt 4 = nI 4 := by decide +kernel
theorem jc_2 : Int32.ofInt 2 = nI 2 := by decide +kernel
theorem jc_3 : Int32.ofInt 3 = nI 3 := by decide +kernel
theorem jc_5 : Int32.ofInt 5 = nI 5 := by decide +kernel
theorem jb_60 : (Int8.ofInt 60).toInt32 = nI 60 := by decide +kernel
theorem jb_10 : (Int8.ofInt 10).toInt32 = nI 10 := by decide +kernel
theorem jb_8 : (Int8.ofInt 8).toInt32 = nI 8 := by decide +kernel
theorem js_941 : (Int16.ofInt 941).toInt32 = nI 941 := by decide +kernel
theorem jb_7 : (Int8.ofInt 7).toInt32 = nI 7 := by decide +kernel
theorem jb_32 : (Int8.ofInt 32).toInt32 = nI 32 := by decide +kernel
theorem jb_97 : (Int8.ofInt 97).toInt32 = nI 97 := by decide +kernel
theorem jb_122 : (Int8.ofInt 122).toInt32 = nI 122 := by decide +kernel
theorem jb_57 : (Int8.ofInt 57).toInt32 = nI 57 := by decide +kernel
theorem jb_61 : (Int8.ofInt 61).toInt32 = nI 61 := by decide +kernel
theorem jb_62 : (Int8.ofInt 62).toInt32 = nI 62 := by decide +kernel
theorem jb_41 : (Int8.ofInt 41).toInt32 = nI 41 := by decide +kernel
theorem jb_20 : (Int8.ofInt 20).toInt32 = nI 20 := by decide +kernel
theorem js_999 : (Int16.ofInt 999).toInt32 = nI 999 := by decide +kernel
theorem jb_24 : (Int8.ofInt 24).toInt32 = nI 24 := by decide +kernel
theorem js_400 : (Int16.ofInt 400).toInt32 = nI 400 := by decide +kernel
theorem jb_99 : (Int8.ofInt 99).toInt32 = nI 99 := by decide +kernel
theorem js_12345 : (Int16.ofInt 12345).toInt32 = nI 12345 := by decide +kernel
theorem jb_54 : (Int8.ofInt 54).toInt32 = nI 54 := by decide +kernel
theorem jb_100 : (Int8.ofInt 100).toInt32 = nI 100 := by decide +kernel
theorem js_940 : (Int16.ofInt 940).toInt32 = nI 940 := by decide +kernel
theorem js_500 : (Int16.ofInt 500).toInt32 = nI 500 := by decide +kernel
theorem jb_36 : (Int8.ofInt 36).toInt32 = nI 36 := by decide +kernel
theorem jb_64 : (Int8.ofInt 64).toInt32 = nI 64 := by decide +kernel
theorem js_255 : (Int16.ofInt 255).toInt32 = nI 255 := by decide +kernel
theorem js_900 : (Int16.ofInt 900).toInt32 = nI 900 := by decide +kernel
theorem js_200 : (Int16.ofInt 200).toInt32 = nI 200 := by decide +kernel
theorem jb_56 : (Int8.ofInt 56).toInt32 = nI 56 := by decide +kernel
theorem jb_30 : (Int8.ofInt 30).toInt32 = nI 30 := by decide +kernel
theorem js_325 : (Int16.ofInt 325).toInt32 = nI 325 := by decide +kernel
theorem jb_85 : (Int8.ofInt 85).toInt32 = nI 85 := by decide +kernel
theorem js_135 : (Int16.ofInt 135).toInt32 = nI 135 := by decide +kernel
theorem jb_38 : (Int8.ofInt 38).toInt32 = nI 38 := by decide +kernel
theorem jb_31 : (Int8.ofInt 31).toInt32 = nI 31 := by decide +kernel
theorem js_472 : (Int16.ofInt 472).toInt32 = nI 472 := by decide +kernel
theorem jb_72 : (Int8.ofInt 72).toInt32 = nI 72 := by decide +kernel
theorem jb_45 : (Int8.ofInt 45).toInt32 = nI 45 := by decide +kernel
theorem js_650 : (Int16.ofInt 650).toInt32 = nI 650 := by decide +kernel
theorem jb_11 : (Int8.ofInt 11).toInt32 = nI 11 := by decide +kernel
theorem jb_12 : (Int8.ofInt 12).toInt32 = nI 12 := by decide +kernel
theorem jb_13 : (Int8.ofInt 13).toInt32 = nI 13 := by decide +kernel
theorem jb_14 : (Int8.ofInt 14).toInt32 = nI 14 := by decide +kernel
theorem jb_15 : (Int8.ofInt 15).toInt32 = nI 15 := by decide +kernel
theorem jb_16 : (Int8.ofInt 16).toInt32 = nI 16 := by decide +kernel
theorem jb_17 : (Int8.ofInt 17).toInt32 = nI 17 := by decide +kernel
theorem jb_18 : (Int8.ofInt 18).toInt32 = nI 18 := by decide +kernel
theorem jb_19 : (Int8.ofInt 19).toInt32 = nI 19 := by decide +kernel
theorem jb_21 : (Int8.ofInt 21).toInt32 = nI 21 := by decide +kernel
theorem jb_22 : (Int8.ofInt 22).toInt32 = nI 22 := by decide +kernel
theorem jb_23 : (Int8.ofInt 23).toInt32 = nI 23 := by decide +kernel
theorem jb_25 : (Int8.ofInt 25).toInt32 = nI 25 := by decide +kernel
theorem jb_26 : (Int8.ofInt 26).toInt32 = nI 26 := by decide +kernel
theorem jb_27 : (Int8.ofInt 27).toInt32 = nI 27 := by decide +kernel
theorem jb_28 : (Int8.ofInt 28).toInt32 = nI 28 := by decide +kernel
theorem jb_29 : (Int8.ofInt 29).toInt32 = nI 29 := by decide +kernel
theorem jb_33 : (Int8.ofInt 33).toInt32 = nI 33 := by decide +kernel
theorem jb_37 : (Int8.ofInt 37).toInt32 = nI 37 := by decide +kernel
theorem jb_96 : (Int8.ofInt 96).toInt32 = nI 96 := by decide +kernel
theorem jb_90 : (Int8.ofInt 90).toInt32 = nI 90 := by decide +kernel
theorem jb_120 : (Int8.ofInt 120).toInt32 = nI 120 := by decide +kernel
theorem jb_102 : (Int8.ofInt 102).toInt32 = nI 102 := by decide +kernel
theorem jb_108 : (Int8.ofInt 108).toInt32 = nI 108 := by decide +kernel
theorem jb_114 : (Int8.ofInt 114).toInt32 = nI 114 := by decide +kernel
theorem jb_88 : (Int8.ofInt 88).toInt32 = nI 88 := by decide +kernel
theorem jb_86 : (Int8.ofInt 86).toInt32 = nI 86 := by decide +kernel
theorem jb_87 : (Int8.ofInt 87).toInt32 = nI 87 := by decide +kernel
theorem jb_89 : (Int8.ofInt 89).toInt32 = nI 89 := by decide +kernel
theorem js_413 : (Int16.ofInt 413).toInt32 = nI 413 := by decide +kernel
theorem jb_51 : (Int8.ofInt 51).toInt32 = nI 51 := by decide +kernel
theorem js_144 : (Int16.ofInt 144).toInt32 = nI 144 := by decide +kernel
theorem js_145 : (Int16.ofInt 145).toInt32 = nI 145 := by decide +kernel
theorem jb_63 : (Int8.ofInt 63).toInt32 = nI 63 := by decide +kernel
theorem jc_6 : Int32.ofInt 6 = nI 6 := by decide +kernel
theorem nI_mul (a b : Nat) : nI a * nI b = nI (a * b) := (Int32.ofNat_mul a b).symm
theorem nI_sub {a b : Nat} (h : b ≤ a) : nI a - nI b = nI (a - b) := by
  have e : nI a = nI (a - b) + nI b := by rw [nI_add]; congr 1; omega
  rw [e, Int32.add_sub_cancel]
theorem vp_nI {n N : Nat} (h : n < N) (hN : N < 2 ^ 31) : vp_in (nI n) N = True := by simp [vp_in_nI h hN]
theorem nI_lit0 : (0 : Int32) = nI 0 := nI_0.symm
theorem nar_n0 : (narrow .boolean (.int (nI 0)) = .int (nI 0)) = True := by simp; rfl
theorem nar_n1 : (narrow .boolean (.int (nI 1)) = .int (nI 1)) = True := by simp; rfl
theorem nI_le_t {a b : Nat} (h : a ≤ b) (hb : b < 2 ^ 31) : (nI a ≤ nI b) = True := by simp [nI_le h hb]
theorem nI_le_f {a b : Nat} (h : b < a) (ha : a < 2 ^ 31) : (nI a ≤ nI b) = False := by simp [nI_ge h ha]
theorem nI_lt_t {a b : Nat} (h : a < b) (hb : b < 2 ^ 31) : (nI a < nI b) = True := by simp [nI_lt h hb]
theorem nI_lt_f {a b : Nat} (h : b ≤ a) (ha : a < 2 ^ 31) : (nI a < nI b) = False := by simp [nI_nlt h ha]
theorem nI_eq_t {a : Nat} : (nI a = nI a) = True := by simp
theorem nI_eq_f {a b : Nat} (h : a ≠ b) (ha : a < 2 ^ 31) (hb : b < 2 ^ 31) : (nI a = nI b) = False := by simp [nI_eq ha hb, h]
theorem imp_t {p : Prop} : (True → p) = p := by simp
theorem imp_f {p : Prop} : (False → p) = True := by simp
theorem va_up_app {α : Type} {f : Nat → α} {k j : Nat} {v : α} : va_up f k v j = if j = k then v else f j := rfl
def zI (c : Bool) : Int32 := nI c.toNat
theorem nar_zI {c : Bool} : (narrow .boolean (.int (zI c)) = .int (zI c)) = True := by cases c <;> simp <;> rfl
theorem zI_f0 : (zI false = nI 0) = True := by simp; rfl
theorem zI_t0 : (zI true = nI 0) = False := by simp; decide +kernel
theorem zI_f1 : (zI false = nI 1) = False := by simp; decide +kernel
theorem zI_t1 : (zI true = nI 1) = True := by simp; rfl
theorem va_up_same {α : Type} {f : Nat → α} {k : Nat} {v w : α} : va_up (va_up f k v) k w = va_up f k w := by
  funext j
  by_cases h : j = k <;> simp [va_up, h]
theorem upd_self {f : Nat → Int32} {k : Nat} {x : Int32} : upd f k x k = x := by simp [upd]
theorem upd_ne {f : Nat → Int32} {k j : Nat} {x : Int32} (h : j ≠ k) : upd f k x j = f j := by simp [upd, h]
theorem upd_cpy {f g : Nat → Int32} {sp dp k : Nat} : upd (va_cpy f g sp dp k) (dp + k) (f (sp + k)) = va_cpy f g sp dp (k + 1) := by
  funext j
  by_cases h : j = dp + k
  · subst h
    have e1 : dp ≤ dp + k ∧ dp + k < dp + (k + 1) := by omega
    simp [upd, va_cpy, e1]
  · by_cases h2 : dp ≤ j ∧ j < dp + k
    · have e2 : dp ≤ j ∧ j < dp + (k + 1) := by omega
      simp [upd, va_cpy, h, h2, e2]
    · have e2 : ¬ (dp ≤ j ∧ j < dp + (k + 1)) := by omega
      simp [upd, va_cpy, h, h2, e2]
theorem va_cpy_0 {f g : Nat → Int32} {sp dp : Nat} : va_cpy f g sp dp 0 = g := by
  funext j
  have : ¬ (dp ≤ j ∧ j < dp + 0) := by omega
  simp only [va_cpy, if_neg this]
theorem va_cpy_off {f g : Nat → Int32} {sp dp k j : Nat} (h : j < dp ∨ dp + k ≤ j) : va_cpy f g sp dp k j = g j := by
  have : ¬ (dp ≤ j ∧ j < dp + k) := by omega
  simp only [va_cpy, if_neg this]
