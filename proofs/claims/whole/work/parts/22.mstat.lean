/-! The reference: its small static methods -/
def inF (v lo hi : Int32) : Bool := decide (lo ≤ v) && decide (v ≤ hi)
def bitF (s k : Int32) : Bool := decide ((s >>> (k &&& 31)) &&& nI 1 = nI 1)
def minF (a b : Int32) : Int32 := if a < b then a else b
def maxF (a b : Int32) : Int32 := if b < a then a else b
def absF (v : Int32) : Int32 := if v < nI 0 then -v else v
section MS
variable {G : iG} {d : Nat} {h : iH}
theorem t_isIn {v lo hi : Int32} : C G d 0 0 mX12_isIn [.int v, .int lo, .int hi] h (iR (some (.int (zI (inF v lo hi)))) h) := by
  refine C_in p_RX12 (Nat.le_of_ble_eq_true rfl) rfl ?_
  refine wp_ok (cuts := []) 20 _ _ _ _ ?_
  simp (disch := omega) only [wp_su, wp_0, eX12_isIn_0, eX12_isIn_1, eX12_isIn_2, eX12_isIn_5, eX12_isIn_6, eX12_isIn_7, eX12_isIn_10, eX12_isIn_11, eX12_isIn_14, eX12_isIn_15, S_goto, S_icmp_gt, S_icmp_lt, S_iconst, S_iload_n0, S_iload_n1, S_iload_n2, S_ireturn, jc_0, jc_1, aX12_isIn, bX12_isIn, rX12_isIn, nar_i, nar_n0, nar_n1, List.mem_cons, List.not_mem_nil, or_false, or_self, if_false, if_true, true_and, and_true, Nat.reduceEqDiff, Nat.reduceAdd, Nat.reduceLT, reduceIte, iSet_1, iEnt_e, iEn_n, iEn_i, iEn_r, iEn_u, iEn_l, List.cons_append, List.nil_append, List.length_cons, List.length_nil, Nat.reduceSub, List.replicate_succ, List.replicate_zero, Nat.zero_add, nI_lit0, va_up_app, nI_add, nI_mul, nI_sub, nI_clamp, vp_nI, nI_le_t, nI_le_f, nI_lt_t, nI_lt_f, imp_t, imp_f, not_true_eq_false, not_false_eq_true, iR_t, nar_zI, zI_f0, zI_t0, m_o, mFs_len]
  refine ⟨fun h1 => ?_, fun h1 => ⟨fun h2 => ?_, fun h2 => ?_⟩⟩
  · simp [iR, zI, inF, Int32.not_le.mpr h1]
  · simp [iR, zI, inF, Int32.not_le.mpr h2]
  · simp [iR, zI, inF, Int32.not_lt.mp h1, Int32.not_lt.mp h2]
theorem t_bitOf {s k : Int32} : C G d 0 0 mX12_bitOf [.int s, .int k] h (iR (some (.int (zI (bitF s k)))) h) := by
  refine C_in p_RX12 (Nat.le_of_ble_eq_true rfl) rfl ?_
  refine wp_ok (cuts := []) 20 _ _ _ _ ?_
  simp (disch := omega) only [wp_su, wp_0, eX12_bitOf_0, eX12_bitOf_1, eX12_bitOf_2, eX12_bitOf_3, eX12_bitOf_4, eX12_bitOf_5, eX12_bitOf_6, eX12_bitOf_9, eX12_bitOf_10, eX12_bitOf_13, eX12_bitOf_14, S_goto, S_iand, S_icmp_ne, S_iconst, S_iload_n0, S_iload_n1, S_ireturn, S_ishr, jc_0, jc_1, aX12_bitOf, bX12_bitOf, rX12_bitOf, nar_i, nar_n0, nar_n1, List.mem_cons, List.not_mem_nil, or_false, or_self, if_false, if_true, true_and, and_true, Nat.reduceEqDiff, Nat.reduceAdd, Nat.reduceLT, reduceIte, iSet_1, iEnt_e, iEn_n, iEn_i, iEn_r, iEn_u, iEn_l, List.cons_append, List.nil_append, List.length_cons, List.length_nil, Nat.reduceSub, List.replicate_succ, List.replicate_zero, Nat.zero_add, nI_lit0, va_up_app, nI_add, nI_mul, nI_sub, nI_clamp, vp_nI, nI_le_t, nI_le_f, nI_lt_t, nI_lt_f, imp_t, imp_f, not_true_eq_false, not_false_eq_true, iR_t, nar_zI, zI_f0, zI_t0, m_o, mFs_len]
  refine ⟨fun h1 => ?_, fun h1 => ?_⟩ <;> simp [iR, zI, bitF, h1]
theorem t_lesser {a b : Int32} : C G d 0 0 mX12_lesser [.int a, .int b] h (iR (some (.int (minF a b))) h) := by
  refine C_in p_RX12 (Nat.le_of_ble_eq_true rfl) rfl ?_
  refine wp_ok (cuts := []) 20 _ _ _ _ ?_
  simp (disch := omega) only [wp_su, wp_0, eX12_lesser_0, eX12_lesser_1, eX12_lesser_2, eX12_lesser_5, eX12_lesser_6, eX12_lesser_9, eX12_lesser_10, S_goto, S_icmp_ge, S_iload_n0, S_iload_n1, S_ireturn, aX12_lesser, bX12_lesser, rX12_lesser, nar_i, nar_n0, nar_n1, List.mem_cons, List.not_mem_nil, or_false, or_self, if_false, if_true, true_and, and_true, Nat.reduceEqDiff, Nat.reduceAdd, Nat.reduceLT, reduceIte, iSet_1, iEnt_e, iEn_n, iEn_i, iEn_r, iEn_u, iEn_l, List.cons_append, List.nil_append, List.length_cons, List.length_nil, Nat.reduceSub, List.replicate_succ, List.replicate_zero, Nat.zero_add, nI_lit0, va_up_app, nI_add, nI_mul, nI_sub, nI_clamp, vp_nI, nI_le_t, nI_le_f, nI_lt_t, nI_lt_f, imp_t, imp_f, not_true_eq_false, not_false_eq_true, iR_t, nar_zI, zI_f0, zI_t0, m_o, mFs_len]
  refine ⟨fun h1 => ?_, fun h1 => ?_⟩
  · simp [iR, minF, Int32.not_lt.mpr h1]
  · simp [iR, minF, Int32.not_le.mp h1]
theorem t_greater {a b : Int32} : C G d 0 0 mX12_greater [.int a, .int b] h (iR (some (.int (maxF a b))) h) := by
  refine C_in p_RX12 (Nat.le_of_ble_eq_true rfl) rfl ?_
  refine wp_ok (cuts := []) 20 _ _ _ _ ?_
  simp (disch := omega) only [wp_su, wp_0, eX12_greater_0, eX12_greater_1, eX12_greater_2, eX12_greater_5, eX12_greater_6, eX12_greater_9, eX12_greater_10, S_goto, S_icmp_le, S_iload_n0, S_iload_n1, S_ireturn, aX12_greater, bX12_greater, rX12_greater, nar_i, nar_n0, nar_n1, List.mem_cons, List.not_mem_nil, or_false, or_self, if_false, if_true, true_and, and_true, Nat.reduceEqDiff, Nat.reduceAdd, Nat.reduceLT, reduceIte, iSet_1, iEnt_e, iEn_n, iEn_i, iEn_r, iEn_u, iEn_l, List.cons_append, List.nil_append, List.length_cons, List.length_nil, Nat.reduceSub, List.replicate_succ, List.replicate_zero, Nat.zero_add, nI_lit0, va_up_app, nI_add, nI_mul, nI_sub, nI_clamp, vp_nI, nI_le_t, nI_le_f, nI_lt_t, nI_lt_f, imp_t, imp_f, not_true_eq_false, not_false_eq_true, iR_t, nar_zI, zI_f0, zI_t0, m_o, mFs_len]
  refine ⟨fun h1 => ?_, fun h1 => ?_⟩
  · simp [iR, maxF, Int32.not_lt.mpr h1]
  · simp [iR, maxF, Int32.not_le.mp h1]
theorem t_absolute {v : Int32} : C G d 0 0 mX12_absolute [.int v] h (iR (some (.int (absF v))) h) := by
  refine C_in p_RX12 (Nat.le_of_ble_eq_true rfl) rfl ?_
  refine wp_ok (cuts := []) 20 _ _ _ _ ?_
  simp (disch := omega) only [wp_su, wp_0, eX12_absolute_0, eX12_absolute_1, eX12_absolute_4, eX12_absolute_5, eX12_absolute_6, eX12_absolute_9, eX12_absolute_10, S_goto, S_if_ge, S_iload_n0, S_ineg, S_ireturn, aX12_absolute, bX12_absolute, rX12_absolute, nar_i, nar_n0, nar_n1, List.mem_cons, List.not_mem_nil, or_false, or_self, if_false, if_true, true_and, and_true, Nat.reduceEqDiff, Nat.reduceAdd, Nat.reduceLT, reduceIte, iSet_1, iEnt_e, iEn_n, iEn_i, iEn_r, iEn_u, iEn_l, List.cons_append, List.nil_append, List.length_cons, List.length_nil, Nat.reduceSub, List.replicate_succ, List.replicate_zero, Nat.zero_add, nI_lit0, va_up_app, nI_add, nI_mul, nI_sub, nI_clamp, vp_nI, nI_le_t, nI_le_f, nI_lt_t, nI_lt_f, imp_t, imp_f, not_true_eq_false, not_false_eq_true, iR_t, nar_zI, zI_f0, zI_t0, m_o, mFs_len]
  refine ⟨fun h1 => ?_, fun h1 => ?_⟩
  · simp [iR, absF, Int32.not_lt.mpr h1]
  · simp [iR, absF, Int32.not_le.mp h1]
end MS
section MO
variable {G : iG} {d : Nat} {b : Nat} {I : Nat → Int32} {W : Int64} {A : Nat → Nat → Int32} {N : Nat → Nat → Int64} {h0 : iH}
theorem t_thrown : C G d 0 0 mX12_thrown [.ref b] (mH G b I W A N h0) (iR (some (.int (I 0))) (mH G b I W A N h0)) := by
  refine C_in p_RX12 (Nat.le_of_ble_eq_true rfl) rfl ?_
  refine wp_ok (cuts := []) 20 _ _ _ _ ?_
  simp (disch := omega) only [wp_su, wp_0, eX12_thrown_0, eX12_thrown_1, eX12_thrown_4, S_aload_n0, S_aload_n0N, S_getf, S_ireturn, g_RX12_1, aX12_thrown, bX12_thrown, rX12_thrown, nar_i, nar_n0, nar_n1, List.mem_cons, List.not_mem_nil, or_false, or_self, if_false, if_true, true_and, and_true, Nat.reduceEqDiff, Nat.reduceAdd, Nat.reduceLT, reduceIte, iSet_1, iEnt_e, iEn_n, iEn_i, iEn_r, iEn_u, iEn_l, List.cons_append, List.nil_append, List.length_cons, List.length_nil, Nat.reduceSub, List.replicate_succ, List.replicate_zero, Nat.zero_add, nI_lit0, va_up_app, nI_add, nI_mul, nI_sub, nI_clamp, vp_nI, nI_le_t, nI_le_f, nI_lt_t, nI_lt_f, imp_t, imp_f, not_true_eq_false, not_false_eq_true, iR_t, nar_zI, zI_f0, zI_t0, m_o, mFs_len, mf_0]
theorem t_throwsIf {c : Bool} : C G d 0 0 mX12_throwsIf [.ref b, .int (zI c)] (mH G b I W A N h0) (iR (some (.int (zI c))) (mH G b (va_up I 0 (zI c)) W A N h0)) := by
  refine C_in p_RX12 (Nat.le_of_ble_eq_true rfl) rfl ?_
  cases c
  · refine wp_ok (cuts := []) 20 _ _ _ _ ?_
    simp (disch := omega) only [wp_su, wp_0, eX12_throwsIf_0, eX12_throwsIf_1, eX12_throwsIf_2, eX12_throwsIf_5, eX12_throwsIf_6, eX12_throwsIf_9, eX12_throwsIf_10, eX12_throwsIf_13, eX12_throwsIf_14, S_aload_n0, S_aload_n0N, S_goto, S_iconst, S_if_eq, S_iload_n1, S_ireturn, S_puti, S_putl, g_RX12_1, jc_0, jc_1, aX12_throwsIf, bX12_throwsIf, rX12_throwsIf, nar_i, nar_n0, nar_n1, List.mem_cons, List.not_mem_nil, or_false, or_self, if_false, if_true, true_and, and_true, Nat.reduceEqDiff, Nat.reduceAdd, Nat.reduceLT, reduceIte, iSet_1, iEnt_e, iEn_n, iEn_i, iEn_r, iEn_u, iEn_l, List.cons_append, List.nil_append, List.length_cons, List.length_nil, Nat.reduceSub, List.replicate_succ, List.replicate_zero, Nat.zero_add, nI_lit0, va_up_app, nI_add, nI_mul, nI_sub, nI_clamp, vp_nI, nI_le_t, nI_le_f, nI_lt_t, nI_lt_f, imp_t, imp_f, not_true_eq_false, not_false_eq_true, iR_t, nar_zI, zI_f0, zI_t0, m_o, mFs_len, mf_0, mk_0, mp_0]
    exact iR_i
  · refine wp_ok (cuts := []) 20 _ _ _ _ ?_
    simp (disch := omega) only [wp_su, wp_0, eX12_throwsIf_0, eX12_throwsIf_1, eX12_throwsIf_2, eX12_throwsIf_5, eX12_throwsIf_6, eX12_throwsIf_9, eX12_throwsIf_10, eX12_throwsIf_13, eX12_throwsIf_14, S_aload_n0, S_aload_n0N, S_goto, S_iconst, S_if_eq, S_iload_n1, S_ireturn, S_puti, S_putl, g_RX12_1, jc_0, jc_1, aX12_throwsIf, bX12_throwsIf, rX12_throwsIf, nar_i, nar_n0, nar_n1, List.mem_cons, List.not_mem_nil, or_false, or_self, if_false, if_true, true_and, and_true, Nat.reduceEqDiff, Nat.reduceAdd, Nat.reduceLT, reduceIte, iSet_1, iEnt_e, iEn_n, iEn_i, iEn_r, iEn_u, iEn_l, List.cons_append, List.nil_append, List.length_cons, List.length_nil, Nat.reduceSub, List.replicate_succ, List.replicate_zero, Nat.zero_add, nI_lit0, va_up_app, nI_add, nI_mul, nI_sub, nI_clamp, vp_nI, nI_le_t, nI_le_f, nI_lt_t, nI_lt_f, imp_t, imp_f, not_true_eq_false, not_false_eq_true, iR_t, nar_zI, zI_f0, zI_t0, m_o, mFs_len, mf_0, mk_0, mp_0]
    exact iR_i
theorem t_taken {v : Int32} : C G d 0 0 mX12_taken [.ref b, .int v] (mH G b I W A N h0) (iR none (mH G b (va_up (va_up (va_up (va_up I 3 (I 2)) 2 (nI 0)) 4 (nI 0)) 5 v) W A N h0)) := by
  refine C_in p_RX12 (Nat.le_of_ble_eq_true rfl) rfl ?_
  refine wp_ok (cuts := []) 30 _ _ _ _ ?_
  simp (disch := omega) only [wp_su, wp_0, eX12_taken_0, eX12_taken_1, eX12_taken_2, eX12_taken_5, eX12_taken_8, eX12_taken_9, eX12_taken_10, eX12_taken_13, eX12_taken_14, eX12_taken_15, eX12_taken_18, eX12_taken_19, eX12_taken_20, eX12_taken_23, S_aload_n0, S_aload_n0N, S_getf, S_iconst, S_iload_n1, S_puti, S_putl, S_return, g_RX12_18, g_RX12_21, g_RX12_24, g_RX12_7, jc_0, aX12_taken, bX12_taken, rX12_taken, nar_i, nar_n0, nar_n1, List.mem_cons, List.not_mem_nil, or_false, or_self, if_false, if_true, true_and, and_true, Nat.reduceEqDiff, Nat.reduceAdd, Nat.reduceLT, reduceIte, iSet_1, iEnt_e, iEn_n, iEn_i, iEn_r, iEn_u, iEn_l, List.cons_append, List.nil_append, List.length_cons, List.length_nil, Nat.reduceSub, List.replicate_succ, List.replicate_zero, Nat.zero_add, nI_lit0, va_up_app, nI_add, nI_mul, nI_sub, nI_clamp, vp_nI, nI_le_t, nI_le_f, nI_lt_t, nI_lt_f, imp_t, imp_f, not_true_eq_false, not_false_eq_true, iR_t, nar_zI, zI_f0, zI_t0, m_o, mFs_len, mf_2, mf_3, mk_3, mp_3, mk_2, mp_2, mf_4, mk_4, mp_4, mf_5, mk_5, mp_5]
theorem t_end {n : Int32} : C G d 0 0 mX12_end [.ref b, .int n] (mH G b I W A N h0) (iR (some (.int (zI (inF n (nI 0) (I 2))))) (mH G b (if inF n (nI 0) (I 2) = true then va_up (va_up I 0 (nI 0)) 2 n else va_up I 0 (nI 0)) W A N h0)) := by
  refine C_in p_RX12 (Nat.le_of_ble_eq_true rfl) rfl ?_
  refine wp_ok (cuts := []) 30 _ _ _ _ ?_
  simp (disch := omega) only [wp_su, wp_0, eX12_end_0, eX12_end_1, eX12_end_2, eX12_end_5, eX12_end_6, eX12_end_9, eX12_end_10, eX12_end_11, eX12_end_14, eX12_end_17, eX12_end_18, eX12_end_19, eX12_end_20, eX12_end_21, eX12_end_24, eX12_end_25, S_aload_n0, S_aload_n0N, S_getf, S_icmp_le, S_iconst, S_if_lt, S_iload_n1, S_ireturn, S_puti, S_putl, g_RX12_1, g_RX12_7, jc_0, jc_1, aX12_end, bX12_end, rX12_end, nar_i, nar_n0, nar_n1, List.mem_cons, List.not_mem_nil, or_false, or_self, if_false, if_true, true_and, and_true, Nat.reduceEqDiff, Nat.reduceAdd, Nat.reduceLT, reduceIte, iSet_1, iEnt_e, iEn_n, iEn_i, iEn_r, iEn_u, iEn_l, List.cons_append, List.nil_append, List.length_cons, List.length_nil, Nat.reduceSub, List.replicate_succ, List.replicate_zero, Nat.zero_add, nI_lit0, va_up_app, nI_add, nI_mul, nI_sub, nI_clamp, vp_nI, nI_le_t, nI_le_f, nI_lt_t, nI_lt_f, imp_t, imp_f, not_true_eq_false, not_false_eq_true, iR_t, nar_zI, zI_f0, zI_t0, m_o, mFs_len, mf_0, mk_0, mp_0, mf_2, mk_2, mp_2]
  refine ⟨fun h1 => ?_, fun h1 => ⟨fun h2 => ?_, fun h2 => ?_⟩⟩
  · simp [iR, zI, inF, Int32.not_le.mpr h1]
  · simp [iR, zI, inF, Int32.not_lt.mp h1, h2]
  · simp [iR, zI, inF, h2]
theorem t_haves {c g : Nat} (hc : 120 + 4 * c + g < 325) : C G d 0 0 mX12_haves [.ref b, .int (nI c), .int (nI g)] (mH G b I W A N h0) (iR (some (.int (A 2 (120 + 4 * c + g)))) (mH G b I W A N h0)) := by
  refine C_in p_RX12 (Nat.le_of_ble_eq_true rfl) rfl ?_
  refine wp_ok (cuts := []) 30 _ _ _ _ ?_
  simp (disch := omega) only [wp_su, wp_0, eX12_haves_0, eX12_haves_1, eX12_haves_4, eX12_haves_6, eX12_haves_7, eX12_haves_8, eX12_haves_9, eX12_haves_10, eX12_haves_11, eX12_haves_12, eX12_haves_13, S_aload_n0, S_aload_n0N, S_bipush, S_getf, S_iadd, S_iald, S_iconst, S_iload_n1, S_iload_n2, S_imul, S_ireturn, g_RX12_33, jb_120, jc_4, aX12_haves, bX12_haves, rX12_haves, nar_i, nar_n0, nar_n1, List.mem_cons, List.not_mem_nil, or_false, or_self, if_false, if_true, true_and, and_true, Nat.reduceEqDiff, Nat.reduceAdd, Nat.reduceLT, reduceIte, iSet_1, iEnt_e, iEn_n, iEn_i, iEn_r, iEn_u, iEn_l, List.cons_append, List.nil_append, List.length_cons, List.length_nil, Nat.reduceSub, List.replicate_succ, List.replicate_zero, Nat.zero_add, nI_lit0, va_up_app, nI_add, nI_mul, nI_sub, nI_clamp, vp_nI, nI_le_t, nI_le_f, nI_lt_t, nI_lt_f, imp_t, imp_f, not_true_eq_false, not_false_eq_true, iR_t, nar_zI, zI_f0, zI_t0, m_o, mFs_len, mf_6, m_2, mu_2]
end MO
def lackN (hv lw : Nat → Int32) : Nat → Int32
  | 0 => nI 0
  | g + 1 => lackN hv lw g ||| (if hv g < lw g then nI 1 <<< (nI g &&& 31) else nI 0)
/-- the reference's lacksOf -/
def mLack (s : Nat → Int32) (c : Nat) : Int32 := lackN (fun g => s (120 + 4 * c + g)) (fun g => s (33 + g)) 4
section MO2
variable {G : iG} {d : Nat} {b : Nat} {I : Nat → Int32} {W : Int64} {A : Nat → Nat → Int32} {N : Nat → Nat → Int64} {h0 : iH}
theorem L_lacksOf {c : Nat} (hc : c < 6) : ∀ (k g : Nat), g + k = 4 → K G (d + 1) 0 0 mX12_lacksOf 4 [some (.ref b), some (.int (nI c)), some (.int (lackN (fun g => A 2 (120 + 4 * c + g)) (fun g => A 2 (33 + g)) g)), some (.int (nI g))] [] (mH G b I W A N h0) (iR (some (.int (mLack (A 2) c))) (mH G b I W A N h0)) := by
  intro k
  induction k with
  | zero =>
    intro g hg
    obtain rfl : g = 4 := by omega
    refine wp_ok (cuts := []) 30 _ _ _ _ ?_
    simp (disch := omega) only [wp_su, wp_0, eX12_lacksOf_0, eX12_lacksOf_1, eX12_lacksOf_2, eX12_lacksOf_3, eX12_lacksOf_4, eX12_lacksOf_5, eX12_lacksOf_6, eX12_lacksOf_9, eX12_lacksOf_10, eX12_lacksOf_11, eX12_lacksOf_12, eX12_lacksOf_13, eX12_lacksOf_16, eX12_lacksOf_17, eX12_lacksOf_20, eX12_lacksOf_22, eX12_lacksOf_23, eX12_lacksOf_24, eX12_lacksOf_25, eX12_lacksOf_28, eX12_lacksOf_29, eX12_lacksOf_30, eX12_lacksOf_31, eX12_lacksOf_34, eX12_lacksOf_35, eX12_lacksOf_36, eX12_lacksOf_37, eX12_lacksOf_40, eX12_lacksOf_43, eX12_lacksOf_44, S_aload_n0, S_aload_n0N, S_bipush, S_callV, S_getf, S_goto, S_iadd, S_iald, S_icmp_ge, S_iconst, S_iinc_3, S_iload_n1, S_iload_n2, S_iload_n3, S_ior, S_ireturn, S_ishl, S_istore_2, S_istore_3, g_RX12_33, iCk_i, iCk_l, iCk_n, iCk_o, iCk_r, iS1_2, iS1_3, jb_33, jc_0, jc_1, jc_4, aX12_lacksOf, bX12_lacksOf, rX12_lacksOf, nar_i, nar_n0, nar_n1, List.mem_cons, List.not_mem_nil, or_false, or_self, if_false, if_true, true_and, and_true, Nat.reduceEqDiff, Nat.reduceAdd, Nat.reduceLT, reduceIte, iSet_1, iEnt_e, iEn_n, iEn_i, iEn_r, iEn_u, iEn_l, List.cons_append, List.nil_append, List.length_cons, List.length_nil, Nat.reduceSub, List.replicate_succ, List.replicate_zero, Nat.zero_add, nI_lit0, va_up_app, nI_add, nI_mul, nI_sub, nI_clamp, vp_nI, nI_le_t, nI_le_f, nI_lt_t, nI_lt_f, imp_t, imp_f, not_true_eq_false, not_false_eq_true, iR_t, nar_zI, zI_f0, zI_t0, m_o, mFs_len, mf_6, m_2, mu_2, mLack]
  | succ k ih =>
    intro g hg
    refine wp_ok (cuts := []) 30 _ _ _ _ ?_
    simp (disch := omega) only [wp_su, wp_0, eX12_lacksOf_0, eX12_lacksOf_1, eX12_lacksOf_2, eX12_lacksOf_3, eX12_lacksOf_4, eX12_lacksOf_5, eX12_lacksOf_6, eX12_lacksOf_9, eX12_lacksOf_10, eX12_lacksOf_11, eX12_lacksOf_12, eX12_lacksOf_13, eX12_lacksOf_16, eX12_lacksOf_17, eX12_lacksOf_20, eX12_lacksOf_22, eX12_lacksOf_23, eX12_lacksOf_24, eX12_lacksOf_25, eX12_lacksOf_28, eX12_lacksOf_29, eX12_lacksOf_30, eX12_lacksOf_31, eX12_lacksOf_34, eX12_lacksOf_35, eX12_lacksOf_36, eX12_lacksOf_37, eX12_lacksOf_40, eX12_lacksOf_43, eX12_lacksOf_44, S_aload_n0, S_aload_n0N, S_bipush, S_callV, S_getf, S_goto, S_iadd, S_iald, S_icmp_ge, S_iconst, S_iinc_3, S_iload_n1, S_iload_n2, S_iload_n3, S_ior, S_ireturn, S_ishl, S_istore_2, S_istore_3, g_RX12_33, iCk_i, iCk_l, iCk_n, iCk_o, iCk_r, iS1_2, iS1_3, jb_33, jc_0, jc_1, jc_4, aX12_lacksOf, bX12_lacksOf, rX12_lacksOf, nar_i, nar_n0, nar_n1, List.mem_cons, List.not_mem_nil, or_false, or_self, if_false, if_true, true_and, and_true, Nat.reduceEqDiff, Nat.reduceAdd, Nat.reduceLT, reduceIte, iSet_1, iEnt_e, iEn_n, iEn_i, iEn_r, iEn_u, iEn_l, List.cons_append, List.nil_append, List.length_cons, List.length_nil, Nat.reduceSub, List.replicate_succ, List.replicate_zero, Nat.zero_add, nI_lit0, va_up_app, nI_add, nI_mul, nI_sub, nI_clamp, vp_nI, nI_le_t, nI_le_f, nI_lt_t, nI_lt_f, imp_t, imp_f, not_true_eq_false, not_false_eq_true, iR_t, nar_zI, zI_f0, zI_t0, m_o, mFs_len, mf_6, m_2, mu_2]
    refine dV2 (Y' := mX12_haves) eX12_lacksOf_13 l_RX12_296 kX12_haves iX12_haves nX12_haves m_o rfl rfl (Nat.le_of_ble_eq_true rfl) (t_haves (by omega)) ?_
    refine wp_ok (cuts := [4]) 30 _ _ _ _ ?_
    simp (disch := omega) only [wp_su, wp_0, eX12_lacksOf_0, eX12_lacksOf_1, eX12_lacksOf_2, eX12_lacksOf_3, eX12_lacksOf_4, eX12_lacksOf_5, eX12_lacksOf_6, eX12_lacksOf_9, eX12_lacksOf_10, eX12_lacksOf_11, eX12_lacksOf_12, eX12_lacksOf_13, eX12_lacksOf_16, eX12_lacksOf_17, eX12_lacksOf_20, eX12_lacksOf_22, eX12_lacksOf_23, eX12_lacksOf_24, eX12_lacksOf_25, eX12_lacksOf_28, eX12_lacksOf_29, eX12_lacksOf_30, eX12_lacksOf_31, eX12_lacksOf_34, eX12_lacksOf_35, eX12_lacksOf_36, eX12_lacksOf_37, eX12_lacksOf_40, eX12_lacksOf_43, eX12_lacksOf_44, S_aload_n0, S_aload_n0N, S_bipush, S_callV, S_getf, S_goto, S_iadd, S_iald, S_icmp_ge, S_iconst, S_iinc_3, S_iload_n1, S_iload_n2, S_iload_n3, S_ior, S_ireturn, S_ishl, S_istore_2, S_istore_3, g_RX12_33, iCk_i, iCk_l, iCk_n, iCk_o, iCk_r, iS1_2, iS1_3, jb_33, jc_0, jc_1, jc_4, aX12_lacksOf, bX12_lacksOf, rX12_lacksOf, nar_i, nar_n0, nar_n1, List.mem_cons, List.not_mem_nil, or_false, or_self, if_false, if_true, true_and, and_true, Nat.reduceEqDiff, Nat.reduceAdd, Nat.reduceLT, reduceIte, iSet_1, iEnt_e, iEn_n, iEn_i, iEn_r, iEn_u, iEn_l, List.cons_append, List.nil_append, List.length_cons, List.length_nil, Nat.reduceSub, List.replicate_succ, List.replicate_zero, Nat.zero_add, nI_lit0, va_up_app, nI_add, nI_mul, nI_sub, nI_clamp, vp_nI, nI_le_t, nI_le_f, nI_lt_t, nI_lt_f, imp_t, imp_f, not_true_eq_false, not_false_eq_true, iR_t, nar_zI, zI_f0, zI_t0, m_o, mFs_len, mf_6, m_2, mu_2]
    have e := ih (g + 1) (by omega)
    simp only [lackN] at e
    refine ⟨fun h1 => ?_, fun h1 => ?_⟩
    · rw [if_neg (Int32.not_lt.mpr h1)] at e
      exact e
    · rw [if_pos (Int32.not_le.mp h1)] at e
      exact e
theorem t_lacksOf {c : Nat} (hc : c < 6) : C G (d + 1) 0 0 mX12_lacksOf [.ref b, .int (nI c)] (mH G b I W A N h0) (iR (some (.int (mLack (A 2) c))) (mH G b I W A N h0)) := by
  refine C_in p_RX12 (Nat.le_of_ble_eq_true rfl) rfl ?_
  refine wp_ok (cuts := [4]) 30 _ _ _ _ ?_
  simp (disch := omega) only [wp_su, wp_0, eX12_lacksOf_0, eX12_lacksOf_1, eX12_lacksOf_2, eX12_lacksOf_3, eX12_lacksOf_4, eX12_lacksOf_5, eX12_lacksOf_6, eX12_lacksOf_9, eX12_lacksOf_10, eX12_lacksOf_11, eX12_lacksOf_12, eX12_lacksOf_13, eX12_lacksOf_16, eX12_lacksOf_17, eX12_lacksOf_20, eX12_lacksOf_22, eX12_lacksOf_23, eX12_lacksOf_24, eX12_lacksOf_25, eX12_lacksOf_28, eX12_lacksOf_29, eX12_lacksOf_30, eX12_lacksOf_31, eX12_lacksOf_34, eX12_lacksOf_35, eX12_lacksOf_36, eX12_lacksOf_37, eX12_lacksOf_40, eX12_lacksOf_43, eX12_lacksOf_44, S_aload_n0, S_aload_n0N, S_bipush, S_callV, S_getf, S_goto, S_iadd, S_iald, S_icmp_ge, S_iconst, S_iinc_3, S_iload_n1, S_iload_n2, S_iload_n3, S_ior, S_ireturn, S_ishl, S_istore_2, S_istore_3, g_RX12_33, iCk_i, iCk_l, iCk_n, iCk_o, iCk_r, iS1_2, iS1_3, jb_33, jc_0, jc_1, jc_4, aX12_lacksOf, bX12_lacksOf, rX12_lacksOf, nar_i, nar_n0, nar_n1, List.mem_cons, List.not_mem_nil, or_false, or_self, if_false, if_true, true_and, and_true, Nat.reduceEqDiff, Nat.reduceAdd, Nat.reduceLT, reduceIte, iSet_1, iEnt_e, iEn_n, iEn_i, iEn_r, iEn_u, iEn_l, List.cons_append, List.nil_append, List.length_cons, List.length_nil, Nat.reduceSub, List.replicate_succ, List.replicate_zero, Nat.zero_add, nI_lit0, va_up_app, nI_add, nI_mul, nI_sub, nI_clamp, vp_nI, nI_le_t, nI_le_f, nI_lt_t, nI_lt_f, imp_t, imp_f, not_true_eq_false, not_false_eq_true, iR_t, nar_zI, zI_f0, zI_t0, m_o, mFs_len, mf_6, m_2, mu_2]
  exact L_lacksOf hc 4 0 rfl
end MO2
