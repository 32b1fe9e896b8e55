/-! The class: feed -/
section XF
variable {G : iG} {d b : Nat} {g : iH} {X : Nat → Int32} {tx : Nat → Int32} {n : Nat} {v : Int32}

theorem xa_1 : (xH b X (arH G (b + 1) 940 tx g)).1 (b + 1) = some (.inl (G.2.2.2.1 0, 940, .inl tx)) := by
  unfold xH; rw [ovl_out (by omega)]; exact ar_o
theorem xa_u {f : Nat → Int32} : iSet (xH b X (arH G (b + 1) 940 tx g)) (b + 1) (.inl (G.2.2.2.1 0, 940, .inl f)) = xH b X (arH G (b + 1) 940 f g) := by
  have e : ∀ t, xH b X (arH G (b + 1) 940 t g) = arH G (b + 1) 940 t (xH b X g) := fun t => ovl_comm (by omega)
  rw [e, e, aru]
def cB (v : Int32) (k : Nat) : Int32 := (v.toUInt32 >>> ((nI k).toUInt32 &&& Int32.toUInt32 31)).toInt32 &&& nI 255
theorem fo_step {k : Nat} {Q : Option Value → iH → Prop} (hk : k < 32) (hn : n < 940) (cont : K G d 0 0 mX11_feedOne 3 [some (.ref b), some (.int v), some (.int (nI k + -8))] [] (xH b (va_up X 1 (nI (n + 1))) (arH G (b + 1) 940 (upd tx n (cB v k)) g)) Q) : K G d 0 0 mX11_feedOne 3 [some (.ref b), some (.int v), some (.int (nI k))] [] (xH b (va_up X 1 (nI n)) (arH G (b + 1) 940 tx g)) Q := by
  refine wp_ok (cuts := []) 24 _ _ _ _ ?_
  simp (config := { maxSteps := 2000000 }) (disch := omega) only [wp_su, wp_0, eX11_feedOne_0, eX11_feedOne_2, eX11_feedOne_3, eX11_feedOne_4, eX11_feedOne_7, eX11_feedOne_8, eX11_feedOne_11, eX11_feedOne_14, eX11_feedOne_17, eX11_feedOne_18, eX11_feedOne_21, eX11_feedOne_22, eX11_feedOne_25, eX11_feedOne_26, eX11_feedOne_27, eX11_feedOne_28, eX11_feedOne_31, eX11_feedOne_32, eX11_feedOne_33, eX11_feedOne_34, eX11_feedOne_35, eX11_feedOne_38, eX11_feedOne_39, eX11_feedOne_40, eX11_feedOne_43, eX11_feedOne_46, eX11_feedOne_49, S_aload_n0, S_aload_n0N, S_bipush, S_dupi, S_dupr, S_getf, S_goto, S_iadd, S_iand, S_iast, S_icmp_ge, S_iconst, S_if_lt, S_iinc_2, S_iload_n1, S_iload_n2, S_istore_2, S_iushr, S_puti, S_putl, S_return, S_sipush, g_RX11_13, g_RX11_9, iCk_i, iCk_l, iCk_n, iCk_o, iCk_r, iS1_2, ic_m8, jb_24, jc_1, js_255, js_940, aX11_feedOne, bX11_feedOne, rX11_feedOne, nar_i, nar_n0, nar_n1, List.mem_cons, List.not_mem_nil, or_false, or_self, or_true, true_or, false_or, if_false, if_true, true_and, and_true, Nat.reduceEqDiff, Nat.reduceAdd, Nat.reduceLT, reduceIte, iSet_1, iEnt_e, iEn_n, iEn_i, iEn_r, iEn_u, iEn_l, List.cons_append, List.nil_append, List.length_cons, List.length_nil, Nat.reduceSub, List.replicate_succ, List.replicate_zero, Nat.zero_add, nI_lit0, va_up_app, nI_add, nI_mul, nI_sub, nI_clamp, vp_nI, nI_le_t, nI_le_f, nI_lt_t, nI_lt_f, imp_t, imp_f, Option.toList_some, Option.toList_none, not_true_eq_false, not_false_eq_true, iR_t, nar_zI, zI_f0, zI_t0, va_up_same, upd_ne, upd_self, x_o, xFs_len, xf_0, xf_1, xk_1, xp_1, xa_1, xa_u, va_sf, nI_add, va_up_same, ic_m8]
  exact cont
def fourC (t : Nat → Int32) (n : Nat) (v : Int32) : Nat → Int32 := upd (upd (upd (upd t n (cB v 24)) (n + 1) (cB v 16)) (n + 2) (cB v 8)) (n + 3) (cB v 0)
theorem c_feedOne (hn : n + 4 ≤ 940) : C G d 0 0 mX11_feedOne [.ref b, .int v] (xH b (va_up X 1 (nI n)) (arH G (b + 1) 940 tx g)) (iR none (xH b (va_up X 1 (nI (n + 4))) (arH G (b + 1) 940 (fourC tx n v) g))) := by
  refine C_in p_RX11 (Nat.le_of_ble_eq_true rfl) rfl ?_
  refine wp_ok (cuts := [3]) 30 _ _ _ _ ?_
  simp (config := { maxSteps := 2000000 }) (disch := omega) only [wp_su, wp_0, eX11_feedOne_0, eX11_feedOne_2, eX11_feedOne_3, eX11_feedOne_4, eX11_feedOne_7, eX11_feedOne_8, eX11_feedOne_11, eX11_feedOne_14, eX11_feedOne_17, eX11_feedOne_18, eX11_feedOne_21, eX11_feedOne_22, eX11_feedOne_25, eX11_feedOne_26, eX11_feedOne_27, eX11_feedOne_28, eX11_feedOne_31, eX11_feedOne_32, eX11_feedOne_33, eX11_feedOne_34, eX11_feedOne_35, eX11_feedOne_38, eX11_feedOne_39, eX11_feedOne_40, eX11_feedOne_43, eX11_feedOne_46, eX11_feedOne_49, S_aload_n0, S_aload_n0N, S_bipush, S_dupi, S_dupr, S_getf, S_goto, S_iadd, S_iand, S_iast, S_icmp_ge, S_iconst, S_if_lt, S_iinc_2, S_iload_n1, S_iload_n2, S_istore_2, S_iushr, S_puti, S_putl, S_return, S_sipush, g_RX11_13, g_RX11_9, iCk_i, iCk_l, iCk_n, iCk_o, iCk_r, iS1_2, ic_m8, jb_24, jc_1, js_255, js_940, aX11_feedOne, bX11_feedOne, rX11_feedOne, nar_i, nar_n0, nar_n1, List.mem_cons, List.not_mem_nil, or_false, or_self, or_true, true_or, false_or, if_false, if_true, true_and, and_true, Nat.reduceEqDiff, Nat.reduceAdd, Nat.reduceLT, reduceIte, iSet_1, iEnt_e, iEn_n, iEn_i, iEn_r, iEn_u, iEn_l, List.cons_append, List.nil_append, List.length_cons, List.length_nil, Nat.reduceSub, List.replicate_succ, List.replicate_zero, Nat.zero_add, nI_lit0, va_up_app, nI_add, nI_mul, nI_sub, nI_clamp, vp_nI, nI_le_t, nI_le_f, nI_lt_t, nI_lt_f, imp_t, imp_f, Option.toList_some, Option.toList_none, not_true_eq_false, not_false_eq_true, iR_t, nar_zI, zI_f0, zI_t0, va_up_same, upd_ne, upd_self]
  refine fo_step (by omega) (by omega) ?_
  rw [m8_24]
  refine fo_step (by omega) (by omega) ?_
  rw [m8_16]
  refine fo_step (by omega) (by omega) ?_
  rw [m8_8]
  refine fo_step (by omega) (by omega) ?_
  refine wp_ok (cuts := []) 5 _ _ _ _ ?_
  simp (config := { maxSteps := 2000000 }) (disch := omega) only [wp_su, wp_0, eX11_feedOne_0, eX11_feedOne_2, eX11_feedOne_3, eX11_feedOne_4, eX11_feedOne_7, eX11_feedOne_8, eX11_feedOne_11, eX11_feedOne_14, eX11_feedOne_17, eX11_feedOne_18, eX11_feedOne_21, eX11_feedOne_22, eX11_feedOne_25, eX11_feedOne_26, eX11_feedOne_27, eX11_feedOne_28, eX11_feedOne_31, eX11_feedOne_32, eX11_feedOne_33, eX11_feedOne_34, eX11_feedOne_35, eX11_feedOne_38, eX11_feedOne_39, eX11_feedOne_40, eX11_feedOne_43, eX11_feedOne_46, eX11_feedOne_49, S_aload_n0, S_aload_n0N, S_bipush, S_dupi, S_dupr, S_getf, S_goto, S_iadd, S_iand, S_iast, S_icmp_ge, S_iconst, S_if_lt, S_iinc_2, S_iload_n1, S_iload_n2, S_istore_2, S_iushr, S_puti, S_putl, S_return, S_sipush, g_RX11_13, g_RX11_9, iCk_i, iCk_l, iCk_n, iCk_o, iCk_r, iS1_2, ic_m8, jb_24, jc_1, js_255, js_940, aX11_feedOne, bX11_feedOne, rX11_feedOne, nar_i, nar_n0, nar_n1, List.mem_cons, List.not_mem_nil, or_false, or_self, or_true, true_or, false_or, if_false, if_true, true_and, and_true, Nat.reduceEqDiff, Nat.reduceAdd, Nat.reduceLT, reduceIte, iSet_1, iEnt_e, iEn_n, iEn_i, iEn_r, iEn_u, iEn_l, List.cons_append, List.nil_append, List.length_cons, List.length_nil, Nat.reduceSub, List.replicate_succ, List.replicate_zero, Nat.zero_add, nI_lit0, va_up_app, nI_add, nI_mul, nI_sub, nI_clamp, vp_nI, nI_le_t, nI_le_f, nI_lt_t, nI_lt_f, imp_t, imp_f, Option.toList_some, Option.toList_none, not_true_eq_false, not_false_eq_true, iR_t, nar_zI, zI_f0, zI_t0, va_up_same, upd_ne, upd_self, m8_0]
  exact ⟨rfl, rfl⟩
end XF
theorem cBg (v : Int32) (k : Nat) (a b : Int32) (ha : a.toUInt32 &&& Int32.toUInt32 31 = UInt32.ofNat k) (hb : (b &&& 31).toBitVec.smod 32 = BitVec.ofNat 32 k) (hk : k = 0 ∨ k = 8 ∨ k = 16 ∨ k = 24) : (v.toUInt32 >>> (a.toUInt32 &&& Int32.toUInt32 31)).toInt32 &&& nI 255 = ((v >>> (b &&& 31)).toInt8.toInt32).toInt8.toInt32 &&& nI 255 := by
  rw [ha]
  apply Int32.toBitVec_inj.mp
  apply BitVec.eq_of_getLsbD_eq
  intro i hi
  have h255 : ∀ i, i < 32 → (nI 255).toBitVec.getLsbD i = decide (i < 8) := by decide +kernel
  rw [Int32.toBitVec_and, Int32.toBitVec_and, BitVec.getLsbD_and, BitVec.getLsbD_and, h255 i hi]
  by_cases h : i < 8
  · have hmod : (BitVec.ofNat 32 k).toNat = k := by simp; omega
    have e1 : (v.toUInt32 >>> UInt32.ofNat k).toInt32.toBitVec = v.toBitVec >>> k := by
      show (v.toUInt32 >>> UInt32.ofNat k).toBitVec = _
      rw [UInt32.toBitVec_shiftRight]
      rw [BitVec.ushiftRight_eq']
      have : ((UInt32.ofNat k).toBitVec % 32).toNat = k := by
        rcases (show k = 0 ∨ k = 8 ∨ k = 16 ∨ k = 24 by omega) with rfl | rfl | rfl | rfl <;> decide +kernel
      rw [this]; rfl
    have e2 : (v >>> (b &&& 31)).toBitVec = v.toBitVec.sshiftRight k := by
      rw [Int32.toBitVec_shiftRight, hb, BitVec.sshiftRight', hmod]
    rw [e1]
    have e3 : (((v >>> (b &&& 31)).toInt8.toInt32).toInt8.toInt32).toBitVec.getLsbD i = (v.toBitVec.sshiftRight k).getLsbD i := by
      show (((((v >>> (b &&& 31)).toBitVec.signExtend 8).signExtend 32).signExtend 8).signExtend 32).getLsbD i = _
      rw [e2]
      simp only [BitVec.getLsbD_signExtend]
      simp [h, show i < 32 by omega]
    rw [e3, BitVec.getLsbD_sshiftRight, BitVec.getLsbD_ushiftRight]
    simp [show ¬ 32 ≤ i by omega, show k + i < 32 by omega]
  · simp [h]
theorem cB_by {v : Int32} {k : Nat} (hk : k = 0 ∨ k = 8 ∨ k = 16 ∨ k = 24) : cB v k = byteF v k &&& nI 255 := by
  refine cBg v k (nI k) (nI k) ?_ ?_ hk
  · rcases hk with rfl | rfl | rfl | rfl <;> decide +kernel
  · rcases hk with rfl | rfl | rfl | rfl <;> decide +kernel
theorem four_r {tx t : Nat → Int32} {n : Nat} {v : Int32} (h : ∀ i, i < n → tx i = t i &&& nI 255) : ∀ i, i < n + 4 → fourC tx n v i = fourF t n v i &&& nI 255 := fun i hi => by
  unfold fourC fourF
  by_cases h3 : i = n + 3
  · subst h3; rw [upd_self, upd_self]; exact cB_by (by omega)
  rw [upd_ne h3, upd_ne h3]
  by_cases h2 : i = n + 2
  · subst h2; rw [upd_self, upd_self]; exact cB_by (by omega)
  rw [upd_ne h2, upd_ne h2]
  by_cases h1 : i = n + 1
  · subst h1; rw [upd_self, upd_self]; exact cB_by (by omega)
  rw [upd_ne h1, upd_ne h1]
  by_cases h0 : i = n
  · subst h0; rw [upd_self, upd_self]; exact cB_by (by omega)
  rw [upd_ne h0, upd_ne h0]
  exact h i (by omega)
section XFd
variable {G : iG} {d b : Nat} {g : iH} {I : Nat → Int32} {W : Int64} {A : Nat → Nat → Int32} {N : Nat → Nat → Int64} {F n U sz : Nat}
theorem x_feed {a1 a2 a3 a4 a5 : Int32} (hX : XR G b g I W A N F n U) (h2 : I 2 = nI sz) (hsz : sz ≤ 940) : C G (d + 1) 0 0 mX11_feed [.ref b, .int a1, .int a2, .int a3, .int a4, .int a5] g
    (fun v g' => fr b g g' ∧ (if sz ≤ 920 then v = some (.int (nI (sz + 20))) ∧ XR G b g' (va_up (va_up I 0 (nI 0)) 2 (nI (sz + 20))) W (va_up A 1 (fourF (fourF (fourF (fourF (fourF (A 1) sz a1) (sz + 4) a2) (sz + 8) a3) (sz + 12) a4) (sz + 16) a5)) N F n U else v = some (.int (-1)) ∧ XR G b g' (va_up I 0 (nI 0)) W A N F n U)) := by
  have hX0 := hX
  obtain ⟨zw, zO, zT, zR, zH, zD, zS, zL, zY, zZ, zB, zV, zP, zQ, zG, zK, zC⟩ := hX
  obtain ⟨X, hx, x1, x3, x16, x18⟩ := zO
  obtain ⟨tx, ht, sz', hsz', e2, hrow⟩ := zT
  obtain rfl : sz = sz' := nI_ij (h2.symm.trans e2) (by omega) (by omega)
  have x1' : X 1 = nI sz := x1.trans h2
  refine C_in p_RX11 (Nat.le_of_ble_eq_true rfl) rfl ?_
  by_cases hc : sz ≤ 920
  · simp only [hc, if_true]
    have eX : va_up X 1 (nI sz) = X := by
      funext j
      by_cases z : j = 1
      · subst z; rw [va_sf, x1']
      · rw [va_ne z]
    have hx' : Blk (arH G (b + 1) 940 tx g) b 1 (xE b (va_up X 1 (nI sz))) := by rw [eX]; exact Blk_alk hx (alk_ov (by omega))
    refine K_h (ar_self ht) ?_
    refine K_h (x_self hx') ?_
    refine wp_ok (cuts := []) 30 _ _ _ _ ?_
    simp (config := { maxSteps := 2000000 }) (disch := omega) only [wp_su, wp_0, eX11_feed_0, eX11_feed_1, eX11_feed_4, eX11_feed_6, eX11_feed_7, eX11_feed_10, eX11_feed_13, eX11_feed_14, eX11_feed_15, eX11_feed_16, eX11_feed_17, eX11_feed_20, eX11_feed_21, eX11_feed_22, eX11_feed_25, eX11_feed_26, eX11_feed_27, eX11_feed_30, eX11_feed_31, eX11_feed_33, eX11_feed_36, eX11_feed_37, eX11_feed_39, eX11_feed_42, eX11_feed_43, eX11_feed_46, S_aload_n0, S_aload_n0N, S_bipush, S_callV, S_getf, S_iadd, S_icmp_le, S_iconst, S_iload_4, S_iload_5, S_iload_n1, S_iload_n2, S_iload_n3, S_ireturn, S_sipush, g_RX11_13, ic_m1, jb_20, js_940, aX11_feed, bX11_feed, rX11_feed, nar_i, nar_n0, nar_n1, List.mem_cons, List.not_mem_nil, or_false, or_self, or_true, true_or, false_or, if_false, if_true, true_and, and_true, Nat.reduceEqDiff, Nat.reduceAdd, Nat.reduceLT, reduceIte, iSet_1, iEnt_e, iEn_n, iEn_i, iEn_r, iEn_u, iEn_l, List.cons_append, List.nil_append, List.length_cons, List.length_nil, Nat.reduceSub, List.replicate_succ, List.replicate_zero, Nat.zero_add, nI_lit0, va_up_app, nI_add, nI_mul, nI_sub, nI_clamp, vp_nI, nI_le_t, nI_le_f, nI_lt_t, nI_lt_f, imp_t, imp_f, Option.toList_some, Option.toList_none, not_true_eq_false, not_false_eq_true, iR_t, nar_zI, zI_f0, zI_t0, va_up_same, upd_ne, upd_self, x_o, xFs_len, xf_1, va_sf, nI_add]
    refine dVu1 (Y' := mX11_feedOne) eX11_feed_17 l_RX11_108 kX11_feedOne iX11_feedOne nX11_feedOne (x_o) rfl rfl (Nat.le_of_ble_eq_true rfl) (c_feedOne (by omega)) ?_
    refine wp_ok (cuts := []) 30 _ _ _ _ ?_
    simp (config := { maxSteps := 2000000 }) (disch := omega) only [wp_su, wp_0, eX11_feed_0, eX11_feed_1, eX11_feed_4, eX11_feed_6, eX11_feed_7, eX11_feed_10, eX11_feed_13, eX11_feed_14, eX11_feed_15, eX11_feed_16, eX11_feed_17, eX11_feed_20, eX11_feed_21, eX11_feed_22, eX11_feed_25, eX11_feed_26, eX11_feed_27, eX11_feed_30, eX11_feed_31, eX11_feed_33, eX11_feed_36, eX11_feed_37, eX11_feed_39, eX11_feed_42, eX11_feed_43, eX11_feed_46, S_aload_n0, S_aload_n0N, S_bipush, S_callV, S_getf, S_iadd, S_icmp_le, S_iconst, S_iload_4, S_iload_5, S_iload_n1, S_iload_n2, S_iload_n3, S_ireturn, S_sipush, g_RX11_13, ic_m1, jb_20, js_940, aX11_feed, bX11_feed, rX11_feed, nar_i, nar_n0, nar_n1, List.mem_cons, List.not_mem_nil, or_false, or_self, or_true, true_or, false_or, if_false, if_true, true_and, and_true, Nat.reduceEqDiff, Nat.reduceAdd, Nat.reduceLT, reduceIte, iSet_1, iEnt_e, iEn_n, iEn_i, iEn_r, iEn_u, iEn_l, List.cons_append, List.nil_append, List.length_cons, List.length_nil, Nat.reduceSub, List.replicate_succ, List.replicate_zero, Nat.zero_add, nI_lit0, va_up_app, nI_add, nI_mul, nI_sub, nI_clamp, vp_nI, nI_le_t, nI_le_f, nI_lt_t, nI_lt_f, imp_t, imp_f, Option.toList_some, Option.toList_none, not_true_eq_false, not_false_eq_true, iR_t, nar_zI, zI_f0, zI_t0, va_up_same, upd_ne, upd_self]
    refine dVu1 (Y' := mX11_feedOne) eX11_feed_22 l_RX11_108 kX11_feedOne iX11_feedOne nX11_feedOne (x_o) rfl rfl (Nat.le_of_ble_eq_true rfl) (c_feedOne (by omega)) ?_
    refine wp_ok (cuts := []) 30 _ _ _ _ ?_
    simp (config := { maxSteps := 2000000 }) (disch := omega) only [wp_su, wp_0, eX11_feed_0, eX11_feed_1, eX11_feed_4, eX11_feed_6, eX11_feed_7, eX11_feed_10, eX11_feed_13, eX11_feed_14, eX11_feed_15, eX11_feed_16, eX11_feed_17, eX11_feed_20, eX11_feed_21, eX11_feed_22, eX11_feed_25, eX11_feed_26, eX11_feed_27, eX11_feed_30, eX11_feed_31, eX11_feed_33, eX11_feed_36, eX11_feed_37, eX11_feed_39, eX11_feed_42, eX11_feed_43, eX11_feed_46, S_aload_n0, S_aload_n0N, S_bipush, S_callV, S_getf, S_iadd, S_icmp_le, S_iconst, S_iload_4, S_iload_5, S_iload_n1, S_iload_n2, S_iload_n3, S_ireturn, S_sipush, g_RX11_13, ic_m1, jb_20, js_940, aX11_feed, bX11_feed, rX11_feed, nar_i, nar_n0, nar_n1, List.mem_cons, List.not_mem_nil, or_false, or_self, or_true, true_or, false_or, if_false, if_true, true_and, and_true, Nat.reduceEqDiff, Nat.reduceAdd, Nat.reduceLT, reduceIte, iSet_1, iEnt_e, iEn_n, iEn_i, iEn_r, iEn_u, iEn_l, List.cons_append, List.nil_append, List.length_cons, List.length_nil, Nat.reduceSub, List.replicate_succ, List.replicate_zero, Nat.zero_add, nI_lit0, va_up_app, nI_add, nI_mul, nI_sub, nI_clamp, vp_nI, nI_le_t, nI_le_f, nI_lt_t, nI_lt_f, imp_t, imp_f, Option.toList_some, Option.toList_none, not_true_eq_false, not_false_eq_true, iR_t, nar_zI, zI_f0, zI_t0, va_up_same, upd_ne, upd_self]
    refine dVu1 (Y' := mX11_feedOne) eX11_feed_27 l_RX11_108 kX11_feedOne iX11_feedOne nX11_feedOne (x_o) rfl rfl (Nat.le_of_ble_eq_true rfl) (c_feedOne (by omega)) ?_
    refine wp_ok (cuts := []) 30 _ _ _ _ ?_
    simp (config := { maxSteps := 2000000 }) (disch := omega) only [wp_su, wp_0, eX11_feed_0, eX11_feed_1, eX11_feed_4, eX11_feed_6, eX11_feed_7, eX11_feed_10, eX11_feed_13, eX11_feed_14, eX11_feed_15, eX11_feed_16, eX11_feed_17, eX11_feed_20, eX11_feed_21, eX11_feed_22, eX11_feed_25, eX11_feed_26, eX11_feed_27, eX11_feed_30, eX11_feed_31, eX11_feed_33, eX11_feed_36, eX11_feed_37, eX11_feed_39, eX11_feed_42, eX11_feed_43, eX11_feed_46, S_aload_n0, S_aload_n0N, S_bipush, S_callV, S_getf, S_iadd, S_icmp_le, S_iconst, S_iload_4, S_iload_5, S_iload_n1, S_iload_n2, S_iload_n3, S_ireturn, S_sipush, g_RX11_13, ic_m1, jb_20, js_940, aX11_feed, bX11_feed, rX11_feed, nar_i, nar_n0, nar_n1, List.mem_cons, List.not_mem_nil, or_false, or_self, or_true, true_or, false_or, if_false, if_true, true_and, and_true, Nat.reduceEqDiff, Nat.reduceAdd, Nat.reduceLT, reduceIte, iSet_1, iEnt_e, iEn_n, iEn_i, iEn_r, iEn_u, iEn_l, List.cons_append, List.nil_append, List.length_cons, List.length_nil, Nat.reduceSub, List.replicate_succ, List.replicate_zero, Nat.zero_add, nI_lit0, va_up_app, nI_add, nI_mul, nI_sub, nI_clamp, vp_nI, nI_le_t, nI_le_f, nI_lt_t, nI_lt_f, imp_t, imp_f, Option.toList_some, Option.toList_none, not_true_eq_false, not_false_eq_true, iR_t, nar_zI, zI_f0, zI_t0, va_up_same, upd_ne, upd_self]
    refine dVu1 (Y' := mX11_feedOne) eX11_feed_33 l_RX11_108 kX11_feedOne iX11_feedOne nX11_feedOne (x_o) rfl rfl (Nat.le_of_ble_eq_true rfl) (c_feedOne (by omega)) ?_
    refine wp_ok (cuts := []) 30 _ _ _ _ ?_
    simp (config := { maxSteps := 2000000 }) (disch := omega) only [wp_su, wp_0, eX11_feed_0, eX11_feed_1, eX11_feed_4, eX11_feed_6, eX11_feed_7, eX11_feed_10, eX11_feed_13, eX11_feed_14, eX11_feed_15, eX11_feed_16, eX11_feed_17, eX11_feed_20, eX11_feed_21, eX11_feed_22, eX11_feed_25, eX11_feed_26, eX11_feed_27, eX11_feed_30, eX11_feed_31, eX11_feed_33, eX11_feed_36, eX11_feed_37, eX11_feed_39, eX11_feed_42, eX11_feed_43, eX11_feed_46, S_aload_n0, S_aload_n0N, S_bipush, S_callV, S_getf, S_iadd, S_icmp_le, S_iconst, S_iload_4, S_iload_5, S_iload_n1, S_iload_n2, S_iload_n3, S_ireturn, S_sipush, g_RX11_13, ic_m1, jb_20, js_940, aX11_feed, bX11_feed, rX11_feed, nar_i, nar_n0, nar_n1, List.mem_cons, List.not_mem_nil, or_false, or_self, or_true, true_or, false_or, if_false, if_true, true_and, and_true, Nat.reduceEqDiff, Nat.reduceAdd, Nat.reduceLT, reduceIte, iSet_1, iEnt_e, iEn_n, iEn_i, iEn_r, iEn_u, iEn_l, List.cons_append, List.nil_append, List.length_cons, List.length_nil, Nat.reduceSub, List.replicate_succ, List.replicate_zero, Nat.zero_add, nI_lit0, va_up_app, nI_add, nI_mul, nI_sub, nI_clamp, vp_nI, nI_le_t, nI_le_f, nI_lt_t, nI_lt_f, imp_t, imp_f, Option.toList_some, Option.toList_none, not_true_eq_false, not_false_eq_true, iR_t, nar_zI, zI_f0, zI_t0, va_up_same, upd_ne, upd_self]
    refine dVu1 (Y' := mX11_feedOne) eX11_feed_39 l_RX11_108 kX11_feedOne iX11_feedOne nX11_feedOne (x_o) rfl rfl (Nat.le_of_ble_eq_true rfl) (c_feedOne (by omega)) ?_
    refine wp_ok (cuts := []) 30 _ _ _ _ ?_
    simp (config := { maxSteps := 2000000 }) (disch := omega) only [wp_su, wp_0, eX11_feed_0, eX11_feed_1, eX11_feed_4, eX11_feed_6, eX11_feed_7, eX11_feed_10, eX11_feed_13, eX11_feed_14, eX11_feed_15, eX11_feed_16, eX11_feed_17, eX11_feed_20, eX11_feed_21, eX11_feed_22, eX11_feed_25, eX11_feed_26, eX11_feed_27, eX11_feed_30, eX11_feed_31, eX11_feed_33, eX11_feed_36, eX11_feed_37, eX11_feed_39, eX11_feed_42, eX11_feed_43, eX11_feed_46, S_aload_n0, S_aload_n0N, S_bipush, S_callV, S_getf, S_iadd, S_icmp_le, S_iconst, S_iload_4, S_iload_5, S_iload_n1, S_iload_n2, S_iload_n3, S_ireturn, S_sipush, g_RX11_13, ic_m1, jb_20, js_940, aX11_feed, bX11_feed, rX11_feed, nar_i, nar_n0, nar_n1, List.mem_cons, List.not_mem_nil, or_false, or_self, or_true, true_or, false_or, if_false, if_true, true_and, and_true, Nat.reduceEqDiff, Nat.reduceAdd, Nat.reduceLT, reduceIte, iSet_1, iEnt_e, iEn_n, iEn_i, iEn_r, iEn_u, iEn_l, List.cons_append, List.nil_append, List.length_cons, List.length_nil, Nat.reduceSub, List.replicate_succ, List.replicate_zero, Nat.zero_add, nI_lit0, va_up_app, nI_add, nI_mul, nI_sub, nI_clamp, vp_nI, nI_le_t, nI_le_f, nI_lt_t, nI_lt_f, imp_t, imp_f, Option.toList_some, Option.toList_none, not_true_eq_false, not_false_eq_true, iR_t, nar_zI, zI_f0, zI_t0, va_up_same, upd_ne, upd_self, x_o, xFs_len, xf_1, va_sf]
    refine ⟨fr_ov (fr_ov fr_rf (by omega) (by omega)) (by omega) (by omega), ?_⟩
    exact ⟨zw, ⟨_, Blk_own, va_sf, x3, x16, x18⟩, ⟨_, Blk_alk Blk_own (alk_ov (by omega)), sz + 20, by omega, va_sf, four_r (four_r (four_r (four_r (four_r hrow))))⟩, (pR_a (pR_a zR (alk_ov (by omega))) (alk_ov (by omega))), (pH_a (pH_a zH (alk_ov (by omega))) (alk_ov (by omega))), (pD_a (pD_a zD (alk_ov (by omega))) (alk_ov (by omega))), (pSt_a (pSt_a zS (alk_ov (by omega))) (alk_ov (by omega))), (pL_a (pL_a zL (alk_ov (by omega))) (alk_ov (by omega))), (pY_a (pY_a zY (alk_ov (by omega))) (alk_ov (by omega))), (pZ_a (pZ_a zZ (alk_ov (by omega))) (alk_ov (by omega))), (pB_a (pB_a zB (alk_ov (by omega))) (alk_ov (by omega))), (pV_a (pV_a zV (alk_ov (by omega))) (alk_ov (by omega))), (pP_a (pP_a zP (alk_ov (by omega))) (alk_ov (by omega))), (pQ_a (pQ_a zQ (alk_ov (by omega))) (alk_ov (by omega))), (pG_a (pG_a zG (alk_ov (by omega))) (alk_ov (by omega))), (pK_a (pK_a zK (alk_ov (by omega))) (alk_ov (by omega))), (pC_a (pC_a zC (alk_ov (by omega))) (alk_ov (by omega)))⟩
  · simp only [hc, if_false]
    refine wp_ok (cuts := []) 30 _ _ _ _ ?_
    simp (config := { maxSteps := 2000000 }) (disch := omega) only [wp_su, wp_0, eX11_feed_0, eX11_feed_1, eX11_feed_4, eX11_feed_6, eX11_feed_7, eX11_feed_10, eX11_feed_13, eX11_feed_14, eX11_feed_15, eX11_feed_16, eX11_feed_17, eX11_feed_20, eX11_feed_21, eX11_feed_22, eX11_feed_25, eX11_feed_26, eX11_feed_27, eX11_feed_30, eX11_feed_31, eX11_feed_33, eX11_feed_36, eX11_feed_37, eX11_feed_39, eX11_feed_42, eX11_feed_43, eX11_feed_46, S_aload_n0, S_aload_n0N, S_bipush, S_callV, S_getf, S_iadd, S_icmp_le, S_iconst, S_iload_4, S_iload_5, S_iload_n1, S_iload_n2, S_iload_n3, S_ireturn, S_sipush, g_RX11_13, ic_m1, jb_20, js_940, aX11_feed, bX11_feed, rX11_feed, nar_i, nar_n0, nar_n1, List.mem_cons, List.not_mem_nil, or_false, or_self, or_true, true_or, false_or, if_false, if_true, true_and, and_true, Nat.reduceEqDiff, Nat.reduceAdd, Nat.reduceLT, reduceIte, iSet_1, iEnt_e, iEn_n, iEn_i, iEn_r, iEn_u, iEn_l, List.cons_append, List.nil_append, List.length_cons, List.length_nil, Nat.reduceSub, List.replicate_succ, List.replicate_zero, Nat.zero_add, nI_lit0, va_up_app, nI_add, nI_mul, nI_sub, nI_clamp, vp_nI, nI_le_t, nI_le_f, nI_lt_t, nI_lt_f, imp_t, imp_f, Option.toList_some, Option.toList_none, not_true_eq_false, not_false_eq_true, iR_t, nar_zI, zI_f0, zI_t0, va_up_same, upd_ne, upd_self, xb_o hx, xFs_len, xf_1, x1', nI_add]
    exact ⟨fr_rf, XR_I0 hX0⟩
end XFd
