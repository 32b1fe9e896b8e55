/-! The class beside the reference: hours by draws, plans, traces, bargains, waiting -/
theorem pbF_congr {st ch : Nat → Int32} {fr : Int32} {q cd : Nat} (h : ∀ i, i < q → ch i = st i) : pbF ch fr q cd = pbF st fr q cd := by
  unfold pbF
  rw [pbW_congr h q (Nat.le_refl _)]
theorem plR_at {st row : Nat → Int32} {q best : Nat} : ∀ (k i : Nat), i < k → plR st row q best k i = st (sNx best q i)
  | k + 1, i, h => by
    rw [plR]
    by_cases z : i = k
    · subst z; rw [upd_self]
    · rw [upd_ne z]; exact plR_at k i (by omega)
theorem brN_at {row : Nat → Int32} {B q fs : Nat} : ∀ (k i : Nat), i < k → brN row B q fs k i = nI (dgN fs B q i)
  | k + 1, i, h => by
    rw [brN]
    by_cases z : i = k
    · subst z; rw [upd_self]
    · rw [upd_ne z]; exact brN_at k i (by omega)
section XQ
variable {G : iG} {d b : Nat} {g : iH} {I : Nat → Int32} {W : Int64} {A : Nat → Nat → Int32} {N : Nat → Nat → Int64} {F n U m : Nat} {c f : Int32}
theorem x_drawn (hX : XR G b g I W A N F n U) (hm : I 23 = nI m) (hm8 : m ≤ 8) : C G (d + 5) 0 0 mX11_drawn [.ref b, .int c, .int f] g (fun v g' => fr b g g' ∧ (if inF c (nI 1) (nI 60) = true then v = some (.int (nI (drF F n U c.toNatClampNeg (A 2, f) 0).2)) ∧ (if nI 400 ≤ A 2 85 then XR G b g' I W (va_up A 2 (drF F n U c.toNatClampNeg (A 2, f) 0).1.1) N F n U else XR G b g' (actX I m) W (actA A m (drF F n U c.toNatClampNeg (A 2, f) 0).1.1) N F n U) else v = some (.int (-1)) ∧ XR G b g' I W A N F n U)) := by
  have hX0 := hX
  obtain ⟨zw, zO, zT, zR, zH, zD, zS, zL, zY, zZ, zB, zV, zP, zQ, zG, zK, zC⟩ := hX
  obtain ⟨X, hx, x1, x3, x16, x18⟩ := id zO
  obtain ⟨J, B, M, hT, hS, hN⟩ := id zH
  obtain ⟨w9, hs⟩ := id zS
  obtain ⟨Ih, tp, sz, b1, b2, b3, b4, b5, b6, b7, b8⟩ := id zB
  obtain ⟨e0, hF, e1, hn, e2, hU⟩ := gWF_n zw.1
  obtain ⟨H, hH, e85⟩ := zw.1.1.2.2
  have hw := zw.1.1.1
  have hdd : b + 29 + 7 ≤ b + 7 ∨ b + 7 + 11 ≤ b + 29 := by omega
  have hsz : sz = m := by
    apply Classical.byContradiction
    intro z
    rw [hm] at b6
    have := b6.symm
    rw [nI_eq_f z (by omega) (by omega)] at this; exact this
  subst hsz
  refine C_in p_RX11 (Nat.le_of_ble_eq_true rfl) rfl ?_
  cases hc : inF c (nI 1) (nI 60)
  · simp only [Bool.false_eq_true, if_false]
    rcases i_dec c with z | ⟨j, hj, rfl⟩
    · have z1 : c < nI 1 := Int32.lt_trans z (by decide +kernel)
      refine wp_ok (cuts := []) 30 _ _ _ _ ?_
      simp (config := { maxSteps := 2000000 }) (disch := omega) only [wp_su, wp_0, eX11_drawn_0, eX11_drawn_1, eX11_drawn_2, eX11_drawn_5, eX11_drawn_6, eX11_drawn_8, eX11_drawn_11, eX11_drawn_12, eX11_drawn_13, eX11_drawn_14, eX11_drawn_17, eX11_drawn_20, eX11_drawn_23, eX11_drawn_26, eX11_drawn_27, eX11_drawn_28, eX11_drawn_29, eX11_drawn_32, eX11_drawn_33, eX11_drawn_36, eX11_drawn_39, eX11_drawn_40, eX11_drawn_43, eX11_drawn_44, eX11_drawn_47, eX11_drawn_48, eX11_drawn_49, eX11_drawn_52, S_aload_n0, S_aload_n0N, S_bipush, S_callV, S_getf, S_icmp_le, S_icmp_lt, S_iconst, S_iload_n1, S_iload_n2, S_ireturn, S_sipush, g_RX11_211, g_RX11_30, g_RX11_40, g_RX11_60, ic_m1, jb_60, jc_0, jc_1, js_400, aX11_drawn, bX11_drawn, rX11_drawn, nar_i, nar_n0, nar_n1, List.mem_cons, List.not_mem_nil, or_false, or_self, or_true, true_or, false_or, if_false, if_true, true_and, and_true, Nat.reduceEqDiff, Nat.reduceAdd, Nat.reduceLT, reduceIte, iSet_1, iEnt_e, iEn_n, iEn_i, iEn_r, iEn_u, iEn_l, List.cons_append, List.nil_append, List.length_cons, List.length_nil, Nat.reduceSub, List.replicate_succ, List.replicate_zero, Nat.zero_add, nI_lit0, va_up_app, nI_add, nI_mul, nI_sub, nI_clamp, vp_nI, nI_le_t, nI_le_f, nI_lt_t, nI_lt_f, imp_t, imp_f, Option.toList_some, Option.toList_none, not_true_eq_false, not_false_eq_true, iR_t, nar_zI, zI_f0, zI_t0, va_up_same, upd_ne, upd_self, z1]
      exact ⟨fr_rf, hX0⟩
    · by_cases z0 : j = 0
      · subst z0
        refine wp_ok (cuts := []) 30 _ _ _ _ ?_
        simp (config := { maxSteps := 2000000 }) (disch := omega) only [wp_su, wp_0, eX11_drawn_0, eX11_drawn_1, eX11_drawn_2, eX11_drawn_5, eX11_drawn_6, eX11_drawn_8, eX11_drawn_11, eX11_drawn_12, eX11_drawn_13, eX11_drawn_14, eX11_drawn_17, eX11_drawn_20, eX11_drawn_23, eX11_drawn_26, eX11_drawn_27, eX11_drawn_28, eX11_drawn_29, eX11_drawn_32, eX11_drawn_33, eX11_drawn_36, eX11_drawn_39, eX11_drawn_40, eX11_drawn_43, eX11_drawn_44, eX11_drawn_47, eX11_drawn_48, eX11_drawn_49, eX11_drawn_52, S_aload_n0, S_aload_n0N, S_bipush, S_callV, S_getf, S_icmp_le, S_icmp_lt, S_iconst, S_iload_n1, S_iload_n2, S_ireturn, S_sipush, g_RX11_211, g_RX11_30, g_RX11_40, g_RX11_60, ic_m1, jb_60, jc_0, jc_1, js_400, aX11_drawn, bX11_drawn, rX11_drawn, nar_i, nar_n0, nar_n1, List.mem_cons, List.not_mem_nil, or_false, or_self, or_true, true_or, false_or, if_false, if_true, true_and, and_true, Nat.reduceEqDiff, Nat.reduceAdd, Nat.reduceLT, reduceIte, iSet_1, iEnt_e, iEn_n, iEn_i, iEn_r, iEn_u, iEn_l, List.cons_append, List.nil_append, List.length_cons, List.length_nil, Nat.reduceSub, List.replicate_succ, List.replicate_zero, Nat.zero_add, nI_lit0, va_up_app, nI_add, nI_mul, nI_sub, nI_clamp, vp_nI, nI_le_t, nI_le_f, nI_lt_t, nI_lt_f, imp_t, imp_f, Option.toList_some, Option.toList_none, not_true_eq_false, not_false_eq_true, iR_t, nar_zI, zI_f0, zI_t0, va_up_same, upd_ne, upd_self]
        exact ⟨fr_rf, hX0⟩
      · by_cases z6 : j ≤ 60
        · rw [inT (by omega) z6 (by omega)] at hc; cases hc
        · refine wp_ok (cuts := []) 30 _ _ _ _ ?_
          simp (config := { maxSteps := 2000000 }) (disch := omega) only [wp_su, wp_0, eX11_drawn_0, eX11_drawn_1, eX11_drawn_2, eX11_drawn_5, eX11_drawn_6, eX11_drawn_8, eX11_drawn_11, eX11_drawn_12, eX11_drawn_13, eX11_drawn_14, eX11_drawn_17, eX11_drawn_20, eX11_drawn_23, eX11_drawn_26, eX11_drawn_27, eX11_drawn_28, eX11_drawn_29, eX11_drawn_32, eX11_drawn_33, eX11_drawn_36, eX11_drawn_39, eX11_drawn_40, eX11_drawn_43, eX11_drawn_44, eX11_drawn_47, eX11_drawn_48, eX11_drawn_49, eX11_drawn_52, S_aload_n0, S_aload_n0N, S_bipush, S_callV, S_getf, S_icmp_le, S_icmp_lt, S_iconst, S_iload_n1, S_iload_n2, S_ireturn, S_sipush, g_RX11_211, g_RX11_30, g_RX11_40, g_RX11_60, ic_m1, jb_60, jc_0, jc_1, js_400, aX11_drawn, bX11_drawn, rX11_drawn, nar_i, nar_n0, nar_n1, List.mem_cons, List.not_mem_nil, or_false, or_self, or_true, true_or, false_or, if_false, if_true, true_and, and_true, Nat.reduceEqDiff, Nat.reduceAdd, Nat.reduceLT, reduceIte, iSet_1, iEnt_e, iEn_n, iEn_i, iEn_r, iEn_u, iEn_l, List.cons_append, List.nil_append, List.length_cons, List.length_nil, Nat.reduceSub, List.replicate_succ, List.replicate_zero, Nat.zero_add, nI_lit0, va_up_app, nI_add, nI_mul, nI_sub, nI_clamp, vp_nI, nI_le_t, nI_le_f, nI_lt_t, nI_lt_f, imp_t, imp_f, Option.toList_some, Option.toList_none, not_true_eq_false, not_false_eq_true, iR_t, nar_zI, zI_f0, zI_t0, va_up_same, upd_ne, upd_self]
          exact ⟨fr_rf, hX0⟩
  · obtain ⟨k, hk1, hk, rfl⟩ := in_nIr (by omega) (by omega) hc
    simp only [if_true, nI_clamp (show k < 2 ^ 31 by omega)]
    have hout := (drF_wf (F := F) (n := n) (U := U) (s := A 2) k (A 2, f) 0 hw.1 (fun _ _ => rfl)).2
    have hgw := gWF_dr (F := F) (n := n) (U := U) k (A 2, f) 0 zw.1
    by_cases zH : H = 400
    · subst zH
      have hd0 : drF F n U k (A 2, f) 0 = ((A 2, f), 0) := by
        obtain ⟨k', rfl⟩ : ∃ k', k = k' + 1 := ⟨k - 1, by omega⟩
        rw [drF]
        refine if_neg ?_
        show ¬ A 2 85 < nI 400
        rw [e85]; decide +kernel
      simp only [hd0, e85, Int32.le_refl, if_true]
      refine wp_ok (cuts := []) 30 _ _ _ _ ?_
      simp (config := { maxSteps := 2000000 }) (disch := omega) only [wp_su, wp_0, eX11_drawn_0, eX11_drawn_1, eX11_drawn_2, eX11_drawn_5, eX11_drawn_6, eX11_drawn_8, eX11_drawn_11, eX11_drawn_12, eX11_drawn_13, eX11_drawn_14, eX11_drawn_17, eX11_drawn_20, eX11_drawn_23, eX11_drawn_26, eX11_drawn_27, eX11_drawn_28, eX11_drawn_29, eX11_drawn_32, eX11_drawn_33, eX11_drawn_36, eX11_drawn_39, eX11_drawn_40, eX11_drawn_43, eX11_drawn_44, eX11_drawn_47, eX11_drawn_48, eX11_drawn_49, eX11_drawn_52, S_aload_n0, S_aload_n0N, S_bipush, S_callV, S_getf, S_icmp_le, S_icmp_lt, S_iconst, S_iload_n1, S_iload_n2, S_ireturn, S_sipush, g_RX11_211, g_RX11_30, g_RX11_40, g_RX11_60, ic_m1, jb_60, jc_0, jc_1, js_400, aX11_drawn, bX11_drawn, rX11_drawn, nar_i, nar_n0, nar_n1, List.mem_cons, List.not_mem_nil, or_false, or_self, or_true, true_or, false_or, if_false, if_true, true_and, and_true, Nat.reduceEqDiff, Nat.reduceAdd, Nat.reduceLT, reduceIte, iSet_1, iEnt_e, iEn_n, iEn_i, iEn_r, iEn_u, iEn_l, List.cons_append, List.nil_append, List.length_cons, List.length_nil, Nat.reduceSub, List.replicate_succ, List.replicate_zero, Nat.zero_add, nI_lit0, va_up_app, nI_add, nI_mul, nI_sub, nI_clamp, vp_nI, nI_le_t, nI_le_f, nI_lt_t, nI_lt_f, imp_t, imp_f, Option.toList_some, Option.toList_none, not_true_eq_false, not_false_eq_true, iR_t, nar_zI, zI_f0, zI_t0, va_up_same, upd_ne, upd_self, xb_o hx, xFs_len, xf_6, sb_o hs, stFs_len, stf_10, e85]
      refine ⟨fr_rf, ?_⟩
      rw [A_same]; exact hX0
    · have hnle : ¬ nI 400 ≤ A 2 85 := by rw [e85, nI_le_f (by omega) (by omega)]; exact id
      simp only [hnle, if_false]
      obtain ⟨nk, sk, wk, hsk⟩ := b7 tp b2
      have kp := c_push (d := d + 2) (h := g) (a := b + 53) (b := b + 29) (k := b + 55 + 7 * tp) (R := hRow b) b4 b2 b5 b3 rfl hsk hs (by omega) (by omega) (by omega)
      rw [hi_self b1] at kp
      refine wp_ok (cuts := []) 30 _ _ _ _ ?_
      simp (config := { maxSteps := 2000000 }) (disch := omega) only [wp_su, wp_0, eX11_drawn_0, eX11_drawn_1, eX11_drawn_2, eX11_drawn_5, eX11_drawn_6, eX11_drawn_8, eX11_drawn_11, eX11_drawn_12, eX11_drawn_13, eX11_drawn_14, eX11_drawn_17, eX11_drawn_20, eX11_drawn_23, eX11_drawn_26, eX11_drawn_27, eX11_drawn_28, eX11_drawn_29, eX11_drawn_32, eX11_drawn_33, eX11_drawn_36, eX11_drawn_39, eX11_drawn_40, eX11_drawn_43, eX11_drawn_44, eX11_drawn_47, eX11_drawn_48, eX11_drawn_49, eX11_drawn_52, S_aload_n0, S_aload_n0N, S_bipush, S_callV, S_getf, S_icmp_le, S_icmp_lt, S_iconst, S_iload_n1, S_iload_n2, S_ireturn, S_sipush, g_RX11_211, g_RX11_30, g_RX11_40, g_RX11_60, ic_m1, jb_60, jc_0, jc_1, js_400, aX11_drawn, bX11_drawn, rX11_drawn, nar_i, nar_n0, nar_n1, List.mem_cons, List.not_mem_nil, or_false, or_self, or_true, true_or, false_or, if_false, if_true, true_and, and_true, Nat.reduceEqDiff, Nat.reduceAdd, Nat.reduceLT, reduceIte, iSet_1, iEnt_e, iEn_n, iEn_i, iEn_r, iEn_u, iEn_l, List.cons_append, List.nil_append, List.length_cons, List.length_nil, Nat.reduceSub, List.replicate_succ, List.replicate_zero, Nat.zero_add, nI_lit0, va_up_app, nI_add, nI_mul, nI_sub, nI_clamp, vp_nI, nI_le_t, nI_le_f, nI_lt_t, nI_lt_f, imp_t, imp_f, Option.toList_some, Option.toList_none, not_true_eq_false, not_false_eq_true, iR_t, nar_zI, zI_f0, zI_t0, va_up_same, upd_ne, upd_self, xb_o hx, xFs_len, xf_6, xf_10, sb_o hs, stFs_len, stf_10, e85]
      refine dVu1 (Y' := mX2_push) eX11_drawn_36 l_RX11_249 kX2_push iX2_push nX2_push (hib_o b1) rfl rfl (Nat.le_of_ble_eq_true rfl) kp ?_
      have zB' := pB_push (w := w9) b1 b2 b3 b7 b8 zw.1
      have hs1 : Blk (hiH G (b + 53) (va_up (va_up Ih 1 (nI ((tp + 1) % 8))) 2 (nI (min 8 (sz + 1)))) (hRow b) (stH G (b + 55 + 7 * tp) n (A 2) w9 g)) (b + 29) 7 (stE G (b + 29) n (A 2) w9) := Blk_ovl (Blk_ovl hs (by omega)) (by omega)
      have hx1 : Blk (hiH G (b + 53) (va_up (va_up Ih 1 (nI ((tp + 1) % 8))) 2 (nI (min 8 (sz + 1)))) (hRow b) (stH G (b + 55 + 7 * tp) n (A 2) w9 g)) b 1 (xE b X) := Blk_ovl (Blk_ovl hx (by omega)) (by omega)
      have hT1 : TW G (hiH G (b + 53) (va_up (va_up Ih 1 (nI ((tp + 1) % 8))) 2 (nI (min 8 (sz + 1)))) (hRow b) (stH G (b + 55 + 7 * tp) n (A 2) w9 g)) (b + 7) J B M := Blk_ovl (Blk_ovl hT (by omega)) (by omega)
      have ka := c_drawHours (d := d) (w := w9) (m := k) (x := f) hk hw hT1 hdd hS
      rw [st_self hs1] at ka
      refine wp_ok (cuts := []) 30 _ _ _ _ ?_
      simp (config := { maxSteps := 2000000 }) (disch := omega) only [wp_su, wp_0, eX11_drawn_0, eX11_drawn_1, eX11_drawn_2, eX11_drawn_5, eX11_drawn_6, eX11_drawn_8, eX11_drawn_11, eX11_drawn_12, eX11_drawn_13, eX11_drawn_14, eX11_drawn_17, eX11_drawn_20, eX11_drawn_23, eX11_drawn_26, eX11_drawn_27, eX11_drawn_28, eX11_drawn_29, eX11_drawn_32, eX11_drawn_33, eX11_drawn_36, eX11_drawn_39, eX11_drawn_40, eX11_drawn_43, eX11_drawn_44, eX11_drawn_47, eX11_drawn_48, eX11_drawn_49, eX11_drawn_52, S_aload_n0, S_aload_n0N, S_bipush, S_callV, S_getf, S_icmp_le, S_icmp_lt, S_iconst, S_iload_n1, S_iload_n2, S_ireturn, S_sipush, g_RX11_211, g_RX11_30, g_RX11_40, g_RX11_60, ic_m1, jb_60, jc_0, jc_1, js_400, aX11_drawn, bX11_drawn, rX11_drawn, nar_i, nar_n0, nar_n1, List.mem_cons, List.not_mem_nil, or_false, or_self, or_true, true_or, false_or, if_false, if_true, true_and, and_true, Nat.reduceEqDiff, Nat.reduceAdd, Nat.reduceLT, reduceIte, iSet_1, iEnt_e, iEn_n, iEn_i, iEn_r, iEn_u, iEn_l, List.cons_append, List.nil_append, List.length_cons, List.length_nil, Nat.reduceSub, List.replicate_succ, List.replicate_zero, Nat.zero_add, nI_lit0, va_up_app, nI_add, nI_mul, nI_sub, nI_clamp, vp_nI, nI_le_t, nI_le_f, nI_lt_t, nI_lt_f, imp_t, imp_f, Option.toList_some, Option.toList_none, not_true_eq_false, not_false_eq_true, iR_t, nar_zI, zI_f0, zI_t0, va_up_same, upd_ne, upd_self, xb_o hx1, xFs_len, xf_4, xf_6]
      refine dV3 (Y' := mX7_drawHours) eX11_drawn_49 l_RX11_370 kX7_drawHours iX7_drawHours nX7_drawHours (sb_o hs1) rfl rfl (Nat.le_of_ble_eq_true rfl) ka ?_
      refine wp_ok (cuts := []) 30 _ _ _ _ ?_
      simp (config := { maxSteps := 2000000 }) (disch := omega) only [wp_su, wp_0, eX11_drawn_0, eX11_drawn_1, eX11_drawn_2, eX11_drawn_5, eX11_drawn_6, eX11_drawn_8, eX11_drawn_11, eX11_drawn_12, eX11_drawn_13, eX11_drawn_14, eX11_drawn_17, eX11_drawn_20, eX11_drawn_23, eX11_drawn_26, eX11_drawn_27, eX11_drawn_28, eX11_drawn_29, eX11_drawn_32, eX11_drawn_33, eX11_drawn_36, eX11_drawn_39, eX11_drawn_40, eX11_drawn_43, eX11_drawn_44, eX11_drawn_47, eX11_drawn_48, eX11_drawn_49, eX11_drawn_52, S_aload_n0, S_aload_n0N, S_bipush, S_callV, S_getf, S_icmp_le, S_icmp_lt, S_iconst, S_iload_n1, S_iload_n2, S_ireturn, S_sipush, g_RX11_211, g_RX11_30, g_RX11_40, g_RX11_60, ic_m1, jb_60, jc_0, jc_1, js_400, aX11_drawn, bX11_drawn, rX11_drawn, nar_i, nar_n0, nar_n1, List.mem_cons, List.not_mem_nil, or_false, or_self, or_true, true_or, false_or, if_false, if_true, true_and, and_true, Nat.reduceEqDiff, Nat.reduceAdd, Nat.reduceLT, reduceIte, iSet_1, iEnt_e, iEn_n, iEn_i, iEn_r, iEn_u, iEn_l, List.cons_append, List.nil_append, List.length_cons, List.length_nil, Nat.reduceSub, List.replicate_succ, List.replicate_zero, Nat.zero_add, nI_lit0, va_up_app, nI_add, nI_mul, nI_sub, nI_clamp, vp_nI, nI_le_t, nI_le_f, nI_lt_t, nI_lt_f, imp_t, imp_f, Option.toList_some, Option.toList_none, not_true_eq_false, not_false_eq_true, iR_t, nar_zI, zI_f0, zI_t0, va_up_same, upd_ne, upd_self]
      refine ⟨fr_ov (fr_ov (fr_ov fr_rf (by omega) (by omega)) (by omega) (by omega)) (by omega) (by omega), ?_⟩
      exact ⟨⟨hgw, zw.2⟩, (pO_a (pO_a (pO_a zO (alk_ov (by omega))) (alk_ov (by omega))) (alk_ov (by omega))), (pT_a (pT_a (pT_a zT (alk_ov (by omega))) (alk_ov (by omega))) (alk_ov (by omega))), (pR_a (pR_a (pR_a zR (alk_ov (by omega))) (alk_ov (by omega))) (alk_ov (by omega))), ⟨J, B, M, Blk_ovl hT1 (by omega), TS_of hS hn hF hU (fun j hj => hout j (Or.inl hj)), hN⟩, (pD_a (pD_a (pD_a zD (alk_ov (by omega))) (alk_ov (by omega))) (alk_ov (by omega))), ⟨w9, Blk_own⟩, (pL_a (pL_a (pL_a zL (alk_ov (by omega))) (alk_ov (by omega))) (alk_ov (by omega))), (by
        obtain ⟨Iy, Ay, y1, y2⟩ := zY
        exact ⟨Iy, Ay, Blk_ovl (Blk_ovl (Blk_ovl y1 (by omega)) (by omega)) (by omega), seRel_of y2 (fun j h1 h2 => hout j (by omega))⟩), (pZ_a (pZ_a (pZ_a zZ (alk_ov (by omega))) (alk_ov (by omega))) (alk_ov (by omega))), pB_s (pB_a zB' (alk_ov (by omega))) hout, (pV_a (pV_a (pV_a zV (alk_ov (by omega))) (alk_ov (by omega))) (alk_ov (by omega))), (pP_a (pP_a (pP_a zP (alk_ov (by omega))) (alk_ov (by omega))) (alk_ov (by omega))), (pQ_a (pQ_a (pQ_a zQ (alk_ov (by omega))) (alk_ov (by omega))) (alk_ov (by omega))), (pG_a (pG_a (pG_a zG (alk_ov (by omega))) (alk_ov (by omega))) (alk_ov (by omega))), (pK_a (pK_a (pK_a zK (alk_ov (by omega))) (alk_ov (by omega))) (alk_ov (by omega))), (pC_a (pC_a (pC_a zC (alk_ov (by omega))) (alk_ov (by omega))) (alk_ov (by omega)))⟩
/-- a child that is there and not served -/
theorem sv_dec {s : Nat → Int32} {k : Nat} (hpl : plOk s F n) (hF : F ≤ 8) (hk : k < n) : (s (90 + k) < nI 0 ∧ s (90 + k) = -1) ∨ (¬ s (90 + k) < nI 0 ∧ ¬ s (90 + k) = -1) := by
  have e := plOk_eq hpl hF hk
  by_cases z : s (90 + k) < nI 0
  · exact Or.inl ⟨z, by rw [e]; exact z⟩
  · exact Or.inr ⟨z, by rw [e]; exact z⟩
theorem x_plan (hX : XR G b g I W A N F n U) : C G (d + 4) 0 0 mX11_plan [.ref b, .int c] g (fun v g' => fr b g g' ∧ (if (inF c (nI 0) (A 2 1 - nI 1) && !(decide (A 2 (90 + c.toNatClampNeg) < nI 0))) = true then (match plA (A 2) F c.toNatClampNeg 0 4 0 (nI 0) with
  | none => v = some (.int (-1)) ∧ XR G b g' I W A N F n U
  | some (bt, hr) => v = some (.int hr) ∧ XR G b g' (va_up (va_up I 26 (nI (plS bt 1 F 0 (A 9)).2)) 27 (pbF (plS bt 1 F 0 (A 9)).1 (A 2 (90 + c.toNatClampNeg)) (plS bt 1 F 0 (A 9)).2 (plB (pbF (plS bt 1 F 0 (A 9)).1 (A 2 (90 + c.toNatClampNeg)) (plS bt 1 F 0 (A 9)).2) 0 1 ((plS bt 1 F 0 (A 9)).2 ^ (plS bt 1 F 0 (A 9)).2 - 1)))) W (va_up (va_up A 9 (plS bt 1 F 0 (A 9)).1) 10 (plR (plS bt 1 F 0 (A 9)).1 (A 10) (plS bt 1 F 0 (A 9)).2 (plB (pbF (plS bt 1 F 0 (A 9)).1 (A 2 (90 + c.toNatClampNeg)) (plS bt 1 F 0 (A 9)).2) 0 1 ((plS bt 1 F 0 (A 9)).2 ^ (plS bt 1 F 0 (A 9)).2 - 1)) (plS bt 1 F 0 (A 9)).2)) N F n U) else v = some (.int (-1)) ∧ XR G b g' I W A N F n U)) := by
  have hX0 := hX
  have kc := x_isChild (d := d + 3) (c := c) hX
  obtain ⟨zw, zO, zT, zR, zH, zD, zS, zL, zY, zZ, zB, zV, zP, zQ, zG, zK, zC⟩ := hX
  obtain ⟨X, hx, x1, x3, x16, x18⟩ := id zO
  obtain ⟨J, B, M, hT, hS, hN⟩ := id zH
  obtain ⟨w9, hs⟩ := id zS
  obtain ⟨Ip, Ap, hp, p4, q, hq, p3, hpm, hrow⟩ := id zP
  obtain ⟨e0, hF, e1, hn, e2, hU⟩ := gWF_n zw.1
  have hpl := gWF_pl zw.1
  have hw := zw.1.1.1
  refine C_in p_RX11 (Nat.le_of_ble_eq_true rfl) rfl ?_
  refine wp_ok (cuts := []) 30 _ _ _ _ ?_
  simp (config := { maxSteps := 2000000 }) (disch := omega) only [wp_su, wp_0, eX11_plan_0, eX11_plan_1, eX11_plan_2, eX11_plan_5, eX11_plan_8, eX11_plan_9, eX11_plan_12, eX11_plan_15, eX11_plan_16, eX11_plan_17, eX11_plan_18, eX11_plan_21, eX11_plan_22, eX11_plan_23, eX11_plan_24, eX11_plan_27, eX11_plan_28, eX11_plan_31, eX11_plan_32, eX11_plan_35, eX11_plan_36, eX11_plan_39, S_aload_n0, S_aload_n0N, S_callV, S_getf, S_iald, S_icmp_ne, S_iconst, S_if_eq, S_iload_n1, S_ireturn, g_RX11_158, g_RX11_30, g_RX11_40, g_RX11_74, ic_m1, aX11_plan, bX11_plan, rX11_plan, nar_i, nar_n0, nar_n1, List.mem_cons, List.not_mem_nil, or_false, or_self, or_true, true_or, false_or, if_false, if_true, true_and, and_true, Nat.reduceEqDiff, Nat.reduceAdd, Nat.reduceLT, reduceIte, iSet_1, iEnt_e, iEn_n, iEn_i, iEn_r, iEn_u, iEn_l, List.cons_append, List.nil_append, List.length_cons, List.length_nil, Nat.reduceSub, List.replicate_succ, List.replicate_zero, Nat.zero_add, nI_lit0, va_up_app, nI_add, nI_mul, nI_sub, nI_clamp, vp_nI, nI_le_t, nI_le_f, nI_lt_t, nI_lt_f, imp_t, imp_f, Option.toList_some, Option.toList_none, not_true_eq_false, not_false_eq_true, iR_t, nar_zI, zI_f0, zI_t0, va_up_same, upd_ne, upd_self]
  refine dV1 (Y' := mX11_isChild) eX11_plan_2 l_RX11_151 kX11_isChild iX11_isChild nX11_isChild (xb_o hx) rfl rfl (Nat.le_of_ble_eq_true rfl) kc ?_
  cases hc : inF c (nI 0) (A 2 1 - nI 1)
  · simp only [Bool.false_and, Bool.false_eq_true, if_false]
    refine wp_ok (cuts := []) 30 _ _ _ _ ?_
    simp (config := { maxSteps := 2000000 }) (disch := omega) only [wp_su, wp_0, eX11_plan_0, eX11_plan_1, eX11_plan_2, eX11_plan_5, eX11_plan_8, eX11_plan_9, eX11_plan_12, eX11_plan_15, eX11_plan_16, eX11_plan_17, eX11_plan_18, eX11_plan_21, eX11_plan_22, eX11_plan_23, eX11_plan_24, eX11_plan_27, eX11_plan_28, eX11_plan_31, eX11_plan_32, eX11_plan_35, eX11_plan_36, eX11_plan_39, S_aload_n0, S_aload_n0N, S_callV, S_getf, S_iald, S_icmp_ne, S_iconst, S_if_eq, S_iload_n1, S_ireturn, g_RX11_158, g_RX11_30, g_RX11_40, g_RX11_74, ic_m1, aX11_plan, bX11_plan, rX11_plan, nar_i, nar_n0, nar_n1, List.mem_cons, List.not_mem_nil, or_false, or_self, or_true, true_or, false_or, if_false, if_true, true_and, and_true, Nat.reduceEqDiff, Nat.reduceAdd, Nat.reduceLT, reduceIte, iSet_1, iEnt_e, iEn_n, iEn_i, iEn_r, iEn_u, iEn_l, List.cons_append, List.nil_append, List.length_cons, List.length_nil, Nat.reduceSub, List.replicate_succ, List.replicate_zero, Nat.zero_add, nI_lit0, va_up_app, nI_add, nI_mul, nI_sub, nI_clamp, vp_nI, nI_le_t, nI_le_f, nI_lt_t, nI_lt_f, imp_t, imp_f, Option.toList_some, Option.toList_none, not_true_eq_false, not_false_eq_true, iR_t, nar_zI, zI_f0, zI_t0, va_up_same, upd_ne, upd_self]
    exact ⟨fr_rf, hX0⟩
  · rw [e1] at hc
    obtain ⟨k, hk, rfl⟩ := in_nI (by omega) hc
    simp only [Bool.true_and, nI_clamp (show k < 2 ^ 31 by omega)]
    rcases sv_dec hpl hF hk with ⟨z1, z2⟩ | ⟨z1, z2⟩
    · simp only [z1, decide_true, Bool.not_true, Bool.false_eq_true, if_false]
      refine wp_ok (cuts := []) 40 _ _ _ _ ?_
      simp (config := { maxSteps := 2000000 }) (disch := omega) only [wp_su, wp_0, eX11_plan_0, eX11_plan_1, eX11_plan_2, eX11_plan_5, eX11_plan_8, eX11_plan_9, eX11_plan_12, eX11_plan_15, eX11_plan_16, eX11_plan_17, eX11_plan_18, eX11_plan_21, eX11_plan_22, eX11_plan_23, eX11_plan_24, eX11_plan_27, eX11_plan_28, eX11_plan_31, eX11_plan_32, eX11_plan_35, eX11_plan_36, eX11_plan_39, S_aload_n0, S_aload_n0N, S_callV, S_getf, S_iald, S_icmp_ne, S_iconst, S_if_eq, S_iload_n1, S_ireturn, g_RX11_158, g_RX11_30, g_RX11_40, g_RX11_74, ic_m1, aX11_plan, bX11_plan, rX11_plan, nar_i, nar_n0, nar_n1, List.mem_cons, List.not_mem_nil, or_false, or_self, or_true, true_or, false_or, if_false, if_true, true_and, and_true, Nat.reduceEqDiff, Nat.reduceAdd, Nat.reduceLT, reduceIte, iSet_1, iEnt_e, iEn_n, iEn_i, iEn_r, iEn_u, iEn_l, List.cons_append, List.nil_append, List.length_cons, List.length_nil, Nat.reduceSub, List.replicate_succ, List.replicate_zero, Nat.zero_add, nI_lit0, va_up_app, nI_add, nI_mul, nI_sub, nI_clamp, vp_nI, nI_le_t, nI_le_f, nI_lt_t, nI_lt_f, imp_t, imp_f, Option.toList_some, Option.toList_none, not_true_eq_false, not_false_eq_true, iR_t, nar_zI, zI_f0, zI_t0, va_up_same, upd_ne, upd_self, n_1z, xb_o hx, xFs_len, xf_6, sb_o hs, stFs_len, stf_0, sb_1 hs, sPl_in, z2]
      exact ⟨fr_rf, hX0⟩
    · simp only [z1, decide_false, Bool.not_false, if_true]
      have hmu : ∀ f, f < F → nI 0 < A 2 (13 + f) := fun f hf => by
        obtain ⟨v, v1, v2, v3⟩ := zw.1.2.1.1 f hf
        rw [v3, nI_lt_t (by omega) (by omega)]; trivial
      have km := c_make (d := d) (p := b + 160) (I := Ip) (A := Ap) hk hw hmu z1 hs hT (by omega) (by omega) (by omega) hS
      rw [pn_self hp] at km
      refine wp_ok (cuts := [23]) 40 _ _ _ _ ?_
      simp (config := { maxSteps := 2000000 }) (disch := omega) only [wp_su, wp_0, eX11_plan_0, eX11_plan_1, eX11_plan_2, eX11_plan_5, eX11_plan_8, eX11_plan_9, eX11_plan_12, eX11_plan_15, eX11_plan_16, eX11_plan_17, eX11_plan_18, eX11_plan_21, eX11_plan_22, eX11_plan_23, eX11_plan_24, eX11_plan_27, eX11_plan_28, eX11_plan_31, eX11_plan_32, eX11_plan_35, eX11_plan_36, eX11_plan_39, S_aload_n0, S_aload_n0N, S_callV, S_getf, S_iald, S_icmp_ne, S_iconst, S_if_eq, S_iload_n1, S_ireturn, g_RX11_158, g_RX11_30, g_RX11_40, g_RX11_74, ic_m1, aX11_plan, bX11_plan, rX11_plan, nar_i, nar_n0, nar_n1, List.mem_cons, List.not_mem_nil, or_false, or_self, or_true, true_or, false_or, if_false, if_true, true_and, and_true, Nat.reduceEqDiff, Nat.reduceAdd, Nat.reduceLT, reduceIte, iSet_1, iEnt_e, iEn_n, iEn_i, iEn_r, iEn_u, iEn_l, List.cons_append, List.nil_append, List.length_cons, List.length_nil, Nat.reduceSub, List.replicate_succ, List.replicate_zero, Nat.zero_add, nI_lit0, va_up_app, nI_add, nI_mul, nI_sub, nI_clamp, vp_nI, nI_le_t, nI_le_f, nI_lt_t, nI_lt_f, imp_t, imp_f, Option.toList_some, Option.toList_none, not_true_eq_false, not_false_eq_true, iR_t, nar_zI, zI_f0, zI_t0, va_up_same, upd_ne, upd_self, n_1z, xb_o hx, xFs_len, xf_6, sb_o hs, stFs_len, stf_0, sb_1 hs, sPl_in, z2]
      refine wp_ok (cuts := []) 40 _ _ _ _ ?_
      simp (config := { maxSteps := 2000000 }) (disch := omega) only [wp_su, wp_0, eX11_plan_0, eX11_plan_1, eX11_plan_2, eX11_plan_5, eX11_plan_8, eX11_plan_9, eX11_plan_12, eX11_plan_15, eX11_plan_16, eX11_plan_17, eX11_plan_18, eX11_plan_21, eX11_plan_22, eX11_plan_23, eX11_plan_24, eX11_plan_27, eX11_plan_28, eX11_plan_31, eX11_plan_32, eX11_plan_35, eX11_plan_36, eX11_plan_39, S_aload_n0, S_aload_n0N, S_callV, S_getf, S_iald, S_icmp_ne, S_iconst, S_if_eq, S_iload_n1, S_ireturn, g_RX11_158, g_RX11_30, g_RX11_40, g_RX11_74, ic_m1, aX11_plan, bX11_plan, rX11_plan, nar_i, nar_n0, nar_n1, List.mem_cons, List.not_mem_nil, or_false, or_self, or_true, true_or, false_or, if_false, if_true, true_and, and_true, Nat.reduceEqDiff, Nat.reduceAdd, Nat.reduceLT, reduceIte, iSet_1, iEnt_e, iEn_n, iEn_i, iEn_r, iEn_u, iEn_l, List.cons_append, List.nil_append, List.length_cons, List.length_nil, Nat.reduceSub, List.replicate_succ, List.replicate_zero, Nat.zero_add, nI_lit0, va_up_app, nI_add, nI_mul, nI_sub, nI_clamp, vp_nI, nI_le_t, nI_le_f, nI_lt_t, nI_lt_f, imp_t, imp_f, Option.toList_some, Option.toList_none, not_true_eq_false, not_false_eq_true, iR_t, nar_zI, zI_f0, zI_t0, va_up_same, upd_ne, upd_self, xb_o hx, xFs_len, xf_4, xf_6, xf_12]
      refine ks_callV (As := [.ref (b + 7), .ref (b + 29), .int (nI k)]) (mc := 0) (ms := 0) (Y' := mX4_make) eX11_plan_36 l_RX11_269 kX4_make iX4_make nX4_make (pnb_o hp) rfl rfl (Nat.le_of_ble_eq_true rfl) (km) (Nat.zero_le _) (Nat.zero_le _) ?_
      intro v g' hv
      unfold mkQ at hv
      cases hpa : plA (A 2) F k 0 4 0 (nI 0) with
      | none =>
        rw [hpa] at hv
        obtain ⟨rfl, ch, rfl⟩ := hv
        refine wp_ok (cuts := []) 30 _ _ _ _ ?_
        simp (config := { maxSteps := 2000000 }) (disch := omega) only [wp_su, wp_0, eX11_plan_0, eX11_plan_1, eX11_plan_2, eX11_plan_5, eX11_plan_8, eX11_plan_9, eX11_plan_12, eX11_plan_15, eX11_plan_16, eX11_plan_17, eX11_plan_18, eX11_plan_21, eX11_plan_22, eX11_plan_23, eX11_plan_24, eX11_plan_27, eX11_plan_28, eX11_plan_31, eX11_plan_32, eX11_plan_35, eX11_plan_36, eX11_plan_39, S_aload_n0, S_aload_n0N, S_callV, S_getf, S_iald, S_icmp_ne, S_iconst, S_if_eq, S_iload_n1, S_ireturn, g_RX11_158, g_RX11_30, g_RX11_40, g_RX11_74, ic_m1, aX11_plan, bX11_plan, rX11_plan, nar_i, nar_n0, nar_n1, List.mem_cons, List.not_mem_nil, or_false, or_self, or_true, true_or, false_or, if_false, if_true, true_and, and_true, Nat.reduceEqDiff, Nat.reduceAdd, Nat.reduceLT, reduceIte, iSet_1, iEnt_e, iEn_n, iEn_i, iEn_r, iEn_u, iEn_l, List.cons_append, List.nil_append, List.length_cons, List.length_nil, Nat.reduceSub, List.replicate_succ, List.replicate_zero, Nat.zero_add, nI_lit0, va_up_app, nI_add, nI_mul, nI_sub, nI_clamp, vp_nI, nI_le_t, nI_le_f, nI_lt_t, nI_lt_f, imp_t, imp_f, Option.toList_some, Option.toList_none, not_true_eq_false, not_false_eq_true, iR_t, nar_zI, zI_f0, zI_t0, va_up_same, upd_ne, upd_self]
        refine ⟨fr_ov fr_rf (by omega) (by omega), ⟨zw, (pO_a zO (alk_ov (by omega))), (pT_a zT (alk_ov (by omega))), (pR_a zR (alk_ov (by omega))), (pH_a zH (alk_ov (by omega))), (pD_a zD (alk_ov (by omega))), (pSt_a zS (alk_ov (by omega))), (pL_a zL (alk_ov (by omega))), (pY_a zY (alk_ov (by omega))), (pZ_a zZ (alk_ov (by omega))), (pB_a zB (alk_ov (by omega))), (pV_a zV (alk_ov (by omega))), ⟨Ip, _, Blk_own, p4, q, hq, p3, hpm, fun i hi => hrow i hi⟩, (pQ_a zQ (alk_ov (by omega))), (pG_a zG (alk_ov (by omega))), (pK_a zK (alk_ov (by omega))), (pC_a zC (alk_ov (by omega)))⟩⟩
      | some r =>
        obtain ⟨bt, hr⟩ := r
        rw [hpa] at hv
        obtain ⟨hbt, hq4, rfl, A', rfl, hA'⟩ := hv
        have hb512 : bt < 512 := Nat.lt_of_lt_of_le hbt (by have : 2 ^ (F + 1) ≤ 2 ^ 9 := Nat.pow_le_pow_right (by decide) (by omega); omega)
        obtain ⟨s1, s2, s3⟩ := plS_bl hb512 F 1 0 (A 9) (by omega)
        rw [Nat.zero_add] at s1
        have s1 : (plS bt 1 F 0 (A 9)).2 = plQ bt F := s1
        have s3 : ∀ i, i < plQ bt F → (plS bt 1 F 0 (A 9)).1 i = plSt bt F i := fun i hi => by
          have := s3 i hi
          rw [Nat.zero_add] at this
          exact this
        have hpb : ∀ fr, pbF (plS bt 1 F 0 (A 9)).1 fr (plQ bt F) = pbF (plSt bt F) fr (plQ bt F) := fun fr => funext (fun cd => pbF_congr s3)
        simp only [s1, hpb]
        refine wp_ok (cuts := []) 30 _ _ _ _ ?_
        simp (config := { maxSteps := 2000000 }) (disch := omega) only [wp_su, wp_0, eX11_plan_0, eX11_plan_1, eX11_plan_2, eX11_plan_5, eX11_plan_8, eX11_plan_9, eX11_plan_12, eX11_plan_15, eX11_plan_16, eX11_plan_17, eX11_plan_18, eX11_plan_21, eX11_plan_22, eX11_plan_23, eX11_plan_24, eX11_plan_27, eX11_plan_28, eX11_plan_31, eX11_plan_32, eX11_plan_35, eX11_plan_36, eX11_plan_39, S_aload_n0, S_aload_n0N, S_callV, S_getf, S_iald, S_icmp_ne, S_iconst, S_if_eq, S_iload_n1, S_ireturn, g_RX11_158, g_RX11_30, g_RX11_40, g_RX11_74, ic_m1, aX11_plan, bX11_plan, rX11_plan, nar_i, nar_n0, nar_n1, List.mem_cons, List.not_mem_nil, or_false, or_self, or_true, true_or, false_or, if_false, if_true, true_and, and_true, Nat.reduceEqDiff, Nat.reduceAdd, Nat.reduceLT, reduceIte, iSet_1, iEnt_e, iEn_n, iEn_i, iEn_r, iEn_u, iEn_l, List.cons_append, List.nil_append, List.length_cons, List.length_nil, Nat.reduceSub, List.replicate_succ, List.replicate_zero, Nat.zero_add, nI_lit0, va_up_app, nI_add, nI_mul, nI_sub, nI_clamp, vp_nI, nI_le_t, nI_le_f, nI_lt_t, nI_lt_f, imp_t, imp_f, Option.toList_some, Option.toList_none, not_true_eq_false, not_false_eq_true, iR_t, nar_zI, zI_f0, zI_t0, va_up_same, upd_ne, upd_self]
        refine ⟨fr_ov fr_rf (by omega) (by omega), ⟨zw, (pO_a zO (alk_ov (by omega))), (pT_a zT (alk_ov (by omega))), (pR_a zR (alk_ov (by omega))), (pH_a zH (alk_ov (by omega))), (pD_a zD (alk_ov (by omega))), (pSt_a zS (alk_ov (by omega))), (pL_a zL (alk_ov (by omega))), (pY_a zY (alk_ov (by omega))), (pZ_a zZ (alk_ov (by omega))), (pB_a zB (alk_ov (by omega))), (pV_a zV (alk_ov (by omega))), ⟨_, A', Blk_own, va_sf, plQ bt F, hq4, (va_ne (by omega)).trans va_sf, Or.inl ((va_ne (by omega)).trans va_sf), fun i hi => ?_⟩, (pQ_a zQ (alk_ov (by omega))), (pG_a zG (alk_ov (by omega))), (pK_a zK (alk_ov (by omega))), (pC_a zC (alk_ov (by omega)))⟩⟩
        rw [hA' i hi]
        show plSt bt F _ = plR _ _ _ _ _ i
        rw [plR_at _ i hi, s3]
        · rfl
        · exact Nat.mod_lt _ (by omega)
theorem x_bargain (hX : XR G b g I W A N F n U) : C G (d + 4) 0 0 mX11_bargain [.ref b] g (fun v g' => fr b g g' ∧ v = some (.int (nI (cntP (fun q => decide (nI 0 < (mBar (A 2) (A 14) (A 15) F n).1 q)) n))) ∧ XR G b g' (va_up I 37 (nI n)) W (va_up (va_up A 14 (mBar (A 2) (A 14) (A 15) F n).1) 15 (mBar (A 2) (A 14) (A 15) F n).2) N F n U) := by
  obtain ⟨zw, zO, zT, zR, zH, zD, zS, zL, zY, zZ, zB, zV, zP, zQ, zG, zK, zC⟩ := hX
  obtain ⟨X, hx, x1, x3, x16, x18⟩ := id zO
  obtain ⟨J, B, M, hT, hS, hN⟩ := id zH
  obtain ⟨w9, hs⟩ := id zS
  obtain ⟨Ip, Ap, hp, q, hq, hpm, hrow, hrow2⟩ := id zG
  obtain ⟨e0, hF, e1, hn, e2, hU⟩ := gWF_n zw.1
  have hw := zw.1.1.1
  have hlk : ∀ f c, 1 ≤ f → f ≤ 8 → c < 6 → ∃ v, v < 1000 ∧ A 2 (37 + 6 * f - 6 + c) = nI v := fun f c h1 h2 h3 => by
    obtain ⟨v, v1, v2⟩ := zw.1.2.1.2.2.2.1 (37 + 6 * f - 6 + c) (by omega) (by omega)
    exact ⟨v, by omega, v2⟩
  have km := c_settle (d := d) (o := b + 169) (I := Ip) (A := Ap) (br := A 14) (ab := A 15) hw hlk hs hT (by omega) (by omega) (by omega) hS
  rw [bg_self hp] at km
  refine C_in p_RX11 (Nat.le_of_ble_eq_true rfl) rfl ?_
  refine wp_ok (cuts := []) 30 _ _ _ _ ?_
  simp (config := { maxSteps := 2000000 }) (disch := omega) only [wp_su, wp_0, eX11_bargain_0, eX11_bargain_1, eX11_bargain_4, eX11_bargain_5, eX11_bargain_8, eX11_bargain_9, eX11_bargain_12, eX11_bargain_15, S_aload_n0, S_aload_n0N, S_callV, S_getf, S_ireturn, g_RX11_30, g_RX11_40, g_RX11_88, aX11_bargain, bX11_bargain, rX11_bargain, nar_i, nar_n0, nar_n1, List.mem_cons, List.not_mem_nil, or_false, or_self, or_true, true_or, false_or, if_false, if_true, true_and, and_true, Nat.reduceEqDiff, Nat.reduceAdd, Nat.reduceLT, reduceIte, iSet_1, iEnt_e, iEn_n, iEn_i, iEn_r, iEn_u, iEn_l, List.cons_append, List.nil_append, List.length_cons, List.length_nil, Nat.reduceSub, List.replicate_succ, List.replicate_zero, Nat.zero_add, nI_lit0, va_up_app, nI_add, nI_mul, nI_sub, nI_clamp, vp_nI, nI_le_t, nI_le_f, nI_lt_t, nI_lt_f, imp_t, imp_f, Option.toList_some, Option.toList_none, not_true_eq_false, not_false_eq_true, iR_t, nar_zI, zI_f0, zI_t0, va_up_same, upd_ne, upd_self, xb_o hx, xFs_len, xf_4, xf_6, xf_14]
  refine ks_callV (As := [.ref (b + 7), .ref (b + 29)]) (mc := 0) (ms := 0) (Y' := mX0_settle) eX11_bargain_12 l_RX11_313 kX0_settle iX0_settle nX0_settle (bgb_o hp) rfl rfl (Nat.le_of_ble_eq_true rfl) (km) (Nat.zero_le _) (Nat.zero_le _) ?_
  rintro v g' ⟨rfl, A', rfl, h1, h2⟩
  refine wp_ok (cuts := []) 30 _ _ _ _ ?_
  simp (config := { maxSteps := 2000000 }) (disch := omega) only [wp_su, wp_0, eX11_bargain_0, eX11_bargain_1, eX11_bargain_4, eX11_bargain_5, eX11_bargain_8, eX11_bargain_9, eX11_bargain_12, eX11_bargain_15, S_aload_n0, S_aload_n0N, S_callV, S_getf, S_ireturn, g_RX11_30, g_RX11_40, g_RX11_88, aX11_bargain, bX11_bargain, rX11_bargain, nar_i, nar_n0, nar_n1, List.mem_cons, List.not_mem_nil, or_false, or_self, or_true, true_or, false_or, if_false, if_true, true_and, and_true, Nat.reduceEqDiff, Nat.reduceAdd, Nat.reduceLT, reduceIte, iSet_1, iEnt_e, iEn_n, iEn_i, iEn_r, iEn_u, iEn_l, List.cons_append, List.nil_append, List.length_cons, List.length_nil, Nat.reduceSub, List.replicate_succ, List.replicate_zero, Nat.zero_add, nI_lit0, va_up_app, nI_add, nI_mul, nI_sub, nI_clamp, vp_nI, nI_le_t, nI_le_f, nI_lt_t, nI_lt_f, imp_t, imp_f, Option.toList_some, Option.toList_none, not_true_eq_false, not_false_eq_true, iR_t, nar_zI, zI_f0, zI_t0, va_up_same, upd_ne, upd_self]
  exact ⟨fr_ov fr_rf (by omega) (by omega), ⟨zw, (pO_a zO (alk_ov (by omega))), (pT_a zT (alk_ov (by omega))), (pR_a zR (alk_ov (by omega))), (pH_a zH (alk_ov (by omega))), (pD_a zD (alk_ov (by omega))), (pSt_a zS (alk_ov (by omega))), (pL_a zL (alk_ov (by omega))), (pY_a zY (alk_ov (by omega))), (pZ_a zZ (alk_ov (by omega))), (pB_a zB (alk_ov (by omega))), (pV_a zV (alk_ov (by omega))), (pP_a zP (alk_ov (by omega))), (pQ_a zQ (alk_ov (by omega))), ⟨Ip, A', Blk_own, n, hn, Or.inl va_sf, h1, h2⟩, (pK_a zK (alk_ov (by omega))), (pC_a zC (alk_ov (by omega)))⟩⟩
theorem x_been (hX : XR G b g I W A N F n U) : C G (d + 8) 0 0 mX11_been [.ref b, .int c] g (fun v g' => fr b g g' ∧ (if I 2 = nI 4 then (if inF c (nI 1) (nI 4) = true then v = some (.int (nI (bnN (fun cd => isBB (A 2) (A 1) (F + 1) cd c.toNatClampNeg) 0 ((F + 1) ^ c.toNatClampNeg) 0 0).1)) ∧ (if (bnN (fun cd => isBB (A 2) (A 1) (F + 1) cd c.toNatClampNeg) 0 ((F + 1) ^ c.toNatClampNeg) 0 0).1 = 0 then XR G b g' (mTk I (nI 940)) W A N F n U else XR G b g' (va_up (va_up (mTk I (nI 940)) 31 (nI c.toNatClampNeg)) 32 (nI (akN (leftF (A 2) (A 1) (F + 1) c.toNatClampNeg) 1 (c.toNatClampNeg - 1) (leftF (A 2) (A 1) (F + 1) c.toNatClampNeg 0) 0))) W (va_up A 11 (brN (A 11) (F + 1) c.toNatClampNeg (bnN (fun cd => isBB (A 2) (A 1) (F + 1) cd c.toNatClampNeg) 0 ((F + 1) ^ c.toNatClampNeg) 0 0).2 c.toNatClampNeg)) N F n U) else v = some (.int (-1)) ∧ XR G b g' (mTk I (nI 940)) W A N F n U) else v = some (.int (-1)) ∧ XR G b g' (mTk I (nI 940)) W A N F n U)) := by
  obtain ⟨zw, zO, zT, zR, zH, zD, zS, zL, zY, zZ, zB, zV, zP, zQ, zG, zK, zC⟩ := hX
  obtain ⟨X, hx, x1, x3, x16, x18⟩ := id zO
  obtain ⟨J, B, M, hT, hS, hN⟩ := id zH
  obtain ⟨tx, ht, sz, hsz, e2', htr⟩ := id zT
  obtain ⟨It, At, htr1, t6, q, hq, t5, hbm, hrow⟩ := id zQ
  obtain ⟨e0, hF, e1, hn, e2, hU⟩ := gWF_n zw.1
  rw [e2'] at x1
  have hx1 : Blk (xH b (va_up X 1 (nI 0)) g) b 1 (xE b (va_up X 1 (nI 0))) := Blk_own
  have hXn : XR G b (xH b (va_up X 1 (nI 0)) g) (mTk I (nI 940)) W A N F n U := ⟨zw, ⟨_, Blk_own, va_sf, x3, x16, x18⟩, ⟨tx, Blk_alk ht (alk_ov (by omega)), 0, by omega, rfl, fun i hi => by omega⟩, (pR_a zR (alk_ov (by omega))), (pH_a zH (alk_ov (by omega))), (pD_a zD (alk_ov (by omega))), (pSt_a zS (alk_ov (by omega))), (pL_a zL (alk_ov (by omega))), (pY_a zY (alk_ov (by omega))), (pZ_a zZ (alk_ov (by omega))), (pB_a zB (alk_ov (by omega))), (pV_a zV (alk_ov (by omega))), (pP_a zP (alk_ov (by omega))), (pQ_a zQ (alk_ov (by omega))), (pG_a zG (alk_ov (by omega))), (pK_a zK (alk_ov (by omega))), (pC_a zC (alk_ov (by omega)))⟩
  have hfr1 : fr b g (xH b (va_up X 1 (nI 0)) g) := fr_ov fr_rf (by omega) (by omega)
  refine C_in p_RX11 (Nat.le_of_ble_eq_true rfl) rfl ?_
  refine K_h (x_self hx) ?_
  refine wp_ok (cuts := [10]) 40 _ _ _ _ ?_
  simp (config := { maxSteps := 2000000 }) (disch := omega) only [wp_su, wp_0, eX11_been_0, eX11_been_1, eX11_been_4, eX11_been_5, eX11_been_6, eX11_been_7, eX11_been_10, eX11_been_11, eX11_been_12, eX11_been_15, eX11_been_16, eX11_been_17, eX11_been_20, eX11_been_21, eX11_been_22, eX11_been_25, eX11_been_26, eX11_been_27, eX11_been_28, eX11_been_31, eX11_been_32, eX11_been_35, eX11_been_36, eX11_been_39, eX11_been_40, eX11_been_43, S_aload_n0, S_aload_n0N, S_callV, S_getf, S_icmp_eq, S_icmp_gt, S_icmp_lt, S_iconst, S_iload_n1, S_iload_n2, S_ireturn, S_istore_2, S_puti, S_putl, g_RX11_13, g_RX11_30, g_RX11_81, g_RX11_9, iCk_i, iCk_l, iCk_n, iCk_o, iCk_r, iS1_2, ic_m1, jc_0, jc_1, jc_4, aX11_been, bX11_been, rX11_been, nar_i, nar_n0, nar_n1, List.mem_cons, List.not_mem_nil, or_false, or_self, or_true, true_or, false_or, if_false, if_true, true_and, and_true, Nat.reduceEqDiff, Nat.reduceAdd, Nat.reduceLT, reduceIte, iSet_1, iEnt_e, iEn_n, iEn_i, iEn_r, iEn_u, iEn_l, List.cons_append, List.nil_append, List.length_cons, List.length_nil, Nat.reduceSub, List.replicate_succ, List.replicate_zero, Nat.zero_add, nI_lit0, va_up_app, nI_add, nI_mul, nI_sub, nI_clamp, vp_nI, nI_le_t, nI_le_f, nI_lt_t, nI_lt_f, imp_t, imp_f, Option.toList_some, Option.toList_none, not_true_eq_false, not_false_eq_true, iR_t, nar_zI, zI_f0, zI_t0, va_up_same, upd_ne, upd_self, x_o, xFs_len, xf_1, xk_1, xp_1, x1]
  have bad : K G (d + 8) 0 0 mX11_been 25 [some (.ref b), some (.int c), some (.int (nI sz))] [] (xH b (va_up X 1 (nI 0)) g) (fun v g' => fr b g g' ∧ v = some (.int (-1)) ∧ XR G b g' (mTk I (nI 940)) W A N F n U) := by
    refine wp_ok (cuts := []) 30 _ _ _ _ ?_
    simp (config := { maxSteps := 2000000 }) (disch := omega) only [wp_su, wp_0, eX11_been_0, eX11_been_1, eX11_been_4, eX11_been_5, eX11_been_6, eX11_been_7, eX11_been_10, eX11_been_11, eX11_been_12, eX11_been_15, eX11_been_16, eX11_been_17, eX11_been_20, eX11_been_21, eX11_been_22, eX11_been_25, eX11_been_26, eX11_been_27, eX11_been_28, eX11_been_31, eX11_been_32, eX11_been_35, eX11_been_36, eX11_been_39, eX11_been_40, eX11_been_43, S_aload_n0, S_aload_n0N, S_callV, S_getf, S_icmp_eq, S_icmp_gt, S_icmp_lt, S_iconst, S_iload_n1, S_iload_n2, S_ireturn, S_istore_2, S_puti, S_putl, g_RX11_13, g_RX11_30, g_RX11_81, g_RX11_9, iCk_i, iCk_l, iCk_n, iCk_o, iCk_r, iS1_2, ic_m1, jc_0, jc_1, jc_4, aX11_been, bX11_been, rX11_been, nar_i, nar_n0, nar_n1, List.mem_cons, List.not_mem_nil, or_false, or_self, or_true, true_or, false_or, if_false, if_true, true_and, and_true, Nat.reduceEqDiff, Nat.reduceAdd, Nat.reduceLT, reduceIte, iSet_1, iEnt_e, iEn_n, iEn_i, iEn_r, iEn_u, iEn_l, List.cons_append, List.nil_append, List.length_cons, List.length_nil, Nat.reduceSub, List.replicate_succ, List.replicate_zero, Nat.zero_add, nI_lit0, va_up_app, nI_add, nI_mul, nI_sub, nI_clamp, vp_nI, nI_le_t, nI_le_f, nI_lt_t, nI_lt_f, imp_t, imp_f, Option.toList_some, Option.toList_none, not_true_eq_false, not_false_eq_true, iR_t, nar_zI, zI_f0, zI_t0, va_up_same, upd_ne, upd_self]
    exact ⟨hfr1, hXn⟩
  by_cases z4 : sz = 4
  · subst z4
    simp only [e2', if_true]
    cases hc : inF c (nI 1) (nI 4)
    · simp only [Bool.false_eq_true, if_false]
      rcases i_dec c with z | ⟨j, hj, rfl⟩
      · have z1 : c < nI 1 := Int32.lt_trans z (by decide +kernel)
        refine wp_ok (cuts := [25]) 30 _ _ _ _ ?_
        simp (config := { maxSteps := 2000000 }) (disch := omega) only [wp_su, wp_0, eX11_been_0, eX11_been_1, eX11_been_4, eX11_been_5, eX11_been_6, eX11_been_7, eX11_been_10, eX11_been_11, eX11_been_12, eX11_been_15, eX11_been_16, eX11_been_17, eX11_been_20, eX11_been_21, eX11_been_22, eX11_been_25, eX11_been_26, eX11_been_27, eX11_been_28, eX11_been_31, eX11_been_32, eX11_been_35, eX11_been_36, eX11_been_39, eX11_been_40, eX11_been_43, S_aload_n0, S_aload_n0N, S_callV, S_getf, S_icmp_eq, S_icmp_gt, S_icmp_lt, S_iconst, S_iload_n1, S_iload_n2, S_ireturn, S_istore_2, S_puti, S_putl, g_RX11_13, g_RX11_30, g_RX11_81, g_RX11_9, iCk_i, iCk_l, iCk_n, iCk_o, iCk_r, iS1_2, ic_m1, jc_0, jc_1, jc_4, aX11_been, bX11_been, rX11_been, nar_i, nar_n0, nar_n1, List.mem_cons, List.not_mem_nil, or_false, or_self, or_true, true_or, false_or, if_false, if_true, true_and, and_true, Nat.reduceEqDiff, Nat.reduceAdd, Nat.reduceLT, reduceIte, iSet_1, iEnt_e, iEn_n, iEn_i, iEn_r, iEn_u, iEn_l, List.cons_append, List.nil_append, List.length_cons, List.length_nil, Nat.reduceSub, List.replicate_succ, List.replicate_zero, Nat.zero_add, nI_lit0, va_up_app, nI_add, nI_mul, nI_sub, nI_clamp, vp_nI, nI_le_t, nI_le_f, nI_lt_t, nI_lt_f, imp_t, imp_f, Option.toList_some, Option.toList_none, not_true_eq_false, not_false_eq_true, iR_t, nar_zI, zI_f0, zI_t0, va_up_same, upd_ne, upd_self, z1]
        exact bad
      · by_cases z0 : j = 0
        · subst z0
          refine wp_ok (cuts := [25]) 30 _ _ _ _ ?_
          simp (config := { maxSteps := 2000000 }) (disch := omega) only [wp_su, wp_0, eX11_been_0, eX11_been_1, eX11_been_4, eX11_been_5, eX11_been_6, eX11_been_7, eX11_been_10, eX11_been_11, eX11_been_12, eX11_been_15, eX11_been_16, eX11_been_17, eX11_been_20, eX11_been_21, eX11_been_22, eX11_been_25, eX11_been_26, eX11_been_27, eX11_been_28, eX11_been_31, eX11_been_32, eX11_been_35, eX11_been_36, eX11_been_39, eX11_been_40, eX11_been_43, S_aload_n0, S_aload_n0N, S_callV, S_getf, S_icmp_eq, S_icmp_gt, S_icmp_lt, S_iconst, S_iload_n1, S_iload_n2, S_ireturn, S_istore_2, S_puti, S_putl, g_RX11_13, g_RX11_30, g_RX11_81, g_RX11_9, iCk_i, iCk_l, iCk_n, iCk_o, iCk_r, iS1_2, ic_m1, jc_0, jc_1, jc_4, aX11_been, bX11_been, rX11_been, nar_i, nar_n0, nar_n1, List.mem_cons, List.not_mem_nil, or_false, or_self, or_true, true_or, false_or, if_false, if_true, true_and, and_true, Nat.reduceEqDiff, Nat.reduceAdd, Nat.reduceLT, reduceIte, iSet_1, iEnt_e, iEn_n, iEn_i, iEn_r, iEn_u, iEn_l, List.cons_append, List.nil_append, List.length_cons, List.length_nil, Nat.reduceSub, List.replicate_succ, List.replicate_zero, Nat.zero_add, nI_lit0, va_up_app, nI_add, nI_mul, nI_sub, nI_clamp, vp_nI, nI_le_t, nI_le_f, nI_lt_t, nI_lt_f, imp_t, imp_f, Option.toList_some, Option.toList_none, not_true_eq_false, not_false_eq_true, iR_t, nar_zI, zI_f0, zI_t0, va_up_same, upd_ne, upd_self]
          exact bad
        · by_cases z6 : j ≤ 4
          · rw [inT (by omega) z6 (by omega)] at hc; cases hc
          · refine wp_ok (cuts := [25]) 30 _ _ _ _ ?_
            simp (config := { maxSteps := 2000000 }) (disch := omega) only [wp_su, wp_0, eX11_been_0, eX11_been_1, eX11_been_4, eX11_been_5, eX11_been_6, eX11_been_7, eX11_been_10, eX11_been_11, eX11_been_12, eX11_been_15, eX11_been_16, eX11_been_17, eX11_been_20, eX11_been_21, eX11_been_22, eX11_been_25, eX11_been_26, eX11_been_27, eX11_been_28, eX11_been_31, eX11_been_32, eX11_been_35, eX11_been_36, eX11_been_39, eX11_been_40, eX11_been_43, S_aload_n0, S_aload_n0N, S_callV, S_getf, S_icmp_eq, S_icmp_gt, S_icmp_lt, S_iconst, S_iload_n1, S_iload_n2, S_ireturn, S_istore_2, S_puti, S_putl, g_RX11_13, g_RX11_30, g_RX11_81, g_RX11_9, iCk_i, iCk_l, iCk_n, iCk_o, iCk_r, iS1_2, ic_m1, jc_0, jc_1, jc_4, aX11_been, bX11_been, rX11_been, nar_i, nar_n0, nar_n1, List.mem_cons, List.not_mem_nil, or_false, or_self, or_true, true_or, false_or, if_false, if_true, true_and, and_true, Nat.reduceEqDiff, Nat.reduceAdd, Nat.reduceLT, reduceIte, iSet_1, iEnt_e, iEn_n, iEn_i, iEn_r, iEn_u, iEn_l, List.cons_append, List.nil_append, List.length_cons, List.length_nil, Nat.reduceSub, List.replicate_succ, List.replicate_zero, Nat.zero_add, nI_lit0, va_up_app, nI_add, nI_mul, nI_sub, nI_clamp, vp_nI, nI_le_t, nI_le_f, nI_lt_t, nI_lt_f, imp_t, imp_f, Option.toList_some, Option.toList_none, not_true_eq_false, not_false_eq_true, iR_t, nar_zI, zI_f0, zI_t0, va_up_same, upd_ne, upd_self]
            exact bad
    · obtain ⟨k, hk1, hk, rfl⟩ := in_nIr (by omega) (by omega) hc
      simp only [if_true, nI_clamp (show k < 2 ^ 31 by omega)]
      have htr2 : Blk (xH b (va_up X 1 (nI 0)) g) (b + 164) 5 (trE G (b + 164) It At) := Blk_ovl htr1 (by omega)
      have hT2 : TW G (xH b (va_up X 1 (nI 0)) g) (b + 7) J B M := Blk_ovl hT (by omega)
      have htp2 : Blk (xH b (va_up X 1 (nI 0)) g) (b + 1) 1 (arE G 940 tx) := Blk_ovl ht (by omega)
      have hg1 := zw.1.1.1.1.2.2.2.2.2.2.1
      have h1 : ∀ f, 1 ≤ f → f ≤ F → (A 2 (5 + f - 1)).toNatClampNeg < 4 ∧ A 2 (5 + f - 1) = nI (A 2 (5 + f - 1)).toNatClampNeg := fun f a1 a2 => by
        obtain ⟨gg, g1, g2⟩ := hg1 (f - 1) (by omega)
        rw [show 5 + (f - 1) = 5 + f - 1 by omega] at g2
        rw [g2, nI_clamp (by omega)]; exact ⟨g1, rfl⟩
      have h2 : ∀ f, 1 ≤ f → f ≤ F → (A 2 (13 + f - 1)).toNatClampNeg ≤ 9 ∧ A 2 (13 + f - 1) = nI (A 2 (13 + f - 1)).toNatClampNeg := fun f a1 a2 => by
        obtain ⟨gg, g0, g1, g2⟩ := zw.1.2.1.1 (f - 1) (by omega)
        rw [show 13 + (f - 1) = 13 + f - 1 by omega] at g2
        rw [g2, nI_clamp (by omega)]; exact ⟨g1, rfl⟩
      have h3 : ∀ gg, gg < 4 → (A 1 gg &&& nI 255).toNatClampNeg ≤ 255 ∧ A 1 gg &&& nI 255 = nI (A 1 gg &&& nI 255).toNatClampNeg := fun gg _ => by
        have hp := pk_pos (A 1 gg)
        obtain ⟨j, hj, ej⟩ := nI_of (x := A 1 gg &&& nI 255) (fun z => by rw [nI_lit0] at z; exact absurd hp (Int32.not_le.mpr z))
        rw [ej, nI_clamp hj]
        refine ⟨?_, rfl⟩
        have e9 : (A 1 gg &&& nI 255).toBitVec = (nI j).toBitVec := by rw [ej]
        have e8 : ((A 1 gg).toBitVec &&& 255#32).toNat = (BitVec.ofNat 32 j).toNat := by
          have : (A 1 gg).toBitVec &&& 255#32 = BitVec.ofNat 32 j := e9
          rw [this]
        have e7 : (BitVec.ofNat 32 j).toNat = j := by rw [BitVec.toNat_ofNat]; exact Nat.mod_eq_of_lt (by omega)
        rw [e7] at e8
        rw [← e8, BitVec.toNat_and]
        exact Nat.and_le_right
      have km := c_search (d := d) (o := b + 164) (I := It) (A := At) (q := k) (s := A 2) (tp := A 1) (tape := tx) (tpa := b + 1) (gf := fun f => (A 2 (5 + f - 1)).toNatClampNeg) (gv := fun f => (A 2 (13 + f - 1)).toNatClampNeg) (tg := fun gg => (A 1 gg &&& nI 255).toNatClampNeg) hF hk1 hk hS h1 h2 h3 (fun gg hgg => (htr gg hgg).trans (h3 gg hgg).2) hT2 (by omega) (arb_o htp2) (by omega)
      rw [tr_self htr2] at km
      have hbn := bn_eq (isb := fun cd => isBB (A 2) (A 1) (F + 1) cd k) ((F + 1) ^ k) 0
      rw [show cV (fun cd => isBB (A 2) (A 1) (F + 1) cd k) 0 = 0 from rfl, show fV (fun cd => isBB (A 2) (A 1) (F + 1) cd k) 0 = 0 from rfl, Nat.zero_add] at hbn
      simp only [hbn]
      refine wp_ok (cuts := [27]) 40 _ _ _ _ ?_
      simp (config := { maxSteps := 2000000 }) (disch := omega) only [wp_su, wp_0, eX11_been_0, eX11_been_1, eX11_been_4, eX11_been_5, eX11_been_6, eX11_been_7, eX11_been_10, eX11_been_11, eX11_been_12, eX11_been_15, eX11_been_16, eX11_been_17, eX11_been_20, eX11_been_21, eX11_been_22, eX11_been_25, eX11_been_26, eX11_been_27, eX11_been_28, eX11_been_31, eX11_been_32, eX11_been_35, eX11_been_36, eX11_been_39, eX11_been_40, eX11_been_43, S_aload_n0, S_aload_n0N, S_callV, S_getf, S_icmp_eq, S_icmp_gt, S_icmp_lt, S_iconst, S_iload_n1, S_iload_n2, S_ireturn, S_istore_2, S_puti, S_putl, g_RX11_13, g_RX11_30, g_RX11_81, g_RX11_9, iCk_i, iCk_l, iCk_n, iCk_o, iCk_r, iS1_2, ic_m1, jc_0, jc_1, jc_4, aX11_been, bX11_been, rX11_been, nar_i, nar_n0, nar_n1, List.mem_cons, List.not_mem_nil, or_false, or_self, or_true, true_or, false_or, if_false, if_true, true_and, and_true, Nat.reduceEqDiff, Nat.reduceAdd, Nat.reduceLT, reduceIte, iSet_1, iEnt_e, iEn_n, iEn_i, iEn_r, iEn_u, iEn_l, List.cons_append, List.nil_append, List.length_cons, List.length_nil, Nat.reduceSub, List.replicate_succ, List.replicate_zero, Nat.zero_add, nI_lit0, va_up_app, nI_add, nI_mul, nI_sub, nI_clamp, vp_nI, nI_le_t, nI_le_f, nI_lt_t, nI_lt_f, imp_t, imp_f, Option.toList_some, Option.toList_none, not_true_eq_false, not_false_eq_true, iR_t, nar_zI, zI_f0, zI_t0, va_up_same, upd_ne, upd_self, nI_eq_t]
      refine wp_ok (cuts := []) 40 _ _ _ _ ?_
      simp (config := { maxSteps := 2000000 }) (disch := omega) only [wp_su, wp_0, eX11_been_0, eX11_been_1, eX11_been_4, eX11_been_5, eX11_been_6, eX11_been_7, eX11_been_10, eX11_been_11, eX11_been_12, eX11_been_15, eX11_been_16, eX11_been_17, eX11_been_20, eX11_been_21, eX11_been_22, eX11_been_25, eX11_been_26, eX11_been_27, eX11_been_28, eX11_been_31, eX11_been_32, eX11_been_35, eX11_been_36, eX11_been_39, eX11_been_40, eX11_been_43, S_aload_n0, S_aload_n0N, S_callV, S_getf, S_icmp_eq, S_icmp_gt, S_icmp_lt, S_iconst, S_iload_n1, S_iload_n2, S_ireturn, S_istore_2, S_puti, S_putl, g_RX11_13, g_RX11_30, g_RX11_81, g_RX11_9, iCk_i, iCk_l, iCk_n, iCk_o, iCk_r, iS1_2, ic_m1, jc_0, jc_1, jc_4, aX11_been, bX11_been, rX11_been, nar_i, nar_n0, nar_n1, List.mem_cons, List.not_mem_nil, or_false, or_self, or_true, true_or, false_or, if_false, if_true, true_and, and_true, Nat.reduceEqDiff, Nat.reduceAdd, Nat.reduceLT, reduceIte, iSet_1, iEnt_e, iEn_n, iEn_i, iEn_r, iEn_u, iEn_l, List.cons_append, List.nil_append, List.length_cons, List.length_nil, Nat.reduceSub, List.replicate_succ, List.replicate_zero, Nat.zero_add, nI_lit0, va_up_app, nI_add, nI_mul, nI_sub, nI_clamp, vp_nI, nI_le_t, nI_le_f, nI_lt_t, nI_lt_f, imp_t, imp_f, Option.toList_some, Option.toList_none, not_true_eq_false, not_false_eq_true, iR_t, nar_zI, zI_f0, zI_t0, va_up_same, upd_ne, upd_self, xb_o hx1, xFs_len, xf_0, xf_4, xf_13]
      refine ks_callV (As := [.ref (b + 7), .ref (b + 1), .int (nI k)]) (mc := 0) (ms := 0) (Y' := mX9_search) eX11_been_40 l_RX11_282 kX9_search iX9_search nX9_search (trb_o htr2) rfl rfl (Nat.le_of_ble_eq_true rfl) (km) (Nat.zero_le _) (Nat.zero_le _) ?_
      rintro v g' ⟨rfl, I', A', rfl, hz0, hz1⟩
      refine wp_ok (cuts := []) 30 _ _ _ _ ?_
      simp (config := { maxSteps := 2000000 }) (disch := omega) only [wp_su, wp_0, eX11_been_0, eX11_been_1, eX11_been_4, eX11_been_5, eX11_been_6, eX11_been_7, eX11_been_10, eX11_been_11, eX11_been_12, eX11_been_15, eX11_been_16, eX11_been_17, eX11_been_20, eX11_been_21, eX11_been_22, eX11_been_25, eX11_been_26, eX11_been_27, eX11_been_28, eX11_been_31, eX11_been_32, eX11_been_35, eX11_been_36, eX11_been_39, eX11_been_40, eX11_been_43, S_aload_n0, S_aload_n0N, S_callV, S_getf, S_icmp_eq, S_icmp_gt, S_icmp_lt, S_iconst, S_iload_n1, S_iload_n2, S_ireturn, S_istore_2, S_puti, S_putl, g_RX11_13, g_RX11_30, g_RX11_81, g_RX11_9, iCk_i, iCk_l, iCk_n, iCk_o, iCk_r, iS1_2, ic_m1, jc_0, jc_1, jc_4, aX11_been, bX11_been, rX11_been, nar_i, nar_n0, nar_n1, List.mem_cons, List.not_mem_nil, or_false, or_self, or_true, true_or, false_or, if_false, if_true, true_and, and_true, Nat.reduceEqDiff, Nat.reduceAdd, Nat.reduceLT, reduceIte, iSet_1, iEnt_e, iEn_n, iEn_i, iEn_r, iEn_u, iEn_l, List.cons_append, List.nil_append, List.length_cons, List.length_nil, Nat.reduceSub, List.replicate_succ, List.replicate_zero, Nat.zero_add, nI_lit0, va_up_app, nI_add, nI_mul, nI_sub, nI_clamp, vp_nI, nI_le_t, nI_le_f, nI_lt_t, nI_lt_f, imp_t, imp_f, Option.toList_some, Option.toList_none, not_true_eq_false, not_false_eq_true, iR_t, nar_zI, zI_f0, zI_t0, va_up_same, upd_ne, upd_self]
      refine ⟨fr_ov hfr1 (by omega) (by omega), ?_⟩
      obtain ⟨zw, zO, zT, zR, zH, zD, zS, zL, zY, zZ, zB, zV, zP, zQ, zG, zK, zC⟩ := hXn
      by_cases zc : cV (fun cd => isBB (A 2) (A 1) (F + 1) cd k) ((F + 1) ^ k) = 0
      · rw [if_pos zc]
        obtain ⟨y1, y2, y3⟩ := hz0 zc
        exact ⟨zw, (pO_a zO (alk_ov (by omega))), (pT_a zT (alk_ov (by omega))), (pR_a zR (alk_ov (by omega))), (pH_a zH (alk_ov (by omega))), (pD_a zD (alk_ov (by omega))), (pSt_a zS (alk_ov (by omega))), (pL_a zL (alk_ov (by omega))), (pY_a zY (alk_ov (by omega))), (pZ_a zZ (alk_ov (by omega))), (pB_a zB (alk_ov (by omega))), (pV_a zV (alk_ov (by omega))), (pP_a zP (alk_ov (by omega))), ⟨I', A', Blk_own, y2.trans t6, q, hq, y1.trans t5, hbm, fun i hi => (y3 i (by omega)).trans (hrow i hi)⟩, (pG_a zG (alk_ov (by omega))), (pK_a zK (alk_ov (by omega))), (pC_a zC (alk_ov (by omega)))⟩
      · rw [if_neg zc]
        obtain ⟨y1, y2, y3⟩ := hz1 (by omega)
        exact ⟨zw, (pO_a zO (alk_ov (by omega))), (pT_a zT (alk_ov (by omega))), (pR_a zR (alk_ov (by omega))), (pH_a zH (alk_ov (by omega))), (pD_a zD (alk_ov (by omega))), (pSt_a zS (alk_ov (by omega))), (pL_a zL (alk_ov (by omega))), (pY_a zY (alk_ov (by omega))), (pZ_a zZ (alk_ov (by omega))), (pB_a zB (alk_ov (by omega))), (pV_a zV (alk_ov (by omega))), (pP_a zP (alk_ov (by omega))), ⟨I', A', Blk_own, y2, k, hk, y1, Or.inl rfl, fun i hi => (y3 i hi).trans (brN_at k i hi).symm⟩, (pG_a zG (alk_ov (by omega))), (pK_a zK (alk_ov (by omega))), (pC_a zC (alk_ov (by omega)))⟩
  · have hne : ¬ nI sz = nI 4 := by rw [nI_eq_f z4 (by omega) (by omega)]; exact id
    simp only [e2', hne, if_false]
    rcases i_dec c with z | ⟨j, hj, rfl⟩
    · have z1 : c < nI 1 := Int32.lt_trans z (by decide +kernel)
      refine wp_ok (cuts := [25]) 30 _ _ _ _ ?_
      simp (config := { maxSteps := 2000000 }) (disch := omega) only [wp_su, wp_0, eX11_been_0, eX11_been_1, eX11_been_4, eX11_been_5, eX11_been_6, eX11_been_7, eX11_been_10, eX11_been_11, eX11_been_12, eX11_been_15, eX11_been_16, eX11_been_17, eX11_been_20, eX11_been_21, eX11_been_22, eX11_been_25, eX11_been_26, eX11_been_27, eX11_been_28, eX11_been_31, eX11_been_32, eX11_been_35, eX11_been_36, eX11_been_39, eX11_been_40, eX11_been_43, S_aload_n0, S_aload_n0N, S_callV, S_getf, S_icmp_eq, S_icmp_gt, S_icmp_lt, S_iconst, S_iload_n1, S_iload_n2, S_ireturn, S_istore_2, S_puti, S_putl, g_RX11_13, g_RX11_30, g_RX11_81, g_RX11_9, iCk_i, iCk_l, iCk_n, iCk_o, iCk_r, iS1_2, ic_m1, jc_0, jc_1, jc_4, aX11_been, bX11_been, rX11_been, nar_i, nar_n0, nar_n1, List.mem_cons, List.not_mem_nil, or_false, or_self, or_true, true_or, false_or, if_false, if_true, true_and, and_true, Nat.reduceEqDiff, Nat.reduceAdd, Nat.reduceLT, reduceIte, iSet_1, iEnt_e, iEn_n, iEn_i, iEn_r, iEn_u, iEn_l, List.cons_append, List.nil_append, List.length_cons, List.length_nil, Nat.reduceSub, List.replicate_succ, List.replicate_zero, Nat.zero_add, nI_lit0, va_up_app, nI_add, nI_mul, nI_sub, nI_clamp, vp_nI, nI_le_t, nI_le_f, nI_lt_t, nI_lt_f, imp_t, imp_f, Option.toList_some, Option.toList_none, not_true_eq_false, not_false_eq_true, iR_t, nar_zI, zI_f0, zI_t0, va_up_same, upd_ne, upd_self, z1]
      exact bad
    · by_cases z0 : j = 0
      · subst z0
        refine wp_ok (cuts := [25]) 30 _ _ _ _ ?_
        simp (config := { maxSteps := 2000000 }) (disch := omega) only [wp_su, wp_0, eX11_been_0, eX11_been_1, eX11_been_4, eX11_been_5, eX11_been_6, eX11_been_7, eX11_been_10, eX11_been_11, eX11_been_12, eX11_been_15, eX11_been_16, eX11_been_17, eX11_been_20, eX11_been_21, eX11_been_22, eX11_been_25, eX11_been_26, eX11_been_27, eX11_been_28, eX11_been_31, eX11_been_32, eX11_been_35, eX11_been_36, eX11_been_39, eX11_been_40, eX11_been_43, S_aload_n0, S_aload_n0N, S_callV, S_getf, S_icmp_eq, S_icmp_gt, S_icmp_lt, S_iconst, S_iload_n1, S_iload_n2, S_ireturn, S_istore_2, S_puti, S_putl, g_RX11_13, g_RX11_30, g_RX11_81, g_RX11_9, iCk_i, iCk_l, iCk_n, iCk_o, iCk_r, iS1_2, ic_m1, jc_0, jc_1, jc_4, aX11_been, bX11_been, rX11_been, nar_i, nar_n0, nar_n1, List.mem_cons, List.not_mem_nil, or_false, or_self, or_true, true_or, false_or, if_false, if_true, true_and, and_true, Nat.reduceEqDiff, Nat.reduceAdd, Nat.reduceLT, reduceIte, iSet_1, iEnt_e, iEn_n, iEn_i, iEn_r, iEn_u, iEn_l, List.cons_append, List.nil_append, List.length_cons, List.length_nil, Nat.reduceSub, List.replicate_succ, List.replicate_zero, Nat.zero_add, nI_lit0, va_up_app, nI_add, nI_mul, nI_sub, nI_clamp, vp_nI, nI_le_t, nI_le_f, nI_lt_t, nI_lt_f, imp_t, imp_f, Option.toList_some, Option.toList_none, not_true_eq_false, not_false_eq_true, iR_t, nar_zI, zI_f0, zI_t0, va_up_same, upd_ne, upd_self]
        exact bad
      · by_cases z6 : j ≤ 4
        · refine wp_ok (cuts := [25]) 30 _ _ _ _ ?_
          simp (config := { maxSteps := 2000000 }) (disch := omega) only [wp_su, wp_0, eX11_been_0, eX11_been_1, eX11_been_4, eX11_been_5, eX11_been_6, eX11_been_7, eX11_been_10, eX11_been_11, eX11_been_12, eX11_been_15, eX11_been_16, eX11_been_17, eX11_been_20, eX11_been_21, eX11_been_22, eX11_been_25, eX11_been_26, eX11_been_27, eX11_been_28, eX11_been_31, eX11_been_32, eX11_been_35, eX11_been_36, eX11_been_39, eX11_been_40, eX11_been_43, S_aload_n0, S_aload_n0N, S_callV, S_getf, S_icmp_eq, S_icmp_gt, S_icmp_lt, S_iconst, S_iload_n1, S_iload_n2, S_ireturn, S_istore_2, S_puti, S_putl, g_RX11_13, g_RX11_30, g_RX11_81, g_RX11_9, iCk_i, iCk_l, iCk_n, iCk_o, iCk_r, iS1_2, ic_m1, jc_0, jc_1, jc_4, aX11_been, bX11_been, rX11_been, nar_i, nar_n0, nar_n1, List.mem_cons, List.not_mem_nil, or_false, or_self, or_true, true_or, false_or, if_false, if_true, true_and, and_true, Nat.reduceEqDiff, Nat.reduceAdd, Nat.reduceLT, reduceIte, iSet_1, iEnt_e, iEn_n, iEn_i, iEn_r, iEn_u, iEn_l, List.cons_append, List.nil_append, List.length_cons, List.length_nil, Nat.reduceSub, List.replicate_succ, List.replicate_zero, Nat.zero_add, nI_lit0, va_up_app, nI_add, nI_mul, nI_sub, nI_clamp, vp_nI, nI_le_t, nI_le_f, nI_lt_t, nI_lt_f, imp_t, imp_f, Option.toList_some, Option.toList_none, not_true_eq_false, not_false_eq_true, iR_t, nar_zI, zI_f0, zI_t0, va_up_same, upd_ne, upd_self, hne]
          exact bad
        · refine wp_ok (cuts := [25]) 30 _ _ _ _ ?_
          simp (config := { maxSteps := 2000000 }) (disch := omega) only [wp_su, wp_0, eX11_been_0, eX11_been_1, eX11_been_4, eX11_been_5, eX11_been_6, eX11_been_7, eX11_been_10, eX11_been_11, eX11_been_12, eX11_been_15, eX11_been_16, eX11_been_17, eX11_been_20, eX11_been_21, eX11_been_22, eX11_been_25, eX11_been_26, eX11_been_27, eX11_been_28, eX11_been_31, eX11_been_32, eX11_been_35, eX11_been_36, eX11_been_39, eX11_been_40, eX11_been_43, S_aload_n0, S_aload_n0N, S_callV, S_getf, S_icmp_eq, S_icmp_gt, S_icmp_lt, S_iconst, S_iload_n1, S_iload_n2, S_ireturn, S_istore_2, S_puti, S_putl, g_RX11_13, g_RX11_30, g_RX11_81, g_RX11_9, iCk_i, iCk_l, iCk_n, iCk_o, iCk_r, iS1_2, ic_m1, jc_0, jc_1, jc_4, aX11_been, bX11_been, rX11_been, nar_i, nar_n0, nar_n1, List.mem_cons, List.not_mem_nil, or_false, or_self, or_true, true_or, false_or, if_false, if_true, true_and, and_true, Nat.reduceEqDiff, Nat.reduceAdd, Nat.reduceLT, reduceIte, iSet_1, iEnt_e, iEn_n, iEn_i, iEn_r, iEn_u, iEn_l, List.cons_append, List.nil_append, List.length_cons, List.length_nil, Nat.reduceSub, List.replicate_succ, List.replicate_zero, Nat.zero_add, nI_lit0, va_up_app, nI_add, nI_mul, nI_sub, nI_clamp, vp_nI, nI_le_t, nI_le_f, nI_lt_t, nI_lt_f, imp_t, imp_f, Option.toList_some, Option.toList_none, not_true_eq_false, not_false_eq_true, iR_t, nar_zI, zI_f0, zI_t0, va_up_same, upd_ne, upd_self]
          exact bad
end XQ
