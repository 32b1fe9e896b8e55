/-! The class beside the reference: the acts themselves -/
section XA3
variable {G : iG} {d b : Nat} {g : iH} {I : Nat → Int32} {W : Int64} {A : Nat → Nat → Int32} {N : Nat → Nat → Int64} {F n U m : Nat} {c f : Int32}
theorem le0_0 {x : Int32} (h : x = nI 0) : x ≤ nI 0 := by rw [h]; exact Int32.le_refl _
theorem x_send (hX : XR G b g I W A N F n U) (hm : I 23 = nI m) (hm8 : m ≤ 8) : C G (d + 6) 0 0 mX11_send [.ref b, .int c, .int f] g (fun v g' => fr b g g' ∧ (if (inF c (nI 0) (A 2 1 - nI 1) && inF f (nI 0) (A 2 0)) = true then (if whySendF (A 2) n c.toNatClampNeg f ≤ nI 0 then v = some (.int (nI 0)) ∧ XR G b g' (actX I m) W (actA A m (sendF (A 2) U c.toNatClampNeg f)) N F n U else v = some (.int (whySendF (A 2) n c.toNatClampNeg f)) ∧ XR G b g' I W A N F n U) else v = some (.int (-1)) ∧ XR G b g' I W A N F n U)) := by
  have kc := x_isChild (d := d + 5) (c := c) hX
  have kf := x_isFloor (d := d + 5) (c := f) hX
  obtain ⟨e0, hF, e1, hn, e2, hU⟩ := gWF_n hX.1.1
  obtain ⟨X, hx, -⟩ := id hX.2.1
  refine C_in p_RX11 (Nat.le_of_ble_eq_true rfl) rfl ?_
  refine wp_ok (cuts := []) 30 _ _ _ _ ?_
  simp (config := { maxSteps := 2000000 }) (disch := omega) only [wp_su, wp_0, eX11_send_0, eX11_send_1, eX11_send_2, eX11_send_5, eX11_send_8, eX11_send_9, eX11_send_12, eX11_send_13, eX11_send_14, eX11_send_17, eX11_send_20, eX11_send_21, eX11_send_22, eX11_send_23, eX11_send_24, eX11_send_25, eX11_send_26, eX11_send_29, S_aload_n0, S_aload_n0N, S_callV, S_iconst, S_if_eq, S_if_ne, S_iload_n1, S_iload_n2, S_ireturn, ic_m1, jc_0, aX11_send, bX11_send, rX11_send, nar_i, nar_n0, nar_n1, List.mem_cons, List.not_mem_nil, or_false, or_self, or_true, true_or, false_or, if_false, if_true, true_and, and_true, Nat.reduceEqDiff, Nat.reduceAdd, Nat.reduceLT, reduceIte, iSet_1, iEnt_e, iEn_n, iEn_i, iEn_r, iEn_u, iEn_l, List.cons_append, List.nil_append, List.length_cons, List.length_nil, Nat.reduceSub, List.replicate_succ, List.replicate_zero, Nat.zero_add, nI_lit0, va_up_app, nI_add, nI_mul, nI_sub, nI_clamp, vp_nI, nI_le_t, nI_le_f, nI_lt_t, nI_lt_f, imp_t, imp_f, Option.toList_some, Option.toList_none, not_true_eq_false, not_false_eq_true, iR_t, nar_zI, zI_f0, zI_t0, va_up_same, upd_ne, upd_self]
  refine dV1 (Y' := mX11_isChild) eX11_send_2 l_RX11_151 kX11_isChild iX11_isChild nX11_isChild (xb_o hx) rfl rfl (Nat.le_of_ble_eq_true rfl) kc ?_
  cases hc : inF c (nI 0) (A 2 1 - nI 1)
  · simp only [Bool.false_and, Bool.false_eq_true, if_false]
    refine wp_ok (cuts := []) 30 _ _ _ _ ?_
    simp (config := { maxSteps := 2000000 }) (disch := omega) only [wp_su, wp_0, eX11_send_0, eX11_send_1, eX11_send_2, eX11_send_5, eX11_send_8, eX11_send_9, eX11_send_12, eX11_send_13, eX11_send_14, eX11_send_17, eX11_send_20, eX11_send_21, eX11_send_22, eX11_send_23, eX11_send_24, eX11_send_25, eX11_send_26, eX11_send_29, S_aload_n0, S_aload_n0N, S_callV, S_iconst, S_if_eq, S_if_ne, S_iload_n1, S_iload_n2, S_ireturn, ic_m1, jc_0, aX11_send, bX11_send, rX11_send, nar_i, nar_n0, nar_n1, List.mem_cons, List.not_mem_nil, or_false, or_self, or_true, true_or, false_or, if_false, if_true, true_and, and_true, Nat.reduceEqDiff, Nat.reduceAdd, Nat.reduceLT, reduceIte, iSet_1, iEnt_e, iEn_n, iEn_i, iEn_r, iEn_u, iEn_l, List.cons_append, List.nil_append, List.length_cons, List.length_nil, Nat.reduceSub, List.replicate_succ, List.replicate_zero, Nat.zero_add, nI_lit0, va_up_app, nI_add, nI_mul, nI_sub, nI_clamp, vp_nI, nI_le_t, nI_le_f, nI_lt_t, nI_lt_f, imp_t, imp_f, Option.toList_some, Option.toList_none, not_true_eq_false, not_false_eq_true, iR_t, nar_zI, zI_f0, zI_t0, va_up_same, upd_ne, upd_self]
    exact ⟨fr_rf, hX⟩
  · rw [e1] at hc
    obtain ⟨k, hk, rfl⟩ := in_nI (by omega) hc
    simp only [Bool.true_and, nI_clamp (show k < 2 ^ 31 by omega)]
    have main : ∀ j, j ≤ F → f = nI j → K G (d + 6) 0 0 mX11_send 22 [some (.ref b), some (.int (nI k)), some (.int f)] [] g (fun v g' => fr b g g' ∧ (if inF f (nI 0) (A 2 0) = true then (if whySendF (A 2) n k f ≤ nI 0 then v = some (.int (nI 0)) ∧ XR G b g' (actX I m) W (actA A m (sendF (A 2) U k f)) N F n U else v = some (.int (whySendF (A 2) n k f)) ∧ XR G b g' I W A N F n U) else v = some (.int (-1)) ∧ XR G b g' I W A N F n U)) := by
      intro j hj z
      subst z
      have kp := x_perform (d := d) hX (e := 0) (k := k) (f := j) hm hm8 ⟨by omega, fun _ => ⟨hk, j, hj, rfl⟩, fun z => by omega, fun z => by omega, fun z => by omega⟩ hj
      rw [whyF_0, actF_0] at kp
      rw [e0, inT (by omega) hj (by omega)]
      simp only [if_true]
      refine wp_ok (cuts := []) 30 _ _ _ _ ?_
      simp (config := { maxSteps := 2000000 }) (disch := omega) only [wp_su, wp_0, eX11_send_0, eX11_send_1, eX11_send_2, eX11_send_5, eX11_send_8, eX11_send_9, eX11_send_12, eX11_send_13, eX11_send_14, eX11_send_17, eX11_send_20, eX11_send_21, eX11_send_22, eX11_send_23, eX11_send_24, eX11_send_25, eX11_send_26, eX11_send_29, S_aload_n0, S_aload_n0N, S_callV, S_iconst, S_if_eq, S_if_ne, S_iload_n1, S_iload_n2, S_ireturn, ic_m1, jc_0, aX11_send, bX11_send, rX11_send, nar_i, nar_n0, nar_n1, List.mem_cons, List.not_mem_nil, or_false, or_self, or_true, true_or, false_or, if_false, if_true, true_and, and_true, Nat.reduceEqDiff, Nat.reduceAdd, Nat.reduceLT, reduceIte, iSet_1, iEnt_e, iEn_n, iEn_i, iEn_r, iEn_u, iEn_l, List.cons_append, List.nil_append, List.length_cons, List.length_nil, Nat.reduceSub, List.replicate_succ, List.replicate_zero, Nat.zero_add, nI_lit0, va_up_app, nI_add, nI_mul, nI_sub, nI_clamp, vp_nI, nI_le_t, nI_le_f, nI_lt_t, nI_lt_f, imp_t, imp_f, Option.toList_some, Option.toList_none, not_true_eq_false, not_false_eq_true, iR_t, nar_zI, zI_f0, zI_t0, va_up_same, upd_ne, upd_self]
      refine ks_callV (As := [.int (nI 0), .int (nI k), .int (nI j)]) (mc := 0) (ms := 0) (Y' := mX11_perform) eX11_send_26 l_RX11_236 kX11_perform iX11_perform nX11_perform (xb_o hx) rfl rfl (Nat.le_of_ble_eq_true rfl) (kp) (Nat.zero_le _) (Nat.zero_le _) ?_
      rintro v g' ⟨rfl, hfr, hh⟩
      refine wp_ok (cuts := []) 30 _ _ _ _ ?_
      simp (config := { maxSteps := 2000000 }) (disch := omega) only [wp_su, wp_0, eX11_send_0, eX11_send_1, eX11_send_2, eX11_send_5, eX11_send_8, eX11_send_9, eX11_send_12, eX11_send_13, eX11_send_14, eX11_send_17, eX11_send_20, eX11_send_21, eX11_send_22, eX11_send_23, eX11_send_24, eX11_send_25, eX11_send_26, eX11_send_29, S_aload_n0, S_aload_n0N, S_callV, S_iconst, S_if_eq, S_if_ne, S_iload_n1, S_iload_n2, S_ireturn, ic_m1, jc_0, aX11_send, bX11_send, rX11_send, nar_i, nar_n0, nar_n1, List.mem_cons, List.not_mem_nil, or_false, or_self, or_true, true_or, false_or, if_false, if_true, true_and, and_true, Nat.reduceEqDiff, Nat.reduceAdd, Nat.reduceLT, reduceIte, iSet_1, iEnt_e, iEn_n, iEn_i, iEn_r, iEn_u, iEn_l, List.cons_append, List.nil_append, List.length_cons, List.length_nil, Nat.reduceSub, List.replicate_succ, List.replicate_zero, Nat.zero_add, nI_lit0, va_up_app, nI_add, nI_mul, nI_sub, nI_clamp, vp_nI, nI_le_t, nI_le_f, nI_lt_t, nI_lt_f, imp_t, imp_f, Option.toList_some, Option.toList_none, not_true_eq_false, not_false_eq_true, iR_t, nar_zI, zI_f0, zI_t0, va_up_same, upd_ne, upd_self]
      refine ⟨hfr, ?_⟩
      rcases bv_whySend (s := A 2) (n := n) (c := k) (f := nI j) with z | z | z | z
      · rw [z, if_pos rfl] at hh
        rw [z, if_pos (Int32.le_refl _)]; exact ⟨rfl, hh⟩
      · rw [z, if_neg n_1z] at hh
        rw [z, if_neg (by decide +kernel)]; first | exact hh | exact ⟨rfl, hh⟩
      · rw [z, if_neg n_20] at hh
        rw [z, if_neg (by decide +kernel)]; first | exact hh | exact ⟨rfl, hh⟩
      · rw [z, if_neg n_30] at hh
        rw [z, if_neg (by decide +kernel)]; first | exact hh | exact ⟨rfl, hh⟩
    by_cases z0 : f = nI 0
    · have k0 := main 0 (by omega) z0
      subst z0
      refine wp_ok (cuts := [22]) 30 _ _ _ _ ?_
      simp (config := { maxSteps := 2000000 }) (disch := omega) only [wp_su, wp_0, eX11_send_0, eX11_send_1, eX11_send_2, eX11_send_5, eX11_send_8, eX11_send_9, eX11_send_12, eX11_send_13, eX11_send_14, eX11_send_17, eX11_send_20, eX11_send_21, eX11_send_22, eX11_send_23, eX11_send_24, eX11_send_25, eX11_send_26, eX11_send_29, S_aload_n0, S_aload_n0N, S_callV, S_iconst, S_if_eq, S_if_ne, S_iload_n1, S_iload_n2, S_ireturn, ic_m1, jc_0, aX11_send, bX11_send, rX11_send, nar_i, nar_n0, nar_n1, List.mem_cons, List.not_mem_nil, or_false, or_self, or_true, true_or, false_or, if_false, if_true, true_and, and_true, Nat.reduceEqDiff, Nat.reduceAdd, Nat.reduceLT, reduceIte, iSet_1, iEnt_e, iEn_n, iEn_i, iEn_r, iEn_u, iEn_l, List.cons_append, List.nil_append, List.length_cons, List.length_nil, Nat.reduceSub, List.replicate_succ, List.replicate_zero, Nat.zero_add, nI_lit0, va_up_app, nI_add, nI_mul, nI_sub, nI_clamp, vp_nI, nI_le_t, nI_le_f, nI_lt_t, nI_lt_f, imp_t, imp_f, Option.toList_some, Option.toList_none, not_true_eq_false, not_false_eq_true, iR_t, nar_zI, zI_f0, zI_t0, va_up_same, upd_ne, upd_self, n_1z, nI_eq_t]
      exact k0
    · refine wp_ok (cuts := []) 30 _ _ _ _ ?_
      simp (config := { maxSteps := 2000000 }) (disch := omega) only [wp_su, wp_0, eX11_send_0, eX11_send_1, eX11_send_2, eX11_send_5, eX11_send_8, eX11_send_9, eX11_send_12, eX11_send_13, eX11_send_14, eX11_send_17, eX11_send_20, eX11_send_21, eX11_send_22, eX11_send_23, eX11_send_24, eX11_send_25, eX11_send_26, eX11_send_29, S_aload_n0, S_aload_n0N, S_callV, S_iconst, S_if_eq, S_if_ne, S_iload_n1, S_iload_n2, S_ireturn, ic_m1, jc_0, aX11_send, bX11_send, rX11_send, nar_i, nar_n0, nar_n1, List.mem_cons, List.not_mem_nil, or_false, or_self, or_true, true_or, false_or, if_false, if_true, true_and, and_true, Nat.reduceEqDiff, Nat.reduceAdd, Nat.reduceLT, reduceIte, iSet_1, iEnt_e, iEn_n, iEn_i, iEn_r, iEn_u, iEn_l, List.cons_append, List.nil_append, List.length_cons, List.length_nil, Nat.reduceSub, List.replicate_succ, List.replicate_zero, Nat.zero_add, nI_lit0, va_up_app, nI_add, nI_mul, nI_sub, nI_clamp, vp_nI, nI_le_t, nI_le_f, nI_lt_t, nI_lt_f, imp_t, imp_f, Option.toList_some, Option.toList_none, not_true_eq_false, not_false_eq_true, iR_t, nar_zI, zI_f0, zI_t0, va_up_same, upd_ne, upd_self, n_1z, z0]
      refine dV1 (Y' := mX11_isFloor) eX11_send_14 l_RX11_184 kX11_isFloor iX11_isFloor nX11_isFloor (xb_o hx) rfl rfl (Nat.le_of_ble_eq_true rfl) kf ?_
      cases hf : inF f (nI 1) (A 2 0)
      · have hff : inF f (nI 0) (A 2 0) = false := by
          rw [e0] at hf ⊢
          rcases i_dec f with z | ⟨j, hj, rfl⟩
          · exact inN z
          · by_cases z : j ≤ F
            · by_cases zz : j = 0
              · subst zz; exact absurd rfl z0
              · rw [inT (by omega) z (by omega)] at hf; cases hf
            · exact inU (by omega) hj
        simp only [hff, Bool.false_eq_true, if_false]
        refine wp_ok (cuts := []) 30 _ _ _ _ ?_
        simp (config := { maxSteps := 2000000 }) (disch := omega) only [wp_su, wp_0, eX11_send_0, eX11_send_1, eX11_send_2, eX11_send_5, eX11_send_8, eX11_send_9, eX11_send_12, eX11_send_13, eX11_send_14, eX11_send_17, eX11_send_20, eX11_send_21, eX11_send_22, eX11_send_23, eX11_send_24, eX11_send_25, eX11_send_26, eX11_send_29, S_aload_n0, S_aload_n0N, S_callV, S_iconst, S_if_eq, S_if_ne, S_iload_n1, S_iload_n2, S_ireturn, ic_m1, jc_0, aX11_send, bX11_send, rX11_send, nar_i, nar_n0, nar_n1, List.mem_cons, List.not_mem_nil, or_false, or_self, or_true, true_or, false_or, if_false, if_true, true_and, and_true, Nat.reduceEqDiff, Nat.reduceAdd, Nat.reduceLT, reduceIte, iSet_1, iEnt_e, iEn_n, iEn_i, iEn_r, iEn_u, iEn_l, List.cons_append, List.nil_append, List.length_cons, List.length_nil, Nat.reduceSub, List.replicate_succ, List.replicate_zero, Nat.zero_add, nI_lit0, va_up_app, nI_add, nI_mul, nI_sub, nI_clamp, vp_nI, nI_le_t, nI_le_f, nI_lt_t, nI_lt_f, imp_t, imp_f, Option.toList_some, Option.toList_none, not_true_eq_false, not_false_eq_true, iR_t, nar_zI, zI_f0, zI_t0, va_up_same, upd_ne, upd_self]
        exact ⟨fr_rf, hX⟩
      · rw [e0] at hf
        obtain ⟨j, hj1, hj, rfl⟩ := in_nIr (by omega) (by omega) hf
        have k0 := main j hj rfl
        refine wp_ok (cuts := [22]) 30 _ _ _ _ ?_
        simp (config := { maxSteps := 2000000 }) (disch := omega) only [wp_su, wp_0, eX11_send_0, eX11_send_1, eX11_send_2, eX11_send_5, eX11_send_8, eX11_send_9, eX11_send_12, eX11_send_13, eX11_send_14, eX11_send_17, eX11_send_20, eX11_send_21, eX11_send_22, eX11_send_23, eX11_send_24, eX11_send_25, eX11_send_26, eX11_send_29, S_aload_n0, S_aload_n0N, S_callV, S_iconst, S_if_eq, S_if_ne, S_iload_n1, S_iload_n2, S_ireturn, ic_m1, jc_0, aX11_send, bX11_send, rX11_send, nar_i, nar_n0, nar_n1, List.mem_cons, List.not_mem_nil, or_false, or_self, or_true, true_or, false_or, if_false, if_true, true_and, and_true, Nat.reduceEqDiff, Nat.reduceAdd, Nat.reduceLT, reduceIte, iSet_1, iEnt_e, iEn_n, iEn_i, iEn_r, iEn_u, iEn_l, List.cons_append, List.nil_append, List.length_cons, List.length_nil, Nat.reduceSub, List.replicate_succ, List.replicate_zero, Nat.zero_add, nI_lit0, va_up_app, nI_add, nI_mul, nI_sub, nI_clamp, vp_nI, nI_le_t, nI_le_f, nI_lt_t, nI_lt_f, imp_t, imp_f, Option.toList_some, Option.toList_none, not_true_eq_false, not_false_eq_true, iR_t, nar_zI, zI_f0, zI_t0, va_up_same, upd_ne, upd_self, n_1z]
        exact k0
theorem x_hang (hX : XR G b g I W A N F n U) (hm : I 23 = nI m) (hm8 : m ≤ 8) : C G (d + 6) 0 0 mX11_hang [.ref b, .int c] g (fun v g' => fr b g g' ∧ (if inF c (nI 0) (A 2 2 - nI 1) = true then (if (A 2 88 >>> (c &&& 31)) &&& nI 1 = nI 1 then v = some (.int (nI 1)) ∧ XR G b g' I W A N F n U else v = some (.int (nI 0)) ∧ XR G b g' (actX I m) W (actA A m (upd (A 2) 88 (A 2 88 ^^^ (nI 1 <<< (c &&& 31))))) N F n U) else v = some (.int (-1)) ∧ XR G b g' I W A N F n U)) := by
  have kc := x_isUncle (d := d + 5) (c := c) hX
  obtain ⟨e0, hF, e1, hn, e2, hU⟩ := gWF_n hX.1.1
  obtain ⟨v9, hv9, e88⟩ := hX.1.1.1.2.1
  obtain ⟨X, hx, -⟩ := id hX.2.1
  refine C_in p_RX11 (Nat.le_of_ble_eq_true rfl) rfl ?_
  refine wp_ok (cuts := []) 30 _ _ _ _ ?_
  simp (config := { maxSteps := 2000000 }) (disch := omega) only [wp_su, wp_0, eX11_hang_0, eX11_hang_1, eX11_hang_2, eX11_hang_5, eX11_hang_8, eX11_hang_9, eX11_hang_10, eX11_hang_11, eX11_hang_12, eX11_hang_15, eX11_hang_18, eX11_hang_19, S_aload_n0, S_aload_n0N, S_callV, S_goto, S_iconst, S_if_eq, S_iload_n1, S_ireturn, ic_m1, jc_0, jc_1, aX11_hang, bX11_hang, rX11_hang, nar_i, nar_n0, nar_n1, List.mem_cons, List.not_mem_nil, or_false, or_self, or_true, true_or, false_or, if_false, if_true, true_and, and_true, Nat.reduceEqDiff, Nat.reduceAdd, Nat.reduceLT, reduceIte, iSet_1, iEnt_e, iEn_n, iEn_i, iEn_r, iEn_u, iEn_l, List.cons_append, List.nil_append, List.length_cons, List.length_nil, Nat.reduceSub, List.replicate_succ, List.replicate_zero, Nat.zero_add, nI_lit0, va_up_app, nI_add, nI_mul, nI_sub, nI_clamp, vp_nI, nI_le_t, nI_le_f, nI_lt_t, nI_lt_f, imp_t, imp_f, Option.toList_some, Option.toList_none, not_true_eq_false, not_false_eq_true, iR_t, nar_zI, zI_f0, zI_t0, va_up_same, upd_ne, upd_self]
  refine dV1 (Y' := mX11_isUncle) eX11_hang_2 l_RX11_199 kX11_isUncle iX11_isUncle nX11_isUncle (xb_o hx) rfl rfl (Nat.le_of_ble_eq_true rfl) kc ?_
  cases hc : inF c (nI 0) (A 2 2 - nI 1)
  · simp only [Bool.false_eq_true, if_false]
    refine wp_ok (cuts := []) 30 _ _ _ _ ?_
    simp (config := { maxSteps := 2000000 }) (disch := omega) only [wp_su, wp_0, eX11_hang_0, eX11_hang_1, eX11_hang_2, eX11_hang_5, eX11_hang_8, eX11_hang_9, eX11_hang_10, eX11_hang_11, eX11_hang_12, eX11_hang_15, eX11_hang_18, eX11_hang_19, S_aload_n0, S_aload_n0N, S_callV, S_goto, S_iconst, S_if_eq, S_iload_n1, S_ireturn, ic_m1, jc_0, jc_1, aX11_hang, bX11_hang, rX11_hang, nar_i, nar_n0, nar_n1, List.mem_cons, List.not_mem_nil, or_false, or_self, or_true, true_or, false_or, if_false, if_true, true_and, and_true, Nat.reduceEqDiff, Nat.reduceAdd, Nat.reduceLT, reduceIte, iSet_1, iEnt_e, iEn_n, iEn_i, iEn_r, iEn_u, iEn_l, List.cons_append, List.nil_append, List.length_cons, List.length_nil, Nat.reduceSub, List.replicate_succ, List.replicate_zero, Nat.zero_add, nI_lit0, va_up_app, nI_add, nI_mul, nI_sub, nI_clamp, vp_nI, nI_le_t, nI_le_f, nI_lt_t, nI_lt_f, imp_t, imp_f, Option.toList_some, Option.toList_none, not_true_eq_false, not_false_eq_true, iR_t, nar_zI, zI_f0, zI_t0, va_up_same, upd_ne, upd_self]
    exact ⟨fr_rf, hX⟩
  · rw [e2] at hc
    obtain ⟨k, hk, rfl⟩ := in_nI (by omega) hc
    simp only [if_true]
    have kp := x_perform (d := d) hX (e := 1) (k := k) (f := 0) hm hm8 ⟨by omega, fun z => by omega, fun _ => hk, fun z => by omega, fun z => by omega⟩ (by omega)
    rw [whyF_1, actF_1] at kp
    refine wp_ok (cuts := []) 30 _ _ _ _ ?_
    simp (config := { maxSteps := 2000000 }) (disch := omega) only [wp_su, wp_0, eX11_hang_0, eX11_hang_1, eX11_hang_2, eX11_hang_5, eX11_hang_8, eX11_hang_9, eX11_hang_10, eX11_hang_11, eX11_hang_12, eX11_hang_15, eX11_hang_18, eX11_hang_19, S_aload_n0, S_aload_n0N, S_callV, S_goto, S_iconst, S_if_eq, S_iload_n1, S_ireturn, ic_m1, jc_0, jc_1, aX11_hang, bX11_hang, rX11_hang, nar_i, nar_n0, nar_n1, List.mem_cons, List.not_mem_nil, or_false, or_self, or_true, true_or, false_or, if_false, if_true, true_and, and_true, Nat.reduceEqDiff, Nat.reduceAdd, Nat.reduceLT, reduceIte, iSet_1, iEnt_e, iEn_n, iEn_i, iEn_r, iEn_u, iEn_l, List.cons_append, List.nil_append, List.length_cons, List.length_nil, Nat.reduceSub, List.replicate_succ, List.replicate_zero, Nat.zero_add, nI_lit0, va_up_app, nI_add, nI_mul, nI_sub, nI_clamp, vp_nI, nI_le_t, nI_le_f, nI_lt_t, nI_lt_f, imp_t, imp_f, Option.toList_some, Option.toList_none, not_true_eq_false, not_false_eq_true, iR_t, nar_zI, zI_f0, zI_t0, va_up_same, upd_ne, upd_self, n_1z]
    refine ks_callV (As := [.int (nI 1), .int (nI k), .int (nI 0)]) (mc := 0) (ms := 0) (Y' := mX11_perform) eX11_hang_12 l_RX11_236 kX11_perform iX11_perform nX11_perform (xb_o hx) rfl rfl (Nat.le_of_ble_eq_true rfl) (kp) (Nat.zero_le _) (Nat.zero_le _) ?_
    rintro v g' ⟨rfl, hfr, hh⟩
    refine wp_ok (cuts := []) 30 _ _ _ _ ?_
    simp (config := { maxSteps := 2000000 }) (disch := omega) only [wp_su, wp_0, eX11_hang_0, eX11_hang_1, eX11_hang_2, eX11_hang_5, eX11_hang_8, eX11_hang_9, eX11_hang_10, eX11_hang_11, eX11_hang_12, eX11_hang_15, eX11_hang_18, eX11_hang_19, S_aload_n0, S_aload_n0N, S_callV, S_goto, S_iconst, S_if_eq, S_iload_n1, S_ireturn, ic_m1, jc_0, jc_1, aX11_hang, bX11_hang, rX11_hang, nar_i, nar_n0, nar_n1, List.mem_cons, List.not_mem_nil, or_false, or_self, or_true, true_or, false_or, if_false, if_true, true_and, and_true, Nat.reduceEqDiff, Nat.reduceAdd, Nat.reduceLT, reduceIte, iSet_1, iEnt_e, iEn_n, iEn_i, iEn_r, iEn_u, iEn_l, List.cons_append, List.nil_append, List.length_cons, List.length_nil, Nat.reduceSub, List.replicate_succ, List.replicate_zero, Nat.zero_add, nI_lit0, va_up_app, nI_add, nI_mul, nI_sub, nI_clamp, vp_nI, nI_le_t, nI_le_f, nI_lt_t, nI_lt_f, imp_t, imp_f, Option.toList_some, Option.toList_none, not_true_eq_false, not_false_eq_true, iR_t, nar_zI, zI_f0, zI_t0, va_up_same, upd_ne, upd_self]
    refine ⟨hfr, ?_⟩
    cases hbt : bitF (A 2 88) (nI k)
    · rw [hbt] at hh
      have h1 : ¬ (A 2 88 >>> (nI k &&& 31)) &&& nI 1 = nI 1 := of_decide_eq_false hbt
      rw [if_neg h1]
      have hh : XR G b g' (actX I m) W (actA A m (upd (A 2) 88 (A 2 88 ||| shN k))) N F n U := hh
      rw [e88] at hbt hh ⊢
      rw [hang_or v9 hv9 k (by omega) hbt] at hh
      exact ⟨rfl, hh⟩
    · rw [hbt] at hh
      have h1 : (A 2 88 >>> (nI k &&& 31)) &&& nI 1 = nI 1 := of_decide_eq_true hbt
      rw [if_pos h1]
      exact ⟨rfl, hh⟩
theorem x_take (hX : XR G b g I W A N F n U) (hm : I 23 = nI m) (hm8 : m ≤ 8) : C G (d + 6) 0 0 mX11_take [.ref b, .int c] g (fun v g' => fr b g g' ∧ (if inF c (nI 0) (A 2 2 - nI 1) = true then (if (A 2 88 >>> (c &&& 31)) &&& nI 1 = nI 0 then v = some (.int (nI 1)) ∧ XR G b g' I W A N F n U else v = some (.int (nI 0)) ∧ XR G b g' (actX I m) W (actA A m (upd (A 2) 88 (A 2 88 ^^^ (nI 1 <<< (c &&& 31))))) N F n U) else v = some (.int (-1)) ∧ XR G b g' I W A N F n U)) := by
  have kc := x_isUncle (d := d + 5) (c := c) hX
  obtain ⟨e0, hF, e1, hn, e2, hU⟩ := gWF_n hX.1.1
  obtain ⟨v9, hv9, e88⟩ := hX.1.1.1.2.1
  obtain ⟨X, hx, -⟩ := id hX.2.1
  refine C_in p_RX11 (Nat.le_of_ble_eq_true rfl) rfl ?_
  refine wp_ok (cuts := []) 30 _ _ _ _ ?_
  simp (config := { maxSteps := 2000000 }) (disch := omega) only [wp_su, wp_0, eX11_take_0, eX11_take_1, eX11_take_2, eX11_take_5, eX11_take_8, eX11_take_9, eX11_take_10, eX11_take_11, eX11_take_12, eX11_take_15, eX11_take_18, eX11_take_19, S_aload_n0, S_aload_n0N, S_callV, S_goto, S_iconst, S_if_eq, S_iload_n1, S_ireturn, ic_m1, jc_0, jc_2, aX11_take, bX11_take, rX11_take, nar_i, nar_n0, nar_n1, List.mem_cons, List.not_mem_nil, or_false, or_self, or_true, true_or, false_or, if_false, if_true, true_and, and_true, Nat.reduceEqDiff, Nat.reduceAdd, Nat.reduceLT, reduceIte, iSet_1, iEnt_e, iEn_n, iEn_i, iEn_r, iEn_u, iEn_l, List.cons_append, List.nil_append, List.length_cons, List.length_nil, Nat.reduceSub, List.replicate_succ, List.replicate_zero, Nat.zero_add, nI_lit0, va_up_app, nI_add, nI_mul, nI_sub, nI_clamp, vp_nI, nI_le_t, nI_le_f, nI_lt_t, nI_lt_f, imp_t, imp_f, Option.toList_some, Option.toList_none, not_true_eq_false, not_false_eq_true, iR_t, nar_zI, zI_f0, zI_t0, va_up_same, upd_ne, upd_self]
  refine dV1 (Y' := mX11_isUncle) eX11_take_2 l_RX11_199 kX11_isUncle iX11_isUncle nX11_isUncle (xb_o hx) rfl rfl (Nat.le_of_ble_eq_true rfl) kc ?_
  cases hc : inF c (nI 0) (A 2 2 - nI 1)
  · simp only [Bool.false_eq_true, if_false]
    refine wp_ok (cuts := []) 30 _ _ _ _ ?_
    simp (config := { maxSteps := 2000000 }) (disch := omega) only [wp_su, wp_0, eX11_take_0, eX11_take_1, eX11_take_2, eX11_take_5, eX11_take_8, eX11_take_9, eX11_take_10, eX11_take_11, eX11_take_12, eX11_take_15, eX11_take_18, eX11_take_19, S_aload_n0, S_aload_n0N, S_callV, S_goto, S_iconst, S_if_eq, S_iload_n1, S_ireturn, ic_m1, jc_0, jc_2, aX11_take, bX11_take, rX11_take, nar_i, nar_n0, nar_n1, List.mem_cons, List.not_mem_nil, or_false, or_self, or_true, true_or, false_or, if_false, if_true, true_and, and_true, Nat.reduceEqDiff, Nat.reduceAdd, Nat.reduceLT, reduceIte, iSet_1, iEnt_e, iEn_n, iEn_i, iEn_r, iEn_u, iEn_l, List.cons_append, List.nil_append, List.length_cons, List.length_nil, Nat.reduceSub, List.replicate_succ, List.replicate_zero, Nat.zero_add, nI_lit0, va_up_app, nI_add, nI_mul, nI_sub, nI_clamp, vp_nI, nI_le_t, nI_le_f, nI_lt_t, nI_lt_f, imp_t, imp_f, Option.toList_some, Option.toList_none, not_true_eq_false, not_false_eq_true, iR_t, nar_zI, zI_f0, zI_t0, va_up_same, upd_ne, upd_self]
    exact ⟨fr_rf, hX⟩
  · rw [e2] at hc
    obtain ⟨k, hk, rfl⟩ := in_nI (by omega) hc
    simp only [if_true]
    have kp := x_perform (d := d) hX (e := 2) (k := k) (f := 0) hm hm8 ⟨by omega, fun z => by omega, fun _ => hk, fun z => by omega, fun z => by omega⟩ (by omega)
    rw [whyF_2, actF_2] at kp
    refine wp_ok (cuts := []) 30 _ _ _ _ ?_
    simp (config := { maxSteps := 2000000 }) (disch := omega) only [wp_su, wp_0, eX11_take_0, eX11_take_1, eX11_take_2, eX11_take_5, eX11_take_8, eX11_take_9, eX11_take_10, eX11_take_11, eX11_take_12, eX11_take_15, eX11_take_18, eX11_take_19, S_aload_n0, S_aload_n0N, S_callV, S_goto, S_iconst, S_if_eq, S_iload_n1, S_ireturn, ic_m1, jc_0, jc_2, aX11_take, bX11_take, rX11_take, nar_i, nar_n0, nar_n1, List.mem_cons, List.not_mem_nil, or_false, or_self, or_true, true_or, false_or, if_false, if_true, true_and, and_true, Nat.reduceEqDiff, Nat.reduceAdd, Nat.reduceLT, reduceIte, iSet_1, iEnt_e, iEn_n, iEn_i, iEn_r, iEn_u, iEn_l, List.cons_append, List.nil_append, List.length_cons, List.length_nil, Nat.reduceSub, List.replicate_succ, List.replicate_zero, Nat.zero_add, nI_lit0, va_up_app, nI_add, nI_mul, nI_sub, nI_clamp, vp_nI, nI_le_t, nI_le_f, nI_lt_t, nI_lt_f, imp_t, imp_f, Option.toList_some, Option.toList_none, not_true_eq_false, not_false_eq_true, iR_t, nar_zI, zI_f0, zI_t0, va_up_same, upd_ne, upd_self, n_1z]
    refine ks_callV (As := [.int (nI 2), .int (nI k), .int (nI 0)]) (mc := 0) (ms := 0) (Y' := mX11_perform) eX11_take_12 l_RX11_236 kX11_perform iX11_perform nX11_perform (xb_o hx) rfl rfl (Nat.le_of_ble_eq_true rfl) (kp) (Nat.zero_le _) (Nat.zero_le _) ?_
    rintro v g' ⟨rfl, hfr, hh⟩
    refine wp_ok (cuts := []) 30 _ _ _ _ ?_
    simp (config := { maxSteps := 2000000 }) (disch := omega) only [wp_su, wp_0, eX11_take_0, eX11_take_1, eX11_take_2, eX11_take_5, eX11_take_8, eX11_take_9, eX11_take_10, eX11_take_11, eX11_take_12, eX11_take_15, eX11_take_18, eX11_take_19, S_aload_n0, S_aload_n0N, S_callV, S_goto, S_iconst, S_if_eq, S_iload_n1, S_ireturn, ic_m1, jc_0, jc_2, aX11_take, bX11_take, rX11_take, nar_i, nar_n0, nar_n1, List.mem_cons, List.not_mem_nil, or_false, or_self, or_true, true_or, false_or, if_false, if_true, true_and, and_true, Nat.reduceEqDiff, Nat.reduceAdd, Nat.reduceLT, reduceIte, iSet_1, iEnt_e, iEn_n, iEn_i, iEn_r, iEn_u, iEn_l, List.cons_append, List.nil_append, List.length_cons, List.length_nil, Nat.reduceSub, List.replicate_succ, List.replicate_zero, Nat.zero_add, nI_lit0, va_up_app, nI_add, nI_mul, nI_sub, nI_clamp, vp_nI, nI_le_t, nI_le_f, nI_lt_t, nI_lt_f, imp_t, imp_f, Option.toList_some, Option.toList_none, not_true_eq_false, not_false_eq_true, iR_t, nar_zI, zI_f0, zI_t0, va_up_same, upd_ne, upd_self]
    refine ⟨hfr, ?_⟩
    cases hbt : bitF (A 2 88) (nI k)
    · rw [hbt] at hh
      have h1 : (A 2 88 >>> (nI k &&& 31)) &&& nI 1 = nI 0 := by
        rcases and1 (A 2 88 >>> (nI k &&& 31)) with z | z
        · exact z
        · exact absurd z (of_decide_eq_false hbt)
      rw [if_pos h1]
      exact ⟨rfl, hh⟩
    · rw [hbt] at hh
      have h1 : (A 2 88 >>> (nI k &&& 31)) &&& nI 1 = nI 1 := of_decide_eq_true hbt
      rw [if_neg (by rw [h1]; exact n_1z)]
      have hh : XR G b g' (actX I m) W (actA A m (upd (A 2) 88 (A 2 88 &&& (shN k ^^^ (-1))))) N F n U := hh
      rw [e88] at hbt hh ⊢
      rw [hang_and v9 hv9 k (by omega) hbt] at hh
      exact ⟨rfl, hh⟩
theorem x_serve (hX : XR G b g I W A N F n U) (hm : I 23 = nI m) (hm8 : m ≤ 8) : C G (d + 6) 0 0 mX11_serve [.ref b, .int c] g (fun v g' => fr b g g' ∧ (if inF c (nI 0) (A 2 1 - nI 1) = true then (if whyServeF (A 2) c.toNatClampNeg ≤ nI 0 then v = some (.int (nI 0)) ∧ XR G b g' (actX I m) W (actA A m (upd (A 2) (90 + c.toNatClampNeg) (-1))) N F n U else v = some (.int (whyServeF (A 2) c.toNatClampNeg)) ∧ XR G b g' I W A N F n U) else v = some (.int (-1)) ∧ XR G b g' I W A N F n U)) := by
  have kc := x_isChild (d := d + 5) (c := c) hX
  obtain ⟨e0, hF, e1, hn, e2, hU⟩ := gWF_n hX.1.1
  obtain ⟨X, hx, -⟩ := id hX.2.1
  refine C_in p_RX11 (Nat.le_of_ble_eq_true rfl) rfl ?_
  refine wp_ok (cuts := []) 30 _ _ _ _ ?_
  simp (config := { maxSteps := 2000000 }) (disch := omega) only [wp_su, wp_0, eX11_serve_0, eX11_serve_1, eX11_serve_2, eX11_serve_5, eX11_serve_8, eX11_serve_9, eX11_serve_10, eX11_serve_11, eX11_serve_12, eX11_serve_15, eX11_serve_18, eX11_serve_19, S_aload_n0, S_aload_n0N, S_callV, S_goto, S_iconst, S_if_eq, S_iload_n1, S_ireturn, ic_m1, jc_0, jc_3, aX11_serve, bX11_serve, rX11_serve, nar_i, nar_n0, nar_n1, List.mem_cons, List.not_mem_nil, or_false, or_self, or_true, true_or, false_or, if_false, if_true, true_and, and_true, Nat.reduceEqDiff, Nat.reduceAdd, Nat.reduceLT, reduceIte, iSet_1, iEnt_e, iEn_n, iEn_i, iEn_r, iEn_u, iEn_l, List.cons_append, List.nil_append, List.length_cons, List.length_nil, Nat.reduceSub, List.replicate_succ, List.replicate_zero, Nat.zero_add, nI_lit0, va_up_app, nI_add, nI_mul, nI_sub, nI_clamp, vp_nI, nI_le_t, nI_le_f, nI_lt_t, nI_lt_f, imp_t, imp_f, Option.toList_some, Option.toList_none, not_true_eq_false, not_false_eq_true, iR_t, nar_zI, zI_f0, zI_t0, va_up_same, upd_ne, upd_self]
  refine dV1 (Y' := mX11_isChild) eX11_serve_2 l_RX11_151 kX11_isChild iX11_isChild nX11_isChild (xb_o hx) rfl rfl (Nat.le_of_ble_eq_true rfl) kc ?_
  cases hc : inF c (nI 0) (A 2 1 - nI 1)
  · simp only [Bool.false_eq_true, if_false]
    refine wp_ok (cuts := []) 30 _ _ _ _ ?_
    simp (config := { maxSteps := 2000000 }) (disch := omega) only [wp_su, wp_0, eX11_serve_0, eX11_serve_1, eX11_serve_2, eX11_serve_5, eX11_serve_8, eX11_serve_9, eX11_serve_10, eX11_serve_11, eX11_serve_12, eX11_serve_15, eX11_serve_18, eX11_serve_19, S_aload_n0, S_aload_n0N, S_callV, S_goto, S_iconst, S_if_eq, S_iload_n1, S_ireturn, ic_m1, jc_0, jc_3, aX11_serve, bX11_serve, rX11_serve, nar_i, nar_n0, nar_n1, List.mem_cons, List.not_mem_nil, or_false, or_self, or_true, true_or, false_or, if_false, if_true, true_and, and_true, Nat.reduceEqDiff, Nat.reduceAdd, Nat.reduceLT, reduceIte, iSet_1, iEnt_e, iEn_n, iEn_i, iEn_r, iEn_u, iEn_l, List.cons_append, List.nil_append, List.length_cons, List.length_nil, Nat.reduceSub, List.replicate_succ, List.replicate_zero, Nat.zero_add, nI_lit0, va_up_app, nI_add, nI_mul, nI_sub, nI_clamp, vp_nI, nI_le_t, nI_le_f, nI_lt_t, nI_lt_f, imp_t, imp_f, Option.toList_some, Option.toList_none, not_true_eq_false, not_false_eq_true, iR_t, nar_zI, zI_f0, zI_t0, va_up_same, upd_ne, upd_self]
    exact ⟨fr_rf, hX⟩
  · rw [e1] at hc
    obtain ⟨k, hk, rfl⟩ := in_nI (by omega) hc
    simp only [if_true, nI_clamp (show k < 2 ^ 31 by omega)]
    have kp := x_perform (d := d) hX (e := 3) (k := k) (f := 0) hm hm8 ⟨by omega, fun z => by omega, fun z => by omega, fun _ => hk, fun z => by omega⟩ (by omega)
    rw [whyF_3, actF_3] at kp
    refine wp_ok (cuts := []) 30 _ _ _ _ ?_
    simp (config := { maxSteps := 2000000 }) (disch := omega) only [wp_su, wp_0, eX11_serve_0, eX11_serve_1, eX11_serve_2, eX11_serve_5, eX11_serve_8, eX11_serve_9, eX11_serve_10, eX11_serve_11, eX11_serve_12, eX11_serve_15, eX11_serve_18, eX11_serve_19, S_aload_n0, S_aload_n0N, S_callV, S_goto, S_iconst, S_if_eq, S_iload_n1, S_ireturn, ic_m1, jc_0, jc_3, aX11_serve, bX11_serve, rX11_serve, nar_i, nar_n0, nar_n1, List.mem_cons, List.not_mem_nil, or_false, or_self, or_true, true_or, false_or, if_false, if_true, true_and, and_true, Nat.reduceEqDiff, Nat.reduceAdd, Nat.reduceLT, reduceIte, iSet_1, iEnt_e, iEn_n, iEn_i, iEn_r, iEn_u, iEn_l, List.cons_append, List.nil_append, List.length_cons, List.length_nil, Nat.reduceSub, List.replicate_succ, List.replicate_zero, Nat.zero_add, nI_lit0, va_up_app, nI_add, nI_mul, nI_sub, nI_clamp, vp_nI, nI_le_t, nI_le_f, nI_lt_t, nI_lt_f, imp_t, imp_f, Option.toList_some, Option.toList_none, not_true_eq_false, not_false_eq_true, iR_t, nar_zI, zI_f0, zI_t0, va_up_same, upd_ne, upd_self, n_1z]
    refine ks_callV (As := [.int (nI 3), .int (nI k), .int (nI 0)]) (mc := 0) (ms := 0) (Y' := mX11_perform) eX11_serve_12 l_RX11_236 kX11_perform iX11_perform nX11_perform (xb_o hx) rfl rfl (Nat.le_of_ble_eq_true rfl) (kp) (Nat.zero_le _) (Nat.zero_le _) ?_
    rintro v g' ⟨rfl, hfr, hh⟩
    refine wp_ok (cuts := []) 30 _ _ _ _ ?_
    simp (config := { maxSteps := 2000000 }) (disch := omega) only [wp_su, wp_0, eX11_serve_0, eX11_serve_1, eX11_serve_2, eX11_serve_5, eX11_serve_8, eX11_serve_9, eX11_serve_10, eX11_serve_11, eX11_serve_12, eX11_serve_15, eX11_serve_18, eX11_serve_19, S_aload_n0, S_aload_n0N, S_callV, S_goto, S_iconst, S_if_eq, S_iload_n1, S_ireturn, ic_m1, jc_0, jc_3, aX11_serve, bX11_serve, rX11_serve, nar_i, nar_n0, nar_n1, List.mem_cons, List.not_mem_nil, or_false, or_self, or_true, true_or, false_or, if_false, if_true, true_and, and_true, Nat.reduceEqDiff, Nat.reduceAdd, Nat.reduceLT, reduceIte, iSet_1, iEnt_e, iEn_n, iEn_i, iEn_r, iEn_u, iEn_l, List.cons_append, List.nil_append, List.length_cons, List.length_nil, Nat.reduceSub, List.replicate_succ, List.replicate_zero, Nat.zero_add, nI_lit0, va_up_app, nI_add, nI_mul, nI_sub, nI_clamp, vp_nI, nI_le_t, nI_le_f, nI_lt_t, nI_lt_f, imp_t, imp_f, Option.toList_some, Option.toList_none, not_true_eq_false, not_false_eq_true, iR_t, nar_zI, zI_f0, zI_t0, va_up_same, upd_ne, upd_self]
    refine ⟨hfr, ?_⟩
    rcases bv_whyServe (s := A 2) (c := k) with z | z | z
    · rw [z, if_pos rfl] at hh
      rw [z, if_pos (Int32.le_refl _)]; exact ⟨rfl, hh⟩
    · rw [z, if_neg n_1z] at hh
      rw [z, if_neg (by decide +kernel)]; first | exact hh | exact ⟨rfl, hh⟩
    · rw [z, if_neg n_20] at hh
      rw [z, if_neg (by decide +kernel)]; first | exact hh | exact ⟨rfl, hh⟩
theorem x_back (hX : XR G b g I W A N F n U) (hm : I 23 = nI m) (hm8 : m ≤ 8) : C G (d + 6) 0 0 mX11_back [.ref b, .int c] g (fun v g' => fr b g g' ∧ (if inF c (nI 0) (A 2 1 - nI 1) = true then (if A 2 (90 + c.toNatClampNeg) < nI 0 then v = some (.int (nI 0)) ∧ XR G b g' (actX I m) W (actA A m (retN (A 2) c.toNatClampNeg 4)) N F n U else v = some (.int (nI 1)) ∧ XR G b g' I W A N F n U) else v = some (.int (-1)) ∧ XR G b g' I W A N F n U)) := by
  have kc := x_isChild (d := d + 5) (c := c) hX
  obtain ⟨e0, hF, e1, hn, e2, hU⟩ := gWF_n hX.1.1
  obtain ⟨X, hx, -⟩ := id hX.2.1
  refine C_in p_RX11 (Nat.le_of_ble_eq_true rfl) rfl ?_
  refine wp_ok (cuts := []) 30 _ _ _ _ ?_
  simp (config := { maxSteps := 2000000 }) (disch := omega) only [wp_su, wp_0, eX11_back_0, eX11_back_1, eX11_back_2, eX11_back_5, eX11_back_8, eX11_back_9, eX11_back_10, eX11_back_11, eX11_back_12, eX11_back_15, eX11_back_18, eX11_back_19, S_aload_n0, S_aload_n0N, S_callV, S_goto, S_iconst, S_if_eq, S_iload_n1, S_ireturn, ic_m1, jc_0, jc_4, aX11_back, bX11_back, rX11_back, nar_i, nar_n0, nar_n1, List.mem_cons, List.not_mem_nil, or_false, or_self, or_true, true_or, false_or, if_false, if_true, true_and, and_true, Nat.reduceEqDiff, Nat.reduceAdd, Nat.reduceLT, reduceIte, iSet_1, iEnt_e, iEn_n, iEn_i, iEn_r, iEn_u, iEn_l, List.cons_append, List.nil_append, List.length_cons, List.length_nil, Nat.reduceSub, List.replicate_succ, List.replicate_zero, Nat.zero_add, nI_lit0, va_up_app, nI_add, nI_mul, nI_sub, nI_clamp, vp_nI, nI_le_t, nI_le_f, nI_lt_t, nI_lt_f, imp_t, imp_f, Option.toList_some, Option.toList_none, not_true_eq_false, not_false_eq_true, iR_t, nar_zI, zI_f0, zI_t0, va_up_same, upd_ne, upd_self]
  refine dV1 (Y' := mX11_isChild) eX11_back_2 l_RX11_151 kX11_isChild iX11_isChild nX11_isChild (xb_o hx) rfl rfl (Nat.le_of_ble_eq_true rfl) kc ?_
  cases hc : inF c (nI 0) (A 2 1 - nI 1)
  · simp only [Bool.false_eq_true, if_false]
    refine wp_ok (cuts := []) 30 _ _ _ _ ?_
    simp (config := { maxSteps := 2000000 }) (disch := omega) only [wp_su, wp_0, eX11_back_0, eX11_back_1, eX11_back_2, eX11_back_5, eX11_back_8, eX11_back_9, eX11_back_10, eX11_back_11, eX11_back_12, eX11_back_15, eX11_back_18, eX11_back_19, S_aload_n0, S_aload_n0N, S_callV, S_goto, S_iconst, S_if_eq, S_iload_n1, S_ireturn, ic_m1, jc_0, jc_4, aX11_back, bX11_back, rX11_back, nar_i, nar_n0, nar_n1, List.mem_cons, List.not_mem_nil, or_false, or_self, or_true, true_or, false_or, if_false, if_true, true_and, and_true, Nat.reduceEqDiff, Nat.reduceAdd, Nat.reduceLT, reduceIte, iSet_1, iEnt_e, iEn_n, iEn_i, iEn_r, iEn_u, iEn_l, List.cons_append, List.nil_append, List.length_cons, List.length_nil, Nat.reduceSub, List.replicate_succ, List.replicate_zero, Nat.zero_add, nI_lit0, va_up_app, nI_add, nI_mul, nI_sub, nI_clamp, vp_nI, nI_le_t, nI_le_f, nI_lt_t, nI_lt_f, imp_t, imp_f, Option.toList_some, Option.toList_none, not_true_eq_false, not_false_eq_true, iR_t, nar_zI, zI_f0, zI_t0, va_up_same, upd_ne, upd_self]
    exact ⟨fr_rf, hX⟩
  · rw [e1] at hc
    obtain ⟨k, hk, rfl⟩ := in_nI (by omega) hc
    simp only [if_true, nI_clamp (show k < 2 ^ 31 by omega)]
    have kp := x_perform (d := d) hX (e := 4) (k := k) (f := 0) hm hm8 ⟨by omega, fun z => by omega, fun z => by omega, fun _ => hk, fun z => by omega⟩ (by omega)
    rw [whyF_4, actF_4] at kp
    refine wp_ok (cuts := []) 30 _ _ _ _ ?_
    simp (config := { maxSteps := 2000000 }) (disch := omega) only [wp_su, wp_0, eX11_back_0, eX11_back_1, eX11_back_2, eX11_back_5, eX11_back_8, eX11_back_9, eX11_back_10, eX11_back_11, eX11_back_12, eX11_back_15, eX11_back_18, eX11_back_19, S_aload_n0, S_aload_n0N, S_callV, S_goto, S_iconst, S_if_eq, S_iload_n1, S_ireturn, ic_m1, jc_0, jc_4, aX11_back, bX11_back, rX11_back, nar_i, nar_n0, nar_n1, List.mem_cons, List.not_mem_nil, or_false, or_self, or_true, true_or, false_or, if_false, if_true, true_and, and_true, Nat.reduceEqDiff, Nat.reduceAdd, Nat.reduceLT, reduceIte, iSet_1, iEnt_e, iEn_n, iEn_i, iEn_r, iEn_u, iEn_l, List.cons_append, List.nil_append, List.length_cons, List.length_nil, Nat.reduceSub, List.replicate_succ, List.replicate_zero, Nat.zero_add, nI_lit0, va_up_app, nI_add, nI_mul, nI_sub, nI_clamp, vp_nI, nI_le_t, nI_le_f, nI_lt_t, nI_lt_f, imp_t, imp_f, Option.toList_some, Option.toList_none, not_true_eq_false, not_false_eq_true, iR_t, nar_zI, zI_f0, zI_t0, va_up_same, upd_ne, upd_self, n_1z]
    refine ks_callV (As := [.int (nI 4), .int (nI k), .int (nI 0)]) (mc := 0) (ms := 0) (Y' := mX11_perform) eX11_back_12 l_RX11_236 kX11_perform iX11_perform nX11_perform (xb_o hx) rfl rfl (Nat.le_of_ble_eq_true rfl) (kp) (Nat.zero_le _) (Nat.zero_le _) ?_
    rintro v g' ⟨rfl, hfr, hh⟩
    refine wp_ok (cuts := []) 30 _ _ _ _ ?_
    simp (config := { maxSteps := 2000000 }) (disch := omega) only [wp_su, wp_0, eX11_back_0, eX11_back_1, eX11_back_2, eX11_back_5, eX11_back_8, eX11_back_9, eX11_back_10, eX11_back_11, eX11_back_12, eX11_back_15, eX11_back_18, eX11_back_19, S_aload_n0, S_aload_n0N, S_callV, S_goto, S_iconst, S_if_eq, S_iload_n1, S_ireturn, ic_m1, jc_0, jc_4, aX11_back, bX11_back, rX11_back, nar_i, nar_n0, nar_n1, List.mem_cons, List.not_mem_nil, or_false, or_self, or_true, true_or, false_or, if_false, if_true, true_and, and_true, Nat.reduceEqDiff, Nat.reduceAdd, Nat.reduceLT, reduceIte, iSet_1, iEnt_e, iEn_n, iEn_i, iEn_r, iEn_u, iEn_l, List.cons_append, List.nil_append, List.length_cons, List.length_nil, Nat.reduceSub, List.replicate_succ, List.replicate_zero, Nat.zero_add, nI_lit0, va_up_app, nI_add, nI_mul, nI_sub, nI_clamp, vp_nI, nI_le_t, nI_le_f, nI_lt_t, nI_lt_f, imp_t, imp_f, Option.toList_some, Option.toList_none, not_true_eq_false, not_false_eq_true, iR_t, nar_zI, zI_f0, zI_t0, va_up_same, upd_ne, upd_self]
    refine ⟨hfr, ?_⟩
    by_cases z : A 2 (90 + k) < nI 0
    · rw [if_pos z, if_pos rfl] at hh
      rw [if_pos z, if_pos z]; exact ⟨rfl, hh⟩
    · rw [if_neg z, if_neg n_1z] at hh
      rw [if_neg z, if_neg z]; exact ⟨rfl, hh⟩
theorem x_hours (hX : XR G b g I W A N F n U) (hm : I 23 = nI m) (hm8 : m ≤ 8) : C G (d + 6) 0 0 mX11_hours [.ref b, .int c] g (fun v g' => fr b g g' ∧ (if inF c (nI 1) (nI 60) = true then (if A 2 85 = nI 400 then v = some (.int (nI 0)) ∧ XR G b g' I W A N F n U else v = some (.int (nI (goF n c.toNatClampNeg (A 2) 0).2)) ∧ XR G b g' (actX I m) W (actA A m (goF n c.toNatClampNeg (A 2) 0).1) N F n U) else v = some (.int (-1)) ∧ XR G b g' I W A N F n U)) := by
  obtain ⟨e0, hF, e1, hn, e2, hU⟩ := gWF_n hX.1.1
  obtain ⟨H, hH, e85⟩ := hX.1.1.1.2.2
  obtain ⟨X, hx, -⟩ := id hX.2.1
  obtain ⟨w9, hs⟩ := id hX.2.2.2.2.2.2.1
  refine C_in p_RX11 (Nat.le_of_ble_eq_true rfl) rfl ?_
  cases hc : inF c (nI 1) (nI 60)
  · simp only [Bool.false_eq_true, if_false]
    rcases i_dec c with z | ⟨j, hj, rfl⟩
    · have z1 : c < nI 1 := Int32.lt_trans z (by decide +kernel)
      refine wp_ok (cuts := []) 30 _ _ _ _ ?_
      simp (config := { maxSteps := 2000000 }) (disch := omega) only [wp_su, wp_0, eX11_hours_0, eX11_hours_1, eX11_hours_2, eX11_hours_5, eX11_hours_6, eX11_hours_8, eX11_hours_11, eX11_hours_12, eX11_hours_13, eX11_hours_14, eX11_hours_17, eX11_hours_18, eX11_hours_21, eX11_hours_24, eX11_hours_25, eX11_hours_28, eX11_hours_29, eX11_hours_30, eX11_hours_33, eX11_hours_34, eX11_hours_35, eX11_hours_36, eX11_hours_37, eX11_hours_38, eX11_hours_39, eX11_hours_42, eX11_hours_43, eX11_hours_44, S_aload_n0, S_aload_n0N, S_bipush, S_callS, S_callV, S_getf, S_icmp_le, S_icmp_lt, S_iconst, S_if_gt, S_iload_n1, S_iload_n2, S_ireturn, S_istore_2, S_isub, S_popi, S_popr, S_sipush, g_RX11_211, g_RX11_40, iCk_i, iCk_l, iCk_n, iCk_o, iCk_r, iS1_2, ic_m1, jb_60, jc_0, jc_1, jc_5, js_400, aX11_hours, bX11_hours, rX11_hours, nar_i, nar_n0, nar_n1, List.mem_cons, List.not_mem_nil, or_false, or_self, or_true, true_or, false_or, if_false, if_true, true_and, and_true, Nat.reduceEqDiff, Nat.reduceAdd, Nat.reduceLT, reduceIte, iSet_1, iEnt_e, iEn_n, iEn_i, iEn_r, iEn_u, iEn_l, List.cons_append, List.nil_append, List.length_cons, List.length_nil, Nat.reduceSub, List.replicate_succ, List.replicate_zero, Nat.zero_add, nI_lit0, va_up_app, nI_add, nI_mul, nI_sub, nI_clamp, vp_nI, nI_le_t, nI_le_f, nI_lt_t, nI_lt_f, imp_t, imp_f, Option.toList_some, Option.toList_none, not_true_eq_false, not_false_eq_true, iR_t, nar_zI, zI_f0, zI_t0, va_up_same, upd_ne, upd_self, z1]
      exact ⟨fr_rf, hX⟩
    · by_cases z0 : j = 0
      · subst z0
        refine wp_ok (cuts := []) 30 _ _ _ _ ?_
        simp (config := { maxSteps := 2000000 }) (disch := omega) only [wp_su, wp_0, eX11_hours_0, eX11_hours_1, eX11_hours_2, eX11_hours_5, eX11_hours_6, eX11_hours_8, eX11_hours_11, eX11_hours_12, eX11_hours_13, eX11_hours_14, eX11_hours_17, eX11_hours_18, eX11_hours_21, eX11_hours_24, eX11_hours_25, eX11_hours_28, eX11_hours_29, eX11_hours_30, eX11_hours_33, eX11_hours_34, eX11_hours_35, eX11_hours_36, eX11_hours_37, eX11_hours_38, eX11_hours_39, eX11_hours_42, eX11_hours_43, eX11_hours_44, S_aload_n0, S_aload_n0N, S_bipush, S_callS, S_callV, S_getf, S_icmp_le, S_icmp_lt, S_iconst, S_if_gt, S_iload_n1, S_iload_n2, S_ireturn, S_istore_2, S_isub, S_popi, S_popr, S_sipush, g_RX11_211, g_RX11_40, iCk_i, iCk_l, iCk_n, iCk_o, iCk_r, iS1_2, ic_m1, jb_60, jc_0, jc_1, jc_5, js_400, aX11_hours, bX11_hours, rX11_hours, nar_i, nar_n0, nar_n1, List.mem_cons, List.not_mem_nil, or_false, or_self, or_true, true_or, false_or, if_false, if_true, true_and, and_true, Nat.reduceEqDiff, Nat.reduceAdd, Nat.reduceLT, reduceIte, iSet_1, iEnt_e, iEn_n, iEn_i, iEn_r, iEn_u, iEn_l, List.cons_append, List.nil_append, List.length_cons, List.length_nil, Nat.reduceSub, List.replicate_succ, List.replicate_zero, Nat.zero_add, nI_lit0, va_up_app, nI_add, nI_mul, nI_sub, nI_clamp, vp_nI, nI_le_t, nI_le_f, nI_lt_t, nI_lt_f, imp_t, imp_f, Option.toList_some, Option.toList_none, not_true_eq_false, not_false_eq_true, iR_t, nar_zI, zI_f0, zI_t0, va_up_same, upd_ne, upd_self]
        exact ⟨fr_rf, hX⟩
      · by_cases z6 : j ≤ 60
        · rw [inT (by omega) z6 (by omega)] at hc; cases hc
        · refine wp_ok (cuts := []) 30 _ _ _ _ ?_
          simp (config := { maxSteps := 2000000 }) (disch := omega) only [wp_su, wp_0, eX11_hours_0, eX11_hours_1, eX11_hours_2, eX11_hours_5, eX11_hours_6, eX11_hours_8, eX11_hours_11, eX11_hours_12, eX11_hours_13, eX11_hours_14, eX11_hours_17, eX11_hours_18, eX11_hours_21, eX11_hours_24, eX11_hours_25, eX11_hours_28, eX11_hours_29, eX11_hours_30, eX11_hours_33, eX11_hours_34, eX11_hours_35, eX11_hours_36, eX11_hours_37, eX11_hours_38, eX11_hours_39, eX11_hours_42, eX11_hours_43, eX11_hours_44, S_aload_n0, S_aload_n0N, S_bipush, S_callS, S_callV, S_getf, S_icmp_le, S_icmp_lt, S_iconst, S_if_gt, S_iload_n1, S_iload_n2, S_ireturn, S_istore_2, S_isub, S_popi, S_popr, S_sipush, g_RX11_211, g_RX11_40, iCk_i, iCk_l, iCk_n, iCk_o, iCk_r, iS1_2, ic_m1, jb_60, jc_0, jc_1, jc_5, js_400, aX11_hours, bX11_hours, rX11_hours, nar_i, nar_n0, nar_n1, List.mem_cons, List.not_mem_nil, or_false, or_self, or_true, true_or, false_or, if_false, if_true, true_and, and_true, Nat.reduceEqDiff, Nat.reduceAdd, Nat.reduceLT, reduceIte, iSet_1, iEnt_e, iEn_n, iEn_i, iEn_r, iEn_u, iEn_l, List.cons_append, List.nil_append, List.length_cons, List.length_nil, Nat.reduceSub, List.replicate_succ, List.replicate_zero, Nat.zero_add, nI_lit0, va_up_app, nI_add, nI_mul, nI_sub, nI_clamp, vp_nI, nI_le_t, nI_le_f, nI_lt_t, nI_lt_f, imp_t, imp_f, Option.toList_some, Option.toList_none, not_true_eq_false, not_false_eq_true, iR_t, nar_zI, zI_f0, zI_t0, va_up_same, upd_ne, upd_self]
          exact ⟨fr_rf, hX⟩
  · obtain ⟨k, hk1, hk, rfl⟩ := in_nIr (by omega) (by omega) hc
    simp only [if_true, nI_clamp (show k < 2 ^ 31 by omega)]
    refine wp_ok (cuts := []) 30 _ _ _ _ ?_
    simp (config := { maxSteps := 2000000 }) (disch := omega) only [wp_su, wp_0, eX11_hours_0, eX11_hours_1, eX11_hours_2, eX11_hours_5, eX11_hours_6, eX11_hours_8, eX11_hours_11, eX11_hours_12, eX11_hours_13, eX11_hours_14, eX11_hours_17, eX11_hours_18, eX11_hours_21, eX11_hours_24, eX11_hours_25, eX11_hours_28, eX11_hours_29, eX11_hours_30, eX11_hours_33, eX11_hours_34, eX11_hours_35, eX11_hours_36, eX11_hours_37, eX11_hours_38, eX11_hours_39, eX11_hours_42, eX11_hours_43, eX11_hours_44, S_aload_n0, S_aload_n0N, S_bipush, S_callS, S_callV, S_getf, S_icmp_le, S_icmp_lt, S_iconst, S_if_gt, S_iload_n1, S_iload_n2, S_ireturn, S_istore_2, S_isub, S_popi, S_popr, S_sipush, g_RX11_211, g_RX11_40, iCk_i, iCk_l, iCk_n, iCk_o, iCk_r, iS1_2, ic_m1, jb_60, jc_0, jc_1, jc_5, js_400, aX11_hours, bX11_hours, rX11_hours, nar_i, nar_n0, nar_n1, List.mem_cons, List.not_mem_nil, or_false, or_self, or_true, true_or, false_or, if_false, if_true, true_and, and_true, Nat.reduceEqDiff, Nat.reduceAdd, Nat.reduceLT, reduceIte, iSet_1, iEnt_e, iEn_n, iEn_i, iEn_r, iEn_u, iEn_l, List.cons_append, List.nil_append, List.length_cons, List.length_nil, Nat.reduceSub, List.replicate_succ, List.replicate_zero, Nat.zero_add, nI_lit0, va_up_app, nI_add, nI_mul, nI_sub, nI_clamp, vp_nI, nI_le_t, nI_le_f, nI_lt_t, nI_lt_f, imp_t, imp_f, Option.toList_some, Option.toList_none, not_true_eq_false, not_false_eq_true, iR_t, nar_zI, zI_f0, zI_t0, va_up_same, upd_ne, upd_self, xb_o hx, xFs_len, xf_6, sb_o hs, stFs_len, stf_10, e85]
    refine ks_mmin eX11_hours_25 l_RX11_240 (Nat.le_of_ble_eq_true rfl) ?_
    rw [show minF (nI (400 - H)) (nI k) = nI (min (400 - H) k) from minF_n (by omega) (by omega)]
    by_cases zH : H = 400
    · subst zH
      simp only [if_true]
      rw [show min (400 - 400) k = 0 by omega]
      refine wp_ok (cuts := []) 30 _ _ _ _ ?_
      simp (config := { maxSteps := 2000000 }) (disch := omega) only [wp_su, wp_0, eX11_hours_0, eX11_hours_1, eX11_hours_2, eX11_hours_5, eX11_hours_6, eX11_hours_8, eX11_hours_11, eX11_hours_12, eX11_hours_13, eX11_hours_14, eX11_hours_17, eX11_hours_18, eX11_hours_21, eX11_hours_24, eX11_hours_25, eX11_hours_28, eX11_hours_29, eX11_hours_30, eX11_hours_33, eX11_hours_34, eX11_hours_35, eX11_hours_36, eX11_hours_37, eX11_hours_38, eX11_hours_39, eX11_hours_42, eX11_hours_43, eX11_hours_44, S_aload_n0, S_aload_n0N, S_bipush, S_callS, S_callV, S_getf, S_icmp_le, S_icmp_lt, S_iconst, S_if_gt, S_iload_n1, S_iload_n2, S_ireturn, S_istore_2, S_isub, S_popi, S_popr, S_sipush, g_RX11_211, g_RX11_40, iCk_i, iCk_l, iCk_n, iCk_o, iCk_r, iS1_2, ic_m1, jb_60, jc_0, jc_1, jc_5, js_400, aX11_hours, bX11_hours, rX11_hours, nar_i, nar_n0, nar_n1, List.mem_cons, List.not_mem_nil, or_false, or_self, or_true, true_or, false_or, if_false, if_true, true_and, and_true, Nat.reduceEqDiff, Nat.reduceAdd, Nat.reduceLT, reduceIte, iSet_1, iEnt_e, iEn_n, iEn_i, iEn_r, iEn_u, iEn_l, List.cons_append, List.nil_append, List.length_cons, List.length_nil, Nat.reduceSub, List.replicate_succ, List.replicate_zero, Nat.zero_add, nI_lit0, va_up_app, nI_add, nI_mul, nI_sub, nI_clamp, vp_nI, nI_le_t, nI_le_f, nI_lt_t, nI_lt_f, imp_t, imp_f, Option.toList_some, Option.toList_none, not_true_eq_false, not_false_eq_true, iR_t, nar_zI, zI_f0, zI_t0, va_up_same, upd_ne, upd_self]
      exact ⟨fr_rf, hX⟩
    · have kp := x_perform (d := d) hX (e := 5) (k := min (400 - H) k) (f := 0) hm hm8 ⟨by omega, fun z => by omega, fun z => by omega, fun z => by omega, fun _ => by omega⟩ (by omega)
      have hw0 : whyF (A 2) n 5 (min (400 - H) k) 0 = nI 0 := by
        rw [whyF_5, e85, nI_sub hH, if_neg (by rw [nI_lt_f (by omega) (by omega)]; exact id)]
      rw [hw0, actF_5] at kp
      have hgo := go_min (n := n) k 0 H (A 2) e85 hH
      rw [hgo, show 0 + min k (400 - H) = min (400 - H) k by omega, show min k (400 - H) = min (400 - H) k by omega]
      have hpos : 0 < min (400 - H) k := by omega
      have hub : min (400 - H) k ≤ 60 := by omega
      generalize min (400 - H) k = q at kp hpos hub ⊢
      simp (disch := omega) only [nI_eq_f, if_false]
      refine wp_ok (cuts := []) 30 _ _ _ _ ?_
      simp (config := { maxSteps := 2000000 }) (disch := omega) only [wp_su, wp_0, eX11_hours_0, eX11_hours_1, eX11_hours_2, eX11_hours_5, eX11_hours_6, eX11_hours_8, eX11_hours_11, eX11_hours_12, eX11_hours_13, eX11_hours_14, eX11_hours_17, eX11_hours_18, eX11_hours_21, eX11_hours_24, eX11_hours_25, eX11_hours_28, eX11_hours_29, eX11_hours_30, eX11_hours_33, eX11_hours_34, eX11_hours_35, eX11_hours_36, eX11_hours_37, eX11_hours_38, eX11_hours_39, eX11_hours_42, eX11_hours_43, eX11_hours_44, S_aload_n0, S_aload_n0N, S_bipush, S_callS, S_callV, S_getf, S_icmp_le, S_icmp_lt, S_iconst, S_if_gt, S_iload_n1, S_iload_n2, S_ireturn, S_istore_2, S_isub, S_popi, S_popr, S_sipush, g_RX11_211, g_RX11_40, iCk_i, iCk_l, iCk_n, iCk_o, iCk_r, iS1_2, ic_m1, jb_60, jc_0, jc_1, jc_5, js_400, aX11_hours, bX11_hours, rX11_hours, nar_i, nar_n0, nar_n1, List.mem_cons, List.not_mem_nil, or_false, or_self, or_true, true_or, false_or, if_false, if_true, true_and, and_true, Nat.reduceEqDiff, Nat.reduceAdd, Nat.reduceLT, reduceIte, iSet_1, iEnt_e, iEn_n, iEn_i, iEn_r, iEn_u, iEn_l, List.cons_append, List.nil_append, List.length_cons, List.length_nil, Nat.reduceSub, List.replicate_succ, List.replicate_zero, Nat.zero_add, nI_lit0, va_up_app, nI_add, nI_mul, nI_sub, nI_clamp, vp_nI, nI_le_t, nI_le_f, nI_lt_t, nI_lt_f, imp_t, imp_f, Option.toList_some, Option.toList_none, not_true_eq_false, not_false_eq_true, iR_t, nar_zI, zI_f0, zI_t0, va_up_same, upd_ne, upd_self]
      refine ks_callV (As := [.int (nI 5), .int (nI q), .int (nI 0)]) (mc := 0) (ms := 0) (Y' := mX11_perform) eX11_hours_39 l_RX11_236 kX11_perform iX11_perform nX11_perform (xb_o hx) rfl rfl (Nat.le_of_ble_eq_true rfl) (kp) (Nat.zero_le _) (Nat.zero_le _) ?_
      rintro v g' ⟨rfl, hfr, hh⟩
      rw [if_pos rfl] at hh
      refine wp_ok (cuts := []) 30 _ _ _ _ ?_
      simp (config := { maxSteps := 2000000 }) (disch := omega) only [wp_su, wp_0, eX11_hours_0, eX11_hours_1, eX11_hours_2, eX11_hours_5, eX11_hours_6, eX11_hours_8, eX11_hours_11, eX11_hours_12, eX11_hours_13, eX11_hours_14, eX11_hours_17, eX11_hours_18, eX11_hours_21, eX11_hours_24, eX11_hours_25, eX11_hours_28, eX11_hours_29, eX11_hours_30, eX11_hours_33, eX11_hours_34, eX11_hours_35, eX11_hours_36, eX11_hours_37, eX11_hours_38, eX11_hours_39, eX11_hours_42, eX11_hours_43, eX11_hours_44, S_aload_n0, S_aload_n0N, S_bipush, S_callS, S_callV, S_getf, S_icmp_le, S_icmp_lt, S_iconst, S_if_gt, S_iload_n1, S_iload_n2, S_ireturn, S_istore_2, S_isub, S_popi, S_popr, S_sipush, g_RX11_211, g_RX11_40, iCk_i, iCk_l, iCk_n, iCk_o, iCk_r, iS1_2, ic_m1, jb_60, jc_0, jc_1, jc_5, js_400, aX11_hours, bX11_hours, rX11_hours, nar_i, nar_n0, nar_n1, List.mem_cons, List.not_mem_nil, or_false, or_self, or_true, true_or, false_or, if_false, if_true, true_and, and_true, Nat.reduceEqDiff, Nat.reduceAdd, Nat.reduceLT, reduceIte, iSet_1, iEnt_e, iEn_n, iEn_i, iEn_r, iEn_u, iEn_l, List.cons_append, List.nil_append, List.length_cons, List.length_nil, Nat.reduceSub, List.replicate_succ, List.replicate_zero, Nat.zero_add, nI_lit0, va_up_app, nI_add, nI_mul, nI_sub, nI_clamp, vp_nI, nI_le_t, nI_le_f, nI_lt_t, nI_lt_f, imp_t, imp_f, Option.toList_some, Option.toList_none, not_true_eq_false, not_false_eq_true, iR_t, nar_zI, zI_f0, zI_t0, va_up_same, upd_ne, upd_self]
      exact ⟨hfr, hh⟩
theorem x_undo (hX : XR G b g I W A N F n U) (hm : I 23 = nI m) (hm8 : m ≤ 8) : C G (d + 3) 0 0 mX11_undo [.ref b] g (fun v g' => fr b g g' ∧ (if m = 0 then v = some (.int (-1)) ∧ XR G b g' I W A N F n U else v = some (.int (nI (m - 1))) ∧ XR G b g' (va_up (va_up I 0 (nI 0)) 23 (nI (m - 1))) W (va_up A 2 (va_cpy (A 7) (A 2) (59 * (m - 1)) 85 59)) N F n U)) := by
  have hX0 := hX
  obtain ⟨zw, zO, zT, zR, zH, zD, zS, zL, zY, zZ, zB, zV, zP, zQ, zG, zK, zC⟩ := hX
  obtain ⟨X, hx, x1, x3, x16, x18⟩ := id zO
  obtain ⟨J, B, M, hT, hS, hN⟩ := id zH
  obtain ⟨w9, hs⟩ := id zS
  obtain ⟨Ih, tp, sz, b1, b2, b3, b4, b5, b6, b7, b8⟩ := id zB
  obtain ⟨e0, hF, e1, hn, e2, hU⟩ := gWF_n zw.1
  have hsz : sz = m := by
    apply Classical.byContradiction
    intro z
    rw [hm] at b6
    have := b6.symm
    rw [nI_eq_f z (by omega) (by omega)] at this; exact this
  subst hsz
  refine C_in p_RX11 (Nat.le_of_ble_eq_true rfl) rfl ?_
  by_cases z0 : sz = 0
  · subst z0
    simp only [if_true]
    have kp := c_pop0 (G := G) (d := d + 2) (h := g) (a := b + 53) (b := b + 29) (R := hRow b) b5
    rw [hi_self b1] at kp
    refine wp_ok (cuts := []) 30 _ _ _ _ ?_
    simp (config := { maxSteps := 2000000 }) (disch := omega) only [wp_su, wp_0, eX11_undo_0, eX11_undo_1, eX11_undo_4, eX11_undo_5, eX11_undo_8, eX11_undo_11, eX11_undo_14, eX11_undo_15, eX11_undo_18, eX11_undo_21, eX11_undo_24, eX11_undo_25, S_aload_n0, S_aload_n0N, S_callV, S_getf, S_goto, S_iconst, S_if_eq, S_ireturn, g_RX11_261, g_RX11_40, g_RX11_60, ic_m1, aX11_undo, bX11_undo, rX11_undo, nar_i, nar_n0, nar_n1, List.mem_cons, List.not_mem_nil, or_false, or_self, or_true, true_or, false_or, if_false, if_true, true_and, and_true, Nat.reduceEqDiff, Nat.reduceAdd, Nat.reduceLT, reduceIte, iSet_1, iEnt_e, iEn_n, iEn_i, iEn_r, iEn_u, iEn_l, List.cons_append, List.nil_append, List.length_cons, List.length_nil, Nat.reduceSub, List.replicate_succ, List.replicate_zero, Nat.zero_add, nI_lit0, va_up_app, nI_add, nI_mul, nI_sub, nI_clamp, vp_nI, nI_le_t, nI_le_f, nI_lt_t, nI_lt_f, imp_t, imp_f, Option.toList_some, Option.toList_none, not_true_eq_false, not_false_eq_true, iR_t, nar_zI, zI_f0, zI_t0, va_up_same, upd_ne, upd_self, xb_o hx, xFs_len, xf_6, xf_10]
    refine dV1 (Y' := mX2_pop) eX11_undo_8 l_RX11_257 kX2_pop iX2_pop nX2_pop (hib_o b1) rfl rfl (Nat.le_of_ble_eq_true rfl) kp ?_
    refine wp_ok (cuts := []) 30 _ _ _ _ ?_
    simp (config := { maxSteps := 2000000 }) (disch := omega) only [wp_su, wp_0, eX11_undo_0, eX11_undo_1, eX11_undo_4, eX11_undo_5, eX11_undo_8, eX11_undo_11, eX11_undo_14, eX11_undo_15, eX11_undo_18, eX11_undo_21, eX11_undo_24, eX11_undo_25, S_aload_n0, S_aload_n0N, S_callV, S_getf, S_goto, S_iconst, S_if_eq, S_ireturn, g_RX11_261, g_RX11_40, g_RX11_60, ic_m1, aX11_undo, bX11_undo, rX11_undo, nar_i, nar_n0, nar_n1, List.mem_cons, List.not_mem_nil, or_false, or_self, or_true, true_or, false_or, if_false, if_true, true_and, and_true, Nat.reduceEqDiff, Nat.reduceAdd, Nat.reduceLT, reduceIte, iSet_1, iEnt_e, iEn_n, iEn_i, iEn_r, iEn_u, iEn_l, List.cons_append, List.nil_append, List.length_cons, List.length_nil, Nat.reduceSub, List.replicate_succ, List.replicate_zero, Nat.zero_add, nI_lit0, va_up_app, nI_add, nI_mul, nI_sub, nI_clamp, vp_nI, nI_le_t, nI_le_f, nI_lt_t, nI_lt_f, imp_t, imp_f, Option.toList_some, Option.toList_none, not_true_eq_false, not_false_eq_true, iR_t, nar_zI, zI_f0, zI_t0, va_up_same, upd_ne, upd_self]
    exact ⟨fr_rf, hX0⟩
  · obtain ⟨m', rfl⟩ : ∃ m', sz = m' + 1 := ⟨sz - 1, by omega⟩
    simp only [Nat.add_sub_cancel, Nat.add_eq_zero_iff, Nat.one_ne_zero, and_false, if_false]
    obtain ⟨⟨wk, hsk⟩, hgk⟩ := b8 m' (by omega)
    rw [show (tp + 8 - (m' + 1) + m') % 8 = (tp + 7) % 8 by omega] at hsk
    have kp := c_pop (d := d) (h := g) (a := b + 53) (b := b + 29) (k := b + 55 + 7 * ((tp + 7) % 8)) (R := hRow b) b4 b2 b5 (by omega) rfl hsk hs (by omega) (by omega) (by omega)
    rw [hi_self b1] at kp
    refine wp_ok (cuts := []) 30 _ _ _ _ ?_
    simp (config := { maxSteps := 2000000 }) (disch := omega) only [wp_su, wp_0, eX11_undo_0, eX11_undo_1, eX11_undo_4, eX11_undo_5, eX11_undo_8, eX11_undo_11, eX11_undo_14, eX11_undo_15, eX11_undo_18, eX11_undo_21, eX11_undo_24, eX11_undo_25, S_aload_n0, S_aload_n0N, S_callV, S_getf, S_goto, S_iconst, S_if_eq, S_ireturn, g_RX11_261, g_RX11_40, g_RX11_60, ic_m1, aX11_undo, bX11_undo, rX11_undo, nar_i, nar_n0, nar_n1, List.mem_cons, List.not_mem_nil, or_false, or_self, or_true, true_or, false_or, if_false, if_true, true_and, and_true, Nat.reduceEqDiff, Nat.reduceAdd, Nat.reduceLT, reduceIte, iSet_1, iEnt_e, iEn_n, iEn_i, iEn_r, iEn_u, iEn_l, List.cons_append, List.nil_append, List.length_cons, List.length_nil, Nat.reduceSub, List.replicate_succ, List.replicate_zero, Nat.zero_add, nI_lit0, va_up_app, nI_add, nI_mul, nI_sub, nI_clamp, vp_nI, nI_le_t, nI_le_f, nI_lt_t, nI_lt_f, imp_t, imp_f, Option.toList_some, Option.toList_none, not_true_eq_false, not_false_eq_true, iR_t, nar_zI, zI_f0, zI_t0, va_up_same, upd_ne, upd_self, xb_o hx, xFs_len, xf_6, xf_10]
    refine dV1 (Y' := mX2_pop) eX11_undo_8 l_RX11_257 kX2_pop iX2_pop nX2_pop (hib_o b1) rfl rfl (Nat.le_of_ble_eq_true rfl) kp ?_
    have hx1 : Blk (hiH G (b + 53) (va_up (va_up Ih 1 (nI ((tp + 7) % 8))) 2 (nI m')) (hRow b) (stH G (b + 29) n (hsR (A 2) (A 7) m') wk g)) b 1 (xE b X) := Blk_ovl (Blk_ovl hx (by omega)) (by omega)
    have hi1 : Blk (hiH G (b + 53) (va_up (va_up Ih 1 (nI ((tp + 7) % 8))) 2 (nI m')) (hRow b) (stH G (b + 29) n (hsR (A 2) (A 7) m') wk g)) (b + 53) 2 (hiE G (b + 53) (va_up (va_up Ih 1 (nI ((tp + 7) % 8))) 2 (nI m')) (hRow b)) := Blk_own
    refine wp_ok (cuts := []) 30 _ _ _ _ ?_
    simp (config := { maxSteps := 2000000 }) (disch := omega) only [wp_su, wp_0, eX11_undo_0, eX11_undo_1, eX11_undo_4, eX11_undo_5, eX11_undo_8, eX11_undo_11, eX11_undo_14, eX11_undo_15, eX11_undo_18, eX11_undo_21, eX11_undo_24, eX11_undo_25, S_aload_n0, S_aload_n0N, S_callV, S_getf, S_goto, S_iconst, S_if_eq, S_ireturn, g_RX11_261, g_RX11_40, g_RX11_60, ic_m1, aX11_undo, bX11_undo, rX11_undo, nar_i, nar_n0, nar_n1, List.mem_cons, List.not_mem_nil, or_false, or_self, or_true, true_or, false_or, if_false, if_true, true_and, and_true, Nat.reduceEqDiff, Nat.reduceAdd, Nat.reduceLT, reduceIte, iSet_1, iEnt_e, iEn_n, iEn_i, iEn_r, iEn_u, iEn_l, List.cons_append, List.nil_append, List.length_cons, List.length_nil, Nat.reduceSub, List.replicate_succ, List.replicate_zero, Nat.zero_add, nI_lit0, va_up_app, nI_add, nI_mul, nI_sub, nI_clamp, vp_nI, nI_le_t, nI_le_f, nI_lt_t, nI_lt_f, imp_t, imp_f, Option.toList_some, Option.toList_none, not_true_eq_false, not_false_eq_true, iR_t, nar_zI, zI_f0, zI_t0, va_up_same, upd_ne, upd_self, n_1z, xb_o hx1, xFs_len, xf_10, hib_o hi1, hiFs_len, hif_2]
    have hout : mOut (A 2) (hsR (A 2) (A 7) m') := fun j hj => by
      simp only [hsR, va_cpy]
      rw [if_neg (by omega)]
    refine ⟨fr_ov (fr_ov fr_rf (by omega) (by omega)) (by omega) (by omega), ?_⟩
    exact ⟨⟨hgk, zw.2⟩, (pO_a (pO_a zO (alk_ov (by omega))) (alk_ov (by omega))), (pT_a (pT_a zT (alk_ov (by omega))) (alk_ov (by omega))), (pR_a (pR_a zR (alk_ov (by omega))) (alk_ov (by omega))), ⟨J, B, M, Blk_ovl (Blk_ovl hT (by omega)) (by omega), TS_of hS hn hF hU (fun j hj => hout j (Or.inl hj)), hN⟩, (pD_a (pD_a zD (alk_ov (by omega))) (alk_ov (by omega))), ⟨wk, Blk_ovl Blk_own (by omega)⟩, (pL_a (pL_a zL (alk_ov (by omega))) (alk_ov (by omega))), (by
      obtain ⟨Iy, Ay, y1, y2⟩ := zY
      exact ⟨Iy, Ay, Blk_ovl (Blk_ovl y1 (by omega)) (by omega), seRel_of y2 (fun j h1 h2 => hout j (by omega))⟩), (pZ_a (pZ_a zZ (alk_ov (by omega))) (alk_ov (by omega))), ⟨_, (tp + 7) % 8, m', Blk_own, by omega, by omega, (va_ne (by omega)).trans va_sf, va_sf, rfl, fun k hk => (by
      obtain ⟨n', s', w', h9⟩ := b7 k hk
      exact ⟨n', s', w', Blk_ovl (Blk_ovl h9 (by omega)) (by omega)⟩), fun j hj => (by
      obtain ⟨⟨w', h9⟩, h10⟩ := b8 j (by omega)
      rw [show hsR (va_up A 2 (va_cpy (A 7) (A 2) (59 * m') 85 59) 2) (va_up A 2 (va_cpy (A 7) (A 2) (59 * m') 85 59) 7) j = hsR (A 2) (A 7) j from hsR_out hout, show ((tp + 7) % 8 + 8 - m' + j) % 8 = (tp + 8 - (m' + 1) + j) % 8 by omega]
      exact ⟨⟨w', Blk_ovl (Blk_ovl h9 (by omega)) (by omega)⟩, h10⟩)⟩, (pV_a (pV_a zV (alk_ov (by omega))) (alk_ov (by omega))), (pP_a (pP_a zP (alk_ov (by omega))) (alk_ov (by omega))), (pQ_a (pQ_a zQ (alk_ov (by omega))) (alk_ov (by omega))), (pG_a (pG_a zG (alk_ov (by omega))) (alk_ov (by omega))), (pK_a (pK_a zK (alk_ov (by omega))) (alk_ov (by omega))), (pC_a (pC_a zC (alk_ov (by omega))) (alk_ov (by omega)))⟩
end XA3
