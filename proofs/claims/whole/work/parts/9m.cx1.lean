/-! The class beside the reference: questions that change nothing -/
theorem inN {c hi : Int32} {a : Nat} (h : c < nI a) : inF c (nI a) hi = false := by
  have : ¬ nI a ≤ c := Int32.not_le.mpr h
  simp [inF, this]
theorem inT {j a n : Nat} (h1 : a ≤ j) (h2 : j ≤ n) (hn : n < 2 ^ 31) : inF (nI j) (nI a) (nI n) = true := by
  have a1 : nI a ≤ nI j := by rw [nI_le_t (by omega) (by omega)]; trivial
  have a2 : nI j ≤ nI n := by rw [nI_le_t (by omega) (by omega)]; trivial
  simp [inF, a1, a2]
theorem inU {j a n : Nat} (h1 : n < j) (hj : j < 2 ^ 31) : inF (nI j) (nI a) (nI n) = false := by
  have a2 : ¬ nI j ≤ nI n := by rw [nI_le_f (by omega) (by omega)]; exact id
  simp [inF, a2]
theorem inT1 {j n : Nat} (h : j < n) (hn : n < 2 ^ 31) : inF (nI j) (nI 0) (nI n - nI 1) = true := by
  obtain ⟨m, rfl⟩ : ∃ m, n = m + 1 := ⟨n - 1, by omega⟩
  rw [show nI (m + 1) - nI 1 = nI m from nI_pred m]
  exact inT (by omega) (by omega) (by omega)
theorem inU1 {j n : Nat} (h : n ≤ j) (hj : j < 2 ^ 31) : inF (nI j) (nI 0) (nI n - nI 1) = false := by
  cases hh : inF (nI j) (nI 0) (nI n - nI 1)
  · rfl
  · obtain ⟨k, h1, h2⟩ := in_nI (by omega) hh
    have : j = k := by
      apply Classical.byContradiction
      intro z
      rw [nI_eq_f z (by omega) (by omega)] at h2; exact h2
    omega
theorem K_h {G : iG} {d kc ks : Nat} {Y : iM} {pc : Nat} {ls : iL} {st : List Value} {g g' : iH} {Q : Option Value → iH → Prop} (e : g' = g) (k : K G d kc ks Y pc ls st g' Q) : K G d kc ks Y pc ls st g Q := e ▸ k
theorem C_h {G : iG} {d mc ms : Nat} {Y : iM} {av : List Value} {g g' : iH} {Q : Option Value → iH → Prop} (e : g' = g) (k : C G d mc ms Y av g' Q) : C G d mc ms Y av g Q := e ▸ k
theorem i_dec (c : Int32) : c < nI 0 ∨ ∃ j, j < 2 ^ 31 ∧ c = nI j := by
  by_cases h : c < 0
  · exact Or.inl h
  · exact Or.inr (nI_of h)
section X1
variable {G : iG} {d b : Nat} {g : iH} {I : Nat → Int32} {W : Int64} {A : Nat → Nat → Int32} {N : Nat → Nat → Int64} {F n U : Nat} {c w : Int32}
theorem gWF_n {s : Nat → Int32} (h : gWF s F n U) : s 0 = nI F ∧ F ≤ 8 ∧ s 1 = nI n ∧ n ≤ 6 ∧ s 2 = nI U ∧ U ≤ 5 := by
  obtain ⟨⟨⟨⟨h0, h1, h2, h3, h4, h5, -⟩, -⟩, -⟩, -⟩ := h
  exact ⟨h0, h1, h2, h3, h4, h5⟩
theorem x_fault (hX : XR G b g I W A N F n U) : C G d 0 0 mX11_fault [.ref b] g (iR (some (.int (I 15))) g) := by
  obtain ⟨zw, zO, zT, zR, zH, zD, zS, zL, zY, zZ, zB, zV, zP, zQ, zG, zK, zC⟩ := hX
  obtain ⟨X, hx, x1, x3, x16, x18⟩ := zO
  refine C_in p_RX11 (Nat.le_of_ble_eq_true rfl) rfl ?_
  refine wp_ok (cuts := []) 20 _ _ _ _ ?_
  simp (config := { maxSteps := 2000000 }) (disch := omega) only [wp_su, wp_0, eX11_fault_0, eX11_fault_1, eX11_fault_4, S_aload_n0, S_aload_n0N, S_getf, S_ireturn, g_RX11_24, aX11_fault, bX11_fault, rX11_fault, nar_i, nar_n0, nar_n1, List.mem_cons, List.not_mem_nil, or_false, or_self, or_true, true_or, false_or, if_false, if_true, true_and, and_true, Nat.reduceEqDiff, Nat.reduceAdd, Nat.reduceLT, reduceIte, iSet_1, iEnt_e, iEn_n, iEn_i, iEn_r, iEn_u, iEn_l, List.cons_append, List.nil_append, List.length_cons, List.length_nil, Nat.reduceSub, List.replicate_succ, List.replicate_zero, Nat.zero_add, nI_lit0, va_up_app, nI_add, nI_mul, nI_sub, nI_clamp, vp_nI, nI_le_t, nI_le_f, nI_lt_t, nI_lt_f, imp_t, imp_f, Option.toList_some, Option.toList_none, not_true_eq_false, not_false_eq_true, iR_t, nar_zI, zI_f0, zI_t0, va_up_same, upd_ne, upd_self, xb_o hx, xFs_len, xf_3, x3]
  try exact iR_i
theorem x_hanging (hX : XR G b g I W A N F n U) : C G d 0 0 mX11_hanging [.ref b] g (iR (some (.int (if I 34 = nI 0 then -1 else I 33))) g) := by
  obtain ⟨zw, zO, zT, zR, zH, zD, zS, zL, zY, zZ, zB, zV, zP, zQ, zG, zK, zC⟩ := hX
  obtain ⟨X, hx, x1, x3, x16, x18⟩ := zO
  refine C_in p_RX11 (Nat.le_of_ble_eq_true rfl) rfl ?_
  refine wp_ok (cuts := []) 20 _ _ _ _ ?_
  simp (config := { maxSteps := 2000000 }) (disch := omega) only [wp_su, wp_0, eX11_hanging_0, eX11_hanging_1, eX11_hanging_4, S_aload_n0, S_aload_n0N, S_getf, S_ireturn, g_RX11_99, aX11_hanging, bX11_hanging, rX11_hanging, nar_i, nar_n0, nar_n1, List.mem_cons, List.not_mem_nil, or_false, or_self, or_true, true_or, false_or, if_false, if_true, true_and, and_true, Nat.reduceEqDiff, Nat.reduceAdd, Nat.reduceLT, reduceIte, iSet_1, iEnt_e, iEn_n, iEn_i, iEn_r, iEn_u, iEn_l, List.cons_append, List.nil_append, List.length_cons, List.length_nil, Nat.reduceSub, List.replicate_succ, List.replicate_zero, Nat.zero_add, nI_lit0, va_up_app, nI_add, nI_mul, nI_sub, nI_clamp, vp_nI, nI_le_t, nI_le_f, nI_lt_t, nI_lt_f, imp_t, imp_f, Option.toList_some, Option.toList_none, not_true_eq_false, not_false_eq_true, iR_t, nar_zI, zI_f0, zI_t0, va_up_same, upd_ne, upd_self, xb_o hx, xFs_len, xf_16, x16]
  try exact iR_i
theorem x_passes (hX : XR G b g I W A N F n U) : C G d 0 0 mX11_passes [.ref b] g (iR (some (.int (I 27))) g) := by
  obtain ⟨zw, zO, zT, zR, zH, zD, zS, zL, zY, zZ, zB, zV, zP, zQ, zG, zK, zC⟩ := hX
  obtain ⟨X, hx, x1, x3, x16, x18⟩ := zO
  obtain ⟨Ip, Ap, hp, p4, q, hq, p3, hpm, hrow⟩ := zP
  refine C_in p_RX11 (Nat.le_of_ble_eq_true rfl) rfl ?_
  refine wp_ok (cuts := []) 20 _ _ _ _ ?_
  simp (config := { maxSteps := 2000000 }) (disch := omega) only [wp_su, wp_0, eX11_passes_0, eX11_passes_1, eX11_passes_4, eX11_passes_7, S_aload_n0, S_aload_n0N, S_getf, S_ireturn, g_RX11_279, g_RX11_74, aX11_passes, bX11_passes, rX11_passes, nar_i, nar_n0, nar_n1, List.mem_cons, List.not_mem_nil, or_false, or_self, or_true, true_or, false_or, if_false, if_true, true_and, and_true, Nat.reduceEqDiff, Nat.reduceAdd, Nat.reduceLT, reduceIte, iSet_1, iEnt_e, iEn_n, iEn_i, iEn_r, iEn_u, iEn_l, List.cons_append, List.nil_append, List.length_cons, List.length_nil, Nat.reduceSub, List.replicate_succ, List.replicate_zero, Nat.zero_add, nI_lit0, va_up_app, nI_add, nI_mul, nI_sub, nI_clamp, vp_nI, nI_le_t, nI_le_f, nI_lt_t, nI_lt_f, imp_t, imp_f, Option.toList_some, Option.toList_none, not_true_eq_false, not_false_eq_true, iR_t, nar_zI, zI_f0, zI_t0, va_up_same, upd_ne, upd_self, xb_o hx, xFs_len, xf_12, pnb_o hp, pnFs_len, pnf_4, p4]
  try exact iR_i
theorem x_ask (hX : XR G b g I W A N F n U) : C G d 0 0 mX11_ask [.ref b] g (iR (some (.int (I 32))) g) := by
  obtain ⟨zw, zO, zT, zR, zH, zD, zS, zL, zY, zZ, zB, zV, zP, zQ, zG, zK, zC⟩ := hX
  obtain ⟨X, hx, x1, x3, x16, x18⟩ := zO
  obtain ⟨Ip, Ap, hp, p4, q, hq, p3, hpm, hrow⟩ := zQ
  refine C_in p_RX11 (Nat.le_of_ble_eq_true rfl) rfl ?_
  refine wp_ok (cuts := []) 20 _ _ _ _ ?_
  simp (config := { maxSteps := 2000000 }) (disch := omega) only [wp_su, wp_0, eX11_ask_0, eX11_ask_1, eX11_ask_4, eX11_ask_7, S_aload_n0, S_aload_n0N, S_getf, S_ireturn, g_RX11_292, g_RX11_81, aX11_ask, bX11_ask, rX11_ask, nar_i, nar_n0, nar_n1, List.mem_cons, List.not_mem_nil, or_false, or_self, or_true, true_or, false_or, if_false, if_true, true_and, and_true, Nat.reduceEqDiff, Nat.reduceAdd, Nat.reduceLT, reduceIte, iSet_1, iEnt_e, iEn_n, iEn_i, iEn_r, iEn_u, iEn_l, List.cons_append, List.nil_append, List.length_cons, List.length_nil, Nat.reduceSub, List.replicate_succ, List.replicate_zero, Nat.zero_add, nI_lit0, va_up_app, nI_add, nI_mul, nI_sub, nI_clamp, vp_nI, nI_le_t, nI_le_f, nI_lt_t, nI_lt_f, imp_t, imp_f, Option.toList_some, Option.toList_none, not_true_eq_false, not_false_eq_true, iR_t, nar_zI, zI_f0, zI_t0, va_up_same, upd_ne, upd_self, xb_o hx, xFs_len, xf_13, trb_o hp, trFs_len, trf_6, p4]
  try exact iR_i
theorem x_isChild (hX : XR G b g I W A N F n U) : C G d 0 0 mX11_isChild [.ref b, .int c] g (iR (some (.int (zI (inF c (nI 0) (A 2 1 - nI 1))))) g) := by
  obtain ⟨zw, zO, zT, zR, zH, zD, zS, zL, zY, zZ, zB, zV, zP, zQ, zG, zK, zC⟩ := hX
  obtain ⟨X, hx, x1, x3, x16, x18⟩ := zO
  obtain ⟨J, B, M, hT, hS, hN⟩ := zH
  have j5 := hS.2.1
  obtain ⟨-, -, e1, hn, -, -⟩ := gWF_n zw.1
  rw [e1]
  refine C_in p_RX11 (Nat.le_of_ble_eq_true rfl) rfl ?_
  rcases i_dec c with hc | ⟨j, hj, rfl⟩
  · rw [inN hc]
    refine wp_ok (cuts := []) 30 _ _ _ _ ?_
    simp (config := { maxSteps := 2000000 }) (disch := omega) only [wp_su, wp_0, eX11_isChild_0, eX11_isChild_1, eX11_isChild_4, eX11_isChild_5, eX11_isChild_6, eX11_isChild_9, eX11_isChild_12, eX11_isChild_15, eX11_isChild_16, eX11_isChild_19, eX11_isChild_20, S_aload_n0, S_aload_n0N, S_getf, S_goto, S_icmp_ge, S_iconst, S_if_lt, S_iload_n1, S_ireturn, g_RX11_142, g_RX11_30, jc_0, jc_1, aX11_isChild, bX11_isChild, rX11_isChild, nar_i, nar_n0, nar_n1, List.mem_cons, List.not_mem_nil, or_false, or_self, or_true, true_or, false_or, if_false, if_true, true_and, and_true, Nat.reduceEqDiff, Nat.reduceAdd, Nat.reduceLT, reduceIte, iSet_1, iEnt_e, iEn_n, iEn_i, iEn_r, iEn_u, iEn_l, List.cons_append, List.nil_append, List.length_cons, List.length_nil, Nat.reduceSub, List.replicate_succ, List.replicate_zero, Nat.zero_add, nI_lit0, va_up_app, nI_add, nI_mul, nI_sub, nI_clamp, vp_nI, nI_le_t, nI_le_f, nI_lt_t, nI_lt_f, imp_t, imp_f, Option.toList_some, Option.toList_none, not_true_eq_false, not_false_eq_true, iR_t, nar_zI, zI_f0, zI_t0, va_up_same, upd_ne, upd_self, hc]
    try exact iR_i
  · by_cases z : j < n
    · rw [inT1 z (by omega)]
      refine wp_ok (cuts := []) 30 _ _ _ _ ?_
      simp (config := { maxSteps := 2000000 }) (disch := omega) only [wp_su, wp_0, eX11_isChild_0, eX11_isChild_1, eX11_isChild_4, eX11_isChild_5, eX11_isChild_6, eX11_isChild_9, eX11_isChild_12, eX11_isChild_15, eX11_isChild_16, eX11_isChild_19, eX11_isChild_20, S_aload_n0, S_aload_n0N, S_getf, S_goto, S_icmp_ge, S_iconst, S_if_lt, S_iload_n1, S_ireturn, g_RX11_142, g_RX11_30, jc_0, jc_1, aX11_isChild, bX11_isChild, rX11_isChild, nar_i, nar_n0, nar_n1, List.mem_cons, List.not_mem_nil, or_false, or_self, or_true, true_or, false_or, if_false, if_true, true_and, and_true, Nat.reduceEqDiff, Nat.reduceAdd, Nat.reduceLT, reduceIte, iSet_1, iEnt_e, iEn_n, iEn_i, iEn_r, iEn_u, iEn_l, List.cons_append, List.nil_append, List.length_cons, List.length_nil, Nat.reduceSub, List.replicate_succ, List.replicate_zero, Nat.zero_add, nI_lit0, va_up_app, nI_add, nI_mul, nI_sub, nI_clamp, vp_nI, nI_le_t, nI_le_f, nI_lt_t, nI_lt_f, imp_t, imp_f, Option.toList_some, Option.toList_none, not_true_eq_false, not_false_eq_true, iR_t, nar_zI, zI_f0, zI_t0, va_up_same, upd_ne, upd_self, xb_o hx, xFs_len, xf_4, txb_o hT, txFs_len, txf_5, j5]
      try exact iR_i
    · rw [inU1 (by omega) hj]
      refine wp_ok (cuts := []) 30 _ _ _ _ ?_
      simp (config := { maxSteps := 2000000 }) (disch := omega) only [wp_su, wp_0, eX11_isChild_0, eX11_isChild_1, eX11_isChild_4, eX11_isChild_5, eX11_isChild_6, eX11_isChild_9, eX11_isChild_12, eX11_isChild_15, eX11_isChild_16, eX11_isChild_19, eX11_isChild_20, S_aload_n0, S_aload_n0N, S_getf, S_goto, S_icmp_ge, S_iconst, S_if_lt, S_iload_n1, S_ireturn, g_RX11_142, g_RX11_30, jc_0, jc_1, aX11_isChild, bX11_isChild, rX11_isChild, nar_i, nar_n0, nar_n1, List.mem_cons, List.not_mem_nil, or_false, or_self, or_true, true_or, false_or, if_false, if_true, true_and, and_true, Nat.reduceEqDiff, Nat.reduceAdd, Nat.reduceLT, reduceIte, iSet_1, iEnt_e, iEn_n, iEn_i, iEn_r, iEn_u, iEn_l, List.cons_append, List.nil_append, List.length_cons, List.length_nil, Nat.reduceSub, List.replicate_succ, List.replicate_zero, Nat.zero_add, nI_lit0, va_up_app, nI_add, nI_mul, nI_sub, nI_clamp, vp_nI, nI_le_t, nI_le_f, nI_lt_t, nI_lt_f, imp_t, imp_f, Option.toList_some, Option.toList_none, not_true_eq_false, not_false_eq_true, iR_t, nar_zI, zI_f0, zI_t0, va_up_same, upd_ne, upd_self, xb_o hx, xFs_len, xf_4, txb_o hT, txFs_len, txf_5, j5]
      try exact iR_i
theorem x_isUncle (hX : XR G b g I W A N F n U) : C G d 0 0 mX11_isUncle [.ref b, .int c] g (iR (some (.int (zI (inF c (nI 0) (A 2 2 - nI 1))))) g) := by
  obtain ⟨zw, zO, zT, zR, zH, zD, zS, zL, zY, zZ, zB, zV, zP, zQ, zG, zK, zC⟩ := hX
  obtain ⟨X, hx, x1, x3, x16, x18⟩ := zO
  obtain ⟨J, B, M, hT, hS, hN⟩ := zH
  have j8 := hS.2.2.1
  obtain ⟨-, -, -, -, e2, hU⟩ := gWF_n zw.1
  rw [e2]
  refine C_in p_RX11 (Nat.le_of_ble_eq_true rfl) rfl ?_
  rcases i_dec c with hc | ⟨j, hj, rfl⟩
  · rw [inN hc]
    refine wp_ok (cuts := []) 30 _ _ _ _ ?_
    simp (config := { maxSteps := 2000000 }) (disch := omega) only [wp_su, wp_0, eX11_isUncle_0, eX11_isUncle_1, eX11_isUncle_4, eX11_isUncle_5, eX11_isUncle_6, eX11_isUncle_9, eX11_isUncle_12, eX11_isUncle_15, eX11_isUncle_16, eX11_isUncle_19, eX11_isUncle_20, S_aload_n0, S_aload_n0N, S_getf, S_goto, S_icmp_ge, S_iconst, S_if_lt, S_iload_n1, S_ireturn, g_RX11_148, g_RX11_30, jc_0, jc_1, aX11_isUncle, bX11_isUncle, rX11_isUncle, nar_i, nar_n0, nar_n1, List.mem_cons, List.not_mem_nil, or_false, or_self, or_true, true_or, false_or, if_false, if_true, true_and, and_true, Nat.reduceEqDiff, Nat.reduceAdd, Nat.reduceLT, reduceIte, iSet_1, iEnt_e, iEn_n, iEn_i, iEn_r, iEn_u, iEn_l, List.cons_append, List.nil_append, List.length_cons, List.length_nil, Nat.reduceSub, List.replicate_succ, List.replicate_zero, Nat.zero_add, nI_lit0, va_up_app, nI_add, nI_mul, nI_sub, nI_clamp, vp_nI, nI_le_t, nI_le_f, nI_lt_t, nI_lt_f, imp_t, imp_f, Option.toList_some, Option.toList_none, not_true_eq_false, not_false_eq_true, iR_t, nar_zI, zI_f0, zI_t0, va_up_same, upd_ne, upd_self, hc]
    try exact iR_i
  · by_cases z : j < U
    · rw [inT1 z (by omega)]
      refine wp_ok (cuts := []) 30 _ _ _ _ ?_
      simp (config := { maxSteps := 2000000 }) (disch := omega) only [wp_su, wp_0, eX11_isUncle_0, eX11_isUncle_1, eX11_isUncle_4, eX11_isUncle_5, eX11_isUncle_6, eX11_isUncle_9, eX11_isUncle_12, eX11_isUncle_15, eX11_isUncle_16, eX11_isUncle_19, eX11_isUncle_20, S_aload_n0, S_aload_n0N, S_getf, S_goto, S_icmp_ge, S_iconst, S_if_lt, S_iload_n1, S_ireturn, g_RX11_148, g_RX11_30, jc_0, jc_1, aX11_isUncle, bX11_isUncle, rX11_isUncle, nar_i, nar_n0, nar_n1, List.mem_cons, List.not_mem_nil, or_false, or_self, or_true, true_or, false_or, if_false, if_true, true_and, and_true, Nat.reduceEqDiff, Nat.reduceAdd, Nat.reduceLT, reduceIte, iSet_1, iEnt_e, iEn_n, iEn_i, iEn_r, iEn_u, iEn_l, List.cons_append, List.nil_append, List.length_cons, List.length_nil, Nat.reduceSub, List.replicate_succ, List.replicate_zero, Nat.zero_add, nI_lit0, va_up_app, nI_add, nI_mul, nI_sub, nI_clamp, vp_nI, nI_le_t, nI_le_f, nI_lt_t, nI_lt_f, imp_t, imp_f, Option.toList_some, Option.toList_none, not_true_eq_false, not_false_eq_true, iR_t, nar_zI, zI_f0, zI_t0, va_up_same, upd_ne, upd_self, xb_o hx, xFs_len, xf_4, txb_o hT, txFs_len, txf_8, j8]
      try exact iR_i
    · rw [inU1 (by omega) hj]
      refine wp_ok (cuts := []) 30 _ _ _ _ ?_
      simp (config := { maxSteps := 2000000 }) (disch := omega) only [wp_su, wp_0, eX11_isUncle_0, eX11_isUncle_1, eX11_isUncle_4, eX11_isUncle_5, eX11_isUncle_6, eX11_isUncle_9, eX11_isUncle_12, eX11_isUncle_15, eX11_isUncle_16, eX11_isUncle_19, eX11_isUncle_20, S_aload_n0, S_aload_n0N, S_getf, S_goto, S_icmp_ge, S_iconst, S_if_lt, S_iload_n1, S_ireturn, g_RX11_148, g_RX11_30, jc_0, jc_1, aX11_isUncle, bX11_isUncle, rX11_isUncle, nar_i, nar_n0, nar_n1, List.mem_cons, List.not_mem_nil, or_false, or_self, or_true, true_or, false_or, if_false, if_true, true_and, and_true, Nat.reduceEqDiff, Nat.reduceAdd, Nat.reduceLT, reduceIte, iSet_1, iEnt_e, iEn_n, iEn_i, iEn_r, iEn_u, iEn_l, List.cons_append, List.nil_append, List.length_cons, List.length_nil, Nat.reduceSub, List.replicate_succ, List.replicate_zero, Nat.zero_add, nI_lit0, va_up_app, nI_add, nI_mul, nI_sub, nI_clamp, vp_nI, nI_le_t, nI_le_f, nI_lt_t, nI_lt_f, imp_t, imp_f, Option.toList_some, Option.toList_none, not_true_eq_false, not_false_eq_true, iR_t, nar_zI, zI_f0, zI_t0, va_up_same, upd_ne, upd_self, xb_o hx, xFs_len, xf_4, txb_o hT, txFs_len, txf_8, j8]
      try exact iR_i
theorem x_isFloor (hX : XR G b g I W A N F n U) : C G d 0 0 mX11_isFloor [.ref b, .int c] g (iR (some (.int (zI (inF c (nI 1) (A 2 0))))) g) := by
  obtain ⟨zw, zO, zT, zR, zH, zD, zS, zL, zY, zZ, zB, zV, zP, zQ, zG, zK, zC⟩ := hX
  obtain ⟨X, hx, x1, x3, x16, x18⟩ := zO
  obtain ⟨J, B, M, hT, hS, hN⟩ := zH
  have j0 := hS.1
  obtain ⟨e0, hF, -, -, -, -⟩ := gWF_n zw.1
  rw [e0]
  refine C_in p_RX11 (Nat.le_of_ble_eq_true rfl) rfl ?_
  rcases i_dec c with hc | ⟨j, hj, rfl⟩
  · have hc1 : c < nI 1 := Int32.lt_trans hc (by decide +kernel)
    rw [inN hc1]
    refine wp_ok (cuts := []) 30 _ _ _ _ ?_
    simp (config := { maxSteps := 2000000 }) (disch := omega) only [wp_su, wp_0, eX11_isFloor_0, eX11_isFloor_1, eX11_isFloor_2, eX11_isFloor_5, eX11_isFloor_6, eX11_isFloor_7, eX11_isFloor_10, eX11_isFloor_13, eX11_isFloor_16, eX11_isFloor_17, eX11_isFloor_20, eX11_isFloor_21, S_aload_n0, S_aload_n0N, S_getf, S_goto, S_icmp_gt, S_icmp_lt, S_iconst, S_iload_n1, S_ireturn, g_RX11_145, g_RX11_30, jc_0, jc_1, aX11_isFloor, bX11_isFloor, rX11_isFloor, nar_i, nar_n0, nar_n1, List.mem_cons, List.not_mem_nil, or_false, or_self, or_true, true_or, false_or, if_false, if_true, true_and, and_true, Nat.reduceEqDiff, Nat.reduceAdd, Nat.reduceLT, reduceIte, iSet_1, iEnt_e, iEn_n, iEn_i, iEn_r, iEn_u, iEn_l, List.cons_append, List.nil_append, List.length_cons, List.length_nil, Nat.reduceSub, List.replicate_succ, List.replicate_zero, Nat.zero_add, nI_lit0, va_up_app, nI_add, nI_mul, nI_sub, nI_clamp, vp_nI, nI_le_t, nI_le_f, nI_lt_t, nI_lt_f, imp_t, imp_f, Option.toList_some, Option.toList_none, not_true_eq_false, not_false_eq_true, iR_t, nar_zI, zI_f0, zI_t0, va_up_same, upd_ne, upd_self, hc1]
    try exact iR_i
  · by_cases z0 : j = 0
    · subst z0
      have hc1 : nI 0 < nI 1 := by decide +kernel
      rw [inN hc1]
      refine wp_ok (cuts := []) 30 _ _ _ _ ?_
      simp (config := { maxSteps := 2000000 }) (disch := omega) only [wp_su, wp_0, eX11_isFloor_0, eX11_isFloor_1, eX11_isFloor_2, eX11_isFloor_5, eX11_isFloor_6, eX11_isFloor_7, eX11_isFloor_10, eX11_isFloor_13, eX11_isFloor_16, eX11_isFloor_17, eX11_isFloor_20, eX11_isFloor_21, S_aload_n0, S_aload_n0N, S_getf, S_goto, S_icmp_gt, S_icmp_lt, S_iconst, S_iload_n1, S_ireturn, g_RX11_145, g_RX11_30, jc_0, jc_1, aX11_isFloor, bX11_isFloor, rX11_isFloor, nar_i, nar_n0, nar_n1, List.mem_cons, List.not_mem_nil, or_false, or_self, or_true, true_or, false_or, if_false, if_true, true_and, and_true, Nat.reduceEqDiff, Nat.reduceAdd, Nat.reduceLT, reduceIte, iSet_1, iEnt_e, iEn_n, iEn_i, iEn_r, iEn_u, iEn_l, List.cons_append, List.nil_append, List.length_cons, List.length_nil, Nat.reduceSub, List.replicate_succ, List.replicate_zero, Nat.zero_add, nI_lit0, va_up_app, nI_add, nI_mul, nI_sub, nI_clamp, vp_nI, nI_le_t, nI_le_f, nI_lt_t, nI_lt_f, imp_t, imp_f, Option.toList_some, Option.toList_none, not_true_eq_false, not_false_eq_true, iR_t, nar_zI, zI_f0, zI_t0, va_up_same, upd_ne, upd_self, hc1]
      try exact iR_i
    · by_cases z : j ≤ F
      · rw [inT (by omega) z (by omega)]
        refine wp_ok (cuts := []) 30 _ _ _ _ ?_
        simp (config := { maxSteps := 2000000 }) (disch := omega) only [wp_su, wp_0, eX11_isFloor_0, eX11_isFloor_1, eX11_isFloor_2, eX11_isFloor_5, eX11_isFloor_6, eX11_isFloor_7, eX11_isFloor_10, eX11_isFloor_13, eX11_isFloor_16, eX11_isFloor_17, eX11_isFloor_20, eX11_isFloor_21, S_aload_n0, S_aload_n0N, S_getf, S_goto, S_icmp_gt, S_icmp_lt, S_iconst, S_iload_n1, S_ireturn, g_RX11_145, g_RX11_30, jc_0, jc_1, aX11_isFloor, bX11_isFloor, rX11_isFloor, nar_i, nar_n0, nar_n1, List.mem_cons, List.not_mem_nil, or_false, or_self, or_true, true_or, false_or, if_false, if_true, true_and, and_true, Nat.reduceEqDiff, Nat.reduceAdd, Nat.reduceLT, reduceIte, iSet_1, iEnt_e, iEn_n, iEn_i, iEn_r, iEn_u, iEn_l, List.cons_append, List.nil_append, List.length_cons, List.length_nil, Nat.reduceSub, List.replicate_succ, List.replicate_zero, Nat.zero_add, nI_lit0, va_up_app, nI_add, nI_mul, nI_sub, nI_clamp, vp_nI, nI_le_t, nI_le_f, nI_lt_t, nI_lt_f, imp_t, imp_f, Option.toList_some, Option.toList_none, not_true_eq_false, not_false_eq_true, iR_t, nar_zI, zI_f0, zI_t0, va_up_same, upd_ne, upd_self, xb_o hx, xFs_len, xf_4, txb_o hT, txFs_len, txf_0, j0]
        try exact iR_i
      · rw [inU (by omega) hj]
        refine wp_ok (cuts := []) 30 _ _ _ _ ?_
        simp (config := { maxSteps := 2000000 }) (disch := omega) only [wp_su, wp_0, eX11_isFloor_0, eX11_isFloor_1, eX11_isFloor_2, eX11_isFloor_5, eX11_isFloor_6, eX11_isFloor_7, eX11_isFloor_10, eX11_isFloor_13, eX11_isFloor_16, eX11_isFloor_17, eX11_isFloor_20, eX11_isFloor_21, S_aload_n0, S_aload_n0N, S_getf, S_goto, S_icmp_gt, S_icmp_lt, S_iconst, S_iload_n1, S_ireturn, g_RX11_145, g_RX11_30, jc_0, jc_1, aX11_isFloor, bX11_isFloor, rX11_isFloor, nar_i, nar_n0, nar_n1, List.mem_cons, List.not_mem_nil, or_false, or_self, or_true, true_or, false_or, if_false, if_true, true_and, and_true, Nat.reduceEqDiff, Nat.reduceAdd, Nat.reduceLT, reduceIte, iSet_1, iEnt_e, iEn_n, iEn_i, iEn_r, iEn_u, iEn_l, List.cons_append, List.nil_append, List.length_cons, List.length_nil, Nat.reduceSub, List.replicate_succ, List.replicate_zero, Nat.zero_add, nI_lit0, va_up_app, nI_add, nI_mul, nI_sub, nI_clamp, vp_nI, nI_le_t, nI_le_f, nI_lt_t, nI_lt_f, imp_t, imp_f, Option.toList_some, Option.toList_none, not_true_eq_false, not_false_eq_true, iR_t, nar_zI, zI_f0, zI_t0, va_up_same, upd_ne, upd_self, xb_o hx, xFs_len, xf_4, txb_o hT, txFs_len, txf_0, j0]
        try exact iR_i
theorem x_law (hX : XR G b g I W A N F n U) : C G d 0 0 mX11_law [.ref b, .int c] g (iR (some (.int (if inF c (nI 0) (nI 3) = true then A 2 (33 + c.toNatClampNeg) else -1))) g) := by
  obtain ⟨zw, zO, zT, zR, zH, zD, zS, zL, zY, zZ, zB, zV, zP, zQ, zG, zK, zC⟩ := hX
  obtain ⟨X, hx, x1, x3, x16, x18⟩ := zO
  obtain ⟨J, B, M, hT, hS, hN⟩ := zH
  have hl := hS.2.2.2.2.2.2.2.2.2.2.1
  refine C_in p_RX11 (Nat.le_of_ble_eq_true rfl) rfl ?_
  rcases i_dec c with hc | ⟨j, hj, rfl⟩
  · rw [inN hc, if_neg Bool.false_ne_true]
    refine wp_ok (cuts := []) 30 _ _ _ _ ?_
    simp (config := { maxSteps := 2000000 }) (disch := omega) only [wp_su, wp_0, eX11_law_0, eX11_law_1, eX11_law_4, eX11_law_5, eX11_law_6, eX11_law_9, eX11_law_10, eX11_law_13, eX11_law_16, eX11_law_17, eX11_law_18, eX11_law_21, eX11_law_22, S_aload_n0, S_aload_n0N, S_getf, S_goto, S_iald, S_icmp_ge, S_iconst, S_if_lt, S_iload_n1, S_ireturn, g_RX11_208, g_RX11_30, ic_m1, jc_4, aX11_law, bX11_law, rX11_law, nar_i, nar_n0, nar_n1, List.mem_cons, List.not_mem_nil, or_false, or_self, or_true, true_or, false_or, if_false, if_true, true_and, and_true, Nat.reduceEqDiff, Nat.reduceAdd, Nat.reduceLT, reduceIte, iSet_1, iEnt_e, iEn_n, iEn_i, iEn_r, iEn_u, iEn_l, List.cons_append, List.nil_append, List.length_cons, List.length_nil, Nat.reduceSub, List.replicate_succ, List.replicate_zero, Nat.zero_add, nI_lit0, va_up_app, nI_add, nI_mul, nI_sub, nI_clamp, vp_nI, nI_le_t, nI_le_f, nI_lt_t, nI_lt_f, imp_t, imp_f, Option.toList_some, Option.toList_none, not_true_eq_false, not_false_eq_true, iR_t, nar_zI, zI_f0, zI_t0, va_up_same, upd_ne, upd_self, hc]
    try exact iR_i
  · by_cases z : j < 4
    · rw [inT (by omega) (by omega) (by omega), if_pos rfl, nI_clamp (by omega), ← hl j z]
      refine wp_ok (cuts := []) 30 _ _ _ _ ?_
      simp (config := { maxSteps := 2000000 }) (disch := omega) only [wp_su, wp_0, eX11_law_0, eX11_law_1, eX11_law_4, eX11_law_5, eX11_law_6, eX11_law_9, eX11_law_10, eX11_law_13, eX11_law_16, eX11_law_17, eX11_law_18, eX11_law_21, eX11_law_22, S_aload_n0, S_aload_n0N, S_getf, S_goto, S_iald, S_icmp_ge, S_iconst, S_if_lt, S_iload_n1, S_ireturn, g_RX11_208, g_RX11_30, ic_m1, jc_4, aX11_law, bX11_law, rX11_law, nar_i, nar_n0, nar_n1, List.mem_cons, List.not_mem_nil, or_false, or_self, or_true, true_or, false_or, if_false, if_true, true_and, and_true, Nat.reduceEqDiff, Nat.reduceAdd, Nat.reduceLT, reduceIte, iSet_1, iEnt_e, iEn_n, iEn_i, iEn_r, iEn_u, iEn_l, List.cons_append, List.nil_append, List.length_cons, List.length_nil, Nat.reduceSub, List.replicate_succ, List.replicate_zero, Nat.zero_add, nI_lit0, va_up_app, nI_add, nI_mul, nI_sub, nI_clamp, vp_nI, nI_le_t, nI_le_f, nI_lt_t, nI_lt_f, imp_t, imp_f, Option.toList_some, Option.toList_none, not_true_eq_false, not_false_eq_true, iR_t, nar_zI, zI_f0, zI_t0, va_up_same, upd_ne, upd_self, xb_o hx, xFs_len, xf_4, txb_o hT, txFs_len, txf_11, txb_9 hT]
      try exact iR_i
    · rw [inU (by omega) hj, if_neg Bool.false_ne_true]
      refine wp_ok (cuts := []) 30 _ _ _ _ ?_
      simp (config := { maxSteps := 2000000 }) (disch := omega) only [wp_su, wp_0, eX11_law_0, eX11_law_1, eX11_law_4, eX11_law_5, eX11_law_6, eX11_law_9, eX11_law_10, eX11_law_13, eX11_law_16, eX11_law_17, eX11_law_18, eX11_law_21, eX11_law_22, S_aload_n0, S_aload_n0N, S_getf, S_goto, S_iald, S_icmp_ge, S_iconst, S_if_lt, S_iload_n1, S_ireturn, g_RX11_208, g_RX11_30, ic_m1, jc_4, aX11_law, bX11_law, rX11_law, nar_i, nar_n0, nar_n1, List.mem_cons, List.not_mem_nil, or_false, or_self, or_true, true_or, false_or, if_false, if_true, true_and, and_true, Nat.reduceEqDiff, Nat.reduceAdd, Nat.reduceLT, reduceIte, iSet_1, iEnt_e, iEn_n, iEn_i, iEn_r, iEn_u, iEn_l, List.cons_append, List.nil_append, List.length_cons, List.length_nil, Nat.reduceSub, List.replicate_succ, List.replicate_zero, Nat.zero_add, nI_lit0, va_up_app, nI_add, nI_mul, nI_sub, nI_clamp, vp_nI, nI_le_t, nI_le_f, nI_lt_t, nI_lt_f, imp_t, imp_f, Option.toList_some, Option.toList_none, not_true_eq_false, not_false_eq_true, iR_t, nar_zI, zI_f0, zI_t0, va_up_same, upd_ne, upd_self, xb_o hx, xFs_len, xf_4]
      try exact iR_i
theorem x_planAt (hX : XR G b g I W A N F n U) : C G d 0 0 mX11_planAt [.ref b, .int c] g (iR (some (.int (if inF c (nI 0) (I 26 - nI 1) = true then A 10 c.toNatClampNeg else -1))) g) := by
  obtain ⟨zw, zO, zT, zR, zH, zD, zS, zL, zY, zZ, zB, zV, zP, zQ, zG, zK, zC⟩ := hX
  obtain ⟨X, hx, x1, x3, x16, x18⟩ := zO
  obtain ⟨Ip, Ap, hp, p4, q, hq, p3, hpm, hrow⟩ := zP
  have hm1 : ∀ c, inF c (nI 0) (-1 - nI 1) = false := fun c => by
    cases hh : inF c (nI 0) (-1 - nI 1)
    · rfl
    · simp only [inF, Bool.and_eq_true, decide_eq_true_eq] at hh
      exact absurd (Int32.le_trans hh.1 hh.2) (by decide +kernel)
  have hin : inF c (nI 0) (I 26 - nI 1) = inF c (nI 0) (nI q - nI 1) := by
    rcases hpm with e | ⟨e, rfl⟩
    · rw [e]
    · rw [e, hm1]
      cases hh : inF c (nI 0) (nI 0 - nI 1)
      · rfl
      · obtain ⟨k, h1, h2⟩ := in_nI (by omega) hh; omega
  rw [hin]
  refine C_in p_RX11 (Nat.le_of_ble_eq_true rfl) rfl ?_
  rcases i_dec c with hc | ⟨j, hj, rfl⟩
  · rw [inN hc, if_neg Bool.false_ne_true]
    refine wp_ok (cuts := []) 30 _ _ _ _ ?_
    simp (config := { maxSteps := 2000000 }) (disch := omega) only [wp_su, wp_0, eX11_planAt_0, eX11_planAt_1, eX11_planAt_4, eX11_planAt_5, eX11_planAt_6, eX11_planAt_9, eX11_planAt_12, eX11_planAt_15, eX11_planAt_16, eX11_planAt_19, eX11_planAt_22, eX11_planAt_23, eX11_planAt_24, eX11_planAt_27, eX11_planAt_28, S_aload_n0, S_aload_n0N, S_getf, S_goto, S_iald, S_icmp_ge, S_iconst, S_if_lt, S_iload_n1, S_ireturn, g_RX11_273, g_RX11_276, g_RX11_74, ic_m1, aX11_planAt, bX11_planAt, rX11_planAt, nar_i, nar_n0, nar_n1, List.mem_cons, List.not_mem_nil, or_false, or_self, or_true, true_or, false_or, if_false, if_true, true_and, and_true, Nat.reduceEqDiff, Nat.reduceAdd, Nat.reduceLT, reduceIte, iSet_1, iEnt_e, iEn_n, iEn_i, iEn_r, iEn_u, iEn_l, List.cons_append, List.nil_append, List.length_cons, List.length_nil, Nat.reduceSub, List.replicate_succ, List.replicate_zero, Nat.zero_add, nI_lit0, va_up_app, nI_add, nI_mul, nI_sub, nI_clamp, vp_nI, nI_le_t, nI_le_f, nI_lt_t, nI_lt_f, imp_t, imp_f, Option.toList_some, Option.toList_none, not_true_eq_false, not_false_eq_true, iR_t, nar_zI, zI_f0, zI_t0, va_up_same, upd_ne, upd_self, hc]
    try exact iR_i
  · by_cases z : j < q
    · rw [inT1 z (by omega), if_pos rfl, nI_clamp (by omega), ← hrow j z]
      refine wp_ok (cuts := []) 40 _ _ _ _ ?_
      simp (config := { maxSteps := 2000000 }) (disch := omega) only [wp_su, wp_0, eX11_planAt_0, eX11_planAt_1, eX11_planAt_4, eX11_planAt_5, eX11_planAt_6, eX11_planAt_9, eX11_planAt_12, eX11_planAt_15, eX11_planAt_16, eX11_planAt_19, eX11_planAt_22, eX11_planAt_23, eX11_planAt_24, eX11_planAt_27, eX11_planAt_28, S_aload_n0, S_aload_n0N, S_getf, S_goto, S_iald, S_icmp_ge, S_iconst, S_if_lt, S_iload_n1, S_ireturn, g_RX11_273, g_RX11_276, g_RX11_74, ic_m1, aX11_planAt, bX11_planAt, rX11_planAt, nar_i, nar_n0, nar_n1, List.mem_cons, List.not_mem_nil, or_false, or_self, or_true, true_or, false_or, if_false, if_true, true_and, and_true, Nat.reduceEqDiff, Nat.reduceAdd, Nat.reduceLT, reduceIte, iSet_1, iEnt_e, iEn_n, iEn_i, iEn_r, iEn_u, iEn_l, List.cons_append, List.nil_append, List.length_cons, List.length_nil, Nat.reduceSub, List.replicate_succ, List.replicate_zero, Nat.zero_add, nI_lit0, va_up_app, nI_add, nI_mul, nI_sub, nI_clamp, vp_nI, nI_le_t, nI_le_f, nI_lt_t, nI_lt_f, imp_t, imp_f, Option.toList_some, Option.toList_none, not_true_eq_false, not_false_eq_true, iR_t, nar_zI, zI_f0, zI_t0, va_up_same, upd_ne, upd_self, xb_o hx, xFs_len, xf_12, pnb_o hp, pnFs_len, pnf_2, pnb_3 hp, pnf_3, p3]
      try exact iR_i
    · rw [inU1 (by omega) hj, if_neg Bool.false_ne_true]
      refine wp_ok (cuts := []) 40 _ _ _ _ ?_
      simp (config := { maxSteps := 2000000 }) (disch := omega) only [wp_su, wp_0, eX11_planAt_0, eX11_planAt_1, eX11_planAt_4, eX11_planAt_5, eX11_planAt_6, eX11_planAt_9, eX11_planAt_12, eX11_planAt_15, eX11_planAt_16, eX11_planAt_19, eX11_planAt_22, eX11_planAt_23, eX11_planAt_24, eX11_planAt_27, eX11_planAt_28, S_aload_n0, S_aload_n0N, S_getf, S_goto, S_iald, S_icmp_ge, S_iconst, S_if_lt, S_iload_n1, S_ireturn, g_RX11_273, g_RX11_276, g_RX11_74, ic_m1, aX11_planAt, bX11_planAt, rX11_planAt, nar_i, nar_n0, nar_n1, List.mem_cons, List.not_mem_nil, or_false, or_self, or_true, true_or, false_or, if_false, if_true, true_and, and_true, Nat.reduceEqDiff, Nat.reduceAdd, Nat.reduceLT, reduceIte, iSet_1, iEnt_e, iEn_n, iEn_i, iEn_r, iEn_u, iEn_l, List.cons_append, List.nil_append, List.length_cons, List.length_nil, Nat.reduceSub, List.replicate_succ, List.replicate_zero, Nat.zero_add, nI_lit0, va_up_app, nI_add, nI_mul, nI_sub, nI_clamp, vp_nI, nI_le_t, nI_le_f, nI_lt_t, nI_lt_f, imp_t, imp_f, Option.toList_some, Option.toList_none, not_true_eq_false, not_false_eq_true, iR_t, nar_zI, zI_f0, zI_t0, va_up_same, upd_ne, upd_self, xb_o hx, xFs_len, xf_12, pnb_o hp, pnFs_len, pnf_2, pnb_3 hp, pnf_3, p3]
      try exact iR_i
theorem x_beenAt (hX : XR G b g I W A N F n U) : C G d 0 0 mX11_beenAt [.ref b, .int c] g (iR (some (.int (if inF c (nI 0) (I 31 - nI 1) = true then A 11 c.toNatClampNeg else -1))) g) := by
  obtain ⟨zw, zO, zT, zR, zH, zD, zS, zL, zY, zZ, zB, zV, zP, zQ, zG, zK, zC⟩ := hX
  obtain ⟨X, hx, x1, x3, x16, x18⟩ := zO
  obtain ⟨Ip, Ap, hp, p4, q, hq, p3, hpm, hrow⟩ := zQ
  have hm1 : ∀ c, inF c (nI 0) (-1 - nI 1) = false := fun c => by
    cases hh : inF c (nI 0) (-1 - nI 1)
    · rfl
    · simp only [inF, Bool.and_eq_true, decide_eq_true_eq] at hh
      exact absurd (Int32.le_trans hh.1 hh.2) (by decide +kernel)
  have hin : inF c (nI 0) (I 31 - nI 1) = inF c (nI 0) (nI q - nI 1) := by
    rcases hpm with e | ⟨e, rfl⟩
    · rw [e]
    · rw [e, hm1]
      cases hh : inF c (nI 0) (nI 0 - nI 1)
      · rfl
      · obtain ⟨k, h1, h2⟩ := in_nI (by omega) hh; omega
  rw [hin]
  refine C_in p_RX11 (Nat.le_of_ble_eq_true rfl) rfl ?_
  rcases i_dec c with hc | ⟨j, hj, rfl⟩
  · rw [inN hc, if_neg Bool.false_ne_true]
    refine wp_ok (cuts := []) 30 _ _ _ _ ?_
    simp (config := { maxSteps := 2000000 }) (disch := omega) only [wp_su, wp_0, eX11_beenAt_0, eX11_beenAt_1, eX11_beenAt_4, eX11_beenAt_5, eX11_beenAt_6, eX11_beenAt_9, eX11_beenAt_12, eX11_beenAt_15, eX11_beenAt_16, eX11_beenAt_19, eX11_beenAt_22, eX11_beenAt_23, eX11_beenAt_24, eX11_beenAt_27, eX11_beenAt_28, S_aload_n0, S_aload_n0N, S_getf, S_goto, S_iald, S_icmp_ge, S_iconst, S_if_lt, S_iload_n1, S_ireturn, g_RX11_286, g_RX11_289, g_RX11_81, ic_m1, aX11_beenAt, bX11_beenAt, rX11_beenAt, nar_i, nar_n0, nar_n1, List.mem_cons, List.not_mem_nil, or_false, or_self, or_true, true_or, false_or, if_false, if_true, true_and, and_true, Nat.reduceEqDiff, Nat.reduceAdd, Nat.reduceLT, reduceIte, iSet_1, iEnt_e, iEn_n, iEn_i, iEn_r, iEn_u, iEn_l, List.cons_append, List.nil_append, List.length_cons, List.length_nil, Nat.reduceSub, List.replicate_succ, List.replicate_zero, Nat.zero_add, nI_lit0, va_up_app, nI_add, nI_mul, nI_sub, nI_clamp, vp_nI, nI_le_t, nI_le_f, nI_lt_t, nI_lt_f, imp_t, imp_f, Option.toList_some, Option.toList_none, not_true_eq_false, not_false_eq_true, iR_t, nar_zI, zI_f0, zI_t0, va_up_same, upd_ne, upd_self, hc]
    try exact iR_i
  · by_cases z : j < q
    · rw [inT1 z (by omega), if_pos rfl, nI_clamp (by omega), ← hrow j z]
      refine wp_ok (cuts := []) 40 _ _ _ _ ?_
      simp (config := { maxSteps := 2000000 }) (disch := omega) only [wp_su, wp_0, eX11_beenAt_0, eX11_beenAt_1, eX11_beenAt_4, eX11_beenAt_5, eX11_beenAt_6, eX11_beenAt_9, eX11_beenAt_12, eX11_beenAt_15, eX11_beenAt_16, eX11_beenAt_19, eX11_beenAt_22, eX11_beenAt_23, eX11_beenAt_24, eX11_beenAt_27, eX11_beenAt_28, S_aload_n0, S_aload_n0N, S_getf, S_goto, S_iald, S_icmp_ge, S_iconst, S_if_lt, S_iload_n1, S_ireturn, g_RX11_286, g_RX11_289, g_RX11_81, ic_m1, aX11_beenAt, bX11_beenAt, rX11_beenAt, nar_i, nar_n0, nar_n1, List.mem_cons, List.not_mem_nil, or_false, or_self, or_true, true_or, false_or, if_false, if_true, true_and, and_true, Nat.reduceEqDiff, Nat.reduceAdd, Nat.reduceLT, reduceIte, iSet_1, iEnt_e, iEn_n, iEn_i, iEn_r, iEn_u, iEn_l, List.cons_append, List.nil_append, List.length_cons, List.length_nil, Nat.reduceSub, List.replicate_succ, List.replicate_zero, Nat.zero_add, nI_lit0, va_up_app, nI_add, nI_mul, nI_sub, nI_clamp, vp_nI, nI_le_t, nI_le_f, nI_lt_t, nI_lt_f, imp_t, imp_f, Option.toList_some, Option.toList_none, not_true_eq_false, not_false_eq_true, iR_t, nar_zI, zI_f0, zI_t0, va_up_same, upd_ne, upd_self, xb_o hx, xFs_len, xf_13, trb_o hp, trFs_len, trf_4, trb_4 hp, trf_5, p3]
      try exact iR_i
    · rw [inU1 (by omega) hj, if_neg Bool.false_ne_true]
      refine wp_ok (cuts := []) 40 _ _ _ _ ?_
      simp (config := { maxSteps := 2000000 }) (disch := omega) only [wp_su, wp_0, eX11_beenAt_0, eX11_beenAt_1, eX11_beenAt_4, eX11_beenAt_5, eX11_beenAt_6, eX11_beenAt_9, eX11_beenAt_12, eX11_beenAt_15, eX11_beenAt_16, eX11_beenAt_19, eX11_beenAt_22, eX11_beenAt_23, eX11_beenAt_24, eX11_beenAt_27, eX11_beenAt_28, S_aload_n0, S_aload_n0N, S_getf, S_goto, S_iald, S_icmp_ge, S_iconst, S_if_lt, S_iload_n1, S_ireturn, g_RX11_286, g_RX11_289, g_RX11_81, ic_m1, aX11_beenAt, bX11_beenAt, rX11_beenAt, nar_i, nar_n0, nar_n1, List.mem_cons, List.not_mem_nil, or_false, or_self, or_true, true_or, false_or, if_false, if_true, true_and, and_true, Nat.reduceEqDiff, Nat.reduceAdd, Nat.reduceLT, reduceIte, iSet_1, iEnt_e, iEn_n, iEn_i, iEn_r, iEn_u, iEn_l, List.cons_append, List.nil_append, List.length_cons, List.length_nil, Nat.reduceSub, List.replicate_succ, List.replicate_zero, Nat.zero_add, nI_lit0, va_up_app, nI_add, nI_mul, nI_sub, nI_clamp, vp_nI, nI_le_t, nI_le_f, nI_lt_t, nI_lt_f, imp_t, imp_f, Option.toList_some, Option.toList_none, not_true_eq_false, not_false_eq_true, iR_t, nar_zI, zI_f0, zI_t0, va_up_same, upd_ne, upd_self, xb_o hx, xFs_len, xf_13, trb_o hp, trFs_len, trf_4, trb_4 hp, trf_5, p3]
      try exact iR_i
theorem x_bargained (hX : XR G b g I W A N F n U) : C G d 0 0 mX11_bargained [.ref b, .int c] g (iR (some (.int (if inF c (nI 0) (I 37 - nI 1) = true then A 14 c.toNatClampNeg else -1))) g) := by
  obtain ⟨zw, zO, zT, zR, zH, zD, zS, zL, zY, zZ, zB, zV, zP, zQ, zG, zK, zC⟩ := hX
  obtain ⟨X, hx, x1, x3, x16, x18⟩ := zO
  obtain ⟨Ip, Ap, hp, q, hq, hpm, hrow, hrow2⟩ := zG
  have hm1 : ∀ c, inF c (nI 0) (-1 - nI 1) = false := fun c => by
    cases hh : inF c (nI 0) (-1 - nI 1)
    · rfl
    · simp only [inF, Bool.and_eq_true, decide_eq_true_eq] at hh
      exact absurd (Int32.le_trans hh.1 hh.2) (by decide +kernel)
  have hin : inF c (nI 0) (I 37 - nI 1) = inF c (nI 0) (nI q - nI 1) := by
    rcases hpm with e | ⟨e, rfl⟩
    · rw [e]
    · rw [e, hm1]
      cases hh : inF c (nI 0) (nI 0 - nI 1)
      · rfl
      · obtain ⟨k, h1, h2⟩ := in_nI (by omega) hh; omega
  rw [hin]
  refine C_in p_RX11 (Nat.le_of_ble_eq_true rfl) rfl ?_
  rcases i_dec c with hc | ⟨j, hj, rfl⟩
  · rw [inN hc, if_neg Bool.false_ne_true]
    refine wp_ok (cuts := []) 30 _ _ _ _ ?_
    simp (config := { maxSteps := 2000000 }) (disch := omega) only [wp_su, wp_0, eX11_bargained_0, eX11_bargained_1, eX11_bargained_4, eX11_bargained_5, eX11_bargained_7, eX11_bargained_10, eX11_bargained_11, eX11_bargained_14, eX11_bargained_17, eX11_bargained_18, eX11_bargained_19, eX11_bargained_22, eX11_bargained_23, S_aload_n0, S_aload_n0N, S_bipush, S_getf, S_goto, S_iald, S_icmp_ge, S_iconst, S_if_lt, S_iload_n1, S_ireturn, g_RX11_317, g_RX11_88, ic_m1, jb_6, aX11_bargained, bX11_bargained, rX11_bargained, nar_i, nar_n0, nar_n1, List.mem_cons, List.not_mem_nil, or_false, or_self, or_true, true_or, false_or, if_false, if_true, true_and, and_true, Nat.reduceEqDiff, Nat.reduceAdd, Nat.reduceLT, reduceIte, iSet_1, iEnt_e, iEn_n, iEn_i, iEn_r, iEn_u, iEn_l, List.cons_append, List.nil_append, List.length_cons, List.length_nil, Nat.reduceSub, List.replicate_succ, List.replicate_zero, Nat.zero_add, nI_lit0, va_up_app, nI_add, nI_mul, nI_sub, nI_clamp, vp_nI, nI_le_t, nI_le_f, nI_lt_t, nI_lt_f, imp_t, imp_f, Option.toList_some, Option.toList_none, not_true_eq_false, not_false_eq_true, iR_t, nar_zI, zI_f0, zI_t0, va_up_same, upd_ne, upd_self, hc]
    try exact iR_i
  · by_cases z : j < q
    · rw [inT1 z (by omega), if_pos rfl, nI_clamp (by omega), ← hrow j z]
      refine wp_ok (cuts := []) 40 _ _ _ _ ?_
      simp (config := { maxSteps := 2000000 }) (disch := omega) only [wp_su, wp_0, eX11_bargained_0, eX11_bargained_1, eX11_bargained_4, eX11_bargained_5, eX11_bargained_7, eX11_bargained_10, eX11_bargained_11, eX11_bargained_14, eX11_bargained_17, eX11_bargained_18, eX11_bargained_19, eX11_bargained_22, eX11_bargained_23, S_aload_n0, S_aload_n0N, S_bipush, S_getf, S_goto, S_iald, S_icmp_ge, S_iconst, S_if_lt, S_iload_n1, S_ireturn, g_RX11_317, g_RX11_88, ic_m1, jb_6, aX11_bargained, bX11_bargained, rX11_bargained, nar_i, nar_n0, nar_n1, List.mem_cons, List.not_mem_nil, or_false, or_self, or_true, true_or, false_or, if_false, if_true, true_and, and_true, Nat.reduceEqDiff, Nat.reduceAdd, Nat.reduceLT, reduceIte, iSet_1, iEnt_e, iEn_n, iEn_i, iEn_r, iEn_u, iEn_l, List.cons_append, List.nil_append, List.length_cons, List.length_nil, Nat.reduceSub, List.replicate_succ, List.replicate_zero, Nat.zero_add, nI_lit0, va_up_app, nI_add, nI_mul, nI_sub, nI_clamp, vp_nI, nI_le_t, nI_le_f, nI_lt_t, nI_lt_f, imp_t, imp_f, Option.toList_some, Option.toList_none, not_true_eq_false, not_false_eq_true, iR_t, nar_zI, zI_f0, zI_t0, va_up_same, upd_ne, upd_self, xb_o hx, xFs_len, xf_14, bgb_o hp, bgFs_len, bgf_2, bgb_3 hp]
      try exact iR_i
    · rw [inU1 (by omega) hj, if_neg Bool.false_ne_true]
      by_cases z6 : j < 6
      · rw [← hrow2 j (by omega) z6]
        refine wp_ok (cuts := []) 40 _ _ _ _ ?_
        simp (config := { maxSteps := 2000000 }) (disch := omega) only [wp_su, wp_0, eX11_bargained_0, eX11_bargained_1, eX11_bargained_4, eX11_bargained_5, eX11_bargained_7, eX11_bargained_10, eX11_bargained_11, eX11_bargained_14, eX11_bargained_17, eX11_bargained_18, eX11_bargained_19, eX11_bargained_22, eX11_bargained_23, S_aload_n0, S_aload_n0N, S_bipush, S_getf, S_goto, S_iald, S_icmp_ge, S_iconst, S_if_lt, S_iload_n1, S_ireturn, g_RX11_317, g_RX11_88, ic_m1, jb_6, aX11_bargained, bX11_bargained, rX11_bargained, nar_i, nar_n0, nar_n1, List.mem_cons, List.not_mem_nil, or_false, or_self, or_true, true_or, false_or, if_false, if_true, true_and, and_true, Nat.reduceEqDiff, Nat.reduceAdd, Nat.reduceLT, reduceIte, iSet_1, iEnt_e, iEn_n, iEn_i, iEn_r, iEn_u, iEn_l, List.cons_append, List.nil_append, List.length_cons, List.length_nil, Nat.reduceSub, List.replicate_succ, List.replicate_zero, Nat.zero_add, nI_lit0, va_up_app, nI_add, nI_mul, nI_sub, nI_clamp, vp_nI, nI_le_t, nI_le_f, nI_lt_t, nI_lt_f, imp_t, imp_f, Option.toList_some, Option.toList_none, not_true_eq_false, not_false_eq_true, iR_t, nar_zI, zI_f0, zI_t0, va_up_same, upd_ne, upd_self, xb_o hx, xFs_len, xf_14, bgb_o hp, bgFs_len, bgf_2, bgb_3 hp]
        try exact iR_i
      · refine wp_ok (cuts := []) 40 _ _ _ _ ?_
        simp (config := { maxSteps := 2000000 }) (disch := omega) only [wp_su, wp_0, eX11_bargained_0, eX11_bargained_1, eX11_bargained_4, eX11_bargained_5, eX11_bargained_7, eX11_bargained_10, eX11_bargained_11, eX11_bargained_14, eX11_bargained_17, eX11_bargained_18, eX11_bargained_19, eX11_bargained_22, eX11_bargained_23, S_aload_n0, S_aload_n0N, S_bipush, S_getf, S_goto, S_iald, S_icmp_ge, S_iconst, S_if_lt, S_iload_n1, S_ireturn, g_RX11_317, g_RX11_88, ic_m1, jb_6, aX11_bargained, bX11_bargained, rX11_bargained, nar_i, nar_n0, nar_n1, List.mem_cons, List.not_mem_nil, or_false, or_self, or_true, true_or, false_or, if_false, if_true, true_and, and_true, Nat.reduceEqDiff, Nat.reduceAdd, Nat.reduceLT, reduceIte, iSet_1, iEnt_e, iEn_n, iEn_i, iEn_r, iEn_u, iEn_l, List.cons_append, List.nil_append, List.length_cons, List.length_nil, Nat.reduceSub, List.replicate_succ, List.replicate_zero, Nat.zero_add, nI_lit0, va_up_app, nI_add, nI_mul, nI_sub, nI_clamp, vp_nI, nI_le_t, nI_le_f, nI_lt_t, nI_lt_f, imp_t, imp_f, Option.toList_some, Option.toList_none, not_true_eq_false, not_false_eq_true, iR_t, nar_zI, zI_f0, zI_t0, va_up_same, upd_ne, upd_self, xb_o hx, xFs_len, xf_14, bgb_o hp, bgFs_len, bgf_2, bgb_3 hp]
        try exact iR_i
theorem x_byteAt (hX : XR G b g I W A N F n U) {l : Nat} (hl : I 39 = nI l) (hl2 : l ≤ 64) : C G d 0 0 mX11_byteAt [.ref b, .int c] g (iR (some (.int (if inF c (nI 0) (nI l - nI 1) = true then A 16 c.toNatClampNeg else -1))) g) := by
  obtain ⟨zw, zO, zT, zR, zH, zD, zS, zL, zY, zZ, zB, zV, zP, zQ, zG, zK, zC⟩ := hX
  obtain ⟨X, hx, x1, x3, x16, x18⟩ := zO
  obtain ⟨ch, hc9, l9, hl9, e9, hrow⟩ := zC
  have : l9 = l := by
    apply Classical.byContradiction
    intro z
    rw [hl] at e9
    have := e9.symm
    rw [nI_eq_f z (by omega) (by omega)] at this; exact this
  subst this
  rw [hl] at x18
  refine C_in p_RX11 (Nat.le_of_ble_eq_true rfl) rfl ?_
  rcases i_dec c with hc | ⟨j, hj, rfl⟩
  · rw [inN hc, if_neg Bool.false_ne_true]
    refine wp_ok (cuts := []) 30 _ _ _ _ ?_
    simp (config := { maxSteps := 2000000 }) (disch := omega) only [wp_su, wp_0, eX11_byteAt_0, eX11_byteAt_1, eX11_byteAt_4, eX11_byteAt_5, eX11_byteAt_6, eX11_byteAt_9, eX11_byteAt_12, eX11_byteAt_13, eX11_byteAt_16, eX11_byteAt_17, eX11_byteAt_18, eX11_byteAt_21, eX11_byteAt_22, S_aload_n0, S_aload_n0N, S_getf, S_goto, S_iald, S_icmp_ge, S_iconst, S_if_lt, S_iload_n1, S_ireturn, g_RX11_102, g_RX11_105, ic_m1, aX11_byteAt, bX11_byteAt, rX11_byteAt, nar_i, nar_n0, nar_n1, List.mem_cons, List.not_mem_nil, or_false, or_self, or_true, true_or, false_or, if_false, if_true, true_and, and_true, Nat.reduceEqDiff, Nat.reduceAdd, Nat.reduceLT, reduceIte, iSet_1, iEnt_e, iEn_n, iEn_i, iEn_r, iEn_u, iEn_l, List.cons_append, List.nil_append, List.length_cons, List.length_nil, Nat.reduceSub, List.replicate_succ, List.replicate_zero, Nat.zero_add, nI_lit0, va_up_app, nI_add, nI_mul, nI_sub, nI_clamp, vp_nI, nI_le_t, nI_le_f, nI_lt_t, nI_lt_f, imp_t, imp_f, Option.toList_some, Option.toList_none, not_true_eq_false, not_false_eq_true, iR_t, nar_zI, zI_f0, zI_t0, va_up_same, upd_ne, upd_self, hc]
    try exact iR_i
  · by_cases z : j < l9
    · rw [inT1 z (by omega), if_pos rfl, nI_clamp (by omega), ← hrow j z]
      refine wp_ok (cuts := []) 40 _ _ _ _ ?_
      simp (config := { maxSteps := 2000000 }) (disch := omega) only [wp_su, wp_0, eX11_byteAt_0, eX11_byteAt_1, eX11_byteAt_4, eX11_byteAt_5, eX11_byteAt_6, eX11_byteAt_9, eX11_byteAt_12, eX11_byteAt_13, eX11_byteAt_16, eX11_byteAt_17, eX11_byteAt_18, eX11_byteAt_21, eX11_byteAt_22, S_aload_n0, S_aload_n0N, S_getf, S_goto, S_iald, S_icmp_ge, S_iconst, S_if_lt, S_iload_n1, S_ireturn, g_RX11_102, g_RX11_105, ic_m1, aX11_byteAt, bX11_byteAt, rX11_byteAt, nar_i, nar_n0, nar_n1, List.mem_cons, List.not_mem_nil, or_false, or_self, or_true, true_or, false_or, if_false, if_true, true_and, and_true, Nat.reduceEqDiff, Nat.reduceAdd, Nat.reduceLT, reduceIte, iSet_1, iEnt_e, iEn_n, iEn_i, iEn_r, iEn_u, iEn_l, List.cons_append, List.nil_append, List.length_cons, List.length_nil, Nat.reduceSub, List.replicate_succ, List.replicate_zero, Nat.zero_add, nI_lit0, va_up_app, nI_add, nI_mul, nI_sub, nI_clamp, vp_nI, nI_le_t, nI_le_f, nI_lt_t, nI_lt_f, imp_t, imp_f, Option.toList_some, Option.toList_none, not_true_eq_false, not_false_eq_true, iR_t, nar_zI, zI_f0, zI_t0, va_up_same, upd_ne, upd_self, xb_o hx, xFs_len, xf_17, xf_18, x18, arb_o hc9]
      try exact iR_i
    · rw [inU1 (by omega) hj, if_neg Bool.false_ne_true]
      refine wp_ok (cuts := []) 40 _ _ _ _ ?_
      simp (config := { maxSteps := 2000000 }) (disch := omega) only [wp_su, wp_0, eX11_byteAt_0, eX11_byteAt_1, eX11_byteAt_4, eX11_byteAt_5, eX11_byteAt_6, eX11_byteAt_9, eX11_byteAt_12, eX11_byteAt_13, eX11_byteAt_16, eX11_byteAt_17, eX11_byteAt_18, eX11_byteAt_21, eX11_byteAt_22, S_aload_n0, S_aload_n0N, S_getf, S_goto, S_iald, S_icmp_ge, S_iconst, S_if_lt, S_iload_n1, S_ireturn, g_RX11_102, g_RX11_105, ic_m1, aX11_byteAt, bX11_byteAt, rX11_byteAt, nar_i, nar_n0, nar_n1, List.mem_cons, List.not_mem_nil, or_false, or_self, or_true, true_or, false_or, if_false, if_true, true_and, and_true, Nat.reduceEqDiff, Nat.reduceAdd, Nat.reduceLT, reduceIte, iSet_1, iEnt_e, iEn_n, iEn_i, iEn_r, iEn_u, iEn_l, List.cons_append, List.nil_append, List.length_cons, List.length_nil, Nat.reduceSub, List.replicate_succ, List.replicate_zero, Nat.zero_add, nI_lit0, va_up_app, nI_add, nI_mul, nI_sub, nI_clamp, vp_nI, nI_le_t, nI_le_f, nI_lt_t, nI_lt_f, imp_t, imp_f, Option.toList_some, Option.toList_none, not_true_eq_false, not_false_eq_true, iR_t, nar_zI, zI_f0, zI_t0, va_up_same, upd_ne, upd_self, xb_o hx, xFs_len, xf_17, xf_18, x18]
      try exact iR_i
theorem x_end (hX : XR G b g I W A N F n U) : C G d 0 0 mX11_end [.ref b, .int c] g (fun v g' => v = some (.int (zI (inF c (nI 0) (I 2)))) ∧ fr b g g' ∧ XR G b g' (if inF c (nI 0) (I 2) = true then va_up (va_up I 0 (nI 0)) 2 c else va_up I 0 (nI 0)) W A N F n U) := by
  obtain ⟨zw, zO, zT, zR, zH, zD, zS, zL, zY, zZ, zB, zV, zP, zQ, zG, zK, zC⟩ := hX
  have zO' := zO
  obtain ⟨X, hx, x1, x3, x16, x18⟩ := zO
  obtain ⟨tx, ht, sz, hsz, e2, hrow⟩ := zT
  have zT' : pT G b g (I 2) (A 1) := ⟨tx, ht, sz, hsz, e2, hrow⟩
  have hno : XR G b g (va_up I 0 (nI 0)) W A N F n U := ⟨zw, zO', zT', zR, zH, zD, zS, zL, zY, zZ, zB, zV, zP, zQ, zG, zK, zC⟩
  rw [e2] at x1
  rw [e2]
  refine C_in p_RX11 (Nat.le_of_ble_eq_true rfl) rfl ?_
  rcases i_dec c with hc | ⟨j, hj, rfl⟩
  · rw [inN hc, if_neg Bool.false_ne_true]
    refine wp_ok (cuts := []) 30 _ _ _ _ ?_
    simp (config := { maxSteps := 2000000 }) (disch := omega) only [wp_su, wp_0, eX11_end_0, eX11_end_1, eX11_end_4, eX11_end_5, eX11_end_6, eX11_end_9, eX11_end_12, eX11_end_13, eX11_end_14, eX11_end_15, eX11_end_16, eX11_end_19, eX11_end_20, S_aload_n0, S_aload_n0N, S_getf, S_icmp_le, S_iconst, S_if_lt, S_iload_n1, S_ireturn, S_puti, S_putl, g_RX11_13, jc_0, jc_1, aX11_end, bX11_end, rX11_end, nar_i, nar_n0, nar_n1, List.mem_cons, List.not_mem_nil, or_false, or_self, or_true, true_or, false_or, if_false, if_true, true_and, and_true, Nat.reduceEqDiff, Nat.reduceAdd, Nat.reduceLT, reduceIte, iSet_1, iEnt_e, iEn_n, iEn_i, iEn_r, iEn_u, iEn_l, List.cons_append, List.nil_append, List.length_cons, List.length_nil, Nat.reduceSub, List.replicate_succ, List.replicate_zero, Nat.zero_add, nI_lit0, va_up_app, nI_add, nI_mul, nI_sub, nI_clamp, vp_nI, nI_le_t, nI_le_f, nI_lt_t, nI_lt_f, imp_t, imp_f, Option.toList_some, Option.toList_none, not_true_eq_false, not_false_eq_true, iR_t, nar_zI, zI_f0, zI_t0, va_up_same, upd_ne, upd_self, hc]
    exact ⟨rfl, fr_rf, hno⟩
  · by_cases z : j ≤ sz
    · rw [inT (by omega) z (by omega), if_pos rfl]
      refine K_h (x_self hx) ?_
      refine wp_ok (cuts := []) 40 _ _ _ _ ?_
      simp (config := { maxSteps := 2000000 }) (disch := omega) only [wp_su, wp_0, eX11_end_0, eX11_end_1, eX11_end_4, eX11_end_5, eX11_end_6, eX11_end_9, eX11_end_12, eX11_end_13, eX11_end_14, eX11_end_15, eX11_end_16, eX11_end_19, eX11_end_20, S_aload_n0, S_aload_n0N, S_getf, S_icmp_le, S_iconst, S_if_lt, S_iload_n1, S_ireturn, S_puti, S_putl, g_RX11_13, jc_0, jc_1, aX11_end, bX11_end, rX11_end, nar_i, nar_n0, nar_n1, List.mem_cons, List.not_mem_nil, or_false, or_self, or_true, true_or, false_or, if_false, if_true, true_and, and_true, Nat.reduceEqDiff, Nat.reduceAdd, Nat.reduceLT, reduceIte, iSet_1, iEnt_e, iEn_n, iEn_i, iEn_r, iEn_u, iEn_l, List.cons_append, List.nil_append, List.length_cons, List.length_nil, Nat.reduceSub, List.replicate_succ, List.replicate_zero, Nat.zero_add, nI_lit0, va_up_app, nI_add, nI_mul, nI_sub, nI_clamp, vp_nI, nI_le_t, nI_le_f, nI_lt_t, nI_lt_f, imp_t, imp_f, Option.toList_some, Option.toList_none, not_true_eq_false, not_false_eq_true, iR_t, nar_zI, zI_f0, zI_t0, va_up_same, upd_ne, upd_self, x_o, xFs_len, xf_1, xk_1, xp_1, x1]
      exact ⟨rfl, fr_ov fr_rf (by omega) (by omega), ⟨zw, ⟨_, Blk_own, va_sf, x3, x16, x18⟩, ⟨tx, Blk_alk ht (alk_ov (by omega)), j, by omega, va_sf, fun i hi => hrow i (by omega)⟩, (pR_a zR (alk_ov (by omega))), (pH_a zH (alk_ov (by omega))), (pD_a zD (alk_ov (by omega))), (pSt_a zS (alk_ov (by omega))), (pL_a zL (alk_ov (by omega))), (pY_a zY (alk_ov (by omega))), (pZ_a zZ (alk_ov (by omega))), (pB_a zB (alk_ov (by omega))), (pV_a zV (alk_ov (by omega))), (pP_a zP (alk_ov (by omega))), (pQ_a zQ (alk_ov (by omega))), (pG_a zG (alk_ov (by omega))), (pK_a zK (alk_ov (by omega))), (pC_a zC (alk_ov (by omega)))⟩⟩
    · rw [inU (by omega) hj, if_neg Bool.false_ne_true]
      refine wp_ok (cuts := []) 40 _ _ _ _ ?_
      simp (config := { maxSteps := 2000000 }) (disch := omega) only [wp_su, wp_0, eX11_end_0, eX11_end_1, eX11_end_4, eX11_end_5, eX11_end_6, eX11_end_9, eX11_end_12, eX11_end_13, eX11_end_14, eX11_end_15, eX11_end_16, eX11_end_19, eX11_end_20, S_aload_n0, S_aload_n0N, S_getf, S_icmp_le, S_iconst, S_if_lt, S_iload_n1, S_ireturn, S_puti, S_putl, g_RX11_13, jc_0, jc_1, aX11_end, bX11_end, rX11_end, nar_i, nar_n0, nar_n1, List.mem_cons, List.not_mem_nil, or_false, or_self, or_true, true_or, false_or, if_false, if_true, true_and, and_true, Nat.reduceEqDiff, Nat.reduceAdd, Nat.reduceLT, reduceIte, iSet_1, iEnt_e, iEn_n, iEn_i, iEn_r, iEn_u, iEn_l, List.cons_append, List.nil_append, List.length_cons, List.length_nil, Nat.reduceSub, List.replicate_succ, List.replicate_zero, Nat.zero_add, nI_lit0, va_up_app, nI_add, nI_mul, nI_sub, nI_clamp, vp_nI, nI_le_t, nI_le_f, nI_lt_t, nI_lt_f, imp_t, imp_f, Option.toList_some, Option.toList_none, not_true_eq_false, not_false_eq_true, iR_t, nar_zI, zI_f0, zI_t0, va_up_same, upd_ne, upd_self, xb_o hx, xFs_len, xf_1, x1]
      exact ⟨rfl, fr_rf, hno⟩
end X1
