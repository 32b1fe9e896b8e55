/-! The class beside the reference: acts, and acts undone -/
theorem kM_min {m : Nat} (h : m ≤ 8) : keepM m = min 8 (m + 1) := by unfold keepM; split <;> omega
theorem hsR_k1 {s u : Nat → Int32} {m j : Nat} (hm : m < 8) (hj : j < m) : hsR s (keepU u s m) j = hsR s u j := by
  funext q
  unfold hsR keepU
  rw [if_neg (by omega : ¬ m = 8)]
  simp only [va_cpy]
  by_cases z : 85 ≤ q ∧ q < 85 + 59
  · rw [if_pos z, if_pos z, if_neg (by omega)]
  · rw [if_neg z, if_neg z]
theorem hsR_k2 {s u : Nat → Int32} {m : Nat} (hm : m < 8) : hsR s (keepU u s m) m = s := by
  funext q
  unfold hsR keepU
  rw [if_neg (by omega : ¬ m = 8)]
  simp only [va_cpy]
  by_cases z : 85 ≤ q ∧ q < 85 + 59
  · rw [if_pos z, if_pos (by omega), show 85 + (59 * m + (q - 85) - 59 * m) = q by omega]
  · rw [if_neg z]
theorem hsR_k3 {s u : Nat → Int32} {j : Nat} (hj : j < 7) : hsR s (keepU u s 8) j = hsR s u (j + 1) := by
  funext q
  unfold hsR keepU
  rw [if_pos rfl]
  simp only [va_cpy]
  by_cases z : 85 ≤ q ∧ q < 85 + 59
  · rw [if_pos z, if_pos z, if_neg (by omega), if_pos (by omega), show 59 + (59 * j + (q - 85) - 0) = 59 * (j + 1) + (q - 85) by omega]
  · rw [if_neg z, if_neg z]
theorem hsR_k4 {s u : Nat → Int32} : hsR s (keepU u s 8) 7 = s := by
  funext q
  unfold hsR keepU
  rw [if_pos rfl]
  simp only [va_cpy]
  by_cases z : 85 ≤ q ∧ q < 85 + 59
  · rw [if_pos z, if_pos (by omega), show 85 + (59 * 7 + (q - 85) - 413) = q by omega]
  · rw [if_neg z]
section XA2
variable {G : iG} {d b : Nat} {g : iH} {I : Nat → Int32} {W : Int64} {A : Nat → Nat → Int32} {N : Nat → Nat → Int64} {F n U : Nat} {c w : Int32}
theorem pB_s {um : Int32} {s t u : Nat → Int32} (h : pB G b g um s u F n U) (ho : mOut s t) : pB G b g um t u F n U := by
  obtain ⟨I, tp, sz, h1, h2, h3, h4, h5, h6, h7, h8⟩ := h
  refine ⟨I, tp, sz, h1, h2, h3, h4, h5, h6, h7, fun j hj => ?_⟩
  rw [hsR_out ho]
  exact h8 j hj
theorem pB_push {s u Ih w : Nat → Int32} {tp sz : Nat} (h1 : Blk g (b + 53) 2 (hiE G (b + 53) Ih (hRow b))) (h2 : tp < 8) (h3 : sz ≤ 8) (h7 : ∀ k, k < 8 → ∃ n s w, Blk g (b + 55 + 7 * k) 7 (stE G (b + 55 + 7 * k) n s w)) (h8 : ∀ j, j < sz → (∃ w, Blk g (b + 55 + 7 * ((tp + 8 - sz + j) % 8)) 7 (stE G (b + 55 + 7 * ((tp + 8 - sz + j) % 8)) n (hsR s u j) w)) ∧ gWF (hsR s u j) F n U) (hg : gWF s F n U) : pB G b (hiH G (b + 53) (va_up (va_up Ih 1 (nI ((tp + 1) % 8))) 2 (nI (min 8 (sz + 1)))) (hRow b) (stH G (b + 55 + 7 * tp) n s w g)) (nI (keepM sz)) s (keepU u s sz) F n U := by
  have hown : ∀ k, k = tp → Blk (hiH G (b + 53) (va_up (va_up Ih 1 (nI ((tp + 1) % 8))) 2 (nI (min 8 (sz + 1)))) (hRow b) (stH G (b + 55 + 7 * tp) n s w g)) (b + 55 + 7 * k) 7 (stE G (b + 55 + 7 * k) n s w) := by
    intro k z
    subst z
    exact Blk_ovl Blk_own (by omega)
  have hold : ∀ k, k < 8 → k ≠ tp → ∀ f, Blk g (b + 55 + 7 * k) 7 f → Blk (hiH G (b + 53) (va_up (va_up Ih 1 (nI ((tp + 1) % 8))) 2 (nI (min 8 (sz + 1)))) (hRow b) (stH G (b + 55 + 7 * tp) n s w g)) (b + 55 + 7 * k) 7 f := by
    intro k hk z f hf
    exact Blk_ovl (Blk_ovl hf (by omega)) (by omega)
  refine ⟨_, (tp + 1) % 8, min 8 (sz + 1), Blk_own, by omega, by omega, (va_ne (by omega)).trans va_sf, va_sf, by rw [kM_min h3], fun k hk => ?_, fun j hj => ?_⟩
  · by_cases z : k = tp
    · exact ⟨n, s, w, hown k z⟩
    · obtain ⟨n', s', w', h9⟩ := h7 k hk
      exact ⟨n', s', w', hold k hk z _ h9⟩
  · by_cases z8 : sz = 8
    · subst z8
      by_cases z7 : j = 7
      · subst z7
        rw [hsR_k4, show ((tp + 1) % 8 + 8 - min 8 (8 + 1) + 7) % 8 = tp by omega]
        exact ⟨⟨w, hown tp rfl⟩, hg⟩
      · obtain ⟨⟨w', h9⟩, h10⟩ := h8 (j + 1) (by omega)
        rw [hsR_k3 (by omega), show ((tp + 1) % 8 + 8 - min 8 (8 + 1) + j) % 8 = (tp + 8 - 8 + (j + 1)) % 8 by omega]
        exact ⟨⟨w', hold _ (by omega) (by omega) _ h9⟩, h10⟩
    · by_cases zj : j = sz
      · subst zj
        rw [hsR_k2 (by omega), show ((tp + 1) % 8 + 8 - min 8 (j + 1) + j) % 8 = tp by omega]
        exact ⟨⟨w, hown tp rfl⟩, hg⟩
      · obtain ⟨⟨w', h9⟩, h10⟩ := h8 j (by omega)
        rw [hsR_k1 (by omega) (by omega), show ((tp + 1) % 8 + 8 - min 8 (sz + 1) + j) % 8 = (tp + 8 - sz + j) % 8 by omega]
        exact ⟨⟨w', hold _ (by omega) (by omega) _ h9⟩, h10⟩
/-- what an act leaves -/
def actX (I : Nat → Int32) (m : Nat) : Nat → Int32 := va_up (va_up I 0 (nI 0)) 23 (nI (keepM m))
def actA (A : Nat → Nat → Int32) (m : Nat) (t : Nat → Int32) : Nat → Nat → Int32 := va_up (va_up A 7 (keepU (A 7) (A 2) m)) 2 t
theorem XR_I0 {x : Int32} (h : XR G b g I W A N F n U) : XR G b g (va_up I 0 x) W A N F n U := h
theorem x_perform (hX : XR G b g I W A N F n U) {m e k f : Nat} (hm : I 23 = nI m) (hm8 : m ≤ 8) (hd : dOk F n U e k (nI f)) (hf : f ≤ F) : C G (d + 5) 0 0 mX11_perform [.ref b, .int (nI e), .int (nI k), .int (nI f)] g (fun v g' => v = some (.int (whyF (A 2) n e k f)) ∧ fr b g g' ∧ (if whyF (A 2) n e k f = nI 0 then XR G b g' (actX I m) W (actA A m (actF (A 2) n U e k f)) N F n U else XR G b g' I W A N F n U)) := by
  have hX0 := hX
  obtain ⟨zw, zO, zT, zR, zH, zD, zS, zL, zY, zZ, zB, zV, zP, zQ, zG, zK, zC⟩ := hX
  obtain ⟨X, hx, x1, x3, x16, x18⟩ := id zO
  obtain ⟨J, B, M, hT, hS, hN⟩ := id zH
  obtain ⟨w9, hs⟩ := id zS
  obtain ⟨Ih, tp, sz, b1, b2, b3, b4, b5, b6, b7, b8⟩ := id zB
  have es := st_self hs
  obtain ⟨e0, hF, e1, hn, e2, hU⟩ := gWF_n zw.1
  have hw := zw.1.1.1
  have hdd : b + 29 + 7 ≤ b + 7 ∨ b + 7 + 11 ≤ b + 29 := by omega
  have hsz : sz = m := by
    apply Classical.byContradiction
    intro z
    rw [hm] at b6
    have := b6.symm
    rw [nI_eq_f z (by omega) (by omega)] at this; exact this
  subst hsz
  have he5 : e ≤ 5 := by have := hd.1; omega
  have kk := c_whyNot (d := d + 1) (h := g) (w := w9) (f := f) he5 (dOk_k hd) hw hT hdd hS
  rw [es] at kk
  refine C_in p_RX11 (Nat.le_of_ble_eq_true rfl) rfl ?_
  refine wp_ok (cuts := []) 30 _ _ _ _ ?_
  simp (config := { maxSteps := 2000000 }) (disch := omega) only [wp_su, wp_0, eX11_perform_0, eX11_perform_1, eX11_perform_4, eX11_perform_5, eX11_perform_8, eX11_perform_9, eX11_perform_10, eX11_perform_11, eX11_perform_14, eX11_perform_16, eX11_perform_18, eX11_perform_21, eX11_perform_22, eX11_perform_25, eX11_perform_26, eX11_perform_29, eX11_perform_32, eX11_perform_33, eX11_perform_36, eX11_perform_37, eX11_perform_40, eX11_perform_41, eX11_perform_42, eX11_perform_43, eX11_perform_46, eX11_perform_48, S_aload_n0, S_aload_n0N, S_callV, S_getf, S_if_ne, S_iload_4, S_iload_n1, S_iload_n2, S_iload_n3, S_ireturn, S_istore_4, g_RX11_30, g_RX11_40, g_RX11_60, iCk_i, iCk_l, iCk_n, iCk_o, iCk_r, iS1_4, aX11_perform, bX11_perform, rX11_perform, nar_i, nar_n0, nar_n1, List.mem_cons, List.not_mem_nil, or_false, or_self, or_true, true_or, false_or, if_false, if_true, true_and, and_true, Nat.reduceEqDiff, Nat.reduceAdd, Nat.reduceLT, reduceIte, iSet_1, iEnt_e, iEn_n, iEn_i, iEn_r, iEn_u, iEn_l, List.cons_append, List.nil_append, List.length_cons, List.length_nil, Nat.reduceSub, List.replicate_succ, List.replicate_zero, Nat.zero_add, nI_lit0, va_up_app, nI_add, nI_mul, nI_sub, nI_clamp, vp_nI, nI_le_t, nI_le_f, nI_lt_t, nI_lt_f, imp_t, imp_f, Option.toList_some, Option.toList_none, not_true_eq_false, not_false_eq_true, iR_t, nar_zI, zI_f0, zI_t0, va_up_same, upd_ne, upd_self, xb_o hx, xFs_len, xf_4, xf_6]
  refine dV4 (Y' := mX7_whyNot) eX11_perform_11 l_RX11_245 kX7_whyNot iX7_whyNot nX7_whyNot (sb_o hs) rfl rfl (Nat.le_of_ble_eq_true rfl) kk ?_
  by_cases hy : whyF (A 2) n e k f = nI 0
  · simp only [hy, if_true]
    refine wp_ok (cuts := []) 30 _ _ _ _ ?_
    simp (config := { maxSteps := 2000000 }) (disch := omega) only [wp_su, wp_0, eX11_perform_0, eX11_perform_1, eX11_perform_4, eX11_perform_5, eX11_perform_8, eX11_perform_9, eX11_perform_10, eX11_perform_11, eX11_perform_14, eX11_perform_16, eX11_perform_18, eX11_perform_21, eX11_perform_22, eX11_perform_25, eX11_perform_26, eX11_perform_29, eX11_perform_32, eX11_perform_33, eX11_perform_36, eX11_perform_37, eX11_perform_40, eX11_perform_41, eX11_perform_42, eX11_perform_43, eX11_perform_46, eX11_perform_48, S_aload_n0, S_aload_n0N, S_callV, S_getf, S_if_ne, S_iload_4, S_iload_n1, S_iload_n2, S_iload_n3, S_ireturn, S_istore_4, g_RX11_30, g_RX11_40, g_RX11_60, iCk_i, iCk_l, iCk_n, iCk_o, iCk_r, iS1_4, aX11_perform, bX11_perform, rX11_perform, nar_i, nar_n0, nar_n1, List.mem_cons, List.not_mem_nil, or_false, or_self, or_true, true_or, false_or, if_false, if_true, true_and, and_true, Nat.reduceEqDiff, Nat.reduceAdd, Nat.reduceLT, reduceIte, iSet_1, iEnt_e, iEn_n, iEn_i, iEn_r, iEn_u, iEn_l, List.cons_append, List.nil_append, List.length_cons, List.length_nil, Nat.reduceSub, List.replicate_succ, List.replicate_zero, Nat.zero_add, nI_lit0, va_up_app, nI_add, nI_mul, nI_sub, nI_clamp, vp_nI, nI_le_t, nI_le_f, nI_lt_t, nI_lt_f, imp_t, imp_f, Option.toList_some, Option.toList_none, not_true_eq_false, not_false_eq_true, iR_t, nar_zI, zI_f0, zI_t0, va_up_same, upd_ne, upd_self, xb_o hx, xFs_len, xf_6, xf_10]
    obtain ⟨nk, sk, wk, hsk⟩ := b7 tp b2
    have kp := c_push (d := d + 2) (h := g) (a := b + 53) (b := b + 29) (k := b + 55 + 7 * tp) (R := hRow b) b4 b2 b5 b3 rfl hsk hs (by omega) (by omega) (by omega)
    rw [hi_self b1] at kp
    refine dVu1 (Y' := mX2_push) eX11_perform_29 l_RX11_249 kX2_push iX2_push nX2_push (hib_o b1) rfl rfl (Nat.le_of_ble_eq_true rfl) kp ?_
    have zB' := pB_push (w := w9) b1 b2 b3 b7 b8 zw.1
    have hs1 : Blk (hiH G (b + 53) (va_up (va_up Ih 1 (nI ((tp + 1) % 8))) 2 (nI (min 8 (sz + 1)))) (hRow b) (stH G (b + 55 + 7 * tp) n (A 2) w9 g)) (b + 29) 7 (stE G (b + 29) n (A 2) w9) := Blk_ovl (Blk_ovl hs (by omega)) (by omega)
    have hx1 : Blk (hiH G (b + 53) (va_up (va_up Ih 1 (nI ((tp + 1) % 8))) 2 (nI (min 8 (sz + 1)))) (hRow b) (stH G (b + 55 + 7 * tp) n (A 2) w9 g)) b 1 (xE b X) := Blk_ovl (Blk_ovl hx (by omega)) (by omega)
    have hT1 : TW G (hiH G (b + 53) (va_up (va_up Ih 1 (nI ((tp + 1) % 8))) 2 (nI (min 8 (sz + 1)))) (hRow b) (stH G (b + 55 + 7 * tp) n (A 2) w9 g)) (b + 7) J B M := Blk_ovl (Blk_ovl hT (by omega)) (by omega)
    have ka := c_act (d := d) (w := w9) he5 (dOk_k hd) hf hy hw hT1 hdd hS
    rw [st_self hs1] at ka
    refine wp_ok (cuts := []) 30 _ _ _ _ ?_
    simp (config := { maxSteps := 2000000 }) (disch := omega) only [wp_su, wp_0, eX11_perform_0, eX11_perform_1, eX11_perform_4, eX11_perform_5, eX11_perform_8, eX11_perform_9, eX11_perform_10, eX11_perform_11, eX11_perform_14, eX11_perform_16, eX11_perform_18, eX11_perform_21, eX11_perform_22, eX11_perform_25, eX11_perform_26, eX11_perform_29, eX11_perform_32, eX11_perform_33, eX11_perform_36, eX11_perform_37, eX11_perform_40, eX11_perform_41, eX11_perform_42, eX11_perform_43, eX11_perform_46, eX11_perform_48, S_aload_n0, S_aload_n0N, S_callV, S_getf, S_if_ne, S_iload_4, S_iload_n1, S_iload_n2, S_iload_n3, S_ireturn, S_istore_4, g_RX11_30, g_RX11_40, g_RX11_60, iCk_i, iCk_l, iCk_n, iCk_o, iCk_r, iS1_4, aX11_perform, bX11_perform, rX11_perform, nar_i, nar_n0, nar_n1, List.mem_cons, List.not_mem_nil, or_false, or_self, or_true, true_or, false_or, if_false, if_true, true_and, and_true, Nat.reduceEqDiff, Nat.reduceAdd, Nat.reduceLT, reduceIte, iSet_1, iEnt_e, iEn_n, iEn_i, iEn_r, iEn_u, iEn_l, List.cons_append, List.nil_append, List.length_cons, List.length_nil, Nat.reduceSub, List.replicate_succ, List.replicate_zero, Nat.zero_add, nI_lit0, va_up_app, nI_add, nI_mul, nI_sub, nI_clamp, vp_nI, nI_le_t, nI_le_f, nI_lt_t, nI_lt_f, imp_t, imp_f, Option.toList_some, Option.toList_none, not_true_eq_false, not_false_eq_true, iR_t, nar_zI, zI_f0, zI_t0, va_up_same, upd_ne, upd_self, xb_o hx1, xFs_len, xf_4, xf_6]
    refine dVu4 (Y' := mX7_act) eX11_perform_43 l_RX11_253 kX7_act iX7_act nX7_act (sb_o hs1) rfl rfl (Nat.le_of_ble_eq_true rfl) ka ?_
    refine wp_ok (cuts := []) 30 _ _ _ _ ?_
    simp (config := { maxSteps := 2000000 }) (disch := omega) only [wp_su, wp_0, eX11_perform_0, eX11_perform_1, eX11_perform_4, eX11_perform_5, eX11_perform_8, eX11_perform_9, eX11_perform_10, eX11_perform_11, eX11_perform_14, eX11_perform_16, eX11_perform_18, eX11_perform_21, eX11_perform_22, eX11_perform_25, eX11_perform_26, eX11_perform_29, eX11_perform_32, eX11_perform_33, eX11_perform_36, eX11_perform_37, eX11_perform_40, eX11_perform_41, eX11_perform_42, eX11_perform_43, eX11_perform_46, eX11_perform_48, S_aload_n0, S_aload_n0N, S_callV, S_getf, S_if_ne, S_iload_4, S_iload_n1, S_iload_n2, S_iload_n3, S_ireturn, S_istore_4, g_RX11_30, g_RX11_40, g_RX11_60, iCk_i, iCk_l, iCk_n, iCk_o, iCk_r, iS1_4, aX11_perform, bX11_perform, rX11_perform, nar_i, nar_n0, nar_n1, List.mem_cons, List.not_mem_nil, or_false, or_self, or_true, true_or, false_or, if_false, if_true, true_and, and_true, Nat.reduceEqDiff, Nat.reduceAdd, Nat.reduceLT, reduceIte, iSet_1, iEnt_e, iEn_n, iEn_i, iEn_r, iEn_u, iEn_l, List.cons_append, List.nil_append, List.length_cons, List.length_nil, Nat.reduceSub, List.replicate_succ, List.replicate_zero, Nat.zero_add, nI_lit0, va_up_app, nI_add, nI_mul, nI_sub, nI_clamp, vp_nI, nI_le_t, nI_le_f, nI_lt_t, nI_lt_f, imp_t, imp_f, Option.toList_some, Option.toList_none, not_true_eq_false, not_false_eq_true, iR_t, nar_zI, zI_f0, zI_t0, va_up_same, upd_ne, upd_self]
    have hout := act_out zw.1 hd
    refine ⟨fr_ov (fr_ov (fr_ov fr_rf (by omega) (by omega)) (by omega) (by omega)) (by omega) (by omega), ?_⟩
    exact ⟨⟨gWF_act zw.1 hd hf hy, zw.2⟩, (pO_a (pO_a (pO_a zO (alk_ov (by omega))) (alk_ov (by omega))) (alk_ov (by omega))), (pT_a (pT_a (pT_a zT (alk_ov (by omega))) (alk_ov (by omega))) (alk_ov (by omega))), (pR_a (pR_a (pR_a zR (alk_ov (by omega))) (alk_ov (by omega))) (alk_ov (by omega))), ⟨J, B, M, Blk_ovl hT1 (by omega), TS_of hS hn hF hU (fun j hj => act_lo hj), hN⟩, (pD_a (pD_a (pD_a zD (alk_ov (by omega))) (alk_ov (by omega))) (alk_ov (by omega))), ⟨w9, Blk_own⟩, (pL_a (pL_a (pL_a zL (alk_ov (by omega))) (alk_ov (by omega))) (alk_ov (by omega))), (by
      obtain ⟨Iy, Ay, y1, y2⟩ := zY
      exact ⟨Iy, Ay, Blk_ovl (Blk_ovl (Blk_ovl y1 (by omega)) (by omega)) (by omega), seRel_of y2 (fun j h1 h2 => hout j (by omega))⟩), (pZ_a (pZ_a (pZ_a zZ (alk_ov (by omega))) (alk_ov (by omega))) (alk_ov (by omega))), pB_s (pB_a zB' (alk_ov (by omega))) hout, (pV_a (pV_a (pV_a zV (alk_ov (by omega))) (alk_ov (by omega))) (alk_ov (by omega))), (pP_a (pP_a (pP_a zP (alk_ov (by omega))) (alk_ov (by omega))) (alk_ov (by omega))), (pQ_a (pQ_a (pQ_a zQ (alk_ov (by omega))) (alk_ov (by omega))) (alk_ov (by omega))), (pG_a (pG_a (pG_a zG (alk_ov (by omega))) (alk_ov (by omega))) (alk_ov (by omega))), (pK_a (pK_a (pK_a zK (alk_ov (by omega))) (alk_ov (by omega))) (alk_ov (by omega))), (pC_a (pC_a (pC_a zC (alk_ov (by omega))) (alk_ov (by omega))) (alk_ov (by omega)))⟩
  · simp only [hy, if_false]
    refine wp_ok (cuts := [46]) 30 _ _ _ _ ?_
    simp (config := { maxSteps := 2000000 }) (disch := omega) only [wp_su, wp_0, eX11_perform_0, eX11_perform_1, eX11_perform_4, eX11_perform_5, eX11_perform_8, eX11_perform_9, eX11_perform_10, eX11_perform_11, eX11_perform_14, eX11_perform_16, eX11_perform_18, eX11_perform_21, eX11_perform_22, eX11_perform_25, eX11_perform_26, eX11_perform_29, eX11_perform_32, eX11_perform_33, eX11_perform_36, eX11_perform_37, eX11_perform_40, eX11_perform_41, eX11_perform_42, eX11_perform_43, eX11_perform_46, eX11_perform_48, S_aload_n0, S_aload_n0N, S_callV, S_getf, S_if_ne, S_iload_4, S_iload_n1, S_iload_n2, S_iload_n3, S_ireturn, S_istore_4, g_RX11_30, g_RX11_40, g_RX11_60, iCk_i, iCk_l, iCk_n, iCk_o, iCk_r, iS1_4, aX11_perform, bX11_perform, rX11_perform, nar_i, nar_n0, nar_n1, List.mem_cons, List.not_mem_nil, or_false, or_self, or_true, true_or, false_or, if_false, if_true, true_and, and_true, Nat.reduceEqDiff, Nat.reduceAdd, Nat.reduceLT, reduceIte, iSet_1, iEnt_e, iEn_n, iEn_i, iEn_r, iEn_u, iEn_l, List.cons_append, List.nil_append, List.length_cons, List.length_nil, Nat.reduceSub, List.replicate_succ, List.replicate_zero, Nat.zero_add, nI_lit0, va_up_app, nI_add, nI_mul, nI_sub, nI_clamp, vp_nI, nI_le_t, nI_le_f, nI_lt_t, nI_lt_f, imp_t, imp_f, Option.toList_some, Option.toList_none, not_true_eq_false, not_false_eq_true, iR_t, nar_zI, zI_f0, zI_t0, va_up_same, upd_ne, upd_self, hy]
    refine wp_ok (cuts := []) 30 _ _ _ _ ?_
    simp (config := { maxSteps := 2000000 }) (disch := omega) only [wp_su, wp_0, eX11_perform_0, eX11_perform_1, eX11_perform_4, eX11_perform_5, eX11_perform_8, eX11_perform_9, eX11_perform_10, eX11_perform_11, eX11_perform_14, eX11_perform_16, eX11_perform_18, eX11_perform_21, eX11_perform_22, eX11_perform_25, eX11_perform_26, eX11_perform_29, eX11_perform_32, eX11_perform_33, eX11_perform_36, eX11_perform_37, eX11_perform_40, eX11_perform_41, eX11_perform_42, eX11_perform_43, eX11_perform_46, eX11_perform_48, S_aload_n0, S_aload_n0N, S_callV, S_getf, S_if_ne, S_iload_4, S_iload_n1, S_iload_n2, S_iload_n3, S_ireturn, S_istore_4, g_RX11_30, g_RX11_40, g_RX11_60, iCk_i, iCk_l, iCk_n, iCk_o, iCk_r, iS1_4, aX11_perform, bX11_perform, rX11_perform, nar_i, nar_n0, nar_n1, List.mem_cons, List.not_mem_nil, or_false, or_self, or_true, true_or, false_or, if_false, if_true, true_and, and_true, Nat.reduceEqDiff, Nat.reduceAdd, Nat.reduceLT, reduceIte, iSet_1, iEnt_e, iEn_n, iEn_i, iEn_r, iEn_u, iEn_l, List.cons_append, List.nil_append, List.length_cons, List.length_nil, Nat.reduceSub, List.replicate_succ, List.replicate_zero, Nat.zero_add, nI_lit0, va_up_app, nI_add, nI_mul, nI_sub, nI_clamp, vp_nI, nI_le_t, nI_le_f, nI_lt_t, nI_lt_f, imp_t, imp_f, Option.toList_some, Option.toList_none, not_true_eq_false, not_false_eq_true, iR_t, nar_zI, zI_f0, zI_t0, va_up_same, upd_ne, upd_self]
    exact ⟨fr_rf, hX0⟩
end XA2
