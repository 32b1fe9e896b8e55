/-! The class: a bargain is settled -/
section CCh
variable {G : iG} {d : Nat} {h : iH} {a o t : Nat} {J : Nat → Int32} {B : Nat → Nat → Int32} {M : Nat → Nat → Int64} {F n U : Nat} {s w : Nat → Int32} {I : Nat → Int32} {A : Nat → Nat → Int32} {mu : Nat → Nat} {Q : Option Value → iH → Prop}
def chQ (G : iG) (o : Nat) (I : Nat → Int32) (h : iH) (s : Nat → Int32) (n F c f : Nat) (A : Nat → Nat → Int32) (mu : Nat → Nat) (g : iH) : Prop := ∃ A' mu', g = bgH G o I A' h ∧ gC s n F (A' 1) (A' 2) (A' 3) mu' ∧ ∀ e g, e < n → 1 ≤ g → g ≤ F → aC F (A' 2) mu' e g = (aC F (A 2) mu e g || (decide (e = c) && decide (g = f)))
theorem RC_upd {rf : Nat → Int32} {x f e0 : Nat} (hF : F ≤ 8) (hx : x < 512) (hxe : rf e0 = nI x) (f1 : 1 ≤ f) (f2 : f ≤ F) : ∀ e g, RC F (upd rf e0 (rf e0 ||| shN f)) e g = (RC F rf e g || (decide (e = e0) && decide (g = f))) := by
  intro e g
  unfold RC bitS
  by_cases ec : e = e0
  · subst ec
    rw [upd_self]
    by_cases g1 : 1 ≤ g
    · by_cases g2 : g ≤ F
      · rw [hxe, bit_or hx (by omega) (by omega)]
        have : (decide (f = g)) = decide (g = f) := by by_cases q : f = g <;> simp [q, eq_comm]
        simp [g1, g2, this]
      · have : ¬ g = f := by omega
        simp [g2, this]
    · have : ¬ g = f := by omega
      simp [g1, this]
  · rw [upd_ne ec]; simp [ec]
theorem rf_upd {rf : Nat → Int32} {f e0 : Nat} (hF : F ≤ 8) (f2 : f ≤ F) (h : ∀ c, c < n → ∃ x, x < 512 ∧ rf c = nI x) (he : e0 < n) : ∀ c, c < n → ∃ x, x < 512 ∧ upd rf e0 (rf e0 ||| shN f) c = nI x := by
  intro c hc
  by_cases ec : c = e0
  · subst ec
    obtain ⟨x, hx, e⟩ := h c hc
    refine ⟨x ||| 2 ^ f, Nat.or_lt_two_pow (n := 9) hx (Nat.pow_lt_pow_right (by omega) (by omega)), ?_⟩
    rw [upd_self, e, shN, sh_pow8 f (by omega), nI_or]
  · rw [upd_ne ec]; exact h c hc
theorem c_choose {c f : Nat} (hn : n ≤ 6) (hF : F ≤ 8) (hc : c < n) (ha : gAct s c) (hm : mu c = 0) (hB : isB F (gBt s) c (RC F (A 2) c) f) (hg : gC s n F (A 1) (A 2) (A 3) mu) (hlk : ∀ f c, 1 ≤ f → f ≤ 8 → c < 6 → ∃ v, v < 1000 ∧ s (37 + 6 * f - 6 + c) = nI v) (hT : TW G h t J B M) (hd : o + 4 ≤ t ∨ t + 11 ≤ o) (hS : TS J B s F n U) : C G (d + 1) 0 0 mX0_choose [.ref o, .ref t, .int (nI f), .int (nI c)] (bgH G o I A h) (fun v g => v = none ∧ chQ G o I h s n F c f A mu g) := by
  have hTb : TW G (bgH G o I A h) t J B M := Blk_ovl hT (by omega)
  have h11 := hS.2.2.2.2.2.2.2.2.2.2.2
  obtain ⟨q1, q2, q3, q4, q5, q6⟩ := hg
  have f1 := hB.1
  have fF := hB.2.1
  have hbf : RC F (A 2) c f = false := hB.2.2.1
  have fin : ∀ (A' : Nat → Nat → Int32) (mu' : Nat → Nat), gStep n F (gAct s) (gBt s) (gPr s) mu (RC F (A 2)) c f mu' (RC F (A' 2)) → (∀ c, c < n → A' 3 c = rfI (mu' c) ∧ mu' c ≤ F) → (∀ c, c < n → ∃ x, x < 512 ∧ A' 2 c = nI x) → (∀ f, 1 ≤ f → f ≤ F → (A' 1 f = -1 ∧ ∀ o, o < n → mu' o ≠ f) ∨ ∃ o, o < n ∧ A' 1 f = nI o ∧ mu' o = f) → (∀ c, n ≤ c → c < 6 → A' 3 c = -1) → gC s n F (A' 1) (A' 2) (A' 3) mu' := fun A' mu' hs k1 k2 k3 k6 => by
    obtain ⟨w1, w2⟩ := gs_step gBt_irr gPr_irr gPr_tr q4 hs
    exact ⟨k1, k2, k3, w1, fun mu2 R2 hf2 => w2 mu2 R2 hf2 (q5 mu2 R2 hf2), k6⟩
  refine C_in p_RX0 (Nat.le_of_ble_eq_true rfl) rfl ?_
  rcases q3 f f1 fF with ⟨e1, hno⟩ | ⟨r, hr, e1, mr⟩
  · refine wp_ok (cuts := []) 40 _ _ _ _ ?_
    simp (config := { maxSteps := 2000000 }) (disch := omega) only [wp_su, wp_0, eX0_choose_0, eX0_choose_1, eX0_choose_4, eX0_choose_5, eX0_choose_6, eX0_choose_8, eX0_choose_10, eX0_choose_11, eX0_choose_14, eX0_choose_15, eX0_choose_18, eX0_choose_19, eX0_choose_20, eX0_choose_21, eX0_choose_22, eX0_choose_25, eX0_choose_26, eX0_choose_27, eX0_choose_28, eX0_choose_29, eX0_choose_30, eX0_choose_31, eX0_choose_32, eX0_choose_35, eX0_choose_36, eX0_choose_37, eX0_choose_39, eX0_choose_42, eX0_choose_43, eX0_choose_45, eX0_choose_47, eX0_choose_50, eX0_choose_52, eX0_choose_55, eX0_choose_56, eX0_choose_58, eX0_choose_61, eX0_choose_62, eX0_choose_65, eX0_choose_66, eX0_choose_67, eX0_choose_68, eX0_choose_69, eX0_choose_72, eX0_choose_73, eX0_choose_74, eX0_choose_75, eX0_choose_76, eX0_choose_79, eX0_choose_81, eX0_choose_82, eX0_choose_83, eX0_choose_84, eX0_choose_87, eX0_choose_89, eX0_choose_90, eX0_choose_91, eX0_choose_92, eX0_choose_93, eX0_choose_94, eX0_choose_95, eX0_choose_96, eX0_choose_99, eX0_choose_100, eX0_choose_103, eX0_choose_104, eX0_choose_105, eX0_choose_106, eX0_choose_107, eX0_choose_108, eX0_choose_109, eX0_choose_110, eX0_choose_111, S_aload_n0, S_aload_n0N, S_aload_n1, S_aload_n1N, S_callV, S_dup2, S_getf, S_goto, S_iald, S_iast, S_icmp_ge, S_icmp_ne, S_iconst, S_if_gt, S_if_ne, S_iload_4, S_iload_5, S_iload_n2, S_iload_n3, S_ior, S_ishl, S_istore_4, S_istore_5, S_isub, S_return, g_RX0_15, g_RX0_18, g_RX0_9, iCk_i, iCk_l, iCk_n, iCk_o, iCk_r, iS1_4, iS1_5, ic_m1, jc_1, aX0_choose, bX0_choose, rX0_choose, nar_i, nar_n0, nar_n1, List.mem_cons, List.not_mem_nil, or_false, or_self, or_true, true_or, false_or, if_false, if_true, true_and, and_true, Nat.reduceEqDiff, Nat.reduceAdd, Nat.reduceLT, reduceIte, iSet_1, iEnt_e, iEn_n, iEn_i, iEn_r, iEn_u, iEn_l, List.cons_append, List.nil_append, List.length_cons, List.length_nil, Nat.reduceSub, List.replicate_succ, List.replicate_zero, Nat.zero_add, nI_lit0, va_up_app, nI_add, nI_mul, nI_sub, nI_clamp, vp_nI, nI_le_t, nI_le_f, nI_lt_t, nI_lt_f, imp_t, imp_f, Option.toList_some, Option.toList_none, not_true_eq_false, not_false_eq_true, iR_t, nar_zI, zI_f0, zI_t0, va_up_same, upd_ne, upd_self, bg_o, bgFs_len, bgf_0, bg_1, bgu_1, bgf_2, bg_3, bgu_3, e1]
    refine ⟨va_up (va_up A 1 (upd (A 1) f (nI c))) 3 (upd (A 3) c (nI f)), fun e => if e = c then f else mu e, rfl, ?_, fun e g he g1 g2 => ?_⟩
    · refine fin _ _ ⟨hc, ha, hm, hB, Or.inl ⟨hno, fun e _ => rfl, fun e g _ => rfl⟩⟩ (fun e he => ?_) q2 (fun g g1 g2 => ?_) (fun e h1 h2 => ?_)
      · show upd (A 3) c (nI f) e = rfI (if e = c then f else mu e) ∧ (if e = c then f else mu e) ≤ F
        by_cases ec : e = c
        · subst ec; rw [upd_self, if_pos rfl, rfI_p (by omega)]; exact ⟨rfl, fF⟩
        · rw [upd_ne ec, if_neg ec]; exact q1 e he
      · show (upd (A 1) f (nI c) g = -1 ∧ _) ∨ ∃ o, o < n ∧ upd (A 1) f (nI c) g = nI o ∧ _
        by_cases gf : g = f
        · subst gf; right; exact ⟨c, hc, upd_self, if_pos rfl⟩
        · rw [upd_ne gf]
          rcases q3 g g1 g2 with ⟨z1, z2⟩ | ⟨z, z1, z2, z3⟩
          · left
            refine ⟨z1, fun x hx => ?_⟩
            by_cases xc : x = c
            · rw [if_pos xc]; exact fun q => gf q.symm
            · rw [if_neg xc]; exact z2 x hx
          · right
            refine ⟨z, z1, z2, ?_⟩
            rw [if_neg (fun q => by subst q; omega)]
            exact z3
      · show upd (A 3) c (nI f) e = -1
        rw [upd_ne (by omega)]; exact q6 e h1 h2
    · show (RC F (A 2) e g || decide ((if e = c then f else mu e) = g)) = ((RC F (A 2) e g || decide (mu e = g)) || _)
      by_cases ec : e = c
      · subst ec
        rw [if_pos rfl, hm]
        have : ¬ 0 = g := by omega
        have e9 : decide (f = g) = decide (g = f) := by by_cases q : f = g <;> simp [q, eq_comm]
        simp [this, e9]
      · simp [ec]
  · have hrc : r ≠ c := fun q => by subst q; omega
    obtain ⟨vc, hvc, evc⟩ := hlk f c f1 (by omega) (by omega)
    obtain ⟨vr, hvr, evr⟩ := hlk f r f1 (by omega) (by omega)
    have lc1 : lcF s f c = nI vc := evc
    have lc2 : lcF s f r = nI vr := evr
    have k1 : B 10 (f * 6 + c) = nI vc := by rw [h11 f c f1 (by omega) (by omega), evc]
    have k2 : B 10 (f * 6 + r) = nI vr := by rw [h11 f r f1 (by omega) (by omega), evr]
    obtain ⟨xr, hxr, exr⟩ := q2 r hr
    obtain ⟨xc, hxc, exc⟩ := q2 c hc
    have hnm : (nI r = -1) = False := nI_m1 (by omega)
    refine wp_ok (cuts := []) 40 _ _ _ _ ?_
    simp (config := { maxSteps := 2000000 }) (disch := omega) only [wp_su, wp_0, eX0_choose_0, eX0_choose_1, eX0_choose_4, eX0_choose_5, eX0_choose_6, eX0_choose_8, eX0_choose_10, eX0_choose_11, eX0_choose_14, eX0_choose_15, eX0_choose_18, eX0_choose_19, eX0_choose_20, eX0_choose_21, eX0_choose_22, eX0_choose_25, eX0_choose_26, eX0_choose_27, eX0_choose_28, eX0_choose_29, eX0_choose_30, eX0_choose_31, eX0_choose_32, eX0_choose_35, eX0_choose_36, eX0_choose_37, eX0_choose_39, eX0_choose_42, eX0_choose_43, eX0_choose_45, eX0_choose_47, eX0_choose_50, eX0_choose_52, eX0_choose_55, eX0_choose_56, eX0_choose_58, eX0_choose_61, eX0_choose_62, eX0_choose_65, eX0_choose_66, eX0_choose_67, eX0_choose_68, eX0_choose_69, eX0_choose_72, eX0_choose_73, eX0_choose_74, eX0_choose_75, eX0_choose_76, eX0_choose_79, eX0_choose_81, eX0_choose_82, eX0_choose_83, eX0_choose_84, eX0_choose_87, eX0_choose_89, eX0_choose_90, eX0_choose_91, eX0_choose_92, eX0_choose_93, eX0_choose_94, eX0_choose_95, eX0_choose_96, eX0_choose_99, eX0_choose_100, eX0_choose_103, eX0_choose_104, eX0_choose_105, eX0_choose_106, eX0_choose_107, eX0_choose_108, eX0_choose_109, eX0_choose_110, eX0_choose_111, S_aload_n0, S_aload_n0N, S_aload_n1, S_aload_n1N, S_callV, S_dup2, S_getf, S_goto, S_iald, S_iast, S_icmp_ge, S_icmp_ne, S_iconst, S_if_gt, S_if_ne, S_iload_4, S_iload_5, S_iload_n2, S_iload_n3, S_ior, S_ishl, S_istore_4, S_istore_5, S_isub, S_return, g_RX0_15, g_RX0_18, g_RX0_9, iCk_i, iCk_l, iCk_n, iCk_o, iCk_r, iS1_4, iS1_5, ic_m1, jc_1, aX0_choose, bX0_choose, rX0_choose, nar_i, nar_n0, nar_n1, List.mem_cons, List.not_mem_nil, or_false, or_self, or_true, true_or, false_or, if_false, if_true, true_and, and_true, Nat.reduceEqDiff, Nat.reduceAdd, Nat.reduceLT, reduceIte, iSet_1, iEnt_e, iEn_n, iEn_i, iEn_r, iEn_u, iEn_l, List.cons_append, List.nil_append, List.length_cons, List.length_nil, Nat.reduceSub, List.replicate_succ, List.replicate_zero, Nat.zero_add, nI_lit0, va_up_app, nI_add, nI_mul, nI_sub, nI_clamp, vp_nI, nI_le_t, nI_le_f, nI_lt_t, nI_lt_f, imp_t, imp_f, Option.toList_some, Option.toList_none, not_true_eq_false, not_false_eq_true, iR_t, nar_zI, zI_f0, zI_t0, va_up_same, upd_ne, upd_self, bg_o, bgFs_len, bgf_0, bg_1, bgu_1, bgf_2, bg_3, bgu_3, e1, hnm]
    refine dV2 (Y' := mX8_liking) eX0_choose_32 l_RX0_63 kX8_liking iX8_liking nX8_liking (tw_o hTb) rfl rfl (Nat.le_of_ble_eq_true rfl) (c_liking hTb (by omega) (by omega)) ?_
    refine wp_ok (cuts := []) 40 _ _ _ _ ?_
    simp (config := { maxSteps := 2000000 }) (disch := omega) only [wp_su, wp_0, eX0_choose_0, eX0_choose_1, eX0_choose_4, eX0_choose_5, eX0_choose_6, eX0_choose_8, eX0_choose_10, eX0_choose_11, eX0_choose_14, eX0_choose_15, eX0_choose_18, eX0_choose_19, eX0_choose_20, eX0_choose_21, eX0_choose_22, eX0_choose_25, eX0_choose_26, eX0_choose_27, eX0_choose_28, eX0_choose_29, eX0_choose_30, eX0_choose_31, eX0_choose_32, eX0_choose_35, eX0_choose_36, eX0_choose_37, eX0_choose_39, eX0_choose_42, eX0_choose_43, eX0_choose_45, eX0_choose_47, eX0_choose_50, eX0_choose_52, eX0_choose_55, eX0_choose_56, eX0_choose_58, eX0_choose_61, eX0_choose_62, eX0_choose_65, eX0_choose_66, eX0_choose_67, eX0_choose_68, eX0_choose_69, eX0_choose_72, eX0_choose_73, eX0_choose_74, eX0_choose_75, eX0_choose_76, eX0_choose_79, eX0_choose_81, eX0_choose_82, eX0_choose_83, eX0_choose_84, eX0_choose_87, eX0_choose_89, eX0_choose_90, eX0_choose_91, eX0_choose_92, eX0_choose_93, eX0_choose_94, eX0_choose_95, eX0_choose_96, eX0_choose_99, eX0_choose_100, eX0_choose_103, eX0_choose_104, eX0_choose_105, eX0_choose_106, eX0_choose_107, eX0_choose_108, eX0_choose_109, eX0_choose_110, eX0_choose_111, S_aload_n0, S_aload_n0N, S_aload_n1, S_aload_n1N, S_callV, S_dup2, S_getf, S_goto, S_iald, S_iast, S_icmp_ge, S_icmp_ne, S_iconst, S_if_gt, S_if_ne, S_iload_4, S_iload_5, S_iload_n2, S_iload_n3, S_ior, S_ishl, S_istore_4, S_istore_5, S_isub, S_return, g_RX0_15, g_RX0_18, g_RX0_9, iCk_i, iCk_l, iCk_n, iCk_o, iCk_r, iS1_4, iS1_5, ic_m1, jc_1, aX0_choose, bX0_choose, rX0_choose, nar_i, nar_n0, nar_n1, List.mem_cons, List.not_mem_nil, or_false, or_self, or_true, true_or, false_or, if_false, if_true, true_and, and_true, Nat.reduceEqDiff, Nat.reduceAdd, Nat.reduceLT, reduceIte, iSet_1, iEnt_e, iEn_n, iEn_i, iEn_r, iEn_u, iEn_l, List.cons_append, List.nil_append, List.length_cons, List.length_nil, Nat.reduceSub, List.replicate_succ, List.replicate_zero, Nat.zero_add, nI_lit0, va_up_app, nI_add, nI_mul, nI_sub, nI_clamp, vp_nI, nI_le_t, nI_le_f, nI_lt_t, nI_lt_f, imp_t, imp_f, Option.toList_some, Option.toList_none, not_true_eq_false, not_false_eq_true, iR_t, nar_zI, zI_f0, zI_t0, va_up_same, upd_ne, upd_self]
    refine dV2 (Y' := mX8_liking) eX0_choose_39 l_RX0_63 kX8_liking iX8_liking nX8_liking (tw_o hTb) rfl rfl (Nat.le_of_ble_eq_true rfl) (c_liking hTb (by omega) (by omega)) ?_
    rw [k1, k2]
    have bump : gPr s f c r → K G (d + 1) 0 0 mX0_choose 61 [some (.ref o), some (.ref t), some (.int (nI f)), some (.int (nI c)), some (.int (nI r)), some (.int (nI vc - nI vr))] [] (bgH G o I A h) (fun v g => v = none ∧ chQ G o I h s n F c f A mu g) := fun hp => by
      refine wp_ok (cuts := []) 60 _ _ _ _ ?_
      simp (config := { maxSteps := 2000000 }) (disch := omega) only [wp_su, wp_0, eX0_choose_0, eX0_choose_1, eX0_choose_4, eX0_choose_5, eX0_choose_6, eX0_choose_8, eX0_choose_10, eX0_choose_11, eX0_choose_14, eX0_choose_15, eX0_choose_18, eX0_choose_19, eX0_choose_20, eX0_choose_21, eX0_choose_22, eX0_choose_25, eX0_choose_26, eX0_choose_27, eX0_choose_28, eX0_choose_29, eX0_choose_30, eX0_choose_31, eX0_choose_32, eX0_choose_35, eX0_choose_36, eX0_choose_37, eX0_choose_39, eX0_choose_42, eX0_choose_43, eX0_choose_45, eX0_choose_47, eX0_choose_50, eX0_choose_52, eX0_choose_55, eX0_choose_56, eX0_choose_58, eX0_choose_61, eX0_choose_62, eX0_choose_65, eX0_choose_66, eX0_choose_67, eX0_choose_68, eX0_choose_69, eX0_choose_72, eX0_choose_73, eX0_choose_74, eX0_choose_75, eX0_choose_76, eX0_choose_79, eX0_choose_81, eX0_choose_82, eX0_choose_83, eX0_choose_84, eX0_choose_87, eX0_choose_89, eX0_choose_90, eX0_choose_91, eX0_choose_92, eX0_choose_93, eX0_choose_94, eX0_choose_95, eX0_choose_96, eX0_choose_99, eX0_choose_100, eX0_choose_103, eX0_choose_104, eX0_choose_105, eX0_choose_106, eX0_choose_107, eX0_choose_108, eX0_choose_109, eX0_choose_110, eX0_choose_111, S_aload_n0, S_aload_n0N, S_aload_n1, S_aload_n1N, S_callV, S_dup2, S_getf, S_goto, S_iald, S_iast, S_icmp_ge, S_icmp_ne, S_iconst, S_if_gt, S_if_ne, S_iload_4, S_iload_5, S_iload_n2, S_iload_n3, S_ior, S_ishl, S_istore_4, S_istore_5, S_isub, S_return, g_RX0_15, g_RX0_18, g_RX0_9, iCk_i, iCk_l, iCk_n, iCk_o, iCk_r, iS1_4, iS1_5, ic_m1, jc_1, aX0_choose, bX0_choose, rX0_choose, nar_i, nar_n0, nar_n1, List.mem_cons, List.not_mem_nil, or_false, or_self, or_true, true_or, false_or, if_false, if_true, true_and, and_true, Nat.reduceEqDiff, Nat.reduceAdd, Nat.reduceLT, reduceIte, iSet_1, iEnt_e, iEn_n, iEn_i, iEn_r, iEn_u, iEn_l, List.cons_append, List.nil_append, List.length_cons, List.length_nil, Nat.reduceSub, List.replicate_succ, List.replicate_zero, Nat.zero_add, nI_lit0, va_up_app, nI_add, nI_mul, nI_sub, nI_clamp, vp_nI, nI_le_t, nI_le_f, nI_lt_t, nI_lt_f, imp_t, imp_f, Option.toList_some, Option.toList_none, not_true_eq_false, not_false_eq_true, iR_t, nar_zI, zI_f0, zI_t0, va_up_same, upd_ne, upd_self, bg_o, bgFs_len, bgf_0, bg_1, bgu_1, bgf_1, bg_2, bgu_2, bgf_2, bg_3, bgu_3]
      refine ⟨va_up (va_up (va_up A 1 (upd (A 1) f (nI c))) 3 (upd (upd (A 3) c (nI f)) r (-1))) 2 (upd (A 2) r (A 2 r ||| shN f)), fun e => if e = c then f else if e = r then 0 else mu e, ?_, ?_, fun e g he g1 g2 => ?_⟩
      · rfl
      · refine fin _ _ ⟨hc, ha, hm, hB, Or.inr (Or.inr ⟨r, hr, mr, hp, fun e _ => rfl, fun e g _ => RC_upd hF hxr exr f1 fF e g⟩)⟩ (fun e he => ?_) (rf_upd hF fF q2 hr) (fun g g1 g2 => ?_) (fun e h1 h2 => ?_)
        · show upd (upd (A 3) c (nI f)) r (-1) e = rfI (if e = c then f else if e = r then 0 else mu e) ∧ (if e = c then f else if e = r then 0 else mu e) ≤ F
          by_cases ec : e = c
          · subst ec
            rw [upd_ne (fun q => hrc q.symm), upd_self, if_pos rfl, rfI_p (by omega)]
            exact ⟨rfl, fF⟩
          · rw [if_neg ec]
            by_cases er : e = r
            · subst er; rw [upd_self, if_pos rfl]; exact ⟨rfl, Nat.zero_le _⟩
            · rw [upd_ne er, upd_ne ec, if_neg er]; exact q1 e he
        · show (upd (A 1) f (nI c) g = -1 ∧ _) ∨ ∃ o, o < n ∧ upd (A 1) f (nI c) g = nI o ∧ _
          by_cases gf : g = f
          · subst gf; right; exact ⟨c, hc, upd_self, if_pos rfl⟩
          · rw [upd_ne gf]
            rcases q3 g g1 g2 with ⟨z1, z2⟩ | ⟨z, z1, z2, z3⟩
            · left
              refine ⟨z1, fun x hx => ?_⟩
              by_cases xc' : x = c
              · rw [if_pos xc']; exact fun q => gf q.symm
              · rw [if_neg xc']
                by_cases xr' : x = r
                · rw [if_pos xr']; omega
                · rw [if_neg xr']; exact z2 x hx
            · right
              refine ⟨z, z1, z2, ?_⟩
              rw [if_neg (fun q => by subst q; omega), if_neg (fun q => by subst q; exact gf (by rw [← z3, mr]))]
              exact z3
        · show upd (upd (A 3) c (nI f)) r (-1) e = -1
          rw [upd_ne (by omega), upd_ne (by omega)]; exact q6 e h1 h2
      · show (RC F (upd (A 2) r (A 2 r ||| shN f)) e g || decide ((if e = c then f else if e = r then 0 else mu e) = g)) = ((RC F (A 2) e g || decide (mu e = g)) || _)
        rw [RC_upd hF hxr exr f1 fF]
        have e9 : decide (f = g) = decide (g = f) := by by_cases q : f = g <;> simp [q, eq_comm]
        have z0 : ¬ 0 = g := by omega
        by_cases ec : e = c
        · subst ec
          have er : ¬ e = r := fun q => hrc q.symm
          rw [if_pos rfl, hm]
          simp [z0, e9, er]
        · rw [if_neg ec]
          by_cases er : e = r
          · subst er
            rw [if_pos rfl, mr]
            simp [z0, e9, ec]
          · rw [if_neg er]; simp [ec, er]
    have refuse : gPr s f r c → K G (d + 1) 0 0 mX0_choose 99 [some (.ref o), some (.ref t), some (.int (nI f)), some (.int (nI c)), some (.int (nI r)), some (.int (nI vc - nI vr))] [] (bgH G o I A h) (fun v g => v = none ∧ chQ G o I h s n F c f A mu g) := fun hp => by
      refine wp_ok (cuts := []) 60 _ _ _ _ ?_
      simp (config := { maxSteps := 2000000 }) (disch := omega) only [wp_su, wp_0, eX0_choose_0, eX0_choose_1, eX0_choose_4, eX0_choose_5, eX0_choose_6, eX0_choose_8, eX0_choose_10, eX0_choose_11, eX0_choose_14, eX0_choose_15, eX0_choose_18, eX0_choose_19, eX0_choose_20, eX0_choose_21, eX0_choose_22, eX0_choose_25, eX0_choose_26, eX0_choose_27, eX0_choose_28, eX0_choose_29, eX0_choose_30, eX0_choose_31, eX0_choose_32, eX0_choose_35, eX0_choose_36, eX0_choose_37, eX0_choose_39, eX0_choose_42, eX0_choose_43, eX0_choose_45, eX0_choose_47, eX0_choose_50, eX0_choose_52, eX0_choose_55, eX0_choose_56, eX0_choose_58, eX0_choose_61, eX0_choose_62, eX0_choose_65, eX0_choose_66, eX0_choose_67, eX0_choose_68, eX0_choose_69, eX0_choose_72, eX0_choose_73, eX0_choose_74, eX0_choose_75, eX0_choose_76, eX0_choose_79, eX0_choose_81, eX0_choose_82, eX0_choose_83, eX0_choose_84, eX0_choose_87, eX0_choose_89, eX0_choose_90, eX0_choose_91, eX0_choose_92, eX0_choose_93, eX0_choose_94, eX0_choose_95, eX0_choose_96, eX0_choose_99, eX0_choose_100, eX0_choose_103, eX0_choose_104, eX0_choose_105, eX0_choose_106, eX0_choose_107, eX0_choose_108, eX0_choose_109, eX0_choose_110, eX0_choose_111, S_aload_n0, S_aload_n0N, S_aload_n1, S_aload_n1N, S_callV, S_dup2, S_getf, S_goto, S_iald, S_iast, S_icmp_ge, S_icmp_ne, S_iconst, S_if_gt, S_if_ne, S_iload_4, S_iload_5, S_iload_n2, S_iload_n3, S_ior, S_ishl, S_istore_4, S_istore_5, S_isub, S_return, g_RX0_15, g_RX0_18, g_RX0_9, iCk_i, iCk_l, iCk_n, iCk_o, iCk_r, iS1_4, iS1_5, ic_m1, jc_1, aX0_choose, bX0_choose, rX0_choose, nar_i, nar_n0, nar_n1, List.mem_cons, List.not_mem_nil, or_false, or_self, or_true, true_or, false_or, if_false, if_true, true_and, and_true, Nat.reduceEqDiff, Nat.reduceAdd, Nat.reduceLT, reduceIte, iSet_1, iEnt_e, iEn_n, iEn_i, iEn_r, iEn_u, iEn_l, List.cons_append, List.nil_append, List.length_cons, List.length_nil, Nat.reduceSub, List.replicate_succ, List.replicate_zero, Nat.zero_add, nI_lit0, va_up_app, nI_add, nI_mul, nI_sub, nI_clamp, vp_nI, nI_le_t, nI_le_f, nI_lt_t, nI_lt_f, imp_t, imp_f, Option.toList_some, Option.toList_none, not_true_eq_false, not_false_eq_true, iR_t, nar_zI, zI_f0, zI_t0, va_up_same, upd_ne, upd_self, bg_o, bgFs_len, bgf_0, bg_1, bgu_1, bgf_1, bg_2, bgu_2, bgf_2, bg_3, bgu_3]
      refine ⟨va_up A 2 (upd (A 2) c (A 2 c ||| shN f)), mu, ?_, ?_, fun e g he g1 g2 => ?_⟩
      · rfl
      · exact fin _ _ ⟨hc, ha, hm, hB, Or.inr (Or.inl ⟨r, hr, mr, hp, fun e _ => rfl, fun e g _ => RC_upd hF hxc exc f1 fF e g⟩)⟩ q1 (rf_upd hF fF q2 hc) q3 q6
      · show (RC F (upd (A 2) c (A 2 c ||| shN f)) e g || decide (mu e = g)) = ((RC F (A 2) e g || decide (mu e = g)) || _)
        rw [RC_upd hF hxc exc f1 fF]
        cases RC F (A 2) e g <;> cases decide (mu e = g) <;> cases (decide (e = c) && decide (g = f)) <;> rfl
    refine wp_ok (cuts := [50,61,99]) 40 _ _ _ _ ?_
    simp (config := { maxSteps := 2000000 }) (disch := omega) only [wp_su, wp_0, eX0_choose_0, eX0_choose_1, eX0_choose_4, eX0_choose_5, eX0_choose_6, eX0_choose_8, eX0_choose_10, eX0_choose_11, eX0_choose_14, eX0_choose_15, eX0_choose_18, eX0_choose_19, eX0_choose_20, eX0_choose_21, eX0_choose_22, eX0_choose_25, eX0_choose_26, eX0_choose_27, eX0_choose_28, eX0_choose_29, eX0_choose_30, eX0_choose_31, eX0_choose_32, eX0_choose_35, eX0_choose_36, eX0_choose_37, eX0_choose_39, eX0_choose_42, eX0_choose_43, eX0_choose_45, eX0_choose_47, eX0_choose_50, eX0_choose_52, eX0_choose_55, eX0_choose_56, eX0_choose_58, eX0_choose_61, eX0_choose_62, eX0_choose_65, eX0_choose_66, eX0_choose_67, eX0_choose_68, eX0_choose_69, eX0_choose_72, eX0_choose_73, eX0_choose_74, eX0_choose_75, eX0_choose_76, eX0_choose_79, eX0_choose_81, eX0_choose_82, eX0_choose_83, eX0_choose_84, eX0_choose_87, eX0_choose_89, eX0_choose_90, eX0_choose_91, eX0_choose_92, eX0_choose_93, eX0_choose_94, eX0_choose_95, eX0_choose_96, eX0_choose_99, eX0_choose_100, eX0_choose_103, eX0_choose_104, eX0_choose_105, eX0_choose_106, eX0_choose_107, eX0_choose_108, eX0_choose_109, eX0_choose_110, eX0_choose_111, S_aload_n0, S_aload_n0N, S_aload_n1, S_aload_n1N, S_callV, S_dup2, S_getf, S_goto, S_iald, S_iast, S_icmp_ge, S_icmp_ne, S_iconst, S_if_gt, S_if_ne, S_iload_4, S_iload_5, S_iload_n2, S_iload_n3, S_ior, S_ishl, S_istore_4, S_istore_5, S_isub, S_return, g_RX0_15, g_RX0_18, g_RX0_9, iCk_i, iCk_l, iCk_n, iCk_o, iCk_r, iS1_4, iS1_5, ic_m1, jc_1, aX0_choose, bX0_choose, rX0_choose, nar_i, nar_n0, nar_n1, List.mem_cons, List.not_mem_nil, or_false, or_self, or_true, true_or, false_or, if_false, if_true, true_and, and_true, Nat.reduceEqDiff, Nat.reduceAdd, Nat.reduceLT, reduceIte, iSet_1, iEnt_e, iEn_n, iEn_i, iEn_r, iEn_u, iEn_l, List.cons_append, List.nil_append, List.length_cons, List.length_nil, Nat.reduceSub, List.replicate_succ, List.replicate_zero, Nat.zero_add, nI_lit0, va_up_app, nI_add, nI_mul, nI_sub, nI_clamp, vp_nI, nI_le_t, nI_le_f, nI_lt_t, nI_lt_f, imp_t, imp_f, Option.toList_some, Option.toList_none, not_true_eq_false, not_false_eq_true, iR_t, nar_zI, zI_f0, zI_t0, va_up_same, upd_ne, upd_self]
    by_cases zz : vr < vc
    · have e3 : nI vc - nI vr = nI (vc - vr) := nI_sub (by omega)
      have hpos : nI 0 < nI vc - nI vr := by rw [e3]; exact nI_lt (by omega) (by omega)
      exact ⟨fun _ => bump (Or.inl (by rw [lc1, lc2]; exact nI_lt zz (by omega))), fun q => absurd hpos q⟩
    · have hneg : ¬ nI 0 < nI vc - nI vr := by
        rw [Int32.lt_iff_toInt_lt, Int32.toInt_sub, nI_toInt (by omega), nI_toInt (by omega), nI_toInt (by omega), Int.bmod_eq_of_le (by omega) (by omega)]
        omega
      refine ⟨fun q => absurd q hneg, fun _ => ?_⟩
      refine wp_ok (cuts := [61,99]) 40 _ _ _ _ ?_
      simp (config := { maxSteps := 2000000 }) (disch := omega) only [wp_su, wp_0, eX0_choose_0, eX0_choose_1, eX0_choose_4, eX0_choose_5, eX0_choose_6, eX0_choose_8, eX0_choose_10, eX0_choose_11, eX0_choose_14, eX0_choose_15, eX0_choose_18, eX0_choose_19, eX0_choose_20, eX0_choose_21, eX0_choose_22, eX0_choose_25, eX0_choose_26, eX0_choose_27, eX0_choose_28, eX0_choose_29, eX0_choose_30, eX0_choose_31, eX0_choose_32, eX0_choose_35, eX0_choose_36, eX0_choose_37, eX0_choose_39, eX0_choose_42, eX0_choose_43, eX0_choose_45, eX0_choose_47, eX0_choose_50, eX0_choose_52, eX0_choose_55, eX0_choose_56, eX0_choose_58, eX0_choose_61, eX0_choose_62, eX0_choose_65, eX0_choose_66, eX0_choose_67, eX0_choose_68, eX0_choose_69, eX0_choose_72, eX0_choose_73, eX0_choose_74, eX0_choose_75, eX0_choose_76, eX0_choose_79, eX0_choose_81, eX0_choose_82, eX0_choose_83, eX0_choose_84, eX0_choose_87, eX0_choose_89, eX0_choose_90, eX0_choose_91, eX0_choose_92, eX0_choose_93, eX0_choose_94, eX0_choose_95, eX0_choose_96, eX0_choose_99, eX0_choose_100, eX0_choose_103, eX0_choose_104, eX0_choose_105, eX0_choose_106, eX0_choose_107, eX0_choose_108, eX0_choose_109, eX0_choose_110, eX0_choose_111, S_aload_n0, S_aload_n0N, S_aload_n1, S_aload_n1N, S_callV, S_dup2, S_getf, S_goto, S_iald, S_iast, S_icmp_ge, S_icmp_ne, S_iconst, S_if_gt, S_if_ne, S_iload_4, S_iload_5, S_iload_n2, S_iload_n3, S_ior, S_ishl, S_istore_4, S_istore_5, S_isub, S_return, g_RX0_15, g_RX0_18, g_RX0_9, iCk_i, iCk_l, iCk_n, iCk_o, iCk_r, iS1_4, iS1_5, ic_m1, jc_1, aX0_choose, bX0_choose, rX0_choose, nar_i, nar_n0, nar_n1, List.mem_cons, List.not_mem_nil, or_false, or_self, or_true, true_or, false_or, if_false, if_true, true_and, and_true, Nat.reduceEqDiff, Nat.reduceAdd, Nat.reduceLT, reduceIte, iSet_1, iEnt_e, iEn_n, iEn_i, iEn_r, iEn_u, iEn_l, List.cons_append, List.nil_append, List.length_cons, List.length_nil, Nat.reduceSub, List.replicate_succ, List.replicate_zero, Nat.zero_add, nI_lit0, va_up_app, nI_add, nI_mul, nI_sub, nI_clamp, vp_nI, nI_le_t, nI_le_f, nI_lt_t, nI_lt_f, imp_t, imp_f, Option.toList_some, Option.toList_none, not_true_eq_false, not_false_eq_true, iR_t, nar_zI, zI_f0, zI_t0, va_up_same, upd_ne, upd_self]
      by_cases ze : vc = vr
      · subst ze
        have e3 : nI vc - nI vc = nI 0 := by rw [nI_sub (by omega), Nat.sub_self]
        refine ⟨fun q => absurd e3 q, fun _ => ⟨fun q => ?_, fun q => ?_⟩⟩
        · rw [nI_leI (by omega) (by omega)] at q
          exact refuse (Or.inr ⟨by rw [lc1, lc2], by omega⟩)
        · rw [nI_leI (by omega) (by omega)] at q
          exact bump (Or.inr ⟨by rw [lc1, lc2], by omega⟩)
      · have e3 : ¬ nI vc - nI vr = nI 0 := fun q => by
          have : nI vc = nI vr := by
            have q9 := congrArg (fun z => z + nI vr) q
            rw [Int32.sub_add_cancel, nI_add, Nat.zero_add] at q9
            exact q9
          rw [nI_eq (by omega) (by omega)] at this
          exact ze this
        exact ⟨fun _ => refuse (Or.inl (by rw [lc1, lc2]; exact nI_lt (by omega) (by omega))), fun q => absurd q e3⟩
end CCh
