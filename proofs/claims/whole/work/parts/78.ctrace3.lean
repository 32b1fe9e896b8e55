/-! The class: the walk of where one has been -/
section CWk
variable {G : iG} {d : Nat} {h : iH} {o t : Nat} {I I0 : Nat → Int32} {A A0 : Nat → Nat → Int32} {Q : Option Value → iH → Prop} {isb : Nat → Bool} {F q : Nat} {J : Nat → Int32} {B : Nat → Nat → Int32} {M : Nat → Nat → Int64} {gf gv tg : Nat → Nat}
def WQ (G : iG) (o : Nat) (h : iH) (isb : Nat → Bool) (F q : Nat) (I0 : Nat → Int32) (A0 : Nat → Nat → Int32) (c k : Nat) (A : Nat → Nat → Int32) : Option Value → iH → Prop := fun v g => v = none ∧ ∃ I' A', g = trH G o I' A' h ∧ TR isb (F + 1) q I0 A0 c I' A' ∧ (∀ j, j < 4 → A' 1 j = A 1 j) ∧ ∀ i, i < k → A' 2 i = A 2 i
theorem dg_last {B k P f : Nat} (hf : f < B) : dgN (P * B + f) B (k + 1) k = f := by
  unfold dgN
  rw [show k + 1 - 1 - k = 0 by omega, Nat.pow_zero, Nat.div_one, Nat.add_comm, Nat.add_mul_mod_self_right, Nat.mod_eq_of_lt hf]
theorem dg_head {B k P f i : Nat} (hf : f < B) (hi : i < k) : dgN (P * B + f) B (k + 1) i = dgN P B k i := by
  refine dg_pre (k := k) (by omega) (by omega) hi ?_ ?_
  · rw [show k + 1 - k = 1 by omega, Nat.pow_one]; omega
  · rw [show k + 1 - k = 1 by omega, Nat.pow_one, Nat.add_mul, Nat.one_mul]; omega
theorem uN_step {P k f g : Nat} (hf : f < F + 1) : uN gf gv (dgN (P * (F + 1) + f) (F + 1) (k + 1)) g (k + 1) = uN gf gv (dgN P (F + 1) k) g k + (if f = 0 then 0 else if gf f = g then gv f else 0) := by
  rw [uN, dg_last hf, uN_congr k (fun i hi => dg_head hf hi)]
set_option maxRecDepth 20000 in
theorem l_walk {k m P : Nat} {mis : Nat → Nat} (hF : F ≤ 8) (hkm : k + (m + 1) = q) (hq : q ≤ 4) (hP : P < (F + 1) ^ k) (e0 : J 0 = nI F) (h1 : ∀ f, 1 ≤ f → f ≤ F → gf f < 4 ∧ B 1 f = nI (gf f)) (h2 : ∀ f, 1 ≤ f → f ≤ F → gv f ≤ 9 ∧ B 2 f = nI (gv f)) (htg : ∀ g, g < 4 → tg g ≤ 255) (hisb : ∀ cd, isb cd = true → ∀ g, g < 4 → uN gf gv (dgN cd (F + 1) q) g q = tg g) (hT : TW G h t J B M) (hd : o + 5 ≤ t ∨ t + 11 ≤ o) (hmis : ∀ g, g < 4 → A 1 g = nI (mis g) ∧ mis g + uN gf gv (dgN P (F + 1) k) g k = tg g) (hrow : ∀ i, i < k → A 2 i = nI (dgN P (F + 1) k i))
    (ihw : ∀ (P' : Nat) (I' : Nat → Int32) (A' : Nat → Nat → Int32) (mis' : Nat → Nat), P' < (F + 1) ^ (k + 1) → TR isb (F + 1) q I0 A0 (P' * (F + 1) ^ m) I' A' → (∀ g, g < 4 → A' 1 g = nI (mis' g) ∧ mis' g + uN gf gv (dgN P' (F + 1) (k + 1)) g (k + 1) = tg g) → (∀ i, i < k + 1 → A' 2 i = nI (dgN P' (F + 1) (k + 1) i)) → C G (d + m + 2) 0 0 mX9_walk [.ref o, .ref t, .int (nI (k + 1)), .int (nI q)] (trH G o I' A' h) (WQ G o h isb F q I0 A0 ((P' + 1) * (F + 1) ^ m) (k + 1) A')) : ∀ (r f : Nat) (I' : Nat → Int32) (A' : Nat → Nat → Int32) (o5 : Option Value), f + r = F + 1 → 1 ≤ f → TR isb (F + 1) q I0 A0 ((P * (F + 1) + f) * (F + 1) ^ m) I' A' → (∀ j, j < 4 → A' 1 j = A 1 j) → (∀ i, i < k → A' 2 i = A 2 i) → K G (d + (m + 1) + 2) 0 0 mX9_walk 35 [some (.ref o), some (.ref t), some (.int (nI k)), some (.int (nI q)), some (.int (nI f)), o5] [] (trH G o I' A' h) (WQ G o h isb F q I0 A0 ((P + 1) * (F + 1) ^ (m + 1)) k A) := by
  have hTb : ∀ I A, TW G (trH G o I A h) t J B M := fun I A => Blk_ovl hT (by omega)
  intro r
  induction r with
  | zero =>
    intro f I' A' o5 hf hf1 ht ha1 ha2
    obtain rfl : f = F + 1 := by omega
    refine wp_ok (cuts := []) 30 _ _ _ _ ?_
    simp (config := { maxSteps := 2000000 }) (disch := omega) only [wp_su, wp_0, eX9_walk_0, eX9_walk_1, eX9_walk_2, eX9_walk_5, eX9_walk_6, eX9_walk_7, eX9_walk_10, eX9_walk_11, eX9_walk_12, eX9_walk_15, eX9_walk_16, eX9_walk_17, eX9_walk_20, eX9_walk_21, eX9_walk_22, eX9_walk_23, eX9_walk_24, eX9_walk_25, eX9_walk_26, eX9_walk_27, eX9_walk_28, eX9_walk_29, eX9_walk_32, eX9_walk_33, eX9_walk_35, eX9_walk_37, eX9_walk_38, eX9_walk_41, eX9_walk_44, eX9_walk_45, eX9_walk_48, eX9_walk_50, eX9_walk_51, eX9_walk_53, eX9_walk_54, eX9_walk_57, eX9_walk_59, eX9_walk_60, eX9_walk_61, eX9_walk_64, eX9_walk_66, eX9_walk_67, eX9_walk_70, eX9_walk_71, eX9_walk_74, eX9_walk_76, eX9_walk_77, eX9_walk_78, eX9_walk_79, eX9_walk_82, eX9_walk_84, eX9_walk_85, eX9_walk_86, eX9_walk_87, eX9_walk_88, eX9_walk_91, eX9_walk_92, eX9_walk_94, eX9_walk_95, eX9_walk_96, eX9_walk_97, eX9_walk_98, eX9_walk_99, eX9_walk_100, eX9_walk_101, eX9_walk_104, eX9_walk_105, eX9_walk_108, eX9_walk_110, eX9_walk_111, eX9_walk_112, eX9_walk_113, eX9_walk_116, eX9_walk_118, eX9_walk_119, eX9_walk_120, eX9_walk_121, eX9_walk_124, eX9_walk_127, S_aload_n0, S_aload_n0N, S_aload_n1, S_aload_n1N, S_callV, S_dup2, S_getf, S_goto, S_iadd, S_iald, S_iast, S_icmp_ge, S_icmp_gt, S_icmp_lt, S_iconst, S_iinc_4, S_iload_4, S_iload_5, S_iload_n2, S_iload_n3, S_istore_4, S_istore_5, S_isub, S_return, g_RX9_15, g_RX9_52, g_RX9_57, g_RX9_60, g_RX9_9, iCk_i, iCk_l, iCk_n, iCk_o, iCk_r, iS1_4, iS1_5, jc_0, jc_1, jc_4, aX9_walk, bX9_walk, rX9_walk, nar_i, nar_n0, nar_n1, List.mem_cons, List.not_mem_nil, or_false, or_self, or_true, true_or, false_or, if_false, if_true, true_and, and_true, Nat.reduceEqDiff, Nat.reduceAdd, Nat.reduceLT, reduceIte, iSet_1, iEnt_e, iEn_n, iEn_i, iEn_r, iEn_u, iEn_l, List.cons_append, List.nil_append, List.length_cons, List.length_nil, Nat.reduceSub, List.replicate_succ, List.replicate_zero, Nat.zero_add, nI_lit0, va_up_app, nI_add, nI_mul, nI_sub, nI_clamp, vp_nI, nI_le_t, nI_le_f, nI_lt_t, nI_lt_f, imp_t, imp_f, Option.toList_some, Option.toList_none, not_true_eq_false, not_false_eq_true, iR_t, nar_zI, zI_f0, zI_t0, va_up_same, upd_ne, upd_self, tw_o (hTb _ _), txf_0, e0]
    refine ⟨rfl, I', A', rfl, ?_, ha1, ha2⟩
    rw [show (P + 1) * (F + 1) ^ (m + 1) = (P * (F + 1) + (F + 1)) * (F + 1) ^ m by rw [Nat.pow_succ, Nat.add_mul, Nat.one_mul, Nat.mul_comm ((F + 1) ^ m), ← Nat.mul_assoc, ← Nat.add_mul]]
    exact ht
  | succ r ih =>
    intro f I' A' o5 hf hf1 ht ha1 ha2
    obtain ⟨g4, eg⟩ := h1 f hf1 (by omega)
    obtain ⟨v9, ev⟩ := h2 f hf1 (by omega)
    obtain ⟨em, hu⟩ := hmis (gf f) g4
    have hm255 := htg (gf f) g4
    have hPf : P * (F + 1) + f < (F + 1) ^ (k + 1) := by
      rw [Nat.pow_succ]
      have : (P + 1) * (F + 1) ≤ (F + 1) ^ k * (F + 1) := Nat.mul_le_mul_right _ hP
      rw [Nat.add_mul, Nat.one_mul] at this
      omega
    have em' : A' 1 (gf f) = nI (mis (gf f)) := by rw [ha1 _ g4, em]
    by_cases hc : gv f ≤ mis (gf f)
    · have hx := ih (f + 1)
      refine wp_ok (cuts := [121]) 60 _ _ _ _ ?_
      simp (config := { maxSteps := 2000000 }) (disch := omega) only [wp_su, wp_0, eX9_walk_0, eX9_walk_1, eX9_walk_2, eX9_walk_5, eX9_walk_6, eX9_walk_7, eX9_walk_10, eX9_walk_11, eX9_walk_12, eX9_walk_15, eX9_walk_16, eX9_walk_17, eX9_walk_20, eX9_walk_21, eX9_walk_22, eX9_walk_23, eX9_walk_24, eX9_walk_25, eX9_walk_26, eX9_walk_27, eX9_walk_28, eX9_walk_29, eX9_walk_32, eX9_walk_33, eX9_walk_35, eX9_walk_37, eX9_walk_38, eX9_walk_41, eX9_walk_44, eX9_walk_45, eX9_walk_48, eX9_walk_50, eX9_walk_51, eX9_walk_53, eX9_walk_54, eX9_walk_57, eX9_walk_59, eX9_walk_60, eX9_walk_61, eX9_walk_64, eX9_walk_66, eX9_walk_67, eX9_walk_70, eX9_walk_71, eX9_walk_74, eX9_walk_76, eX9_walk_77, eX9_walk_78, eX9_walk_79, eX9_walk_82, eX9_walk_84, eX9_walk_85, eX9_walk_86, eX9_walk_87, eX9_walk_88, eX9_walk_91, eX9_walk_92, eX9_walk_94, eX9_walk_95, eX9_walk_96, eX9_walk_97, eX9_walk_98, eX9_walk_99, eX9_walk_100, eX9_walk_101, eX9_walk_104, eX9_walk_105, eX9_walk_108, eX9_walk_110, eX9_walk_111, eX9_walk_112, eX9_walk_113, eX9_walk_116, eX9_walk_118, eX9_walk_119, eX9_walk_120, eX9_walk_121, eX9_walk_124, eX9_walk_127, S_aload_n0, S_aload_n0N, S_aload_n1, S_aload_n1N, S_callV, S_dup2, S_getf, S_goto, S_iadd, S_iald, S_iast, S_icmp_ge, S_icmp_gt, S_icmp_lt, S_iconst, S_iinc_4, S_iload_4, S_iload_5, S_iload_n2, S_iload_n3, S_istore_4, S_istore_5, S_isub, S_return, g_RX9_15, g_RX9_52, g_RX9_57, g_RX9_60, g_RX9_9, iCk_i, iCk_l, iCk_n, iCk_o, iCk_r, iS1_4, iS1_5, jc_0, jc_1, jc_4, aX9_walk, bX9_walk, rX9_walk, nar_i, nar_n0, nar_n1, List.mem_cons, List.not_mem_nil, or_false, or_self, or_true, true_or, false_or, if_false, if_true, true_and, and_true, Nat.reduceEqDiff, Nat.reduceAdd, Nat.reduceLT, reduceIte, iSet_1, iEnt_e, iEn_n, iEn_i, iEn_r, iEn_u, iEn_l, List.cons_append, List.nil_append, List.length_cons, List.length_nil, Nat.reduceSub, List.replicate_succ, List.replicate_zero, Nat.zero_add, nI_lit0, va_up_app, nI_add, nI_mul, nI_sub, nI_clamp, vp_nI, nI_le_t, nI_le_f, nI_lt_t, nI_lt_f, imp_t, imp_f, Option.toList_some, Option.toList_none, not_true_eq_false, not_false_eq_true, iR_t, nar_zI, zI_f0, zI_t0, va_up_same, upd_ne, upd_self, tr_o, trFs_len, trf_0, tr_1, tru_1, trf_1, tr_2, tru_2, tw_o (hTb _ _), txf_0, txf_1, txf_2, tw_1 (hTb _ _), tw_2 (hTb _ _), e0, eg, ev, em']
      have kw := ihw (P * (F + 1) + f) I' (va_up (va_up A' 1 (upd (A' 1) (gf f) (nI (mis (gf f) - gv f)))) 2 (upd (A' 2) k (nI f))) (fun g => if gf f = g then mis g - gv f else mis g) hPf ht (fun g hg => by
        obtain ⟨w1, w2⟩ := hmis g hg
        rw [uN_step (by omega), if_neg (show ¬ f = 0 by omega)]
        by_cases e : gf f = g
        · subst e
          simp only [if_true]
          refine ⟨?_, by omega⟩
          show upd (A' 1) (gf f) (nI (mis (gf f) - gv f)) (gf f) = _
          rw [upd_self]
        · simp only [e, if_false]
          refine ⟨?_, by omega⟩
          show upd (A' 1) (gf f) (nI (mis (gf f) - gv f)) g = _
          rw [upd_ne (fun q => e q.symm), ha1 g hg, w1]) (fun i hi => by
        show upd (A' 2) k (nI f) i = _
        by_cases e : i = k
        · subst e; rw [upd_self, dg_last (by omega)]
        · rw [upd_ne e, ha2 i (by omega), hrow i (by omega), dg_head (by omega) (by omega)])
      refine ks_callV (As := [.ref t, .int (nI (k + 1)), .int (nI q)]) (mc := 0) (ms := 0) (Y' := mX9_walk) eX9_walk_101 l_RX9_40 kX9_walk iX9_walk nX9_walk tr_o rfl rfl (Nat.le_of_ble_eq_true rfl) kw (Nat.zero_le _) (Nat.zero_le _) ?_
      rintro v g9 ⟨rfl, I2, A2, rfl, ht2, b1, b2⟩
      have e8 : A2 1 (gf f) = nI (mis (gf f) - gv f) := by
        rw [b1 _ g4]
        show upd (A' 1) (gf f) (nI (mis (gf f) - gv f)) (gf f) = _
        rw [upd_self]
      refine wp_ok (cuts := [35]) 60 _ _ _ _ ?_
      simp (config := { maxSteps := 2000000 }) (disch := omega) only [wp_su, wp_0, eX9_walk_0, eX9_walk_1, eX9_walk_2, eX9_walk_5, eX9_walk_6, eX9_walk_7, eX9_walk_10, eX9_walk_11, eX9_walk_12, eX9_walk_15, eX9_walk_16, eX9_walk_17, eX9_walk_20, eX9_walk_21, eX9_walk_22, eX9_walk_23, eX9_walk_24, eX9_walk_25, eX9_walk_26, eX9_walk_27, eX9_walk_28, eX9_walk_29, eX9_walk_32, eX9_walk_33, eX9_walk_35, eX9_walk_37, eX9_walk_38, eX9_walk_41, eX9_walk_44, eX9_walk_45, eX9_walk_48, eX9_walk_50, eX9_walk_51, eX9_walk_53, eX9_walk_54, eX9_walk_57, eX9_walk_59, eX9_walk_60, eX9_walk_61, eX9_walk_64, eX9_walk_66, eX9_walk_67, eX9_walk_70, eX9_walk_71, eX9_walk_74, eX9_walk_76, eX9_walk_77, eX9_walk_78, eX9_walk_79, eX9_walk_82, eX9_walk_84, eX9_walk_85, eX9_walk_86, eX9_walk_87, eX9_walk_88, eX9_walk_91, eX9_walk_92, eX9_walk_94, eX9_walk_95, eX9_walk_96, eX9_walk_97, eX9_walk_98, eX9_walk_99, eX9_walk_100, eX9_walk_101, eX9_walk_104, eX9_walk_105, eX9_walk_108, eX9_walk_110, eX9_walk_111, eX9_walk_112, eX9_walk_113, eX9_walk_116, eX9_walk_118, eX9_walk_119, eX9_walk_120, eX9_walk_121, eX9_walk_124, eX9_walk_127, S_aload_n0, S_aload_n0N, S_aload_n1, S_aload_n1N, S_callV, S_dup2, S_getf, S_goto, S_iadd, S_iald, S_iast, S_icmp_ge, S_icmp_gt, S_icmp_lt, S_iconst, S_iinc_4, S_iload_4, S_iload_5, S_iload_n2, S_iload_n3, S_istore_4, S_istore_5, S_isub, S_return, g_RX9_15, g_RX9_52, g_RX9_57, g_RX9_60, g_RX9_9, iCk_i, iCk_l, iCk_n, iCk_o, iCk_r, iS1_4, iS1_5, jc_0, jc_1, jc_4, aX9_walk, bX9_walk, rX9_walk, nar_i, nar_n0, nar_n1, List.mem_cons, List.not_mem_nil, or_false, or_self, or_true, true_or, false_or, if_false, if_true, true_and, and_true, Nat.reduceEqDiff, Nat.reduceAdd, Nat.reduceLT, reduceIte, iSet_1, iEnt_e, iEn_n, iEn_i, iEn_r, iEn_u, iEn_l, List.cons_append, List.nil_append, List.length_cons, List.length_nil, Nat.reduceSub, List.replicate_succ, List.replicate_zero, Nat.zero_add, nI_lit0, va_up_app, nI_add, nI_mul, nI_sub, nI_clamp, vp_nI, nI_le_t, nI_le_f, nI_lt_t, nI_lt_f, imp_t, imp_f, Option.toList_some, Option.toList_none, not_true_eq_false, not_false_eq_true, iR_t, nar_zI, zI_f0, zI_t0, va_up_same, upd_ne, upd_self, tr_o, trFs_len, trf_0, tr_1, tru_1, trf_1, tr_2, tru_2, tw_o (hTb _ _), txf_2, tw_2 (hTb _ _), ev, e8]
      rw [Nat.sub_add_cancel hc]
      refine hx I2 _ _ (by omega) (by omega) ?_ (fun j hj => ?_) (fun i hi => ?_)
      · rw [show P * (F + 1) + (f + 1) = P * (F + 1) + f + 1 by omega]
        exact ht2
      · show upd (A2 1) (gf f) (nI (mis (gf f))) j = _
        by_cases e : j = gf f
        · subst e; rw [upd_self, em]
        · rw [upd_ne e, b1 j hj]
          show upd (A' 1) (gf f) (nI (mis (gf f) - gv f)) j = _
          rw [upd_ne e, ha1 j hj]
      · rw [show (va_up A2 1 (upd (A2 1) (gf f) (nI (mis (gf f))))) 2 = A2 2 from rfl, b2 i (by omega)]
        show upd (A' 2) k (nI f) i = _
        rw [upd_ne (by omega), ha2 i hi]
    · have hx := ih (f + 1) I' A'
      refine wp_ok (cuts := [121]) 60 _ _ _ _ ?_
      simp (config := { maxSteps := 2000000 }) (disch := omega) only [wp_su, wp_0, eX9_walk_0, eX9_walk_1, eX9_walk_2, eX9_walk_5, eX9_walk_6, eX9_walk_7, eX9_walk_10, eX9_walk_11, eX9_walk_12, eX9_walk_15, eX9_walk_16, eX9_walk_17, eX9_walk_20, eX9_walk_21, eX9_walk_22, eX9_walk_23, eX9_walk_24, eX9_walk_25, eX9_walk_26, eX9_walk_27, eX9_walk_28, eX9_walk_29, eX9_walk_32, eX9_walk_33, eX9_walk_35, eX9_walk_37, eX9_walk_38, eX9_walk_41, eX9_walk_44, eX9_walk_45, eX9_walk_48, eX9_walk_50, eX9_walk_51, eX9_walk_53, eX9_walk_54, eX9_walk_57, eX9_walk_59, eX9_walk_60, eX9_walk_61, eX9_walk_64, eX9_walk_66, eX9_walk_67, eX9_walk_70, eX9_walk_71, eX9_walk_74, eX9_walk_76, eX9_walk_77, eX9_walk_78, eX9_walk_79, eX9_walk_82, eX9_walk_84, eX9_walk_85, eX9_walk_86, eX9_walk_87, eX9_walk_88, eX9_walk_91, eX9_walk_92, eX9_walk_94, eX9_walk_95, eX9_walk_96, eX9_walk_97, eX9_walk_98, eX9_walk_99, eX9_walk_100, eX9_walk_101, eX9_walk_104, eX9_walk_105, eX9_walk_108, eX9_walk_110, eX9_walk_111, eX9_walk_112, eX9_walk_113, eX9_walk_116, eX9_walk_118, eX9_walk_119, eX9_walk_120, eX9_walk_121, eX9_walk_124, eX9_walk_127, S_aload_n0, S_aload_n0N, S_aload_n1, S_aload_n1N, S_callV, S_dup2, S_getf, S_goto, S_iadd, S_iald, S_iast, S_icmp_ge, S_icmp_gt, S_icmp_lt, S_iconst, S_iinc_4, S_iload_4, S_iload_5, S_iload_n2, S_iload_n3, S_istore_4, S_istore_5, S_isub, S_return, g_RX9_15, g_RX9_52, g_RX9_57, g_RX9_60, g_RX9_9, iCk_i, iCk_l, iCk_n, iCk_o, iCk_r, iS1_4, iS1_5, jc_0, jc_1, jc_4, aX9_walk, bX9_walk, rX9_walk, nar_i, nar_n0, nar_n1, List.mem_cons, List.not_mem_nil, or_false, or_self, or_true, true_or, false_or, if_false, if_true, true_and, and_true, Nat.reduceEqDiff, Nat.reduceAdd, Nat.reduceLT, reduceIte, iSet_1, iEnt_e, iEn_n, iEn_i, iEn_r, iEn_u, iEn_l, List.cons_append, List.nil_append, List.length_cons, List.length_nil, Nat.reduceSub, List.replicate_succ, List.replicate_zero, Nat.zero_add, nI_lit0, va_up_app, nI_add, nI_mul, nI_sub, nI_clamp, vp_nI, nI_le_t, nI_le_f, nI_lt_t, nI_lt_f, imp_t, imp_f, Option.toList_some, Option.toList_none, not_true_eq_false, not_false_eq_true, iR_t, nar_zI, zI_f0, zI_t0, va_up_same, upd_ne, upd_self, tr_o, trFs_len, trf_0, tr_1, tru_1, trf_1, tr_2, tru_2, tw_o (hTb _ _), txf_0, txf_1, txf_2, tw_1 (hTb _ _), tw_2 (hTb _ _), e0, eg, ev, em']
      refine wp_ok (cuts := [35]) 60 _ _ _ _ ?_
      simp (config := { maxSteps := 2000000 }) (disch := omega) only [wp_su, wp_0, eX9_walk_0, eX9_walk_1, eX9_walk_2, eX9_walk_5, eX9_walk_6, eX9_walk_7, eX9_walk_10, eX9_walk_11, eX9_walk_12, eX9_walk_15, eX9_walk_16, eX9_walk_17, eX9_walk_20, eX9_walk_21, eX9_walk_22, eX9_walk_23, eX9_walk_24, eX9_walk_25, eX9_walk_26, eX9_walk_27, eX9_walk_28, eX9_walk_29, eX9_walk_32, eX9_walk_33, eX9_walk_35, eX9_walk_37, eX9_walk_38, eX9_walk_41, eX9_walk_44, eX9_walk_45, eX9_walk_48, eX9_walk_50, eX9_walk_51, eX9_walk_53, eX9_walk_54, eX9_walk_57, eX9_walk_59, eX9_walk_60, eX9_walk_61, eX9_walk_64, eX9_walk_66, eX9_walk_67, eX9_walk_70, eX9_walk_71, eX9_walk_74, eX9_walk_76, eX9_walk_77, eX9_walk_78, eX9_walk_79, eX9_walk_82, eX9_walk_84, eX9_walk_85, eX9_walk_86, eX9_walk_87, eX9_walk_88, eX9_walk_91, eX9_walk_92, eX9_walk_94, eX9_walk_95, eX9_walk_96, eX9_walk_97, eX9_walk_98, eX9_walk_99, eX9_walk_100, eX9_walk_101, eX9_walk_104, eX9_walk_105, eX9_walk_108, eX9_walk_110, eX9_walk_111, eX9_walk_112, eX9_walk_113, eX9_walk_116, eX9_walk_118, eX9_walk_119, eX9_walk_120, eX9_walk_121, eX9_walk_124, eX9_walk_127, S_aload_n0, S_aload_n0N, S_aload_n1, S_aload_n1N, S_callV, S_dup2, S_getf, S_goto, S_iadd, S_iald, S_iast, S_icmp_ge, S_icmp_gt, S_icmp_lt, S_iconst, S_iinc_4, S_iload_4, S_iload_5, S_iload_n2, S_iload_n3, S_istore_4, S_istore_5, S_isub, S_return, g_RX9_15, g_RX9_52, g_RX9_57, g_RX9_60, g_RX9_9, iCk_i, iCk_l, iCk_n, iCk_o, iCk_r, iS1_4, iS1_5, jc_0, jc_1, jc_4, aX9_walk, bX9_walk, rX9_walk, nar_i, nar_n0, nar_n1, List.mem_cons, List.not_mem_nil, or_false, or_self, or_true, true_or, false_or, if_false, if_true, true_and, and_true, Nat.reduceEqDiff, Nat.reduceAdd, Nat.reduceLT, reduceIte, iSet_1, iEnt_e, iEn_n, iEn_i, iEn_r, iEn_u, iEn_l, List.cons_append, List.nil_append, List.length_cons, List.length_nil, Nat.reduceSub, List.replicate_succ, List.replicate_zero, Nat.zero_add, nI_lit0, va_up_app, nI_add, nI_mul, nI_sub, nI_clamp, vp_nI, nI_le_t, nI_le_f, nI_lt_t, nI_lt_f, imp_t, imp_f, Option.toList_some, Option.toList_none, not_true_eq_false, not_false_eq_true, iR_t, nar_zI, zI_f0, zI_t0, va_up_same, upd_ne, upd_self]
      refine hx _ (by omega) (by omega) ?_ ha1 ha2
      rw [show P * (F + 1) + (f + 1) = P * (F + 1) + f + 1 by omega, Nat.add_mul _ 1, Nat.one_mul]
      refine TR_skip _ _ (fun cd c1 c2 => ?_) ht
      cases hb : isb cd
      · rfl
      · have h9 := hisb cd hb (gf f) g4
        have h10 := uN_mono (gf := gf) (gv := gv) (dg := dgN cd (F + 1) q) (g := gf f) m (k + 1)
        rw [show k + 1 + m = q by omega, h9] at h10
        rw [uN_congr (k + 1) (fun i hi => dg_pre (q := q) (k := k + 1) (P := P * (F + 1) + f) (by omega) (by omega) hi (by rw [show q - (k + 1) = m by omega]; exact c1) (by rw [show q - (k + 1) = m by omega, Nat.add_mul _ 1, Nat.one_mul]; exact c2)), uN_step (by omega), if_neg (show ¬ f = 0 by omega), if_pos rfl] at h10
        omega
theorem c_walk (hF : F ≤ 8) (hq : q ≤ 4) (e0 : J 0 = nI F) (h1 : ∀ f, 1 ≤ f → f ≤ F → gf f < 4 ∧ B 1 f = nI (gf f)) (h2 : ∀ f, 1 ≤ f → f ≤ F → gv f ≤ 9 ∧ B 2 f = nI (gv f)) (htg : ∀ g, g < 4 → tg g ≤ 255) (hisb : ∀ cd, isb cd = true ↔ ∀ g, g < 4 → uN gf gv (dgN cd (F + 1) q) g q = tg g) (hT : TW G h t J B M) (hd : o + 5 ≤ t ∨ t + 11 ≤ o) : ∀ (m k P : Nat) (I : Nat → Int32) (A : Nat → Nat → Int32) (mis : Nat → Nat), k + m = q → P < (F + 1) ^ k → TR isb (F + 1) q I0 A0 (P * (F + 1) ^ m) I A → (∀ g, g < 4 → A 1 g = nI (mis g) ∧ mis g + uN gf gv (dgN P (F + 1) k) g k = tg g) → (∀ i, i < k → A 2 i = nI (dgN P (F + 1) k i)) → C G (d + m + 2) 0 0 mX9_walk [.ref o, .ref t, .int (nI k), .int (nI q)] (trH G o I A h) (WQ G o h isb F q I0 A0 ((P + 1) * (F + 1) ^ m) k A) := by
  intro m
  induction m with
  | zero =>
    intro k P I A mis hkm hP ht hmis hrow
    obtain rfl : k = q := by omega
    have hP2 := pow9 (B := F + 1) (q := k) (by omega) hq
    rw [Nat.pow_zero, Nat.mul_one] at ht
    rw [Nat.pow_zero, Nat.mul_one]
    refine C_in p_RX9 (Nat.le_of_ble_eq_true rfl) rfl ?_
    refine wp_ok (cuts := []) 30 _ _ _ _ ?_
    simp (config := { maxSteps := 2000000 }) (disch := omega) only [wp_su, wp_0, eX9_walk_0, eX9_walk_1, eX9_walk_2, eX9_walk_5, eX9_walk_6, eX9_walk_7, eX9_walk_10, eX9_walk_11, eX9_walk_12, eX9_walk_15, eX9_walk_16, eX9_walk_17, eX9_walk_20, eX9_walk_21, eX9_walk_22, eX9_walk_23, eX9_walk_24, eX9_walk_25, eX9_walk_26, eX9_walk_27, eX9_walk_28, eX9_walk_29, eX9_walk_32, eX9_walk_33, eX9_walk_35, eX9_walk_37, eX9_walk_38, eX9_walk_41, eX9_walk_44, eX9_walk_45, eX9_walk_48, eX9_walk_50, eX9_walk_51, eX9_walk_53, eX9_walk_54, eX9_walk_57, eX9_walk_59, eX9_walk_60, eX9_walk_61, eX9_walk_64, eX9_walk_66, eX9_walk_67, eX9_walk_70, eX9_walk_71, eX9_walk_74, eX9_walk_76, eX9_walk_77, eX9_walk_78, eX9_walk_79, eX9_walk_82, eX9_walk_84, eX9_walk_85, eX9_walk_86, eX9_walk_87, eX9_walk_88, eX9_walk_91, eX9_walk_92, eX9_walk_94, eX9_walk_95, eX9_walk_96, eX9_walk_97, eX9_walk_98, eX9_walk_99, eX9_walk_100, eX9_walk_101, eX9_walk_104, eX9_walk_105, eX9_walk_108, eX9_walk_110, eX9_walk_111, eX9_walk_112, eX9_walk_113, eX9_walk_116, eX9_walk_118, eX9_walk_119, eX9_walk_120, eX9_walk_121, eX9_walk_124, eX9_walk_127, S_aload_n0, S_aload_n0N, S_aload_n1, S_aload_n1N, S_callV, S_dup2, S_getf, S_goto, S_iadd, S_iald, S_iast, S_icmp_ge, S_icmp_gt, S_icmp_lt, S_iconst, S_iinc_4, S_iload_4, S_iload_5, S_iload_n2, S_iload_n3, S_istore_4, S_istore_5, S_isub, S_return, g_RX9_15, g_RX9_52, g_RX9_57, g_RX9_60, g_RX9_9, iCk_i, iCk_l, iCk_n, iCk_o, iCk_r, iS1_4, iS1_5, jc_0, jc_1, jc_4, aX9_walk, bX9_walk, rX9_walk, nar_i, nar_n0, nar_n1, List.mem_cons, List.not_mem_nil, or_false, or_self, or_true, true_or, false_or, if_false, if_true, true_and, and_true, Nat.reduceEqDiff, Nat.reduceAdd, Nat.reduceLT, reduceIte, iSet_1, iEnt_e, iEn_n, iEn_i, iEn_r, iEn_u, iEn_l, List.cons_append, List.nil_append, List.length_cons, List.length_nil, Nat.reduceSub, List.replicate_succ, List.replicate_zero, Nat.zero_add, nI_lit0, va_up_app, nI_add, nI_mul, nI_sub, nI_clamp, vp_nI, nI_le_t, nI_le_f, nI_lt_t, nI_lt_f, imp_t, imp_f, Option.toList_some, Option.toList_none, not_true_eq_false, not_false_eq_true, iR_t, nar_zI, zI_f0, zI_t0, va_up_same, upd_ne, upd_self]
    refine ks_callV (As := [.int (nI k)]) (mc := 0) (ms := 0) (Y' := mX9_noteRow) eX9_walk_12 l_RX9_48 kX9_noteRow iX9_noteRow nX9_noteRow tr_o rfl rfl (Nat.le_of_ble_eq_true rfl) (c_noteRow (d := d) (isb := isb) (B := F + 1) (cd := P) (mis := mis) (I0 := I0) (A0 := A0) hq (by omega) (by omega) (by omega) (fun g hg => ⟨(hmis g hg).1, by have := (hmis g hg).2; have := htg g hg; omega⟩) hrow ?_ ht) (Nat.zero_le _) (Nat.zero_le _) ?_
    · rw [hisb P]
      constructor
      · intro hz g hg
        have := (hmis g hg).2
        have := hz g hg
        omega
      · intro hz g hg
        have := (hmis g hg).2
        have := hz g hg
        omega
    · rintro v g9 ⟨rfl, I2, A2, rfl, ht2, b1, b2⟩
      refine wp_ok (cuts := []) 30 _ _ _ _ ?_
      simp (config := { maxSteps := 2000000 }) (disch := omega) only [wp_su, wp_0, eX9_walk_0, eX9_walk_1, eX9_walk_2, eX9_walk_5, eX9_walk_6, eX9_walk_7, eX9_walk_10, eX9_walk_11, eX9_walk_12, eX9_walk_15, eX9_walk_16, eX9_walk_17, eX9_walk_20, eX9_walk_21, eX9_walk_22, eX9_walk_23, eX9_walk_24, eX9_walk_25, eX9_walk_26, eX9_walk_27, eX9_walk_28, eX9_walk_29, eX9_walk_32, eX9_walk_33, eX9_walk_35, eX9_walk_37, eX9_walk_38, eX9_walk_41, eX9_walk_44, eX9_walk_45, eX9_walk_48, eX9_walk_50, eX9_walk_51, eX9_walk_53, eX9_walk_54, eX9_walk_57, eX9_walk_59, eX9_walk_60, eX9_walk_61, eX9_walk_64, eX9_walk_66, eX9_walk_67, eX9_walk_70, eX9_walk_71, eX9_walk_74, eX9_walk_76, eX9_walk_77, eX9_walk_78, eX9_walk_79, eX9_walk_82, eX9_walk_84, eX9_walk_85, eX9_walk_86, eX9_walk_87, eX9_walk_88, eX9_walk_91, eX9_walk_92, eX9_walk_94, eX9_walk_95, eX9_walk_96, eX9_walk_97, eX9_walk_98, eX9_walk_99, eX9_walk_100, eX9_walk_101, eX9_walk_104, eX9_walk_105, eX9_walk_108, eX9_walk_110, eX9_walk_111, eX9_walk_112, eX9_walk_113, eX9_walk_116, eX9_walk_118, eX9_walk_119, eX9_walk_120, eX9_walk_121, eX9_walk_124, eX9_walk_127, S_aload_n0, S_aload_n0N, S_aload_n1, S_aload_n1N, S_callV, S_dup2, S_getf, S_goto, S_iadd, S_iald, S_iast, S_icmp_ge, S_icmp_gt, S_icmp_lt, S_iconst, S_iinc_4, S_iload_4, S_iload_5, S_iload_n2, S_iload_n3, S_istore_4, S_istore_5, S_isub, S_return, g_RX9_15, g_RX9_52, g_RX9_57, g_RX9_60, g_RX9_9, iCk_i, iCk_l, iCk_n, iCk_o, iCk_r, iS1_4, iS1_5, jc_0, jc_1, jc_4, aX9_walk, bX9_walk, rX9_walk, nar_i, nar_n0, nar_n1, List.mem_cons, List.not_mem_nil, or_false, or_self, or_true, true_or, false_or, if_false, if_true, true_and, and_true, Nat.reduceEqDiff, Nat.reduceAdd, Nat.reduceLT, reduceIte, iSet_1, iEnt_e, iEn_n, iEn_i, iEn_r, iEn_u, iEn_l, List.cons_append, List.nil_append, List.length_cons, List.length_nil, Nat.reduceSub, List.replicate_succ, List.replicate_zero, Nat.zero_add, nI_lit0, va_up_app, nI_add, nI_mul, nI_sub, nI_clamp, vp_nI, nI_le_t, nI_le_f, nI_lt_t, nI_lt_f, imp_t, imp_f, Option.toList_some, Option.toList_none, not_true_eq_false, not_false_eq_true, iR_t, nar_zI, zI_f0, zI_t0, va_up_same, upd_ne, upd_self]
      exact ⟨rfl, I2, A2, rfl, ht2, fun j _ => by rw [b1], fun i _ => by rw [b2]⟩
  | succ m ihm =>
    intro k P I A mis hkm hP ht hmis hrow
    have ihw := fun P' I' A' mis' => ihm (k + 1) P' I' A' mis' (by omega)
    have hPf : P * (F + 1) + 0 < (F + 1) ^ (k + 1) := by
      rw [Nat.pow_succ]
      have : (P + 1) * (F + 1) ≤ (F + 1) ^ k * (F + 1) := Nat.mul_le_mul_right _ hP
      rw [Nat.add_mul, Nat.one_mul] at this
      omega
    refine C_in p_RX9 (Nat.le_of_ble_eq_true rfl) rfl ?_
    refine wp_ok (cuts := []) 30 _ _ _ _ ?_
    simp (config := { maxSteps := 2000000 }) (disch := omega) only [wp_su, wp_0, eX9_walk_0, eX9_walk_1, eX9_walk_2, eX9_walk_5, eX9_walk_6, eX9_walk_7, eX9_walk_10, eX9_walk_11, eX9_walk_12, eX9_walk_15, eX9_walk_16, eX9_walk_17, eX9_walk_20, eX9_walk_21, eX9_walk_22, eX9_walk_23, eX9_walk_24, eX9_walk_25, eX9_walk_26, eX9_walk_27, eX9_walk_28, eX9_walk_29, eX9_walk_32, eX9_walk_33, eX9_walk_35, eX9_walk_37, eX9_walk_38, eX9_walk_41, eX9_walk_44, eX9_walk_45, eX9_walk_48, eX9_walk_50, eX9_walk_51, eX9_walk_53, eX9_walk_54, eX9_walk_57, eX9_walk_59, eX9_walk_60, eX9_walk_61, eX9_walk_64, eX9_walk_66, eX9_walk_67, eX9_walk_70, eX9_walk_71, eX9_walk_74, eX9_walk_76, eX9_walk_77, eX9_walk_78, eX9_walk_79, eX9_walk_82, eX9_walk_84, eX9_walk_85, eX9_walk_86, eX9_walk_87, eX9_walk_88, eX9_walk_91, eX9_walk_92, eX9_walk_94, eX9_walk_95, eX9_walk_96, eX9_walk_97, eX9_walk_98, eX9_walk_99, eX9_walk_100, eX9_walk_101, eX9_walk_104, eX9_walk_105, eX9_walk_108, eX9_walk_110, eX9_walk_111, eX9_walk_112, eX9_walk_113, eX9_walk_116, eX9_walk_118, eX9_walk_119, eX9_walk_120, eX9_walk_121, eX9_walk_124, eX9_walk_127, S_aload_n0, S_aload_n0N, S_aload_n1, S_aload_n1N, S_callV, S_dup2, S_getf, S_goto, S_iadd, S_iald, S_iast, S_icmp_ge, S_icmp_gt, S_icmp_lt, S_iconst, S_iinc_4, S_iload_4, S_iload_5, S_iload_n2, S_iload_n3, S_istore_4, S_istore_5, S_isub, S_return, g_RX9_15, g_RX9_52, g_RX9_57, g_RX9_60, g_RX9_9, iCk_i, iCk_l, iCk_n, iCk_o, iCk_r, iS1_4, iS1_5, jc_0, jc_1, jc_4, aX9_walk, bX9_walk, rX9_walk, nar_i, nar_n0, nar_n1, List.mem_cons, List.not_mem_nil, or_false, or_self, or_true, true_or, false_or, if_false, if_true, true_and, and_true, Nat.reduceEqDiff, Nat.reduceAdd, Nat.reduceLT, reduceIte, iSet_1, iEnt_e, iEn_n, iEn_i, iEn_r, iEn_u, iEn_l, List.cons_append, List.nil_append, List.length_cons, List.length_nil, Nat.reduceSub, List.replicate_succ, List.replicate_zero, Nat.zero_add, nI_lit0, va_up_app, nI_add, nI_mul, nI_sub, nI_clamp, vp_nI, nI_le_t, nI_le_f, nI_lt_t, nI_lt_f, imp_t, imp_f, Option.toList_some, Option.toList_none, not_true_eq_false, not_false_eq_true, iR_t, nar_zI, zI_f0, zI_t0, va_up_same, upd_ne, upd_self, tr_o, trFs_len, trf_1, tr_2, tru_2]
    have ht0 : TR isb (F + 1) q I0 A0 ((P * (F + 1) + 0) * (F + 1) ^ m) I (va_up A 2 (upd (A 2) k (nI 0))) := by
      have e9 : (P * (F + 1) + 0) * (F + 1) ^ m = P * (F + 1) ^ (m + 1) := by
        show P * (F + 1) * (F + 1) ^ m = _
        rw [Nat.mul_assoc, ← Nat.pow_succ']
      rw [e9]
      exact ht
    have kw := ihw (P * (F + 1) + 0) I (va_up A 2 (upd (A 2) k (nI 0))) mis hPf ht0 (fun g hg => by
      obtain ⟨w1, w2⟩ := hmis g hg
      rw [uN_step (by omega), if_pos rfl]
      exact ⟨w1, by omega⟩) (fun i hi => by
      show upd (A 2) k (nI 0) i = _
      by_cases e : i = k
      · subst e; rw [upd_self, dg_last (by omega)]
      · rw [upd_ne e, hrow i (by omega), dg_head (by omega) (by omega)])
    refine ks_callV (As := [.ref t, .int (nI (k + 1)), .int (nI q)]) (mc := 0) (ms := 0) (Y' := mX9_walk) eX9_walk_29 l_RX9_40 kX9_walk iX9_walk nX9_walk tr_o rfl rfl (Nat.le_of_ble_eq_true rfl) kw (Nat.zero_le _) (Nat.zero_le _) ?_
    rintro v g9 ⟨rfl, I2, A2, rfl, ht2, b1, b2⟩
    refine wp_ok (cuts := [35]) 30 _ _ _ _ ?_
    simp (config := { maxSteps := 2000000 }) (disch := omega) only [wp_su, wp_0, eX9_walk_0, eX9_walk_1, eX9_walk_2, eX9_walk_5, eX9_walk_6, eX9_walk_7, eX9_walk_10, eX9_walk_11, eX9_walk_12, eX9_walk_15, eX9_walk_16, eX9_walk_17, eX9_walk_20, eX9_walk_21, eX9_walk_22, eX9_walk_23, eX9_walk_24, eX9_walk_25, eX9_walk_26, eX9_walk_27, eX9_walk_28, eX9_walk_29, eX9_walk_32, eX9_walk_33, eX9_walk_35, eX9_walk_37, eX9_walk_38, eX9_walk_41, eX9_walk_44, eX9_walk_45, eX9_walk_48, eX9_walk_50, eX9_walk_51, eX9_walk_53, eX9_walk_54, eX9_walk_57, eX9_walk_59, eX9_walk_60, eX9_walk_61, eX9_walk_64, eX9_walk_66, eX9_walk_67, eX9_walk_70, eX9_walk_71, eX9_walk_74, eX9_walk_76, eX9_walk_77, eX9_walk_78, eX9_walk_79, eX9_walk_82, eX9_walk_84, eX9_walk_85, eX9_walk_86, eX9_walk_87, eX9_walk_88, eX9_walk_91, eX9_walk_92, eX9_walk_94, eX9_walk_95, eX9_walk_96, eX9_walk_97, eX9_walk_98, eX9_walk_99, eX9_walk_100, eX9_walk_101, eX9_walk_104, eX9_walk_105, eX9_walk_108, eX9_walk_110, eX9_walk_111, eX9_walk_112, eX9_walk_113, eX9_walk_116, eX9_walk_118, eX9_walk_119, eX9_walk_120, eX9_walk_121, eX9_walk_124, eX9_walk_127, S_aload_n0, S_aload_n0N, S_aload_n1, S_aload_n1N, S_callV, S_dup2, S_getf, S_goto, S_iadd, S_iald, S_iast, S_icmp_ge, S_icmp_gt, S_icmp_lt, S_iconst, S_iinc_4, S_iload_4, S_iload_5, S_iload_n2, S_iload_n3, S_istore_4, S_istore_5, S_isub, S_return, g_RX9_15, g_RX9_52, g_RX9_57, g_RX9_60, g_RX9_9, iCk_i, iCk_l, iCk_n, iCk_o, iCk_r, iS1_4, iS1_5, jc_0, jc_1, jc_4, aX9_walk, bX9_walk, rX9_walk, nar_i, nar_n0, nar_n1, List.mem_cons, List.not_mem_nil, or_false, or_self, or_true, true_or, false_or, if_false, if_true, true_and, and_true, Nat.reduceEqDiff, Nat.reduceAdd, Nat.reduceLT, reduceIte, iSet_1, iEnt_e, iEn_n, iEn_i, iEn_r, iEn_u, iEn_l, List.cons_append, List.nil_append, List.length_cons, List.length_nil, Nat.reduceSub, List.replicate_succ, List.replicate_zero, Nat.zero_add, nI_lit0, va_up_app, nI_add, nI_mul, nI_sub, nI_clamp, vp_nI, nI_le_t, nI_le_f, nI_lt_t, nI_lt_f, imp_t, imp_f, Option.toList_some, Option.toList_none, not_true_eq_false, not_false_eq_true, iR_t, nar_zI, zI_f0, zI_t0, va_up_same, upd_ne, upd_self]
    refine l_walk (d := d) (k := k) (m := m) (P := P) (mis := mis) hF (by omega) hq hP e0 h1 h2 htg (fun cd hcd => (hisb cd).mp hcd) hT hd hmis hrow ihw F 1 I2 A2 _ (by omega) (by omega) ht2 (fun j hj => (b1 j hj).trans rfl) (fun i hi => ?_)
    rw [b2 i (by omega)]
    show upd (A 2) k (nI 0) i = _
    rw [upd_ne (by omega)]
end CWk
