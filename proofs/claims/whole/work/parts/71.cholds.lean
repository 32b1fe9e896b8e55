/-! The class: whether a Sentence holds of a child; a book lived -/
section CHo
variable {G : iG} {d : Nat} {h : iH} {a e t : Nat} {J : Nat → Int32} {B : Nat → Nat → Int32} {M : Nat → Nat → Int64} {F n U : Nat} {s w : Nat → Int32} {I : Nat → Int32} {A : Nat → Nat → Int32} {Q : Option Value → iH → Prop}
set_option maxRecDepth 20000 in
theorem l_holdsOf {ch c : Nat} {what : Nat → Nat} {sg m : Nat → Int32} {lf : Nat → Bool} (hch : ch < n) (hc : c ≤ 40) (h4 : I 4 = nI c) (hr : ∀ i, i < c → stepR (A 1 i) (A 2 i) (A 3 i) (A 4 i) (what i) (sg i) (m i)) (hlf : ∀ i, i < c → lf i = lfB s n ch (what i) (sg i) (m i)) (hn : n ≤ 6) (hF : F ≤ 8) (ha : plOk s F n) (hA : Blk h a 7 (stE G a n s w)) (hE : Blk h e 5 (seE G e I A)) (hT : TW G h t J B M) (hd : a + 7 ≤ t ∨ t + 11 ≤ a) (hS : TS J B s F n U) : ∀ (k i : Nat) (S : List Bool) (o : Option Value), i + k = c → okN what k i S.length → K G (d + 4) 0 0 mX6_holdsOf 6 [some (.ref e), some (.ref t), some (.ref a), some (.int (nI ch)), some (.int (nI (stV S))), some (.int (nI i)), o] [] h (fun v g => ∃ x, evN lf what k i S = [x] ∧ v = some (.int (zI x)) ∧ g = h) := by
  intro k
  induction k with
  | zero =>
    intro i S o hi ho
    obtain rfl : i = c := by omega
    rw [okN] at ho
    obtain ⟨x, rfl⟩ := List.length_eq_one_iff.mp ho
    have e1 : nI (stV [x]) &&& nI 1 = nI x.toNat := by
      rw [nI_and, show stV [x] = 2 * 0 + x.toNat from rfl, even_and]
    cases x
    · refine wp_ok (cuts := []) 30 _ _ _ _ ?_
      simp (config := { maxSteps := 2000000 }) (disch := omega) only [wp_su, wp_0, eX6_holdsOf_0, eX6_holdsOf_1, eX6_holdsOf_3, eX6_holdsOf_4, eX6_holdsOf_6, eX6_holdsOf_8, eX6_holdsOf_9, eX6_holdsOf_12, eX6_holdsOf_15, eX6_holdsOf_17, eX6_holdsOf_18, eX6_holdsOf_19, eX6_holdsOf_21, eX6_holdsOf_22, eX6_holdsOf_25, eX6_holdsOf_27, eX6_holdsOf_56, eX6_holdsOf_58, eX6_holdsOf_59, eX6_holdsOf_60, eX6_holdsOf_62, eX6_holdsOf_65, eX6_holdsOf_67, eX6_holdsOf_68, eX6_holdsOf_69, eX6_holdsOf_71, eX6_holdsOf_73, eX6_holdsOf_74, eX6_holdsOf_75, eX6_holdsOf_77, eX6_holdsOf_80, eX6_holdsOf_82, eX6_holdsOf_83, eX6_holdsOf_84, eX6_holdsOf_86, eX6_holdsOf_87, eX6_holdsOf_89, eX6_holdsOf_92, eX6_holdsOf_94, eX6_holdsOf_95, eX6_holdsOf_96, eX6_holdsOf_97, eX6_holdsOf_98, eX6_holdsOf_99, eX6_holdsOf_100, eX6_holdsOf_102, eX6_holdsOf_105, eX6_holdsOf_108, eX6_holdsOf_109, eX6_holdsOf_112, eX6_holdsOf_113, eX6_holdsOf_114, eX6_holdsOf_116, eX6_holdsOf_119, eX6_holdsOf_122, eX6_holdsOf_124, eX6_holdsOf_125, eX6_holdsOf_126, eX6_holdsOf_129, eX6_holdsOf_130, eX6_holdsOf_133, eX6_holdsOf_134, S_aload_n0, S_aload_n0N, S_aload_n1, S_aload_n1N, S_aload_n2, S_aload_n2N, S_bipush, S_callV, S_getf, S_goto, S_iald, S_iand, S_icmp_ge, S_iconst, S_if_eq, S_iinc_5, S_iload_4, S_iload_5, S_iload_6, S_iload_n3, S_ior, S_ireturn, S_ishl, S_istore_4, S_istore_5, S_istore_6, S_iushr, S_ixor, g_RX6_11, g_RX6_24, iCk_i, iCk_l, iCk_n, iCk_o, iCk_r, iS1_4, iS1_5, iS1_6, ib_m2, jc_0, jc_1, aX6_holdsOf, bX6_holdsOf, rX6_holdsOf, nar_i, nar_n0, nar_n1, List.mem_cons, List.not_mem_nil, or_false, or_self, if_false, if_true, true_and, and_true, Nat.reduceEqDiff, Nat.reduceAdd, Nat.reduceLT, reduceIte, iSet_1, iEnt_e, iEn_n, iEn_i, iEn_r, iEn_u, iEn_l, List.cons_append, List.nil_append, List.length_cons, List.length_nil, Nat.reduceSub, List.replicate_succ, List.replicate_zero, Nat.zero_add, nI_lit0, va_up_app, nI_add, nI_mul, nI_sub, nI_clamp, vp_nI, nI_le_t, nI_le_f, nI_lt_t, nI_lt_f, imp_t, imp_f, Option.toList_some, Option.toList_none, not_true_eq_false, not_false_eq_true, iR_t, nar_zI, zI_f0, zI_t0, va_up_same, upd_ne, upd_self, seb_o hE, seFs_len, sef_4, h4, e1, Bool.toNat_false]
      exact ⟨false, by rw [evN], rfl⟩
    · refine wp_ok (cuts := []) 30 _ _ _ _ ?_
      simp (config := { maxSteps := 2000000 }) (disch := omega) only [wp_su, wp_0, eX6_holdsOf_0, eX6_holdsOf_1, eX6_holdsOf_3, eX6_holdsOf_4, eX6_holdsOf_6, eX6_holdsOf_8, eX6_holdsOf_9, eX6_holdsOf_12, eX6_holdsOf_15, eX6_holdsOf_17, eX6_holdsOf_18, eX6_holdsOf_19, eX6_holdsOf_21, eX6_holdsOf_22, eX6_holdsOf_25, eX6_holdsOf_27, eX6_holdsOf_56, eX6_holdsOf_58, eX6_holdsOf_59, eX6_holdsOf_60, eX6_holdsOf_62, eX6_holdsOf_65, eX6_holdsOf_67, eX6_holdsOf_68, eX6_holdsOf_69, eX6_holdsOf_71, eX6_holdsOf_73, eX6_holdsOf_74, eX6_holdsOf_75, eX6_holdsOf_77, eX6_holdsOf_80, eX6_holdsOf_82, eX6_holdsOf_83, eX6_holdsOf_84, eX6_holdsOf_86, eX6_holdsOf_87, eX6_holdsOf_89, eX6_holdsOf_92, eX6_holdsOf_94, eX6_holdsOf_95, eX6_holdsOf_96, eX6_holdsOf_97, eX6_holdsOf_98, eX6_holdsOf_99, eX6_holdsOf_100, eX6_holdsOf_102, eX6_holdsOf_105, eX6_holdsOf_108, eX6_holdsOf_109, eX6_holdsOf_112, eX6_holdsOf_113, eX6_holdsOf_114, eX6_holdsOf_116, eX6_holdsOf_119, eX6_holdsOf_122, eX6_holdsOf_124, eX6_holdsOf_125, eX6_holdsOf_126, eX6_holdsOf_129, eX6_holdsOf_130, eX6_holdsOf_133, eX6_holdsOf_134, S_aload_n0, S_aload_n0N, S_aload_n1, S_aload_n1N, S_aload_n2, S_aload_n2N, S_bipush, S_callV, S_getf, S_goto, S_iald, S_iand, S_icmp_ge, S_iconst, S_if_eq, S_iinc_5, S_iload_4, S_iload_5, S_iload_6, S_iload_n3, S_ior, S_ireturn, S_ishl, S_istore_4, S_istore_5, S_istore_6, S_iushr, S_ixor, g_RX6_11, g_RX6_24, iCk_i, iCk_l, iCk_n, iCk_o, iCk_r, iS1_4, iS1_5, iS1_6, ib_m2, jc_0, jc_1, aX6_holdsOf, bX6_holdsOf, rX6_holdsOf, nar_i, nar_n0, nar_n1, List.mem_cons, List.not_mem_nil, or_false, or_self, if_false, if_true, true_and, and_true, Nat.reduceEqDiff, Nat.reduceAdd, Nat.reduceLT, reduceIte, iSet_1, iEnt_e, iEn_n, iEn_i, iEn_r, iEn_u, iEn_l, List.cons_append, List.nil_append, List.length_cons, List.length_nil, Nat.reduceSub, List.replicate_succ, List.replicate_zero, Nat.zero_add, nI_lit0, va_up_app, nI_add, nI_mul, nI_sub, nI_clamp, vp_nI, nI_le_t, nI_le_f, nI_lt_t, nI_lt_f, imp_t, imp_f, Option.toList_some, Option.toList_none, not_true_eq_false, not_false_eq_true, iR_t, nar_zI, zI_f0, zI_t0, va_up_same, upd_ne, upd_self, seb_o hE, seFs_len, sef_4, h4, e1, Bool.toNat_true, n10]
      exact ⟨true, by rw [evN], rfl⟩
  | succ k ih =>
    intro i S o hi ho
    have hri := hr i (by omega)
    rw [okN] at ho
    obtain ⟨h20, ho⟩ := ho
    have hsm := stV_small (S := S) (by omega)
    refine wp_ok (cuts := [28]) 30 _ _ _ _ ?_
    simp (config := { maxSteps := 2000000 }) (disch := omega) only [wp_su, wp_0, eX6_holdsOf_0, eX6_holdsOf_1, eX6_holdsOf_3, eX6_holdsOf_4, eX6_holdsOf_6, eX6_holdsOf_8, eX6_holdsOf_9, eX6_holdsOf_12, eX6_holdsOf_15, eX6_holdsOf_17, eX6_holdsOf_18, eX6_holdsOf_19, eX6_holdsOf_21, eX6_holdsOf_22, eX6_holdsOf_25, eX6_holdsOf_27, eX6_holdsOf_56, eX6_holdsOf_58, eX6_holdsOf_59, eX6_holdsOf_60, eX6_holdsOf_62, eX6_holdsOf_65, eX6_holdsOf_67, eX6_holdsOf_68, eX6_holdsOf_69, eX6_holdsOf_71, eX6_holdsOf_73, eX6_holdsOf_74, eX6_holdsOf_75, eX6_holdsOf_77, eX6_holdsOf_80, eX6_holdsOf_82, eX6_holdsOf_83, eX6_holdsOf_84, eX6_holdsOf_86, eX6_holdsOf_87, eX6_holdsOf_89, eX6_holdsOf_92, eX6_holdsOf_94, eX6_holdsOf_95, eX6_holdsOf_96, eX6_holdsOf_97, eX6_holdsOf_98, eX6_holdsOf_99, eX6_holdsOf_100, eX6_holdsOf_102, eX6_holdsOf_105, eX6_holdsOf_108, eX6_holdsOf_109, eX6_holdsOf_112, eX6_holdsOf_113, eX6_holdsOf_114, eX6_holdsOf_116, eX6_holdsOf_119, eX6_holdsOf_122, eX6_holdsOf_124, eX6_holdsOf_125, eX6_holdsOf_126, eX6_holdsOf_129, eX6_holdsOf_130, eX6_holdsOf_133, eX6_holdsOf_134, S_aload_n0, S_aload_n0N, S_aload_n1, S_aload_n1N, S_aload_n2, S_aload_n2N, S_bipush, S_callV, S_getf, S_goto, S_iald, S_iand, S_icmp_ge, S_iconst, S_if_eq, S_iinc_5, S_iload_4, S_iload_5, S_iload_6, S_iload_n3, S_ior, S_ireturn, S_ishl, S_istore_4, S_istore_5, S_istore_6, S_iushr, S_ixor, g_RX6_11, g_RX6_24, iCk_i, iCk_l, iCk_n, iCk_o, iCk_r, iS1_4, iS1_5, iS1_6, ib_m2, jc_0, jc_1, aX6_holdsOf, bX6_holdsOf, rX6_holdsOf, nar_i, nar_n0, nar_n1, List.mem_cons, List.not_mem_nil, or_false, or_self, if_false, if_true, true_and, and_true, Nat.reduceEqDiff, Nat.reduceAdd, Nat.reduceLT, reduceIte, iSet_1, iEnt_e, iEn_n, iEn_i, iEn_r, iEn_u, iEn_l, List.cons_append, List.nil_append, List.length_cons, List.length_nil, Nat.reduceSub, List.replicate_succ, List.replicate_zero, Nat.zero_add, nI_lit0, va_up_app, nI_add, nI_mul, nI_sub, nI_clamp, vp_nI, nI_le_t, nI_le_f, nI_lt_t, nI_lt_f, imp_t, imp_f, Option.toList_some, Option.toList_none, not_true_eq_false, not_false_eq_true, iR_t, nar_zI, zI_f0, zI_t0, va_up_same, upd_ne, upd_self, seb_o hE, seFs_len, sef_0, seb_1 hE, sef_4, h4]
    rw [evN]
    unfold evS
    by_cases g1 : what i = 20
    · rw [if_pos g1] at ho ⊢
      obtain ⟨hpos, ho⟩ := ho
      cases S with
      | nil => simp at hpos
      | cons x S =>
        have e0 : A 1 i = nI (6 + 0) := by
          rcases hri with ⟨q, _⟩ | ⟨_, q, _⟩ | ⟨_, q, _⟩ | ⟨_, _, q⟩
          · omega
          · omega
          · omega
          · rw [q, g1]
        rw [e0]
        refine ks_tswK (b := 6) (k := 0) (t := 56) eX6_holdsOf_28 [56, 65, 80] 92 rfl rfl rfl rfl rfl (by omega) ?_
        have e9 : nI (stV (x :: S)) ^^^ nI 1 = nI (stV ((!x) :: S)) := by
          rw [nI_xor, stV, even_xor, stV]
        refine wp_ok (cuts := [6]) 30 _ _ _ _ ?_
        simp (config := { maxSteps := 2000000 }) (disch := omega) only [wp_su, wp_0, eX6_holdsOf_0, eX6_holdsOf_1, eX6_holdsOf_3, eX6_holdsOf_4, eX6_holdsOf_6, eX6_holdsOf_8, eX6_holdsOf_9, eX6_holdsOf_12, eX6_holdsOf_15, eX6_holdsOf_17, eX6_holdsOf_18, eX6_holdsOf_19, eX6_holdsOf_21, eX6_holdsOf_22, eX6_holdsOf_25, eX6_holdsOf_27, eX6_holdsOf_56, eX6_holdsOf_58, eX6_holdsOf_59, eX6_holdsOf_60, eX6_holdsOf_62, eX6_holdsOf_65, eX6_holdsOf_67, eX6_holdsOf_68, eX6_holdsOf_69, eX6_holdsOf_71, eX6_holdsOf_73, eX6_holdsOf_74, eX6_holdsOf_75, eX6_holdsOf_77, eX6_holdsOf_80, eX6_holdsOf_82, eX6_holdsOf_83, eX6_holdsOf_84, eX6_holdsOf_86, eX6_holdsOf_87, eX6_holdsOf_89, eX6_holdsOf_92, eX6_holdsOf_94, eX6_holdsOf_95, eX6_holdsOf_96, eX6_holdsOf_97, eX6_holdsOf_98, eX6_holdsOf_99, eX6_holdsOf_100, eX6_holdsOf_102, eX6_holdsOf_105, eX6_holdsOf_108, eX6_holdsOf_109, eX6_holdsOf_112, eX6_holdsOf_113, eX6_holdsOf_114, eX6_holdsOf_116, eX6_holdsOf_119, eX6_holdsOf_122, eX6_holdsOf_124, eX6_holdsOf_125, eX6_holdsOf_126, eX6_holdsOf_129, eX6_holdsOf_130, eX6_holdsOf_133, eX6_holdsOf_134, S_aload_n0, S_aload_n0N, S_aload_n1, S_aload_n1N, S_aload_n2, S_aload_n2N, S_bipush, S_callV, S_getf, S_goto, S_iald, S_iand, S_icmp_ge, S_iconst, S_if_eq, S_iinc_5, S_iload_4, S_iload_5, S_iload_6, S_iload_n3, S_ior, S_ireturn, S_ishl, S_istore_4, S_istore_5, S_istore_6, S_iushr, S_ixor, g_RX6_11, g_RX6_24, iCk_i, iCk_l, iCk_n, iCk_o, iCk_r, iS1_4, iS1_5, iS1_6, ib_m2, jc_0, jc_1, aX6_holdsOf, bX6_holdsOf, rX6_holdsOf, nar_i, nar_n0, nar_n1, List.mem_cons, List.not_mem_nil, or_false, or_self, if_false, if_true, true_and, and_true, Nat.reduceEqDiff, Nat.reduceAdd, Nat.reduceLT, reduceIte, iSet_1, iEnt_e, iEn_n, iEn_i, iEn_r, iEn_u, iEn_l, List.cons_append, List.nil_append, List.length_cons, List.length_nil, Nat.reduceSub, List.replicate_succ, List.replicate_zero, Nat.zero_add, nI_lit0, va_up_app, nI_add, nI_mul, nI_sub, nI_clamp, vp_nI, nI_le_t, nI_le_f, nI_lt_t, nI_lt_f, imp_t, imp_f, Option.toList_some, Option.toList_none, not_true_eq_false, not_false_eq_true, iR_t, nar_zI, zI_f0, zI_t0, va_up_same, upd_ne, upd_self, e9]
        exact ih (i + 1) ((!x) :: S) _ (by omega) (by simpa using ho)
    rw [if_neg g1] at ho ⊢
    by_cases g2 : what i = 21
    · rw [if_pos (Or.inl g2)] at ho
      rw [if_pos g2]
      obtain ⟨hpos, ho⟩ := ho
      match S, hpos, ho, hsm, h20 with
      | [], hpos, _, _, _ => simp at hpos
      | [_], hpos, _, _, _ => simp at hpos
      | y :: x :: S, hpos, ho, hsm, h20 =>
        have e0 : A 1 i = nI (6 + 1) := by
          rcases hri with ⟨q, _⟩ | ⟨_, q, _⟩ | ⟨_, q, _⟩ | ⟨_, _, q⟩
          · omega
          · omega
          · omega
          · rw [q, g2]
        rw [e0]
        refine ks_tswK (b := 6) (k := 1) (t := 65) eX6_holdsOf_28 [56, 65, 80] 92 rfl rfl rfl rfl rfl (by omega) ?_
        have e9 : nI (stV (y :: x :: S)) &&& nI 1 = nI y.toNat := by rw [nI_and, stV, even_and]
        have e10 : ((nI (stV (y :: x :: S))).toUInt32 >>> ((nI 1).toUInt32 &&& Int32.toUInt32 31)).toInt32 = nI (2 * stV S + x.toNat) := by
          rw [ushr1 (by omega)]
          congr 1
          rw [stV, stV]
          cases y <;> simp <;> omega
        have hb : 2 * stV S + 1 < 2 ^ 31 := by
          have := hsm
          rw [stV, stV] at this
          omega
        have e11 : nI (2 * stV S + x.toNat) &&& (nI y.toNat ||| (-2)) = nI (stV ((x && y) :: S)) := by
          cases y
          · rw [show nI (false).toNat ||| (-2 : Int32) = -2 by decide +kernel, and_m2 hb, Bool.and_false, stV]
            rfl
          · rw [show nI (true).toNat ||| (-2 : Int32) = -1 by decide +kernel, and_m1, Bool.and_true, stV]
        refine wp_ok (cuts := [6]) 30 _ _ _ _ ?_
        simp (config := { maxSteps := 2000000 }) (disch := omega) only [wp_su, wp_0, eX6_holdsOf_0, eX6_holdsOf_1, eX6_holdsOf_3, eX6_holdsOf_4, eX6_holdsOf_6, eX6_holdsOf_8, eX6_holdsOf_9, eX6_holdsOf_12, eX6_holdsOf_15, eX6_holdsOf_17, eX6_holdsOf_18, eX6_holdsOf_19, eX6_holdsOf_21, eX6_holdsOf_22, eX6_holdsOf_25, eX6_holdsOf_27, eX6_holdsOf_56, eX6_holdsOf_58, eX6_holdsOf_59, eX6_holdsOf_60, eX6_holdsOf_62, eX6_holdsOf_65, eX6_holdsOf_67, eX6_holdsOf_68, eX6_holdsOf_69, eX6_holdsOf_71, eX6_holdsOf_73, eX6_holdsOf_74, eX6_holdsOf_75, eX6_holdsOf_77, eX6_holdsOf_80, eX6_holdsOf_82, eX6_holdsOf_83, eX6_holdsOf_84, eX6_holdsOf_86, eX6_holdsOf_87, eX6_holdsOf_89, eX6_holdsOf_92, eX6_holdsOf_94, eX6_holdsOf_95, eX6_holdsOf_96, eX6_holdsOf_97, eX6_holdsOf_98, eX6_holdsOf_99, eX6_holdsOf_100, eX6_holdsOf_102, eX6_holdsOf_105, eX6_holdsOf_108, eX6_holdsOf_109, eX6_holdsOf_112, eX6_holdsOf_113, eX6_holdsOf_114, eX6_holdsOf_116, eX6_holdsOf_119, eX6_holdsOf_122, eX6_holdsOf_124, eX6_holdsOf_125, eX6_holdsOf_126, eX6_holdsOf_129, eX6_holdsOf_130, eX6_holdsOf_133, eX6_holdsOf_134, S_aload_n0, S_aload_n0N, S_aload_n1, S_aload_n1N, S_aload_n2, S_aload_n2N, S_bipush, S_callV, S_getf, S_goto, S_iald, S_iand, S_icmp_ge, S_iconst, S_if_eq, S_iinc_5, S_iload_4, S_iload_5, S_iload_6, S_iload_n3, S_ior, S_ireturn, S_ishl, S_istore_4, S_istore_5, S_istore_6, S_iushr, S_ixor, g_RX6_11, g_RX6_24, iCk_i, iCk_l, iCk_n, iCk_o, iCk_r, iS1_4, iS1_5, iS1_6, ib_m2, jc_0, jc_1, aX6_holdsOf, bX6_holdsOf, rX6_holdsOf, nar_i, nar_n0, nar_n1, List.mem_cons, List.not_mem_nil, or_false, or_self, if_false, if_true, true_and, and_true, Nat.reduceEqDiff, Nat.reduceAdd, Nat.reduceLT, reduceIte, iSet_1, iEnt_e, iEn_n, iEn_i, iEn_r, iEn_u, iEn_l, List.cons_append, List.nil_append, List.length_cons, List.length_nil, Nat.reduceSub, List.replicate_succ, List.replicate_zero, Nat.zero_add, nI_lit0, va_up_app, nI_add, nI_mul, nI_sub, nI_clamp, vp_nI, nI_le_t, nI_le_f, nI_lt_t, nI_lt_f, imp_t, imp_f, Option.toList_some, Option.toList_none, not_true_eq_false, not_false_eq_true, iR_t, nar_zI, zI_f0, zI_t0, va_up_same, upd_ne, upd_self, e9, e10, e11]
        exact ih (i + 1) ((x && y) :: S) _ (by omega) (by simpa using ho)
    rw [if_neg g2]
    by_cases g3 : what i = 22
    · rw [if_pos (Or.inr g3)] at ho
      rw [if_pos g3]
      obtain ⟨hpos, ho⟩ := ho
      match S, hpos, ho, hsm, h20 with
      | [], hpos, _, _, _ => simp at hpos
      | [_], hpos, _, _, _ => simp at hpos
      | y :: x :: S, hpos, ho, hsm, h20 =>
        have e0 : A 1 i = nI (6 + 2) := by
          rcases hri with ⟨q, _⟩ | ⟨_, q, _⟩ | ⟨_, q, _⟩ | ⟨_, _, q⟩
          · omega
          · omega
          · omega
          · rw [q, g3]
        rw [e0]
        refine ks_tswK (b := 6) (k := 2) (t := 80) eX6_holdsOf_28 [56, 65, 80] 92 rfl rfl rfl rfl rfl (by omega) ?_
        have e9 : nI (stV (y :: x :: S)) &&& nI 1 = nI y.toNat := by rw [nI_and, stV, even_and]
        have e10 : ((nI (stV (y :: x :: S))).toUInt32 >>> ((nI 1).toUInt32 &&& Int32.toUInt32 31)).toInt32 = nI (2 * stV S + x.toNat) := by
          rw [ushr1 (by omega)]
          congr 1
          rw [stV, stV]
          cases y <;> simp <;> omega
        have e11 : nI (2 * stV S + x.toNat) ||| nI y.toNat = nI (stV ((x || y) :: S)) := by
          rw [nI_or, stV]
          congr 1
          cases y
          · simp
          · rw [Bool.or_true, ← even_or, ← even_or, Nat.or_assoc]
            congr 1
            cases x <;> rfl
        refine wp_ok (cuts := [6]) 30 _ _ _ _ ?_
        simp (config := { maxSteps := 2000000 }) (disch := omega) only [wp_su, wp_0, eX6_holdsOf_0, eX6_holdsOf_1, eX6_holdsOf_3, eX6_holdsOf_4, eX6_holdsOf_6, eX6_holdsOf_8, eX6_holdsOf_9, eX6_holdsOf_12, eX6_holdsOf_15, eX6_holdsOf_17, eX6_holdsOf_18, eX6_holdsOf_19, eX6_holdsOf_21, eX6_holdsOf_22, eX6_holdsOf_25, eX6_holdsOf_27, eX6_holdsOf_56, eX6_holdsOf_58, eX6_holdsOf_59, eX6_holdsOf_60, eX6_holdsOf_62, eX6_holdsOf_65, eX6_holdsOf_67, eX6_holdsOf_68, eX6_holdsOf_69, eX6_holdsOf_71, eX6_holdsOf_73, eX6_holdsOf_74, eX6_holdsOf_75, eX6_holdsOf_77, eX6_holdsOf_80, eX6_holdsOf_82, eX6_holdsOf_83, eX6_holdsOf_84, eX6_holdsOf_86, eX6_holdsOf_87, eX6_holdsOf_89, eX6_holdsOf_92, eX6_holdsOf_94, eX6_holdsOf_95, eX6_holdsOf_96, eX6_holdsOf_97, eX6_holdsOf_98, eX6_holdsOf_99, eX6_holdsOf_100, eX6_holdsOf_102, eX6_holdsOf_105, eX6_holdsOf_108, eX6_holdsOf_109, eX6_holdsOf_112, eX6_holdsOf_113, eX6_holdsOf_114, eX6_holdsOf_116, eX6_holdsOf_119, eX6_holdsOf_122, eX6_holdsOf_124, eX6_holdsOf_125, eX6_holdsOf_126, eX6_holdsOf_129, eX6_holdsOf_130, eX6_holdsOf_133, eX6_holdsOf_134, S_aload_n0, S_aload_n0N, S_aload_n1, S_aload_n1N, S_aload_n2, S_aload_n2N, S_bipush, S_callV, S_getf, S_goto, S_iald, S_iand, S_icmp_ge, S_iconst, S_if_eq, S_iinc_5, S_iload_4, S_iload_5, S_iload_6, S_iload_n3, S_ior, S_ireturn, S_ishl, S_istore_4, S_istore_5, S_istore_6, S_iushr, S_ixor, g_RX6_11, g_RX6_24, iCk_i, iCk_l, iCk_n, iCk_o, iCk_r, iS1_4, iS1_5, iS1_6, ib_m2, jc_0, jc_1, aX6_holdsOf, bX6_holdsOf, rX6_holdsOf, nar_i, nar_n0, nar_n1, List.mem_cons, List.not_mem_nil, or_false, or_self, if_false, if_true, true_and, and_true, Nat.reduceEqDiff, Nat.reduceAdd, Nat.reduceLT, reduceIte, iSet_1, iEnt_e, iEn_n, iEn_i, iEn_r, iEn_u, iEn_l, List.cons_append, List.nil_append, List.length_cons, List.length_nil, Nat.reduceSub, List.replicate_succ, List.replicate_zero, Nat.zero_add, nI_lit0, va_up_app, nI_add, nI_mul, nI_sub, nI_clamp, vp_nI, nI_le_t, nI_le_f, nI_lt_t, nI_lt_f, imp_t, imp_f, Option.toList_some, Option.toList_none, not_true_eq_false, not_false_eq_true, iR_t, nar_zI, zI_f0, zI_t0, va_up_same, upd_ne, upd_self, e9, e10, e11]
        exact ih (i + 1) ((x || y) :: S) _ (by omega) (by simpa using ho)
    rw [if_neg g3]
    rw [if_neg (by omega)] at ho
    obtain ⟨h13, ho⟩ := ho
    have hx : (A 1 i).toInt < 6 ∨ 8 < (A 1 i).toInt := by
      left
      rcases hri with ⟨q, q2, _⟩ | ⟨_, q, q2, _⟩ | ⟨_, q, q2, _⟩ | ⟨q, _, _⟩
      · rw [q2, nI_toInt (by omega)]; omega
      · rw [q2, nI_toInt (by omega)]; omega
      · rw [q2, nI_toInt (by omega)]; omega
      · omega
    refine ks_tswE eX6_holdsOf_28 [56, 65, 80] 92 rfl rfl rfl hx ?_
    refine wp_ok (cuts := []) 30 _ _ _ _ ?_
    simp (config := { maxSteps := 2000000 }) (disch := omega) only [wp_su, wp_0, eX6_holdsOf_0, eX6_holdsOf_1, eX6_holdsOf_3, eX6_holdsOf_4, eX6_holdsOf_6, eX6_holdsOf_8, eX6_holdsOf_9, eX6_holdsOf_12, eX6_holdsOf_15, eX6_holdsOf_17, eX6_holdsOf_18, eX6_holdsOf_19, eX6_holdsOf_21, eX6_holdsOf_22, eX6_holdsOf_25, eX6_holdsOf_27, eX6_holdsOf_56, eX6_holdsOf_58, eX6_holdsOf_59, eX6_holdsOf_60, eX6_holdsOf_62, eX6_holdsOf_65, eX6_holdsOf_67, eX6_holdsOf_68, eX6_holdsOf_69, eX6_holdsOf_71, eX6_holdsOf_73, eX6_holdsOf_74, eX6_holdsOf_75, eX6_holdsOf_77, eX6_holdsOf_80, eX6_holdsOf_82, eX6_holdsOf_83, eX6_holdsOf_84, eX6_holdsOf_86, eX6_holdsOf_87, eX6_holdsOf_89, eX6_holdsOf_92, eX6_holdsOf_94, eX6_holdsOf_95, eX6_holdsOf_96, eX6_holdsOf_97, eX6_holdsOf_98, eX6_holdsOf_99, eX6_holdsOf_100, eX6_holdsOf_102, eX6_holdsOf_105, eX6_holdsOf_108, eX6_holdsOf_109, eX6_holdsOf_112, eX6_holdsOf_113, eX6_holdsOf_114, eX6_holdsOf_116, eX6_holdsOf_119, eX6_holdsOf_122, eX6_holdsOf_124, eX6_holdsOf_125, eX6_holdsOf_126, eX6_holdsOf_129, eX6_holdsOf_130, eX6_holdsOf_133, eX6_holdsOf_134, S_aload_n0, S_aload_n0N, S_aload_n1, S_aload_n1N, S_aload_n2, S_aload_n2N, S_bipush, S_callV, S_getf, S_goto, S_iald, S_iand, S_icmp_ge, S_iconst, S_if_eq, S_iinc_5, S_iload_4, S_iload_5, S_iload_6, S_iload_n3, S_ior, S_ireturn, S_ishl, S_istore_4, S_istore_5, S_istore_6, S_iushr, S_ixor, g_RX6_11, g_RX6_24, iCk_i, iCk_l, iCk_n, iCk_o, iCk_r, iS1_4, iS1_5, iS1_6, ib_m2, jc_0, jc_1, aX6_holdsOf, bX6_holdsOf, rX6_holdsOf, nar_i, nar_n0, nar_n1, List.mem_cons, List.not_mem_nil, or_false, or_self, if_false, if_true, true_and, and_true, Nat.reduceEqDiff, Nat.reduceAdd, Nat.reduceLT, reduceIte, iSet_1, iEnt_e, iEn_n, iEn_i, iEn_r, iEn_u, iEn_l, List.cons_append, List.nil_append, List.length_cons, List.length_nil, Nat.reduceSub, List.replicate_succ, List.replicate_zero, Nat.zero_add, nI_lit0, va_up_app, nI_add, nI_mul, nI_sub, nI_clamp, vp_nI, nI_le_t, nI_le_f, nI_lt_t, nI_lt_f, imp_t, imp_f, Option.toList_some, Option.toList_none, not_true_eq_false, not_false_eq_true, iR_t, nar_zI, zI_f0, zI_t0, va_up_same, upd_ne, upd_self]
    refine dV4 (Y' := mX6_isTrue) eX6_holdsOf_102 l_RX6_137 kX6_isTrue iX6_isTrue nX6_isTrue (seb_o hE) rfl rfl (Nat.le_of_ble_eq_true rfl) (c_isTrue hch (by omega) h13 hri hn hF ha hA hE hT hd hS) ?_
    rw [← hlf i (by omega)]
    have e11 : nI (2 * stV S) ||| nI (lf i).toNat = nI (stV (lf i :: S)) := by rw [nI_or, even_or, stV]
    have k9 := ih (i + 1) (lf i :: S)
    rw [← e11] at k9
    generalize lf i = x at k9 ⊢
    cases x
    · refine wp_ok (cuts := [6]) 30 _ _ _ _ ?_
      simp (config := { maxSteps := 2000000 }) (disch := omega) only [wp_su, wp_0, eX6_holdsOf_0, eX6_holdsOf_1, eX6_holdsOf_3, eX6_holdsOf_4, eX6_holdsOf_6, eX6_holdsOf_8, eX6_holdsOf_9, eX6_holdsOf_12, eX6_holdsOf_15, eX6_holdsOf_17, eX6_holdsOf_18, eX6_holdsOf_19, eX6_holdsOf_21, eX6_holdsOf_22, eX6_holdsOf_25, eX6_holdsOf_27, eX6_holdsOf_56, eX6_holdsOf_58, eX6_holdsOf_59, eX6_holdsOf_60, eX6_holdsOf_62, eX6_holdsOf_65, eX6_holdsOf_67, eX6_holdsOf_68, eX6_holdsOf_69, eX6_holdsOf_71, eX6_holdsOf_73, eX6_holdsOf_74, eX6_holdsOf_75, eX6_holdsOf_77, eX6_holdsOf_80, eX6_holdsOf_82, eX6_holdsOf_83, eX6_holdsOf_84, eX6_holdsOf_86, eX6_holdsOf_87, eX6_holdsOf_89, eX6_holdsOf_92, eX6_holdsOf_94, eX6_holdsOf_95, eX6_holdsOf_96, eX6_holdsOf_97, eX6_holdsOf_98, eX6_holdsOf_99, eX6_holdsOf_100, eX6_holdsOf_102, eX6_holdsOf_105, eX6_holdsOf_108, eX6_holdsOf_109, eX6_holdsOf_112, eX6_holdsOf_113, eX6_holdsOf_114, eX6_holdsOf_116, eX6_holdsOf_119, eX6_holdsOf_122, eX6_holdsOf_124, eX6_holdsOf_125, eX6_holdsOf_126, eX6_holdsOf_129, eX6_holdsOf_130, eX6_holdsOf_133, eX6_holdsOf_134, S_aload_n0, S_aload_n0N, S_aload_n1, S_aload_n1N, S_aload_n2, S_aload_n2N, S_bipush, S_callV, S_getf, S_goto, S_iald, S_iand, S_icmp_ge, S_iconst, S_if_eq, S_iinc_5, S_iload_4, S_iload_5, S_iload_6, S_iload_n3, S_ior, S_ireturn, S_ishl, S_istore_4, S_istore_5, S_istore_6, S_iushr, S_ixor, g_RX6_11, g_RX6_24, iCk_i, iCk_l, iCk_n, iCk_o, iCk_r, iS1_4, iS1_5, iS1_6, ib_m2, jc_0, jc_1, aX6_holdsOf, bX6_holdsOf, rX6_holdsOf, nar_i, nar_n0, nar_n1, List.mem_cons, List.not_mem_nil, or_false, or_self, if_false, if_true, true_and, and_true, Nat.reduceEqDiff, Nat.reduceAdd, Nat.reduceLT, reduceIte, iSet_1, iEnt_e, iEn_n, iEn_i, iEn_r, iEn_u, iEn_l, List.cons_append, List.nil_append, List.length_cons, List.length_nil, Nat.reduceSub, List.replicate_succ, List.replicate_zero, Nat.zero_add, nI_lit0, va_up_app, nI_add, nI_mul, nI_sub, nI_clamp, vp_nI, nI_le_t, nI_le_f, nI_lt_t, nI_lt_f, imp_t, imp_f, Option.toList_some, Option.toList_none, not_true_eq_false, not_false_eq_true, iR_t, nar_zI, zI_f0, zI_t0, va_up_same, upd_ne, upd_self, nI_shl1, Bool.toNat_false]
      exact k9 _ (by omega) ho
    · refine wp_ok (cuts := [6]) 30 _ _ _ _ ?_
      simp (config := { maxSteps := 2000000 }) (disch := omega) only [wp_su, wp_0, eX6_holdsOf_0, eX6_holdsOf_1, eX6_holdsOf_3, eX6_holdsOf_4, eX6_holdsOf_6, eX6_holdsOf_8, eX6_holdsOf_9, eX6_holdsOf_12, eX6_holdsOf_15, eX6_holdsOf_17, eX6_holdsOf_18, eX6_holdsOf_19, eX6_holdsOf_21, eX6_holdsOf_22, eX6_holdsOf_25, eX6_holdsOf_27, eX6_holdsOf_56, eX6_holdsOf_58, eX6_holdsOf_59, eX6_holdsOf_60, eX6_holdsOf_62, eX6_holdsOf_65, eX6_holdsOf_67, eX6_holdsOf_68, eX6_holdsOf_69, eX6_holdsOf_71, eX6_holdsOf_73, eX6_holdsOf_74, eX6_holdsOf_75, eX6_holdsOf_77, eX6_holdsOf_80, eX6_holdsOf_82, eX6_holdsOf_83, eX6_holdsOf_84, eX6_holdsOf_86, eX6_holdsOf_87, eX6_holdsOf_89, eX6_holdsOf_92, eX6_holdsOf_94, eX6_holdsOf_95, eX6_holdsOf_96, eX6_holdsOf_97, eX6_holdsOf_98, eX6_holdsOf_99, eX6_holdsOf_100, eX6_holdsOf_102, eX6_holdsOf_105, eX6_holdsOf_108, eX6_holdsOf_109, eX6_holdsOf_112, eX6_holdsOf_113, eX6_holdsOf_114, eX6_holdsOf_116, eX6_holdsOf_119, eX6_holdsOf_122, eX6_holdsOf_124, eX6_holdsOf_125, eX6_holdsOf_126, eX6_holdsOf_129, eX6_holdsOf_130, eX6_holdsOf_133, eX6_holdsOf_134, S_aload_n0, S_aload_n0N, S_aload_n1, S_aload_n1N, S_aload_n2, S_aload_n2N, S_bipush, S_callV, S_getf, S_goto, S_iald, S_iand, S_icmp_ge, S_iconst, S_if_eq, S_iinc_5, S_iload_4, S_iload_5, S_iload_6, S_iload_n3, S_ior, S_ireturn, S_ishl, S_istore_4, S_istore_5, S_istore_6, S_iushr, S_ixor, g_RX6_11, g_RX6_24, iCk_i, iCk_l, iCk_n, iCk_o, iCk_r, iS1_4, iS1_5, iS1_6, ib_m2, jc_0, jc_1, aX6_holdsOf, bX6_holdsOf, rX6_holdsOf, nar_i, nar_n0, nar_n1, List.mem_cons, List.not_mem_nil, or_false, or_self, if_false, if_true, true_and, and_true, Nat.reduceEqDiff, Nat.reduceAdd, Nat.reduceLT, reduceIte, iSet_1, iEnt_e, iEn_n, iEn_i, iEn_r, iEn_u, iEn_l, List.cons_append, List.nil_append, List.length_cons, List.length_nil, Nat.reduceSub, List.replicate_succ, List.replicate_zero, Nat.zero_add, nI_lit0, va_up_app, nI_add, nI_mul, nI_sub, nI_clamp, vp_nI, nI_le_t, nI_le_f, nI_lt_t, nI_lt_f, imp_t, imp_f, Option.toList_some, Option.toList_none, not_true_eq_false, not_false_eq_true, iR_t, nar_zI, zI_f0, zI_t0, va_up_same, upd_ne, upd_self, nI_shl1, Bool.toNat_true]
      exact k9 _ (by omega) ho
theorem c_holdsOf {ch c : Nat} {what : Nat → Nat} {sg m : Nat → Int32} {lf : Nat → Bool} (hch : ch < n) (hc : c ≤ 40) (h4 : I 4 = nI c) (hr : ∀ i, i < c → stepR (A 1 i) (A 2 i) (A 3 i) (A 4 i) (what i) (sg i) (m i)) (hlf : ∀ i, i < c → lf i = lfB s n ch (what i) (sg i) (m i)) (ho : okN what c 0 0) (hn : n ≤ 6) (hF : F ≤ 8) (ha : plOk s F n) (hA : Blk h a 7 (stE G a n s w)) (hE : Blk h e 5 (seE G e I A)) (hT : TW G h t J B M) (hd : a + 7 ≤ t ∨ t + 11 ≤ a) (hS : TS J B s F n U) : C G (d + 4) 0 0 mX6_holdsOf [.ref e, .ref t, .ref a, .int (nI ch)] h (fun v g => ∃ x, evN lf what c 0 [] = [x] ∧ v = some (.int (zI x)) ∧ g = h) := by
  refine C_in p_RX6 (Nat.le_of_ble_eq_true rfl) rfl ?_
  refine wp_ok (cuts := [6]) 30 _ _ _ _ ?_
  simp (config := { maxSteps := 2000000 }) (disch := omega) only [wp_su, wp_0, eX6_holdsOf_0, eX6_holdsOf_1, eX6_holdsOf_3, eX6_holdsOf_4, eX6_holdsOf_6, eX6_holdsOf_8, eX6_holdsOf_9, eX6_holdsOf_12, eX6_holdsOf_15, eX6_holdsOf_17, eX6_holdsOf_18, eX6_holdsOf_19, eX6_holdsOf_21, eX6_holdsOf_22, eX6_holdsOf_25, eX6_holdsOf_27, eX6_holdsOf_56, eX6_holdsOf_58, eX6_holdsOf_59, eX6_holdsOf_60, eX6_holdsOf_62, eX6_holdsOf_65, eX6_holdsOf_67, eX6_holdsOf_68, eX6_holdsOf_69, eX6_holdsOf_71, eX6_holdsOf_73, eX6_holdsOf_74, eX6_holdsOf_75, eX6_holdsOf_77, eX6_holdsOf_80, eX6_holdsOf_82, eX6_holdsOf_83, eX6_holdsOf_84, eX6_holdsOf_86, eX6_holdsOf_87, eX6_holdsOf_89, eX6_holdsOf_92, eX6_holdsOf_94, eX6_holdsOf_95, eX6_holdsOf_96, eX6_holdsOf_97, eX6_holdsOf_98, eX6_holdsOf_99, eX6_holdsOf_100, eX6_holdsOf_102, eX6_holdsOf_105, eX6_holdsOf_108, eX6_holdsOf_109, eX6_holdsOf_112, eX6_holdsOf_113, eX6_holdsOf_114, eX6_holdsOf_116, eX6_holdsOf_119, eX6_holdsOf_122, eX6_holdsOf_124, eX6_holdsOf_125, eX6_holdsOf_126, eX6_holdsOf_129, eX6_holdsOf_130, eX6_holdsOf_133, eX6_holdsOf_134, S_aload_n0, S_aload_n0N, S_aload_n1, S_aload_n1N, S_aload_n2, S_aload_n2N, S_bipush, S_callV, S_getf, S_goto, S_iald, S_iand, S_icmp_ge, S_iconst, S_if_eq, S_iinc_5, S_iload_4, S_iload_5, S_iload_6, S_iload_n3, S_ior, S_ireturn, S_ishl, S_istore_4, S_istore_5, S_istore_6, S_iushr, S_ixor, g_RX6_11, g_RX6_24, iCk_i, iCk_l, iCk_n, iCk_o, iCk_r, iS1_4, iS1_5, iS1_6, ib_m2, jc_0, jc_1, aX6_holdsOf, bX6_holdsOf, rX6_holdsOf, nar_i, nar_n0, nar_n1, List.mem_cons, List.not_mem_nil, or_false, or_self, if_false, if_true, true_and, and_true, Nat.reduceEqDiff, Nat.reduceAdd, Nat.reduceLT, reduceIte, iSet_1, iEnt_e, iEn_n, iEn_i, iEn_r, iEn_u, iEn_l, List.cons_append, List.nil_append, List.length_cons, List.length_nil, Nat.reduceSub, List.replicate_succ, List.replicate_zero, Nat.zero_add, nI_lit0, va_up_app, nI_add, nI_mul, nI_sub, nI_clamp, vp_nI, nI_le_t, nI_le_f, nI_lt_t, nI_lt_f, imp_t, imp_f, Option.toList_some, Option.toList_none, not_true_eq_false, not_false_eq_true, iR_t, nar_zI, zI_f0, zI_t0, va_up_same, upd_ne, upd_self]
  exact l_holdsOf hch hc h4 hr hlf hn hF ha hA hE hT hd hS c 0 [] _ (by omega) ho
end CHo
