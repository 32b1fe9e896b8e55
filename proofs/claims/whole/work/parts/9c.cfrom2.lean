/-! The class: a whole tower read, beside the reference's -/
theorem line_bad {e9 : pE} {x : tS} (h1 : ¬ x.1.1 11 = nI 1) : lineT e9 x = badT (nI 1) x := by
  have hw : ∀ w, isWordB w x.1 = false := fun w => by unfold isWordB; simp [h1]
  unfold lineT
  simp only [hw, Bool.false_eq_true, if_false]
theorem nx_19 {t : Nat → Int32} {sz lm : Nat} {q : pS} : (nxP t sz lm q).1 19 = q.1 19 := by
  unfold nxP nextF
  repeat' split
  all_goals simp [va_up, tkI]
theorem bad_19 {k : Int32} {q : pS} : (badP k q).1 19 = q.1 19 := by simp [badP, va_up]
theorem takes_19 {t : Nat → Int32} {sz lm : Nat} {lo hi : Int32} {q : pS} : (takesP t sz lm lo hi q).2.1 19 = q.1 19 := by
  unfold takesP
  split
  · exact bad_19
  · split
    · rw [nx_19]; simp [va_up]
    · exact bad_19
theorem gift_19 {t : Nat → Int32} {sz lm : Nat} {rs : Nat → Int64} {q : pS} : (tGiftP t sz lm rs q).2.1 19 = q.1 19 := by
  unfold tGiftP
  split
  · rw [nx_19]; simp [va_up]
  · rw [bad_19]; simp [va_up]
theorem looks_19 {rs nm : Nat → Int64} {fr m : Nat} {q : pS} : (looksP rs nm fr m q).2.1 19 = q.1 19 := by
  unfold looksP
  split
  · split
    · simp [va_up]
    · rw [bad_19]; simp [va_up]
  · exact bad_19
theorem tName_19 {t : Nat → Int32} {sz lm : Nat} {rs nm : Nat → Int64} {fr m : Nat} {q : pS} : (tNameP t sz lm rs nm fr m q).2.1 19 = q.1 19 := by
  unfold tNameP
  split
  · rw [nx_19]; exact looks_19
  · exact looks_19
theorem and_19 {r : Bool × tS} {f : tS → Bool × tS} {v : Int32} (h : r.2.1.1 19 = v) (hf : ∀ y : tS, y.1.1 19 = v → (f y).2.1.1 19 = v) : (andT r f).2.1.1 19 = v := by
  unfold andT
  split
  · exact hf _ h
  · exact h
theorem puts_19 {e : pE} {to : Nat} {lo hi : Int32} {x : tS} : (putsT e to lo hi x).2.1.1 19 = x.1.1 19 := and_19 takes_19 (fun _ hy => hy)
theorem fresh_19 {e : pE} {to : Nat} {x : tS} : (freshT e to x).2.1.1 19 = x.1.1 19 := by
  unfold freshT
  split
  · split
    · exact bad_19
    · exact nx_19
  · exact bad_19
theorem cold_19 {e : pE} {k : Nat} {z : tS} : (coldT e k z).1.1 19 = z.1.1 19 := by
  unfold coldT
  split
  · exact nx_19
  · rfl
theorem line_19 {e : pE} {x : tS} : (lineT e x).2.1.1 19 = x.1.1 19 := by
  have hm : ∀ j most nm wt, (manT e j most nm wt x).2.1.1 19 = x.1.1 19 := fun j most nm wt => by
    unfold manT
    split
    · exact bad_19
    · exact and_19 (and_19 (fresh_19.trans nx_19) (fun y hy => puts_19.trans hy)) (fun z hz => hz)
  have ho : ∀ k to lo hi, (onceT e k to lo hi x).2.1.1 19 = x.1.1 19 := fun k to lo hi => by
    unfold onceT
    split
    · exact bad_19
    · refine puts_19.trans (nx_19.trans ?_)
      simp [va_up]
  unfold lineT
  split
  · unfold floorT
    split
    · exact bad_19
    · exact and_19 (and_19 (fresh_19.trans nx_19) (fun y hy => gift_19.trans hy)) (fun y hy => and_19 (puts_19.trans hy) (fun z hz => cold_19.trans hz))
  · split
    · exact hm _ _ _ _
    · split
      · exact hm _ _ _ _
      · split
        · unfold lawT
          split
          · split
            · exact bad_19.trans nx_19
            · exact puts_19.trans (nx_19.trans nx_19)
          · exact bad_19.trans nx_19
        · split
          · unfold likeT
            refine and_19 (tName_19.trans nx_19) (fun z hz => and_19 (looks_19.trans hz) (fun w hw => ?_))
            split
            · exact bad_19.trans hw
            · exact puts_19.trans (nx_19.trans hw)
          · split
            · exact ho _ _ _ _
            · split
              · exact ho _ _ _ _
              · exact bad_19
theorem sign_19 {t : Nat → Int32} {sz lm : Nat} {c : Int32} {q : pS} : (signP t sz lm c q).2.1 19 = q.1 19 := by
  unfold signP
  split
  · exact nx_19
  · exact bad_19
section CFs
variable {G : iG} {d : Nat} {h : iH} {r t : Nat} {e : rE} {I : Nat → Int32} {q : pS} {al : Nat} {J : Nat → Int32} {B : Nat → Nat → Int32} {M : Nat → Nat → Int64} {F n U : Nat} {nm : Nat → Int64} {s : Nat → Int32} {b b' : Int32}
theorem rL_19 (hl : rL e I q) {v : Int32} : rL e I (va_up q.1 19 v, q.2) := by
  obtain ⟨k, ⟨l1, l2, l3, l4, l5, l6, l7⟩, h4, hp, h6⟩ := hl
  refine ⟨k, ⟨l1, l2, l3, l4, l5, l6, ?_⟩, ?_, pOk_up hp (by decide), h6⟩
  · unfold mtok at l7 ⊢
    simpa [va_up] using l7
  · simpa [va_up] using h4
def tE (F n U : Nat) (J : Nat → Int32) (B : Nat → Nat → Int32) (M : Nat → Nat → Int64) (s : Nat → Int32) (nm : Nat → Int64) : Prop := tDf F J B M s nm ∧ tDc n J B M s nm ∧ tDu U J B M s nm ∧ tDl B s ∧ J 13 = s 3 ∧ J 14 = s 4
theorem tE_fix (hD : tD F n U J B M b s nm) : tE F n U (fixJ J) B M s nm := by
  obtain ⟨hf, hc, hu, hl, -, o13, o14⟩ := hD
  have e : ∀ j, j ≠ 13 → j ≠ 14 → fixJ J j = J j := fun j h1 h2 => by unfold fixJ; rw [va_ne h2, va_ne h1]
  refine ⟨tDf_of hf rfl (e 0 (by omega) (by omega)) rfl rfl rfl rfl (fun _ _ _ => rfl) (fun _ _ _ => rfl), tDc_of hc rfl (e 5 (by omega) (by omega)) rfl rfl (fun _ _ _ => rfl) (fun _ _ _ => rfl), tDu_of hu rfl (e 8 (by omega) (by omega)) rfl rfl (fun _ _ _ => rfl) (fun _ _ _ => rfl), hl, ?_, ?_⟩
  · unfold fixJ
    rw [va_ne (by omega), va_sf]
    rcases o13 with ⟨-, o1, o2⟩ | ⟨-, o1, o2⟩
    · rw [if_neg (by rw [o1]; exact o2), o1]
    · rw [if_pos o1, o2]
  · unfold fixJ
    rw [va_sf]
    rcases o14 with ⟨-, o1, o2⟩ | ⟨-, o1, o2⟩
    · rw [if_neg (by rw [o1]; exact o2), o1]
    · rw [if_pos o1, o2]
/-- what a tower read comes to -/
def tQ (G : iG) (r t : Nat) (e : rE) (h : iH) (y : Bool × tS) (v : Option Value) (g : iH) : Prop := ∃ I' J' B' M', g = rEH G r e (txH G t J' B' M' h) I' ∧ ((y.1 = true ∧ v = some (.int (y.2.1.1 19)) ∧ rL e I' y.2.1 ∧ ∃ F n U, tE F n U J' B' M' y.2.2.1 y.2.2.2) ∨ (y.1 = false ∧ rF e I' y.2.1 ∧ ∃ vv, v = some (.int vv)))
theorem d_readFrom (hd : r + 5 ≤ t ∨ t + 11 ≤ r) {y : Bool × tS} (hy : y.1 = false) (hf : rF e I y.2.1) {L : Int32} : K G (d + 5) 0 0 mX8_readFrom 81 [some (.ref t), some (.ref r), some (.int L)] [] (rEH G r e (txH G t J B M h) I) (tQ G r t e h y) := by
  refine wp_ok (cuts := []) 30 _ _ _ _ ?_
  simp (config := { maxSteps := 2000000 }) (disch := omega) only [wp_su, wp_0, eX8_readFrom_0, eX8_readFrom_1, eX8_readFrom_2, eX8_readFrom_5, eX8_readFrom_6, eX8_readFrom_7, eX8_readFrom_10, eX8_readFrom_11, eX8_readFrom_12, eX8_readFrom_15, eX8_readFrom_16, eX8_readFrom_17, eX8_readFrom_20, eX8_readFrom_21, eX8_readFrom_22, eX8_readFrom_25, eX8_readFrom_26, eX8_readFrom_29, eX8_readFrom_30, eX8_readFrom_33, eX8_readFrom_34, eX8_readFrom_37, eX8_readFrom_38, eX8_readFrom_41, eX8_readFrom_42, eX8_readFrom_43, eX8_readFrom_44, eX8_readFrom_47, eX8_readFrom_50, eX8_readFrom_51, eX8_readFrom_54, eX8_readFrom_57, eX8_readFrom_58, eX8_readFrom_61, eX8_readFrom_64, eX8_readFrom_65, eX8_readFrom_66, eX8_readFrom_69, eX8_readFrom_70, eX8_readFrom_72, eX8_readFrom_75, eX8_readFrom_78, eX8_readFrom_81, eX8_readFrom_82, eX8_readFrom_85, eX8_readFrom_86, eX8_readFrom_89, eX8_readFrom_92, eX8_readFrom_93, eX8_readFrom_95, eX8_readFrom_98, eX8_readFrom_99, eX8_readFrom_102, eX8_readFrom_105, eX8_readFrom_106, eX8_readFrom_108, eX8_readFrom_111, eX8_readFrom_112, S_aload_n0, S_aload_n0N, S_aload_n1, S_aload_n1N, S_bipush, S_callS, S_callV, S_getf, S_goto, S_icmp_ge, S_iconst, S_if_ne, S_iinc_2, S_iload_n2, S_ireturn, S_istore_2, S_puti, S_putl, S_sipush, g_RX8_29, g_RX8_38, g_RX8_47, g_RX8_50, g_RX8_53, g_RX8_56, g_RX8_9, iCk_i, iCk_l, iCk_n, iCk_o, iCk_r, iS1_2, jb_100, jb_59, jb_6, jc_0, jc_1, js_940, aX8_readFrom, bX8_readFrom, rX8_readFrom, nar_i, nar_n0, nar_n1, List.mem_cons, List.not_mem_nil, or_false, or_self, or_true, true_or, false_or, if_false, if_true, true_and, and_true, Nat.reduceEqDiff, Nat.reduceAdd, Nat.reduceLT, reduceIte, iSet_1, iEnt_e, iEn_n, iEn_i, iEn_r, iEn_u, iEn_l, List.cons_append, List.nil_append, List.length_cons, List.length_nil, Nat.reduceSub, List.replicate_succ, List.replicate_zero, Nat.zero_add, nI_lit0, va_up_app, nI_add, nI_mul, nI_sub, nI_clamp, vp_nI, nI_le_t, nI_le_f, nI_lt_t, nI_lt_f, imp_t, imp_f, Option.toList_some, Option.toList_none, not_true_eq_false, not_false_eq_true, iR_t, nar_zI, zI_f0, zI_t0, va_up_same, upd_ne, upd_self]
  refine dVu0 (Y' := mX5_finish) eX8_readFrom_82 l_RX8_88 kX5_finish iX5_finish nX5_finish (re_o) rfl rfl (Nat.le_of_ble_eq_true rfl) (r_finishD hf.1) ?_
  have eC : rEH G r e (txH G t J B M h) I = txH G t J B M (rEH G r e h I) := re_tx hd
  have eC' : rdH G r I e.2.2.2.2.2.1 e.2.2.2.2.2.2.1 e.2.2.2.2.2.2.2.1 (txH G t J B M h) = txH G t J B M (rEH G r e h I) := eC
  first | rw [eC] | rw [eC']
  refine K_mono e_readFrom ?_
  rintro v g ⟨rfl, rfl⟩
  exact ⟨I, _, B, M, (re_tx hd).symm, Or.inr ⟨hy, hf, _, rfl⟩⟩
theorem d_readFromL (hd : r + 5 ≤ t ∨ t + 11 ≤ r) {y : Bool × tS} (hy : y.1 = false) (hf : rF e I y.2.1) {L : Nat} (hL : L < 940) : K G (d + 5) 0 0 mX8_readFrom 43 [some (.ref t), some (.ref r), some (.int (nI L))] [] (rEH G r e (txH G t J B M h) I) (tQ G r t e h y) := by
  refine wp_ok (cuts := [81]) 30 _ _ _ _ ?_
  simp (config := { maxSteps := 2000000 }) (disch := omega) only [wp_su, wp_0, eX8_readFrom_0, eX8_readFrom_1, eX8_readFrom_2, eX8_readFrom_5, eX8_readFrom_6, eX8_readFrom_7, eX8_readFrom_10, eX8_readFrom_11, eX8_readFrom_12, eX8_readFrom_15, eX8_readFrom_16, eX8_readFrom_17, eX8_readFrom_20, eX8_readFrom_21, eX8_readFrom_22, eX8_readFrom_25, eX8_readFrom_26, eX8_readFrom_29, eX8_readFrom_30, eX8_readFrom_33, eX8_readFrom_34, eX8_readFrom_37, eX8_readFrom_38, eX8_readFrom_41, eX8_readFrom_42, eX8_readFrom_43, eX8_readFrom_44, eX8_readFrom_47, eX8_readFrom_50, eX8_readFrom_51, eX8_readFrom_54, eX8_readFrom_57, eX8_readFrom_58, eX8_readFrom_61, eX8_readFrom_64, eX8_readFrom_65, eX8_readFrom_66, eX8_readFrom_69, eX8_readFrom_70, eX8_readFrom_72, eX8_readFrom_75, eX8_readFrom_78, eX8_readFrom_81, eX8_readFrom_82, eX8_readFrom_85, eX8_readFrom_86, eX8_readFrom_89, eX8_readFrom_92, eX8_readFrom_93, eX8_readFrom_95, eX8_readFrom_98, eX8_readFrom_99, eX8_readFrom_102, eX8_readFrom_105, eX8_readFrom_106, eX8_readFrom_108, eX8_readFrom_111, eX8_readFrom_112, S_aload_n0, S_aload_n0N, S_aload_n1, S_aload_n1N, S_bipush, S_callS, S_callV, S_getf, S_goto, S_icmp_ge, S_iconst, S_if_ne, S_iinc_2, S_iload_n2, S_ireturn, S_istore_2, S_puti, S_putl, S_sipush, g_RX8_29, g_RX8_38, g_RX8_47, g_RX8_50, g_RX8_53, g_RX8_56, g_RX8_9, iCk_i, iCk_l, iCk_n, iCk_o, iCk_r, iS1_2, jb_100, jb_59, jb_6, jc_0, jc_1, js_940, aX8_readFrom, bX8_readFrom, rX8_readFrom, nar_i, nar_n0, nar_n1, List.mem_cons, List.not_mem_nil, or_false, or_self, or_true, true_or, false_or, if_false, if_true, true_and, and_true, Nat.reduceEqDiff, Nat.reduceAdd, Nat.reduceLT, reduceIte, iSet_1, iEnt_e, iEn_n, iEn_i, iEn_r, iEn_u, iEn_l, List.cons_append, List.nil_append, List.length_cons, List.length_nil, Nat.reduceSub, List.replicate_succ, List.replicate_zero, Nat.zero_add, nI_lit0, va_up_app, nI_add, nI_mul, nI_sub, nI_clamp, vp_nI, nI_le_t, nI_le_f, nI_lt_t, nI_lt_f, imp_t, imp_f, Option.toList_some, Option.toList_none, not_true_eq_false, not_false_eq_true, iR_t, nar_zI, zI_f0, zI_t0, va_up_same, upd_ne, upd_self]
  refine dV0 (Y' := mX5_failed) eX8_readFrom_51 l_RX8_71 kX5_failed iX5_failed nX5_failed (re_o) rfl rfl (Nat.le_of_ble_eq_true rfl) (z_failedD hf) ?_
  refine wp_ok (cuts := [81]) 30 _ _ _ _ ?_
  simp (config := { maxSteps := 2000000 }) (disch := omega) only [wp_su, wp_0, eX8_readFrom_0, eX8_readFrom_1, eX8_readFrom_2, eX8_readFrom_5, eX8_readFrom_6, eX8_readFrom_7, eX8_readFrom_10, eX8_readFrom_11, eX8_readFrom_12, eX8_readFrom_15, eX8_readFrom_16, eX8_readFrom_17, eX8_readFrom_20, eX8_readFrom_21, eX8_readFrom_22, eX8_readFrom_25, eX8_readFrom_26, eX8_readFrom_29, eX8_readFrom_30, eX8_readFrom_33, eX8_readFrom_34, eX8_readFrom_37, eX8_readFrom_38, eX8_readFrom_41, eX8_readFrom_42, eX8_readFrom_43, eX8_readFrom_44, eX8_readFrom_47, eX8_readFrom_50, eX8_readFrom_51, eX8_readFrom_54, eX8_readFrom_57, eX8_readFrom_58, eX8_readFrom_61, eX8_readFrom_64, eX8_readFrom_65, eX8_readFrom_66, eX8_readFrom_69, eX8_readFrom_70, eX8_readFrom_72, eX8_readFrom_75, eX8_readFrom_78, eX8_readFrom_81, eX8_readFrom_82, eX8_readFrom_85, eX8_readFrom_86, eX8_readFrom_89, eX8_readFrom_92, eX8_readFrom_93, eX8_readFrom_95, eX8_readFrom_98, eX8_readFrom_99, eX8_readFrom_102, eX8_readFrom_105, eX8_readFrom_106, eX8_readFrom_108, eX8_readFrom_111, eX8_readFrom_112, S_aload_n0, S_aload_n0N, S_aload_n1, S_aload_n1N, S_bipush, S_callS, S_callV, S_getf, S_goto, S_icmp_ge, S_iconst, S_if_ne, S_iinc_2, S_iload_n2, S_ireturn, S_istore_2, S_puti, S_putl, S_sipush, g_RX8_29, g_RX8_38, g_RX8_47, g_RX8_50, g_RX8_53, g_RX8_56, g_RX8_9, iCk_i, iCk_l, iCk_n, iCk_o, iCk_r, iS1_2, jb_100, jb_59, jb_6, jc_0, jc_1, js_940, aX8_readFrom, bX8_readFrom, rX8_readFrom, nar_i, nar_n0, nar_n1, List.mem_cons, List.not_mem_nil, or_false, or_self, or_true, true_or, false_or, if_false, if_true, true_and, and_true, Nat.reduceEqDiff, Nat.reduceAdd, Nat.reduceLT, reduceIte, iSet_1, iEnt_e, iEn_n, iEn_i, iEn_r, iEn_u, iEn_l, List.cons_append, List.nil_append, List.length_cons, List.length_nil, Nat.reduceSub, List.replicate_succ, List.replicate_zero, Nat.zero_add, nI_lit0, va_up_app, nI_add, nI_mul, nI_sub, nI_clamp, vp_nI, nI_le_t, nI_le_f, nI_lt_t, nI_lt_f, imp_t, imp_f, Option.toList_some, Option.toList_none, not_true_eq_false, not_false_eq_true, iR_t, nar_zI, zI_f0, zI_t0, va_up_same, upd_ne, upd_self, n_1z]
  exact d_readFrom hd hy hf
theorem l_readFrom (hG : SG G e.1 al) (hk : rEk e) (hlm : e.2.2.2.2.1 ≤ 900) (hd : r + 5 ≤ t ∨ t + 11 ≤ r) : ∀ (k : Nat) (x : tS) (L : Nat) (I J : Nat → Int32) (B : Nat → Nat → Int32) (M : Nat → Nat → Int64), rL e I x.1 → (∃ F n U, tD F n U J B M (x.1.1 20) x.2.1 x.2.2) → x.1.1 19 = nI L → L ≤ tPs x → L ≤ 900 → e.2.2.2.1 < tPs x + k → K G (d + 5) 0 0 mX8_readFrom 43 [some (.ref t), some (.ref r), some (.int (nI L))] [] (rEH G r e (txH G t J B M h) I) (tQ G r t e h (towN (rEp e) k x)) := by
  intro k
  induction k with
  | zero =>
    intro x L I J B M hl hD h19 hL hL9 hfu
    obtain ⟨k, l1, l2, ⟨p1, p2, p3, p5, p, pp, p4⟩, l4⟩ := hl
    have : tPs x = p := by unfold tPs; rw [p4, nI_clamp (by omega)]
    omega
  | succ k ih =>
    intro x L I J B M hl hD h19 hL hL9 hfu
    obtain ⟨F, n, U, hD⟩ := hD
    have hpk : pOk e.2.2.2.1 e.2.2.2.2.1 x.1.1 := by obtain ⟨k, l1, l2, l3, l4⟩ := hl; exact l3
    have hTI := TW_d (G := G) (h := h) (e := e) (I := I) (J := J) (B := B) (M := M) hd
    refine wp_ok (cuts := [81]) 30 _ _ _ _ ?_
    simp (config := { maxSteps := 2000000 }) (disch := omega) only [wp_su, wp_0, eX8_readFrom_0, eX8_readFrom_1, eX8_readFrom_2, eX8_readFrom_5, eX8_readFrom_6, eX8_readFrom_7, eX8_readFrom_10, eX8_readFrom_11, eX8_readFrom_12, eX8_readFrom_15, eX8_readFrom_16, eX8_readFrom_17, eX8_readFrom_20, eX8_readFrom_21, eX8_readFrom_22, eX8_readFrom_25, eX8_readFrom_26, eX8_readFrom_29, eX8_readFrom_30, eX8_readFrom_33, eX8_readFrom_34, eX8_readFrom_37, eX8_readFrom_38, eX8_readFrom_41, eX8_readFrom_42, eX8_readFrom_43, eX8_readFrom_44, eX8_readFrom_47, eX8_readFrom_50, eX8_readFrom_51, eX8_readFrom_54, eX8_readFrom_57, eX8_readFrom_58, eX8_readFrom_61, eX8_readFrom_64, eX8_readFrom_65, eX8_readFrom_66, eX8_readFrom_69, eX8_readFrom_70, eX8_readFrom_72, eX8_readFrom_75, eX8_readFrom_78, eX8_readFrom_81, eX8_readFrom_82, eX8_readFrom_85, eX8_readFrom_86, eX8_readFrom_89, eX8_readFrom_92, eX8_readFrom_93, eX8_readFrom_95, eX8_readFrom_98, eX8_readFrom_99, eX8_readFrom_102, eX8_readFrom_105, eX8_readFrom_106, eX8_readFrom_108, eX8_readFrom_111, eX8_readFrom_112, S_aload_n0, S_aload_n0N, S_aload_n1, S_aload_n1N, S_bipush, S_callS, S_callV, S_getf, S_goto, S_icmp_ge, S_iconst, S_if_ne, S_iinc_2, S_iload_n2, S_ireturn, S_istore_2, S_puti, S_putl, S_sipush, g_RX8_29, g_RX8_38, g_RX8_47, g_RX8_50, g_RX8_53, g_RX8_56, g_RX8_9, iCk_i, iCk_l, iCk_n, iCk_o, iCk_r, iS1_2, jb_100, jb_59, jb_6, jc_0, jc_1, js_940, aX8_readFrom, bX8_readFrom, rX8_readFrom, nar_i, nar_n0, nar_n1, List.mem_cons, List.not_mem_nil, or_false, or_self, or_true, true_or, false_or, if_false, if_true, true_and, and_true, Nat.reduceEqDiff, Nat.reduceAdd, Nat.reduceLT, reduceIte, iSet_1, iEnt_e, iEn_n, iEn_i, iEn_r, iEn_u, iEn_l, List.cons_append, List.nil_append, List.length_cons, List.length_nil, Nat.reduceSub, List.replicate_succ, List.replicate_zero, Nat.zero_add, nI_lit0, va_up_app, nI_add, nI_mul, nI_sub, nI_clamp, vp_nI, nI_le_t, nI_le_f, nI_lt_t, nI_lt_f, imp_t, imp_f, Option.toList_some, Option.toList_none, not_true_eq_false, not_false_eq_true, iR_t, nar_zI, zI_f0, zI_t0, va_up_same, upd_ne, upd_self]
    refine dV0 (Y' := mX5_failed) eX8_readFrom_51 l_RX8_71 kX5_failed iX5_failed nX5_failed (re_o) rfl rfl (Nat.le_of_ble_eq_true rfl) (z_failed hl) ?_
    refine wp_ok (cuts := [81]) 30 _ _ _ _ ?_
    simp (config := { maxSteps := 2000000 }) (disch := omega) only [wp_su, wp_0, eX8_readFrom_0, eX8_readFrom_1, eX8_readFrom_2, eX8_readFrom_5, eX8_readFrom_6, eX8_readFrom_7, eX8_readFrom_10, eX8_readFrom_11, eX8_readFrom_12, eX8_readFrom_15, eX8_readFrom_16, eX8_readFrom_17, eX8_readFrom_20, eX8_readFrom_21, eX8_readFrom_22, eX8_readFrom_25, eX8_readFrom_26, eX8_readFrom_29, eX8_readFrom_30, eX8_readFrom_33, eX8_readFrom_34, eX8_readFrom_37, eX8_readFrom_38, eX8_readFrom_41, eX8_readFrom_42, eX8_readFrom_43, eX8_readFrom_44, eX8_readFrom_47, eX8_readFrom_50, eX8_readFrom_51, eX8_readFrom_54, eX8_readFrom_57, eX8_readFrom_58, eX8_readFrom_61, eX8_readFrom_64, eX8_readFrom_65, eX8_readFrom_66, eX8_readFrom_69, eX8_readFrom_70, eX8_readFrom_72, eX8_readFrom_75, eX8_readFrom_78, eX8_readFrom_81, eX8_readFrom_82, eX8_readFrom_85, eX8_readFrom_86, eX8_readFrom_89, eX8_readFrom_92, eX8_readFrom_93, eX8_readFrom_95, eX8_readFrom_98, eX8_readFrom_99, eX8_readFrom_102, eX8_readFrom_105, eX8_readFrom_106, eX8_readFrom_108, eX8_readFrom_111, eX8_readFrom_112, S_aload_n0, S_aload_n0N, S_aload_n1, S_aload_n1N, S_bipush, S_callS, S_callV, S_getf, S_goto, S_icmp_ge, S_iconst, S_if_ne, S_iinc_2, S_iload_n2, S_ireturn, S_istore_2, S_puti, S_putl, S_sipush, g_RX8_29, g_RX8_38, g_RX8_47, g_RX8_50, g_RX8_53, g_RX8_56, g_RX8_9, iCk_i, iCk_l, iCk_n, iCk_o, iCk_r, iS1_2, jb_100, jb_59, jb_6, jc_0, jc_1, js_940, aX8_readFrom, bX8_readFrom, rX8_readFrom, nar_i, nar_n0, nar_n1, List.mem_cons, List.not_mem_nil, or_false, or_self, or_true, true_or, false_or, if_false, if_true, true_and, and_true, Nat.reduceEqDiff, Nat.reduceAdd, Nat.reduceLT, reduceIte, iSet_1, iEnt_e, iEn_n, iEn_i, iEn_r, iEn_u, iEn_l, List.cons_append, List.nil_append, List.length_cons, List.length_nil, Nat.reduceSub, List.replicate_succ, List.replicate_zero, Nat.zero_add, nI_lit0, va_up_app, nI_add, nI_mul, nI_sub, nI_clamp, vp_nI, nI_le_t, nI_le_f, nI_lt_t, nI_lt_f, imp_t, imp_f, Option.toList_some, Option.toList_none, not_true_eq_false, not_false_eq_true, iR_t, nar_zI, zI_f0, zI_t0, va_up_same, upd_ne, upd_self]
    refine ks_callV (As := []) (mc := 0) (ms := 0) (Y' := mX5_atEnd) eX8_readFrom_58 l_RX8_77 kX5_atEnd iX5_atEnd nX5_atEnd (re_o) rfl rfl (Nat.le_of_ble_eq_true rfl) (z_atEnd hl) (Nat.zero_le _) (Nat.zero_le _) ?_
    rintro v g ⟨rfl, b, rfl, hb0, hb1⟩
    cases b with
    | true =>
      refine wp_ok (cuts := []) 30 _ _ _ _ ?_
      simp (config := { maxSteps := 2000000 }) (disch := omega) only [wp_su, wp_0, eX8_readFrom_0, eX8_readFrom_1, eX8_readFrom_2, eX8_readFrom_5, eX8_readFrom_6, eX8_readFrom_7, eX8_readFrom_10, eX8_readFrom_11, eX8_readFrom_12, eX8_readFrom_15, eX8_readFrom_16, eX8_readFrom_17, eX8_readFrom_20, eX8_readFrom_21, eX8_readFrom_22, eX8_readFrom_25, eX8_readFrom_26, eX8_readFrom_29, eX8_readFrom_30, eX8_readFrom_33, eX8_readFrom_34, eX8_readFrom_37, eX8_readFrom_38, eX8_readFrom_41, eX8_readFrom_42, eX8_readFrom_43, eX8_readFrom_44, eX8_readFrom_47, eX8_readFrom_50, eX8_readFrom_51, eX8_readFrom_54, eX8_readFrom_57, eX8_readFrom_58, eX8_readFrom_61, eX8_readFrom_64, eX8_readFrom_65, eX8_readFrom_66, eX8_readFrom_69, eX8_readFrom_70, eX8_readFrom_72, eX8_readFrom_75, eX8_readFrom_78, eX8_readFrom_81, eX8_readFrom_82, eX8_readFrom_85, eX8_readFrom_86, eX8_readFrom_89, eX8_readFrom_92, eX8_readFrom_93, eX8_readFrom_95, eX8_readFrom_98, eX8_readFrom_99, eX8_readFrom_102, eX8_readFrom_105, eX8_readFrom_106, eX8_readFrom_108, eX8_readFrom_111, eX8_readFrom_112, S_aload_n0, S_aload_n0N, S_aload_n1, S_aload_n1N, S_bipush, S_callS, S_callV, S_getf, S_goto, S_icmp_ge, S_iconst, S_if_ne, S_iinc_2, S_iload_n2, S_ireturn, S_istore_2, S_puti, S_putl, S_sipush, g_RX8_29, g_RX8_38, g_RX8_47, g_RX8_50, g_RX8_53, g_RX8_56, g_RX8_9, iCk_i, iCk_l, iCk_n, iCk_o, iCk_r, iS1_2, jb_100, jb_59, jb_6, jc_0, jc_1, js_940, aX8_readFrom, bX8_readFrom, rX8_readFrom, nar_i, nar_n0, nar_n1, List.mem_cons, List.not_mem_nil, or_false, or_self, or_true, true_or, false_or, if_false, if_true, true_and, and_true, Nat.reduceEqDiff, Nat.reduceAdd, Nat.reduceLT, reduceIte, iSet_1, iEnt_e, iEn_n, iEn_i, iEn_r, iEn_u, iEn_l, List.cons_append, List.nil_append, List.length_cons, List.length_nil, Nat.reduceSub, List.replicate_succ, List.replicate_zero, Nat.zero_add, nI_lit0, va_up_app, nI_add, nI_mul, nI_sub, nI_clamp, vp_nI, nI_le_t, nI_le_f, nI_lt_t, nI_lt_f, imp_t, imp_f, Option.toList_some, Option.toList_none, not_true_eq_false, not_false_eq_true, iR_t, nar_zI, zI_f0, zI_t0, va_up_same, upd_ne, upd_self, n_1z]
      refine ks_callV (As := []) (mc := 0) (ms := 0) (Y' := mX5_finish) eX8_readFrom_82 l_RX8_88 kX5_finish iX5_finish nX5_finish (re_o) rfl rfl (Nat.le_of_ble_eq_true rfl) (z_finish hl) (Nat.zero_le _) (Nat.zero_le _) ?_
      rintro v g ⟨rfl, I2, rfl, ⟨h0, rfl⟩ | ⟨h0, hf⟩⟩
      · have e1 : towN (rEp e) (k + 1) x = (true, x) := by rw [towN, if_pos h0]
        rw [e1]
        have eC : rEH G r e (txH G t J B M h) I2 = txH G t J B M (rEH G r e h I2) := re_tx hd
        rw [eC]
        refine K_mono e_readFrom ?_
        rintro v g ⟨rfl, rfl⟩
        exact ⟨I2, _, B, M, (re_tx hd).symm, Or.inl ⟨rfl, by show _ = some (Value.int (x.1.1 19)); rw [h19], hl, F, n, U, tE_fix hD⟩⟩
      · have h4 : x.1.1 11 = nI 4 := (hb1 rfl).resolve_left h0
        have e1 : towN (rEp e) (k + 1) x = (false, (badT (nI 1) x).2) := by
          rw [towN, if_neg h0, line_bad (by rw [h4]; exact n_41)]; rfl
        rw [e1]
        have eC : rEH G r e (txH G t J B M h) I2 = txH G t J B M (rEH G r e h I2) := re_tx hd
        rw [eC]
        refine K_mono e_readFrom ?_
        rintro v g ⟨rfl, rfl⟩
        exact ⟨I2, _, B, M, (re_tx hd).symm, Or.inr ⟨rfl, hf, _, rfl⟩⟩
    | false =>
      have h0 := hb0 rfl
      refine wp_ok (cuts := []) 30 _ _ _ _ ?_
      simp (config := { maxSteps := 2000000 }) (disch := omega) only [wp_su, wp_0, eX8_readFrom_0, eX8_readFrom_1, eX8_readFrom_2, eX8_readFrom_5, eX8_readFrom_6, eX8_readFrom_7, eX8_readFrom_10, eX8_readFrom_11, eX8_readFrom_12, eX8_readFrom_15, eX8_readFrom_16, eX8_readFrom_17, eX8_readFrom_20, eX8_readFrom_21, eX8_readFrom_22, eX8_readFrom_25, eX8_readFrom_26, eX8_readFrom_29, eX8_readFrom_30, eX8_readFrom_33, eX8_readFrom_34, eX8_readFrom_37, eX8_readFrom_38, eX8_readFrom_41, eX8_readFrom_42, eX8_readFrom_43, eX8_readFrom_44, eX8_readFrom_47, eX8_readFrom_50, eX8_readFrom_51, eX8_readFrom_54, eX8_readFrom_57, eX8_readFrom_58, eX8_readFrom_61, eX8_readFrom_64, eX8_readFrom_65, eX8_readFrom_66, eX8_readFrom_69, eX8_readFrom_70, eX8_readFrom_72, eX8_readFrom_75, eX8_readFrom_78, eX8_readFrom_81, eX8_readFrom_82, eX8_readFrom_85, eX8_readFrom_86, eX8_readFrom_89, eX8_readFrom_92, eX8_readFrom_93, eX8_readFrom_95, eX8_readFrom_98, eX8_readFrom_99, eX8_readFrom_102, eX8_readFrom_105, eX8_readFrom_106, eX8_readFrom_108, eX8_readFrom_111, eX8_readFrom_112, S_aload_n0, S_aload_n0N, S_aload_n1, S_aload_n1N, S_bipush, S_callS, S_callV, S_getf, S_goto, S_icmp_ge, S_iconst, S_if_ne, S_iinc_2, S_iload_n2, S_ireturn, S_istore_2, S_puti, S_putl, S_sipush, g_RX8_29, g_RX8_38, g_RX8_47, g_RX8_50, g_RX8_53, g_RX8_56, g_RX8_9, iCk_i, iCk_l, iCk_n, iCk_o, iCk_r, iS1_2, jb_100, jb_59, jb_6, jc_0, jc_1, js_940, aX8_readFrom, bX8_readFrom, rX8_readFrom, nar_i, nar_n0, nar_n1, List.mem_cons, List.not_mem_nil, or_false, or_self, or_true, true_or, false_or, if_false, if_true, true_and, and_true, Nat.reduceEqDiff, Nat.reduceAdd, Nat.reduceLT, reduceIte, iSet_1, iEnt_e, iEn_n, iEn_i, iEn_r, iEn_u, iEn_l, List.cons_append, List.nil_append, List.length_cons, List.length_nil, Nat.reduceSub, List.replicate_succ, List.replicate_zero, Nat.zero_add, nI_lit0, va_up_app, nI_add, nI_mul, nI_sub, nI_clamp, vp_nI, nI_le_t, nI_le_f, nI_lt_t, nI_lt_f, imp_t, imp_f, Option.toList_some, Option.toList_none, not_true_eq_false, not_false_eq_true, iR_t, nar_zI, zI_f0, zI_t0, va_up_same, upd_ne, upd_self]
      refine ks_callV (As := [.ref r]) (mc := 0) (ms := 0) (Y' := mX8_readLine) eX8_readFrom_66 l_RX8_80 kX8_readLine iX8_readLine nX8_readLine (tw_o hTI) rfl rfl (Nat.le_of_ble_eq_true rfl) (z_readLine hG hk hl hd hD) (Nat.zero_le _) (Nat.zero_le _) ?_
      rintro v g ⟨rfl, I2, J2, B2, M2, rfl, ho⟩
      rcases ho with ⟨h1, hl2, hD2⟩ | ⟨h1, hf⟩
      · have had := tAd_line (e := rEp e) hpk h1
        have hpk2 : pOk e.2.2.2.1 e.2.2.2.2.1 (lineT (rEp e) x).2.1.1 := had.1
        refine wp_ok (cuts := []) 30 _ _ _ _ ?_
        simp (config := { maxSteps := 2000000 }) (disch := omega) only [wp_su, wp_0, eX8_readFrom_0, eX8_readFrom_1, eX8_readFrom_2, eX8_readFrom_5, eX8_readFrom_6, eX8_readFrom_7, eX8_readFrom_10, eX8_readFrom_11, eX8_readFrom_12, eX8_readFrom_15, eX8_readFrom_16, eX8_readFrom_17, eX8_readFrom_20, eX8_readFrom_21, eX8_readFrom_22, eX8_readFrom_25, eX8_readFrom_26, eX8_readFrom_29, eX8_readFrom_30, eX8_readFrom_33, eX8_readFrom_34, eX8_readFrom_37, eX8_readFrom_38, eX8_readFrom_41, eX8_readFrom_42, eX8_readFrom_43, eX8_readFrom_44, eX8_readFrom_47, eX8_readFrom_50, eX8_readFrom_51, eX8_readFrom_54, eX8_readFrom_57, eX8_readFrom_58, eX8_readFrom_61, eX8_readFrom_64, eX8_readFrom_65, eX8_readFrom_66, eX8_readFrom_69, eX8_readFrom_70, eX8_readFrom_72, eX8_readFrom_75, eX8_readFrom_78, eX8_readFrom_81, eX8_readFrom_82, eX8_readFrom_85, eX8_readFrom_86, eX8_readFrom_89, eX8_readFrom_92, eX8_readFrom_93, eX8_readFrom_95, eX8_readFrom_98, eX8_readFrom_99, eX8_readFrom_102, eX8_readFrom_105, eX8_readFrom_106, eX8_readFrom_108, eX8_readFrom_111, eX8_readFrom_112, S_aload_n0, S_aload_n0N, S_aload_n1, S_aload_n1N, S_bipush, S_callS, S_callV, S_getf, S_goto, S_icmp_ge, S_iconst, S_if_ne, S_iinc_2, S_iload_n2, S_ireturn, S_istore_2, S_puti, S_putl, S_sipush, g_RX8_29, g_RX8_38, g_RX8_47, g_RX8_50, g_RX8_53, g_RX8_56, g_RX8_9, iCk_i, iCk_l, iCk_n, iCk_o, iCk_r, iS1_2, jb_100, jb_59, jb_6, jc_0, jc_1, js_940, aX8_readFrom, bX8_readFrom, rX8_readFrom, nar_i, nar_n0, nar_n1, List.mem_cons, List.not_mem_nil, or_false, or_self, or_true, true_or, false_or, if_false, if_true, true_and, and_true, Nat.reduceEqDiff, Nat.reduceAdd, Nat.reduceLT, reduceIte, iSet_1, iEnt_e, iEn_n, iEn_i, iEn_r, iEn_u, iEn_l, List.cons_append, List.nil_append, List.length_cons, List.length_nil, Nat.reduceSub, List.replicate_succ, List.replicate_zero, Nat.zero_add, nI_lit0, va_up_app, nI_add, nI_mul, nI_sub, nI_clamp, vp_nI, nI_le_t, nI_le_f, nI_lt_t, nI_lt_f, imp_t, imp_f, Option.toList_some, Option.toList_none, not_true_eq_false, not_false_eq_true, iR_t, nar_zI, zI_f0, zI_t0, va_up_same, upd_ne, upd_self]
        refine ks_callV (As := [.int (nI 59)]) (mc := 0) (ms := 0) (Y' := mX5_takeSign) eX8_readFrom_72 l_RX8_84 kX5_takeSign iX5_takeSign nX5_takeSign (re_o) rfl rfl (Nat.le_of_ble_eq_true rfl) (z_sign hk hl2 (c := nI 59)) (Nat.zero_le _) (Nat.zero_le _) ?_
        rintro v g ⟨rfl, I3, rfl, ho⟩
        rcases ho with ⟨s1, s2⟩ | ⟨s1, s2⟩
        · have s1' : (upT (signP (rEp e).1 (rEp e).2.1 (rEp e).2.2.1 (nI 59) (lineT (rEp e) x).2.1) (lineT (rEp e) x).2).1 = true := s1
          have e1 : towN (rEp e) (k + 1) x = towN (rEp e) k (lnT (upT (signP (rEp e).1 (rEp e).2.1 (rEp e).2.2.1 (nI 59) (lineT (rEp e) x).2.1) (lineT (rEp e) x).2).2) := by
            rw [towN, if_neg h0, if_pos h1, if_pos s1']
          rw [e1]
          have hgt := sign_gt (e := rEp e) (c := nI 59) had s1'
          have h11 : (lineT (rEp e) x).2.1.1 11 = nI 3 ∧ ((signP e.2.2.1 e.2.2.2.1 e.2.2.2.2.1 (nI 59) (lineT (rEp e) x).2.1).2.1 20 = (lineT (rEp e) x).2.1.1 20) := by
            unfold signP at s1 ⊢
            cases hs : isSignB (nI 59) (lineT (rEp e) x).2.1
            · rw [hs] at s1; cases s1
            · simp only [if_true]
              refine ⟨?_, nx_20⟩
              unfold isSignB at hs
              rw [Bool.and_eq_true] at hs
              exact of_decide_eq_true hs.1
          have hy := had.2.2 h11.1
          have hsg := rL_sg hk hl2 h11.1
          have hple : tPs (lineT (rEp e) x).2 ≤ e.2.2.2.1 := by
            obtain ⟨p1, p2, p3, p5, p, pp, p4⟩ := hpk2
            have : tPs (lineT (rEp e) x).2 = p := by unfold tPs; rw [p4, nI_clamp (by omega)]
            omega
          have hsg' : tPs (lineT (rEp e) x).2 ≤ e.2.2.2.2.1 ∨ e.2.2.2.1 ≤ e.2.2.2.2.1 := hsg
          have h19' : (signP e.2.2.1 e.2.2.2.1 e.2.2.2.2.1 (nI 59) (lineT (rEp e) x).2.1).2.1 19 = nI L := sign_19.trans (line_19.trans h19)
          have eT : tPs (lnT (upT (signP (rEp e).1 (rEp e).2.1 (rEp e).2.2.1 (nI 59) (lineT (rEp e) x).2.1) (lineT (rEp e) x).2).2) = tPs (upT (signP (rEp e).1 (rEp e).2.1 (rEp e).2.2.1 (nI 59) (lineT (rEp e) x).2.1) (lineT (rEp e) x).2).2 := by
            unfold tPs lnT
            dsimp only
            rw [va_ne (by omega)]
          refine wp_ok (cuts := [43]) 30 _ _ _ _ ?_
          simp (config := { maxSteps := 2000000 }) (disch := omega) only [wp_su, wp_0, eX8_readFrom_0, eX8_readFrom_1, eX8_readFrom_2, eX8_readFrom_5, eX8_readFrom_6, eX8_readFrom_7, eX8_readFrom_10, eX8_readFrom_11, eX8_readFrom_12, eX8_readFrom_15, eX8_readFrom_16, eX8_readFrom_17, eX8_readFrom_20, eX8_readFrom_21, eX8_readFrom_22, eX8_readFrom_25, eX8_readFrom_26, eX8_readFrom_29, eX8_readFrom_30, eX8_readFrom_33, eX8_readFrom_34, eX8_readFrom_37, eX8_readFrom_38, eX8_readFrom_41, eX8_readFrom_42, eX8_readFrom_43, eX8_readFrom_44, eX8_readFrom_47, eX8_readFrom_50, eX8_readFrom_51, eX8_readFrom_54, eX8_readFrom_57, eX8_readFrom_58, eX8_readFrom_61, eX8_readFrom_64, eX8_readFrom_65, eX8_readFrom_66, eX8_readFrom_69, eX8_readFrom_70, eX8_readFrom_72, eX8_readFrom_75, eX8_readFrom_78, eX8_readFrom_81, eX8_readFrom_82, eX8_readFrom_85, eX8_readFrom_86, eX8_readFrom_89, eX8_readFrom_92, eX8_readFrom_93, eX8_readFrom_95, eX8_readFrom_98, eX8_readFrom_99, eX8_readFrom_102, eX8_readFrom_105, eX8_readFrom_106, eX8_readFrom_108, eX8_readFrom_111, eX8_readFrom_112, S_aload_n0, S_aload_n0N, S_aload_n1, S_aload_n1N, S_bipush, S_callS, S_callV, S_getf, S_goto, S_icmp_ge, S_iconst, S_if_ne, S_iinc_2, S_iload_n2, S_ireturn, S_istore_2, S_puti, S_putl, S_sipush, g_RX8_29, g_RX8_38, g_RX8_47, g_RX8_50, g_RX8_53, g_RX8_56, g_RX8_9, iCk_i, iCk_l, iCk_n, iCk_o, iCk_r, iS1_2, jb_100, jb_59, jb_6, jc_0, jc_1, js_940, aX8_readFrom, bX8_readFrom, rX8_readFrom, nar_i, nar_n0, nar_n1, List.mem_cons, List.not_mem_nil, or_false, or_self, or_true, true_or, false_or, if_false, if_true, true_and, and_true, Nat.reduceEqDiff, Nat.reduceAdd, Nat.reduceLT, reduceIte, iSet_1, iEnt_e, iEn_n, iEn_i, iEn_r, iEn_u, iEn_l, List.cons_append, List.nil_append, List.length_cons, List.length_nil, Nat.reduceSub, List.replicate_succ, List.replicate_zero, Nat.zero_add, nI_lit0, va_up_app, nI_add, nI_mul, nI_sub, nI_clamp, vp_nI, nI_le_t, nI_le_f, nI_lt_t, nI_lt_f, imp_t, imp_f, Option.toList_some, Option.toList_none, not_true_eq_false, not_false_eq_true, iR_t, nar_zI, zI_f0, zI_t0, va_up_same, upd_ne, upd_self]
          refine ih (lnT (upT (signP (rEp e).1 (rEp e).2.1 (rEp e).2.2.1 (nI 59) (lineT (rEp e) x).2.1) (lineT (rEp e) x).2).2) (L + 1) I3 J2 B2 M2 (rL_19 s2) ?_ ?_ (by rw [eT]; omega) (by omega) (by rw [eT]; omega)
          · obtain ⟨F2, n2, U2, hD2⟩ := hD2
            refine ⟨F2, n2, U2, ?_⟩
            have e20 : (lnT (upT (signP (rEp e).1 (rEp e).2.1 (rEp e).2.2.1 (nI 59) (lineT (rEp e) x).2.1) (lineT (rEp e) x).2).2).1.1 20 = (lineT (rEp e) x).2.1.1 20 := by
              unfold lnT upT
              dsimp only
              rw [va_ne (by omega)]; exact h11.2
            rw [e20]
            exact hD2
          · show va_up (signP e.2.2.1 e.2.2.2.1 e.2.2.2.2.1 (nI 59) (lineT (rEp e) x).2.1).2.1 19 ((signP e.2.2.1 e.2.2.2.1 e.2.2.2.2.1 (nI 59) (lineT (rEp e) x).2.1).2.1 19 + nI 1) 19 = _
            rw [va_sf, h19', nI_add]
        · have s1' : ¬ (upT (signP (rEp e).1 (rEp e).2.1 (rEp e).2.2.1 (nI 59) (lineT (rEp e) x).2.1) (lineT (rEp e) x).2).1 = true := fun z => by
            have z : (signP e.2.2.1 e.2.2.2.1 e.2.2.2.2.1 (nI 59) (lineT (rEp e) x).2.1).1 = true := z
            rw [s1] at z; cases z
          have e1 : towN (rEp e) (k + 1) x = (false, (upT (signP (rEp e).1 (rEp e).2.1 (rEp e).2.2.1 (nI 59) (lineT (rEp e) x).2.1) (lineT (rEp e) x).2).2) := by
            rw [towN, if_neg h0, if_pos h1, if_neg s1']
          rw [e1]
          refine wp_ok (cuts := [43]) 30 _ _ _ _ ?_
          simp (config := { maxSteps := 2000000 }) (disch := omega) only [wp_su, wp_0, eX8_readFrom_0, eX8_readFrom_1, eX8_readFrom_2, eX8_readFrom_5, eX8_readFrom_6, eX8_readFrom_7, eX8_readFrom_10, eX8_readFrom_11, eX8_readFrom_12, eX8_readFrom_15, eX8_readFrom_16, eX8_readFrom_17, eX8_readFrom_20, eX8_readFrom_21, eX8_readFrom_22, eX8_readFrom_25, eX8_readFrom_26, eX8_readFrom_29, eX8_readFrom_30, eX8_readFrom_33, eX8_readFrom_34, eX8_readFrom_37, eX8_readFrom_38, eX8_readFrom_41, eX8_readFrom_42, eX8_readFrom_43, eX8_readFrom_44, eX8_readFrom_47, eX8_readFrom_50, eX8_readFrom_51, eX8_readFrom_54, eX8_readFrom_57, eX8_readFrom_58, eX8_readFrom_61, eX8_readFrom_64, eX8_readFrom_65, eX8_readFrom_66, eX8_readFrom_69, eX8_readFrom_70, eX8_readFrom_72, eX8_readFrom_75, eX8_readFrom_78, eX8_readFrom_81, eX8_readFrom_82, eX8_readFrom_85, eX8_readFrom_86, eX8_readFrom_89, eX8_readFrom_92, eX8_readFrom_93, eX8_readFrom_95, eX8_readFrom_98, eX8_readFrom_99, eX8_readFrom_102, eX8_readFrom_105, eX8_readFrom_106, eX8_readFrom_108, eX8_readFrom_111, eX8_readFrom_112, S_aload_n0, S_aload_n0N, S_aload_n1, S_aload_n1N, S_bipush, S_callS, S_callV, S_getf, S_goto, S_icmp_ge, S_iconst, S_if_ne, S_iinc_2, S_iload_n2, S_ireturn, S_istore_2, S_puti, S_putl, S_sipush, g_RX8_29, g_RX8_38, g_RX8_47, g_RX8_50, g_RX8_53, g_RX8_56, g_RX8_9, iCk_i, iCk_l, iCk_n, iCk_o, iCk_r, iS1_2, jb_100, jb_59, jb_6, jc_0, jc_1, js_940, aX8_readFrom, bX8_readFrom, rX8_readFrom, nar_i, nar_n0, nar_n1, List.mem_cons, List.not_mem_nil, or_false, or_self, or_true, true_or, false_or, if_false, if_true, true_and, and_true, Nat.reduceEqDiff, Nat.reduceAdd, Nat.reduceLT, reduceIte, iSet_1, iEnt_e, iEn_n, iEn_i, iEn_r, iEn_u, iEn_l, List.cons_append, List.nil_append, List.length_cons, List.length_nil, Nat.reduceSub, List.replicate_succ, List.replicate_zero, Nat.zero_add, nI_lit0, va_up_app, nI_add, nI_mul, nI_sub, nI_clamp, vp_nI, nI_le_t, nI_le_f, nI_lt_t, nI_lt_f, imp_t, imp_f, Option.toList_some, Option.toList_none, not_true_eq_false, not_false_eq_true, iR_t, nar_zI, zI_f0, zI_t0, va_up_same, upd_ne, upd_self]
          exact d_readFromL hd rfl s2 (by omega)
      · have e1 : towN (rEp e) (k + 1) x = (false, (lineT (rEp e) x).2) := by
          rw [towN, if_neg h0, if_neg (by rw [h1]; exact Bool.false_ne_true)]
        rw [e1]
        refine wp_ok (cuts := []) 30 _ _ _ _ ?_
        simp (config := { maxSteps := 2000000 }) (disch := omega) only [wp_su, wp_0, eX8_readFrom_0, eX8_readFrom_1, eX8_readFrom_2, eX8_readFrom_5, eX8_readFrom_6, eX8_readFrom_7, eX8_readFrom_10, eX8_readFrom_11, eX8_readFrom_12, eX8_readFrom_15, eX8_readFrom_16, eX8_readFrom_17, eX8_readFrom_20, eX8_readFrom_21, eX8_readFrom_22, eX8_readFrom_25, eX8_readFrom_26, eX8_readFrom_29, eX8_readFrom_30, eX8_readFrom_33, eX8_readFrom_34, eX8_readFrom_37, eX8_readFrom_38, eX8_readFrom_41, eX8_readFrom_42, eX8_readFrom_43, eX8_readFrom_44, eX8_readFrom_47, eX8_readFrom_50, eX8_readFrom_51, eX8_readFrom_54, eX8_readFrom_57, eX8_readFrom_58, eX8_readFrom_61, eX8_readFrom_64, eX8_readFrom_65, eX8_readFrom_66, eX8_readFrom_69, eX8_readFrom_70, eX8_readFrom_72, eX8_readFrom_75, eX8_readFrom_78, eX8_readFrom_81, eX8_readFrom_82, eX8_readFrom_85, eX8_readFrom_86, eX8_readFrom_89, eX8_readFrom_92, eX8_readFrom_93, eX8_readFrom_95, eX8_readFrom_98, eX8_readFrom_99, eX8_readFrom_102, eX8_readFrom_105, eX8_readFrom_106, eX8_readFrom_108, eX8_readFrom_111, eX8_readFrom_112, S_aload_n0, S_aload_n0N, S_aload_n1, S_aload_n1N, S_bipush, S_callS, S_callV, S_getf, S_goto, S_icmp_ge, S_iconst, S_if_ne, S_iinc_2, S_iload_n2, S_ireturn, S_istore_2, S_puti, S_putl, S_sipush, g_RX8_29, g_RX8_38, g_RX8_47, g_RX8_50, g_RX8_53, g_RX8_56, g_RX8_9, iCk_i, iCk_l, iCk_n, iCk_o, iCk_r, iS1_2, jb_100, jb_59, jb_6, jc_0, jc_1, js_940, aX8_readFrom, bX8_readFrom, rX8_readFrom, nar_i, nar_n0, nar_n1, List.mem_cons, List.not_mem_nil, or_false, or_self, or_true, true_or, false_or, if_false, if_true, true_and, and_true, Nat.reduceEqDiff, Nat.reduceAdd, Nat.reduceLT, reduceIte, iSet_1, iEnt_e, iEn_n, iEn_i, iEn_r, iEn_u, iEn_l, List.cons_append, List.nil_append, List.length_cons, List.length_nil, Nat.reduceSub, List.replicate_succ, List.replicate_zero, Nat.zero_add, nI_lit0, va_up_app, nI_add, nI_mul, nI_sub, nI_clamp, vp_nI, nI_le_t, nI_le_f, nI_lt_t, nI_lt_f, imp_t, imp_f, Option.toList_some, Option.toList_none, not_true_eq_false, not_false_eq_true, iR_t, nar_zI, zI_f0, zI_t0, va_up_same, upd_ne, upd_self]
        refine dVu1 (Y' := mX5_takeSign) eX8_readFrom_72 l_RX8_84 kX5_takeSign iX5_takeSign nX5_takeSign (re_o) rfl rfl (Nat.le_of_ble_eq_true rfl) (r_signD hf.1) ?_
        refine wp_ok (cuts := [43]) 30 _ _ _ _ ?_
        simp (config := { maxSteps := 2000000 }) (disch := omega) only [wp_su, wp_0, eX8_readFrom_0, eX8_readFrom_1, eX8_readFrom_2, eX8_readFrom_5, eX8_readFrom_6, eX8_readFrom_7, eX8_readFrom_10, eX8_readFrom_11, eX8_readFrom_12, eX8_readFrom_15, eX8_readFrom_16, eX8_readFrom_17, eX8_readFrom_20, eX8_readFrom_21, eX8_readFrom_22, eX8_readFrom_25, eX8_readFrom_26, eX8_readFrom_29, eX8_readFrom_30, eX8_readFrom_33, eX8_readFrom_34, eX8_readFrom_37, eX8_readFrom_38, eX8_readFrom_41, eX8_readFrom_42, eX8_readFrom_43, eX8_readFrom_44, eX8_readFrom_47, eX8_readFrom_50, eX8_readFrom_51, eX8_readFrom_54, eX8_readFrom_57, eX8_readFrom_58, eX8_readFrom_61, eX8_readFrom_64, eX8_readFrom_65, eX8_readFrom_66, eX8_readFrom_69, eX8_readFrom_70, eX8_readFrom_72, eX8_readFrom_75, eX8_readFrom_78, eX8_readFrom_81, eX8_readFrom_82, eX8_readFrom_85, eX8_readFrom_86, eX8_readFrom_89, eX8_readFrom_92, eX8_readFrom_93, eX8_readFrom_95, eX8_readFrom_98, eX8_readFrom_99, eX8_readFrom_102, eX8_readFrom_105, eX8_readFrom_106, eX8_readFrom_108, eX8_readFrom_111, eX8_readFrom_112, S_aload_n0, S_aload_n0N, S_aload_n1, S_aload_n1N, S_bipush, S_callS, S_callV, S_getf, S_goto, S_icmp_ge, S_iconst, S_if_ne, S_iinc_2, S_iload_n2, S_ireturn, S_istore_2, S_puti, S_putl, S_sipush, g_RX8_29, g_RX8_38, g_RX8_47, g_RX8_50, g_RX8_53, g_RX8_56, g_RX8_9, iCk_i, iCk_l, iCk_n, iCk_o, iCk_r, iS1_2, jb_100, jb_59, jb_6, jc_0, jc_1, js_940, aX8_readFrom, bX8_readFrom, rX8_readFrom, nar_i, nar_n0, nar_n1, List.mem_cons, List.not_mem_nil, or_false, or_self, or_true, true_or, false_or, if_false, if_true, true_and, and_true, Nat.reduceEqDiff, Nat.reduceAdd, Nat.reduceLT, reduceIte, iSet_1, iEnt_e, iEn_n, iEn_i, iEn_r, iEn_u, iEn_l, List.cons_append, List.nil_append, List.length_cons, List.length_nil, Nat.reduceSub, List.replicate_succ, List.replicate_zero, Nat.zero_add, nI_lit0, va_up_app, nI_add, nI_mul, nI_sub, nI_clamp, vp_nI, nI_le_t, nI_le_f, nI_lt_t, nI_lt_f, imp_t, imp_f, Option.toList_some, Option.toList_none, not_true_eq_false, not_false_eq_true, iR_t, nar_zI, zI_f0, zI_t0, va_up_same, upd_ne, upd_self]
        exact d_readFromL (y := (false, (lineT (rEp e) x).2)) (L := L + 1) hd rfl hf (by omega)
theorem tD_init (j0 : J 0 = nI 0) (j5 : J 5 = nI 0) (j8 : J 8 = nI 0) (j13 : J 13 = nI 0) (j14 : J 14 = nI 0) (h9 : ∀ g, g < 4 → B 9 g = nI 0) (h10 : ∀ i, i < 54 → B 10 i = nI 0) (hs : ∀ j, j < 85 → s j = if j = 3 then nI 100 else if j = 4 then nI 6 else nI 0) : tD 0 0 0 J B M (nI 0) s nm := by
  have hb : bitF (nI 0) (nI 0) = false ∧ bitF (nI 0) (nI 1) = false := by decide +kernel
  have h0 : ∀ j, j < 85 → j ≠ 3 → j ≠ 4 → s j = nI 0 := fun j h1 h2 h3 => by rw [hs j h1, if_neg h2, if_neg h3]
  refine ⟨⟨by omega, h0 0 (by omega) (by omega) (by omega), j0, fun f hf => by omega, 0, by omega, h0 21 (by omega) (by omega) (by omega), fun j _ hj => ?_⟩, ⟨by omega, h0 1 (by omega) (by omega) (by omega), j5, fun f hf => by omega⟩, ⟨by omega, h0 2 (by omega) (by omega) (by omega), j8, fun f hf => by omega⟩, ⟨fun g hg => ?_, fun f c hf hc => ?_⟩, ⟨0, by omega, rfl⟩, Or.inr ⟨hb.1, j13, by rw [hs 3 (by omega)]; rfl⟩, Or.inr ⟨hb.2, j14, by rw [hs 4 (by omega)]; rfl⟩⟩
  · have : ∀ j, j < 8 → bitF (nI 0) (nI j) = false := by decide +kernel
    exact this j hj
  · rw [h9 g hg, h0 (33 + g) (by omega) (by omega) (by omega)]; exact ⟨rfl, 0, by omega, rfl⟩
  · rw [h10 _ (by omega), h0 (37 + 6 * f + c) (by omega) (by omega) (by omega)]; exact ⟨rfl, 0, by omega, rfl⟩
theorem c_readFrom (hG : SG G e.1 al) (hk : rEk e) (hlm : e.2.2.2.2.1 ≤ 900) (hd : r + 5 ≤ t ∨ t + 11 ≤ r) {x : tS} (hl : rL e I x.1) (h19 : x.1.1 19 = nI 0) (h20 : x.1.1 20 = nI 0) (hs : ∀ j, j < 85 → x.2.1 j = if j = 3 then nI 100 else if j = 4 then nI 6 else nI 0) : C G (d + 5) 0 0 mX8_readFrom [.ref t, .ref r] (rEH G r e (txH G t J B M h) I) (tQ G r t e h (towN (rEp e) (e.2.2.2.1 + 1) x)) := by
  refine C_in p_RX8 (Nat.le_of_ble_eq_true rfl) rfl ?_
  have eC : rEH G r e (txH G t J B M h) I = txH G t J B M (rEH G r e h I) := re_tx hd
  rw [eC]
  refine wp_ok (cuts := []) 60 _ _ _ _ ?_
  simp (config := { maxSteps := 2000000 }) (disch := omega) only [wp_su, wp_0, eX8_readFrom_0, eX8_readFrom_1, eX8_readFrom_2, eX8_readFrom_5, eX8_readFrom_6, eX8_readFrom_7, eX8_readFrom_10, eX8_readFrom_11, eX8_readFrom_12, eX8_readFrom_15, eX8_readFrom_16, eX8_readFrom_17, eX8_readFrom_20, eX8_readFrom_21, eX8_readFrom_22, eX8_readFrom_25, eX8_readFrom_26, eX8_readFrom_29, eX8_readFrom_30, eX8_readFrom_33, eX8_readFrom_34, eX8_readFrom_37, eX8_readFrom_38, eX8_readFrom_41, eX8_readFrom_42, eX8_readFrom_43, eX8_readFrom_44, eX8_readFrom_47, eX8_readFrom_50, eX8_readFrom_51, eX8_readFrom_54, eX8_readFrom_57, eX8_readFrom_58, eX8_readFrom_61, eX8_readFrom_64, eX8_readFrom_65, eX8_readFrom_66, eX8_readFrom_69, eX8_readFrom_70, eX8_readFrom_72, eX8_readFrom_75, eX8_readFrom_78, eX8_readFrom_81, eX8_readFrom_82, eX8_readFrom_85, eX8_readFrom_86, eX8_readFrom_89, eX8_readFrom_92, eX8_readFrom_93, eX8_readFrom_95, eX8_readFrom_98, eX8_readFrom_99, eX8_readFrom_102, eX8_readFrom_105, eX8_readFrom_106, eX8_readFrom_108, eX8_readFrom_111, eX8_readFrom_112, S_aload_n0, S_aload_n0N, S_aload_n1, S_aload_n1N, S_bipush, S_callS, S_callV, S_getf, S_goto, S_icmp_ge, S_iconst, S_if_ne, S_iinc_2, S_iload_n2, S_ireturn, S_istore_2, S_puti, S_putl, S_sipush, g_RX8_29, g_RX8_38, g_RX8_47, g_RX8_50, g_RX8_53, g_RX8_56, g_RX8_9, iCk_i, iCk_l, iCk_n, iCk_o, iCk_r, iS1_2, jb_100, jb_59, jb_6, jc_0, jc_1, js_940, aX8_readFrom, bX8_readFrom, rX8_readFrom, nar_i, nar_n0, nar_n1, List.mem_cons, List.not_mem_nil, or_false, or_self, or_true, true_or, false_or, if_false, if_true, true_and, and_true, Nat.reduceEqDiff, Nat.reduceAdd, Nat.reduceLT, reduceIte, iSet_1, iEnt_e, iEn_n, iEn_i, iEn_r, iEn_u, iEn_l, List.cons_append, List.nil_append, List.length_cons, List.length_nil, Nat.reduceSub, List.replicate_succ, List.replicate_zero, Nat.zero_add, nI_lit0, va_up_app, nI_add, nI_mul, nI_sub, nI_clamp, vp_nI, nI_le_t, nI_le_f, nI_lt_t, nI_lt_f, imp_t, imp_f, Option.toList_some, Option.toList_none, not_true_eq_false, not_false_eq_true, iR_t, nar_zI, zI_f0, zI_t0, va_up_same, upd_ne, upd_self, tx_o, txFs_len, txf_11, tx_9, txu_9, txf_12, tx_10, txu_10, txk_0, txp_0, txk_5, txp_5, txk_8, txp_8, txk_13, txp_13, txk_14, txp_14]
  refine dSu2 (Y' := mJ7_fill_53178) eX8_readFrom_30 l_RX8_65 kJ7_fill_53178 sJ7_fill_53178 nJ7_fill_53178 (Nat.le_of_ble_eq_true rfl) (j_fill (by decide) tx_9) ?_
  rw [txu_9]
  refine wp_ok (cuts := []) 60 _ _ _ _ ?_
  simp (config := { maxSteps := 2000000 }) (disch := omega) only [wp_su, wp_0, eX8_readFrom_0, eX8_readFrom_1, eX8_readFrom_2, eX8_readFrom_5, eX8_readFrom_6, eX8_readFrom_7, eX8_readFrom_10, eX8_readFrom_11, eX8_readFrom_12, eX8_readFrom_15, eX8_readFrom_16, eX8_readFrom_17, eX8_readFrom_20, eX8_readFrom_21, eX8_readFrom_22, eX8_readFrom_25, eX8_readFrom_26, eX8_readFrom_29, eX8_readFrom_30, eX8_readFrom_33, eX8_readFrom_34, eX8_readFrom_37, eX8_readFrom_38, eX8_readFrom_41, eX8_readFrom_42, eX8_readFrom_43, eX8_readFrom_44, eX8_readFrom_47, eX8_readFrom_50, eX8_readFrom_51, eX8_readFrom_54, eX8_readFrom_57, eX8_readFrom_58, eX8_readFrom_61, eX8_readFrom_64, eX8_readFrom_65, eX8_readFrom_66, eX8_readFrom_69, eX8_readFrom_70, eX8_readFrom_72, eX8_readFrom_75, eX8_readFrom_78, eX8_readFrom_81, eX8_readFrom_82, eX8_readFrom_85, eX8_readFrom_86, eX8_readFrom_89, eX8_readFrom_92, eX8_readFrom_93, eX8_readFrom_95, eX8_readFrom_98, eX8_readFrom_99, eX8_readFrom_102, eX8_readFrom_105, eX8_readFrom_106, eX8_readFrom_108, eX8_readFrom_111, eX8_readFrom_112, S_aload_n0, S_aload_n0N, S_aload_n1, S_aload_n1N, S_bipush, S_callS, S_callV, S_getf, S_goto, S_icmp_ge, S_iconst, S_if_ne, S_iinc_2, S_iload_n2, S_ireturn, S_istore_2, S_puti, S_putl, S_sipush, g_RX8_29, g_RX8_38, g_RX8_47, g_RX8_50, g_RX8_53, g_RX8_56, g_RX8_9, iCk_i, iCk_l, iCk_n, iCk_o, iCk_r, iS1_2, jb_100, jb_59, jb_6, jc_0, jc_1, js_940, aX8_readFrom, bX8_readFrom, rX8_readFrom, nar_i, nar_n0, nar_n1, List.mem_cons, List.not_mem_nil, or_false, or_self, or_true, true_or, false_or, if_false, if_true, true_and, and_true, Nat.reduceEqDiff, Nat.reduceAdd, Nat.reduceLT, reduceIte, iSet_1, iEnt_e, iEn_n, iEn_i, iEn_r, iEn_u, iEn_l, List.cons_append, List.nil_append, List.length_cons, List.length_nil, Nat.reduceSub, List.replicate_succ, List.replicate_zero, Nat.zero_add, nI_lit0, va_up_app, nI_add, nI_mul, nI_sub, nI_clamp, vp_nI, nI_le_t, nI_le_f, nI_lt_t, nI_lt_f, imp_t, imp_f, Option.toList_some, Option.toList_none, not_true_eq_false, not_false_eq_true, iR_t, nar_zI, zI_f0, zI_t0, va_up_same, upd_ne, upd_self, tx_o, txFs_len, txf_11, tx_9, txu_9, txf_12, tx_10, txu_10, txk_0, txp_0, txk_5, txp_5, txk_8, txp_8, txk_13, txp_13, txk_14, txp_14]
  refine dSu2 (Y' := mJ7_fill_53178) eX8_readFrom_38 l_RX8_65 kJ7_fill_53178 sJ7_fill_53178 nJ7_fill_53178 (Nat.le_of_ble_eq_true rfl) (j_fill (by decide) tx_10) ?_
  rw [txu_10]
  refine wp_ok (cuts := [43]) 60 _ _ _ _ ?_
  simp (config := { maxSteps := 2000000 }) (disch := omega) only [wp_su, wp_0, eX8_readFrom_0, eX8_readFrom_1, eX8_readFrom_2, eX8_readFrom_5, eX8_readFrom_6, eX8_readFrom_7, eX8_readFrom_10, eX8_readFrom_11, eX8_readFrom_12, eX8_readFrom_15, eX8_readFrom_16, eX8_readFrom_17, eX8_readFrom_20, eX8_readFrom_21, eX8_readFrom_22, eX8_readFrom_25, eX8_readFrom_26, eX8_readFrom_29, eX8_readFrom_30, eX8_readFrom_33, eX8_readFrom_34, eX8_readFrom_37, eX8_readFrom_38, eX8_readFrom_41, eX8_readFrom_42, eX8_readFrom_43, eX8_readFrom_44, eX8_readFrom_47, eX8_readFrom_50, eX8_readFrom_51, eX8_readFrom_54, eX8_readFrom_57, eX8_readFrom_58, eX8_readFrom_61, eX8_readFrom_64, eX8_readFrom_65, eX8_readFrom_66, eX8_readFrom_69, eX8_readFrom_70, eX8_readFrom_72, eX8_readFrom_75, eX8_readFrom_78, eX8_readFrom_81, eX8_readFrom_82, eX8_readFrom_85, eX8_readFrom_86, eX8_readFrom_89, eX8_readFrom_92, eX8_readFrom_93, eX8_readFrom_95, eX8_readFrom_98, eX8_readFrom_99, eX8_readFrom_102, eX8_readFrom_105, eX8_readFrom_106, eX8_readFrom_108, eX8_readFrom_111, eX8_readFrom_112, S_aload_n0, S_aload_n0N, S_aload_n1, S_aload_n1N, S_bipush, S_callS, S_callV, S_getf, S_goto, S_icmp_ge, S_iconst, S_if_ne, S_iinc_2, S_iload_n2, S_ireturn, S_istore_2, S_puti, S_putl, S_sipush, g_RX8_29, g_RX8_38, g_RX8_47, g_RX8_50, g_RX8_53, g_RX8_56, g_RX8_9, iCk_i, iCk_l, iCk_n, iCk_o, iCk_r, iS1_2, jb_100, jb_59, jb_6, jc_0, jc_1, js_940, aX8_readFrom, bX8_readFrom, rX8_readFrom, nar_i, nar_n0, nar_n1, List.mem_cons, List.not_mem_nil, or_false, or_self, or_true, true_or, false_or, if_false, if_true, true_and, and_true, Nat.reduceEqDiff, Nat.reduceAdd, Nat.reduceLT, reduceIte, iSet_1, iEnt_e, iEn_n, iEn_i, iEn_r, iEn_u, iEn_l, List.cons_append, List.nil_append, List.length_cons, List.length_nil, Nat.reduceSub, List.replicate_succ, List.replicate_zero, Nat.zero_add, nI_lit0, va_up_app, nI_add, nI_mul, nI_sub, nI_clamp, vp_nI, nI_le_t, nI_le_f, nI_lt_t, nI_lt_f, imp_t, imp_f, Option.toList_some, Option.toList_none, not_true_eq_false, not_false_eq_true, iR_t, nar_zI, zI_f0, zI_t0, va_up_same, upd_ne, upd_self, tx_o, txFs_len, txf_11, tx_9, txu_9, txf_12, tx_10, txu_10, txk_0, txp_0, txk_5, txp_5, txk_8, txp_8, txk_13, txp_13, txk_14, txp_14]
  rw [← re_tx hd]
  refine l_readFrom hG hk hlm hd (e.2.2.2.1 + 1) x 0 I _ _ _ hl ⟨0, 0, 0, ?_⟩ h19 (Nat.zero_le _) (Nat.zero_le _) (by omega)
  rw [h20]
  refine tD_init ?_ ?_ ?_ ?_ ?_ ?_ ?_ hs
  · simp [va_up]
  · simp [va_up]
  · simp [va_up]
  · simp [va_up]
  · simp [va_up]
  · intro g hg; simp [va_up, filN, hg]
  · intro g hg; simp [va_up, filN, hg]
end CFs
