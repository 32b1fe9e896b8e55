/-! The class: cover -/
theorem spT_f {w : Int64} {q : (Nat → Int32) × Nat} : ∀ i, spT w q i = ((List.range i).filterMap (fun j => if wbF w j = 0 then none else some (wbF w j).toInt32)).foldl apT q
  | 0 => rfl
  | i + 1 => by
    rw [spT, List.range_succ, List.filterMap_append, List.foldl_append, ← spT_f i]
    split
    · rename_i h; simp [h]
    · rename_i h; simp [h]
/-- the letters of text i, chalked by the class, k told -/
def txC (i : Nat) (c : (Nat → Int32) × Nat) : Nat → (Nat → Int32) × Nat
  | 0 => c
  | k + 1 => apC (txC i c k) (nI ((sBs i).getD k 0))
theorem txC_n (i : Nat) (c : (Nat → Int32) × Nat) : ∀ k, (txC i c k).2 = c.2 + k
  | 0 => rfl
  | k + 1 => by
    show (txC i c k).2 + 1 = _
    rw [txC_n i c k]; omega
/-- the letters of text i, chalked by the reference -/
def txT (i : Nat) (p : (Nat → Int32) × Nat) : Nat → (Nat → Int32) × Nat
  | 0 => p
  | k + 1 => apT (txT i p k) (nI ((sBs i).getD k 0))
theorem chR_tx {c p : (Nat → Int32) × Nat} {i : Nat} (hi : i < 6) (h : chR c p) : ∀ k, k ≤ (sBs i).length → chR (txC i c k) (txT i p k)
  | 0, _ => h
  | k + 1, hk => chR_ap (chR_tx hi h k (by omega)) (sBs_v i hi k (by omega))
theorem txw_0 {p : (Nat → Int32) × Nat} : txT 0 p 7 = syT 126879549252964 p := by
  unfold syT
  rw [spT_f, show (List.range 8).filterMap (fun j => if wbF 126879549252964 j = 0 then none else some (wbF 126879549252964 j).toInt32) = [nI 115, nI 101, nI 114, nI 118, nI 101, nI 100] by decide +kernel]
  rfl
theorem txw_1 {p : (Nat → Int32) × Nat} : txT 1 p 4 = apT (syT 28526 p) (nI 32) := by
  unfold syT
  rw [spT_f, show (List.range 8).filterMap (fun j => if wbF 28526 j = 0 then none else some (wbF 28526 j).toInt32) = [nI 111, nI 110] by decide +kernel]
  rfl
theorem txw_2 {p : (Nat → Int32) × Nat} : txT 2 p 10 = syT 109287261888882 (syT 26990 p) := by
  unfold syT
  rw [spT_f, spT_f, show (List.range 8).filterMap (fun j => if wbF 26990 j = 0 then none else some (wbF 26990 j).toInt32) = [nI 105, nI 110] by decide +kernel, show (List.range 8).filterMap (fun j => if wbF 109287261888882 j = 0 then none else some (wbF 109287261888882 j).toInt32) = [nI 99, nI 101, nI 108, nI 108, nI 97, nI 114] by decide +kernel]
  rfl
theorem txw_3 {p : (Nat → Int32) × Nat} : txT 3 p 6 = syT 491327153273 p := by
  unfold syT
  rw [spT_f, show (List.range 8).filterMap (fun j => if wbF 491327153273 j = 0 then none else some (wbF 491327153273 j).toInt32) = [nI 114, nI 101, nI 97, nI 100, nI 121] by decide +kernel]
  rfl
theorem txw_4 {p : (Nat → Int32) × Nat} : txT 4 p 6 = syT 465490373491 p := by
  unfold syT
  rw [spT_f, show (List.range 8).filterMap (fun j => if wbF 465490373491 j = 0 then none else some (wbF 465490373491 j).toInt32) = [nI 108, nI 97, nI 99, nI 107, nI 115] by decide +kernel]
  rfl
theorem pW_rs : ∀ i, i < 31 → pW (rsW i) := by
  unfold pW
  decide +kernel
section CCv
variable {G : iG} {d b : Nat} {g : iH} {X : Nat → Int32} {c p : (Nat → Int32) × Nat} {sa sv : Nat → Nat} {o9 : Option Nat} {i al : Nat} {wa : Nat → Nat} {lk : Int32}
theorem l_chT (hG : StG G sa sv o9) (hi : i < 6) (hl : c.2 + (sBs i).length ≤ 64) : ∀ (r k : Nat), k + r = (sBs i).length → K G (d + 4) 0 0 mX11_chalkText 2 [some (.ref b), some (.ref (sa i)), some (.int (nI k))] [] (chH G b X g (txC i c k)) (iR none (chH G b X g (txC i c (sBs i).length))) := by
  have h10 := sBs_l i hi
  intro r
  induction r with
  | zero =>
    intro k hk
    obtain rfl : k = (sBs i).length := by omega
    refine wp_ok (cuts := []) 2 _ _ _ _ ?_
    simp (config := { maxSteps := 2000000 }) (disch := omega) only [wp_su, wp_0, eX11_chalkText_0, eX11_chalkText_1, eX11_chalkText_2, eX11_chalkText_3, eX11_chalkText_4, eX11_chalkText_7, eX11_chalkText_10, eX11_chalkText_11, eX11_chalkText_12, eX11_chalkText_13, eX11_chalkText_16, eX11_chalkText_19, eX11_chalkText_22, eX11_chalkText_25, S_aload_n0, S_aload_n0N, S_aload_n1, S_aload_n1N, S_callV, S_goto, S_icmp_ge, S_iconst, S_iinc_2, S_iload_n2, S_istore_2, S_return, iCk_i, iCk_l, iCk_n, iCk_o, iCk_r, iS1_2, jc_0, jc_1, aX11_chalkText, bX11_chalkText, rX11_chalkText, nar_i, nar_n0, nar_n1, List.mem_cons, List.not_mem_nil, or_false, or_self, or_true, true_or, false_or, if_false, if_true, true_and, and_true, Nat.reduceEqDiff, Nat.reduceAdd, Nat.reduceLT, reduceIte, iSet_1, iEnt_e, iEn_n, iEn_i, iEn_r, iEn_u, iEn_l, List.cons_append, List.nil_append, List.length_cons, List.length_nil, Nat.reduceSub, List.replicate_succ, List.replicate_zero, Nat.zero_add, nI_lit0, va_up_app, nI_add, nI_mul, nI_sub, nI_clamp, vp_nI, nI_le_t, nI_le_f, nI_lt_t, nI_lt_f, imp_t, imp_f, Option.toList_some, Option.toList_none, not_true_eq_false, not_false_eq_true, iR_t, nar_zI, zI_f0, zI_t0, va_up_same, upd_ne, upd_self]
    refine ks_callVO (As := []) (mc := 0) (ms := 0) (Y' := mJ0_length_8abf5) eX11_chalkText_4 l_RX11_356 kJ0_length_8abf5 iJ0_length_8abf5 nJ0_length_8abf5 (fun s hs => (hG.2.2 i hi s hs).2.1) (Nat.le_of_ble_eq_true rfl) (c_slen (d := d + 2) hG hi) (Nat.zero_le _) (Nat.zero_le _) ?_
    rintro v g ⟨rfl, rfl⟩
    refine wp_ok (cuts := []) 10 _ _ _ _ ?_
    simp (config := { maxSteps := 2000000 }) (disch := omega) only [wp_su, wp_0, eX11_chalkText_0, eX11_chalkText_1, eX11_chalkText_2, eX11_chalkText_3, eX11_chalkText_4, eX11_chalkText_7, eX11_chalkText_10, eX11_chalkText_11, eX11_chalkText_12, eX11_chalkText_13, eX11_chalkText_16, eX11_chalkText_19, eX11_chalkText_22, eX11_chalkText_25, S_aload_n0, S_aload_n0N, S_aload_n1, S_aload_n1N, S_callV, S_goto, S_icmp_ge, S_iconst, S_iinc_2, S_iload_n2, S_istore_2, S_return, iCk_i, iCk_l, iCk_n, iCk_o, iCk_r, iS1_2, jc_0, jc_1, aX11_chalkText, bX11_chalkText, rX11_chalkText, nar_i, nar_n0, nar_n1, List.mem_cons, List.not_mem_nil, or_false, or_self, or_true, true_or, false_or, if_false, if_true, true_and, and_true, Nat.reduceEqDiff, Nat.reduceAdd, Nat.reduceLT, reduceIte, iSet_1, iEnt_e, iEn_n, iEn_i, iEn_r, iEn_u, iEn_l, List.cons_append, List.nil_append, List.length_cons, List.length_nil, Nat.reduceSub, List.replicate_succ, List.replicate_zero, Nat.zero_add, nI_lit0, va_up_app, nI_add, nI_mul, nI_sub, nI_clamp, vp_nI, nI_le_t, nI_le_f, nI_lt_t, nI_lt_f, imp_t, imp_f, Option.toList_some, Option.toList_none, not_true_eq_false, not_false_eq_true, iR_t, nar_zI, zI_f0, zI_t0, va_up_same, upd_ne, upd_self]
    try exact iR_i
  | succ r ih =>
    intro k hk
    have e := ih (k + 1) (by omega)
    have hn := txC_n i c k
    refine wp_ok (cuts := []) 2 _ _ _ _ ?_
    simp (config := { maxSteps := 2000000 }) (disch := omega) only [wp_su, wp_0, eX11_chalkText_0, eX11_chalkText_1, eX11_chalkText_2, eX11_chalkText_3, eX11_chalkText_4, eX11_chalkText_7, eX11_chalkText_10, eX11_chalkText_11, eX11_chalkText_12, eX11_chalkText_13, eX11_chalkText_16, eX11_chalkText_19, eX11_chalkText_22, eX11_chalkText_25, S_aload_n0, S_aload_n0N, S_aload_n1, S_aload_n1N, S_callV, S_goto, S_icmp_ge, S_iconst, S_iinc_2, S_iload_n2, S_istore_2, S_return, iCk_i, iCk_l, iCk_n, iCk_o, iCk_r, iS1_2, jc_0, jc_1, aX11_chalkText, bX11_chalkText, rX11_chalkText, nar_i, nar_n0, nar_n1, List.mem_cons, List.not_mem_nil, or_false, or_self, or_true, true_or, false_or, if_false, if_true, true_and, and_true, Nat.reduceEqDiff, Nat.reduceAdd, Nat.reduceLT, reduceIte, iSet_1, iEnt_e, iEn_n, iEn_i, iEn_r, iEn_u, iEn_l, List.cons_append, List.nil_append, List.length_cons, List.length_nil, Nat.reduceSub, List.replicate_succ, List.replicate_zero, Nat.zero_add, nI_lit0, va_up_app, nI_add, nI_mul, nI_sub, nI_clamp, vp_nI, nI_le_t, nI_le_f, nI_lt_t, nI_lt_f, imp_t, imp_f, Option.toList_some, Option.toList_none, not_true_eq_false, not_false_eq_true, iR_t, nar_zI, zI_f0, zI_t0, va_up_same, upd_ne, upd_self]
    refine ks_callVO (As := []) (mc := 0) (ms := 0) (Y' := mJ0_length_8abf5) eX11_chalkText_4 l_RX11_356 kJ0_length_8abf5 iJ0_length_8abf5 nJ0_length_8abf5 (fun s hs => (hG.2.2 i hi s hs).2.1) (Nat.le_of_ble_eq_true rfl) (c_slen (d := d + 2) hG hi) (Nat.zero_le _) (Nat.zero_le _) ?_
    rintro v g ⟨rfl, rfl⟩
    refine wp_ok (cuts := []) 10 _ _ _ _ ?_
    simp (config := { maxSteps := 2000000 }) (disch := omega) only [wp_su, wp_0, eX11_chalkText_0, eX11_chalkText_1, eX11_chalkText_2, eX11_chalkText_3, eX11_chalkText_4, eX11_chalkText_7, eX11_chalkText_10, eX11_chalkText_11, eX11_chalkText_12, eX11_chalkText_13, eX11_chalkText_16, eX11_chalkText_19, eX11_chalkText_22, eX11_chalkText_25, S_aload_n0, S_aload_n0N, S_aload_n1, S_aload_n1N, S_callV, S_goto, S_icmp_ge, S_iconst, S_iinc_2, S_iload_n2, S_istore_2, S_return, iCk_i, iCk_l, iCk_n, iCk_o, iCk_r, iS1_2, jc_0, jc_1, aX11_chalkText, bX11_chalkText, rX11_chalkText, nar_i, nar_n0, nar_n1, List.mem_cons, List.not_mem_nil, or_false, or_self, or_true, true_or, false_or, if_false, if_true, true_and, and_true, Nat.reduceEqDiff, Nat.reduceAdd, Nat.reduceLT, reduceIte, iSet_1, iEnt_e, iEn_n, iEn_i, iEn_r, iEn_u, iEn_l, List.cons_append, List.nil_append, List.length_cons, List.length_nil, Nat.reduceSub, List.replicate_succ, List.replicate_zero, Nat.zero_add, nI_lit0, va_up_app, nI_add, nI_mul, nI_sub, nI_clamp, vp_nI, nI_le_t, nI_le_f, nI_lt_t, nI_lt_f, imp_t, imp_f, Option.toList_some, Option.toList_none, not_true_eq_false, not_false_eq_true, iR_t, nar_zI, zI_f0, zI_t0, va_up_same, upd_ne, upd_self]
    refine ks_callVO (As := [.int (nI k)]) (mc := 0) (ms := 0) (Y' := mJ0_charAt_5068e) eX11_chalkText_13 l_RX11_361 kJ0_charAt_5068e iJ0_charAt_5068e nJ0_charAt_5068e (fun s hs => (hG.2.2 i hi s hs).2.1) (Nat.le_of_ble_eq_true rfl) (c_char (d := d) hG hi (by omega)) (Nat.zero_le _) (Nat.zero_le _) ?_
    rintro v g ⟨rfl, rfl⟩
    refine dVu1 (Y' := mX11_chalkByte) eX11_chalkText_16 l_RX11_365 kX11_chalkByte iX11_chalkByte nX11_chalkByte (x_o) rfl rfl (Nat.le_of_ble_eq_true rfl) (c_chB (by omega)) ?_
    refine wp_ok (cuts := [2]) 10 _ _ _ _ ?_
    simp (config := { maxSteps := 2000000 }) (disch := omega) only [wp_su, wp_0, eX11_chalkText_0, eX11_chalkText_1, eX11_chalkText_2, eX11_chalkText_3, eX11_chalkText_4, eX11_chalkText_7, eX11_chalkText_10, eX11_chalkText_11, eX11_chalkText_12, eX11_chalkText_13, eX11_chalkText_16, eX11_chalkText_19, eX11_chalkText_22, eX11_chalkText_25, S_aload_n0, S_aload_n0N, S_aload_n1, S_aload_n1N, S_callV, S_goto, S_icmp_ge, S_iconst, S_iinc_2, S_iload_n2, S_istore_2, S_return, iCk_i, iCk_l, iCk_n, iCk_o, iCk_r, iS1_2, jc_0, jc_1, aX11_chalkText, bX11_chalkText, rX11_chalkText, nar_i, nar_n0, nar_n1, List.mem_cons, List.not_mem_nil, or_false, or_self, or_true, true_or, false_or, if_false, if_true, true_and, and_true, Nat.reduceEqDiff, Nat.reduceAdd, Nat.reduceLT, reduceIte, iSet_1, iEnt_e, iEn_n, iEn_i, iEn_r, iEn_u, iEn_l, List.cons_append, List.nil_append, List.length_cons, List.length_nil, Nat.reduceSub, List.replicate_succ, List.replicate_zero, Nat.zero_add, nI_lit0, va_up_app, nI_add, nI_mul, nI_sub, nI_clamp, vp_nI, nI_le_t, nI_le_f, nI_lt_t, nI_lt_f, imp_t, imp_f, Option.toList_some, Option.toList_none, not_true_eq_false, not_false_eq_true, iR_t, nar_zI, zI_f0, zI_t0, va_up_same, upd_ne, upd_self, nI_add]
    exact e
theorem c_chT (hG : StG G sa sv o9) (hi : i < 6) (hl : c.2 + (sBs i).length ≤ 64) : C G (d + 4) 0 0 mX11_chalkText [.ref b, .ref (sa i)] (chH G b X g c) (iR none (chH G b X g (txC i c (sBs i).length))) := by
  refine C_in p_RX11 (Nat.le_of_ble_eq_true rfl) rfl ?_
  refine wp_ok (cuts := [2]) 10 _ _ _ _ ?_
  simp (config := { maxSteps := 2000000 }) (disch := omega) only [wp_su, wp_0, eX11_chalkText_0, eX11_chalkText_1, eX11_chalkText_2, eX11_chalkText_3, eX11_chalkText_4, eX11_chalkText_7, eX11_chalkText_10, eX11_chalkText_11, eX11_chalkText_12, eX11_chalkText_13, eX11_chalkText_16, eX11_chalkText_19, eX11_chalkText_22, eX11_chalkText_25, S_aload_n0, S_aload_n0N, S_aload_n1, S_aload_n1N, S_callV, S_goto, S_icmp_ge, S_iconst, S_iinc_2, S_iload_n2, S_istore_2, S_return, iCk_i, iCk_l, iCk_n, iCk_o, iCk_r, iS1_2, jc_0, jc_1, aX11_chalkText, bX11_chalkText, rX11_chalkText, nar_i, nar_n0, nar_n1, List.mem_cons, List.not_mem_nil, or_false, or_self, or_true, true_or, false_or, if_false, if_true, true_and, and_true, Nat.reduceEqDiff, Nat.reduceAdd, Nat.reduceLT, reduceIte, iSet_1, iEnt_e, iEn_n, iEn_i, iEn_r, iEn_u, iEn_l, List.cons_append, List.nil_append, List.length_cons, List.length_nil, Nat.reduceSub, List.replicate_succ, List.replicate_zero, Nat.zero_add, nI_lit0, va_up_app, nI_add, nI_mul, nI_sub, nI_clamp, vp_nI, nI_le_t, nI_le_f, nI_lt_t, nI_lt_f, imp_t, imp_f, Option.toList_some, Option.toList_none, not_true_eq_false, not_false_eq_true, iR_t, nar_zI, zI_f0, zI_t0, va_up_same, upd_ne, upd_self]
  exact l_chT hG hi hl (sBs i).length 0 (Nat.zero_add _)
/-- the gifts that are lacking, chalked by the class -/
def cvC (lk : Int32) : Nat → (Nat → Int32) × Nat → (Nat → Int32) × Nat
  | 0, c => c
  | g + 1, c => if bitF lk (nI g) = true then spC (rsW (8 + g)) (txC 5 (cvC lk g c) 1) 8 else cvC lk g c
theorem cvC_le (lk : Int32) (c : (Nat → Int32) × Nat) : ∀ g, (cvC lk g c).2 ≤ c.2 + 9 * g
  | 0 => Nat.le_refl _
  | g + 1 => by
    rw [cvC]
    have := cvC_le lk c g
    split
    · have h1 := spC_le (rsW (8 + g)) (txC 5 (cvC lk g c) 1) 8
      have h2 := txC_n 5 (cvC lk g c) 1
      omega
    · omega
theorem chR_cv (h : chR c p) : ∀ g, g ≤ 4 → chR (cvC lk g c) (cvG lk rsW g p)
  | 0, _ => h
  | g + 1, hg => by
    rw [cvC, cvG]
    split
    · exact chR_sp (pW_rs _ (by omega)) (chR_tx (i := 5) (by omega) (chR_cv h g (by omega)) 1 (by decide)) 8 (by omega)
    · exact chR_cv h g (by omega)
theorem l_chL (hG : StG G sa sv o9) (hW : SG G wa al) (hl : c.2 + 36 ≤ 64) : ∀ (r k : Nat), k + r = 4 → K G (d + 5) 0 0 mX11_chalkLacking 21 [some (.ref b), some (.int lk), some (.int (nI k))] [] (chH G b X g (cvC lk k c)) (iR none (chH G b X g (cvC lk 4 c))) := by
  intro r
  induction r with
  | zero =>
    intro k hk
    obtain rfl : k = 4 := by omega
    refine wp_ok (cuts := []) 10 _ _ _ _ ?_
    simp (config := { maxSteps := 2000000 }) (disch := omega) only [wp_su, wp_0, eX11_chalkLacking_0, eX11_chalkLacking_1, eX11_chalkLacking_4, eX11_chalkLacking_5, eX11_chalkLacking_8, eX11_chalkLacking_11, eX11_chalkLacking_12, eX11_chalkLacking_13, eX11_chalkLacking_16, eX11_chalkLacking_19, eX11_chalkLacking_20, eX11_chalkLacking_21, eX11_chalkLacking_22, eX11_chalkLacking_23, eX11_chalkLacking_26, eX11_chalkLacking_27, eX11_chalkLacking_28, eX11_chalkLacking_29, eX11_chalkLacking_30, eX11_chalkLacking_31, eX11_chalkLacking_34, eX11_chalkLacking_35, eX11_chalkLacking_38, eX11_chalkLacking_41, eX11_chalkLacking_42, eX11_chalkLacking_43, eX11_chalkLacking_46, eX11_chalkLacking_49, eX11_chalkLacking_52, eX11_chalkLacking_55, S_aload_n0, S_aload_n0N, S_callS, S_callV, S_goto, S_iand, S_icmp_ge, S_iconst, S_if_eq, S_if_ne, S_iinc_2, S_iload_n1, S_iload_n2, S_ishr, S_istore_2, S_ldcw, S_return, iCk_i, iCk_l, iCk_n, iCk_o, iCk_r, iS1_2, jc_0, jc_1, jc_4, aX11_chalkLacking, bX11_chalkLacking, rX11_chalkLacking, nar_i, nar_n0, nar_n1, List.mem_cons, List.not_mem_nil, or_false, or_self, or_true, true_or, false_or, if_false, if_true, true_and, and_true, Nat.reduceEqDiff, Nat.reduceAdd, Nat.reduceLT, reduceIte, iSet_1, iEnt_e, iEn_n, iEn_i, iEn_r, iEn_u, iEn_l, List.cons_append, List.nil_append, List.length_cons, List.length_nil, Nat.reduceSub, List.replicate_succ, List.replicate_zero, Nat.zero_add, nI_lit0, va_up_app, nI_add, nI_mul, nI_sub, nI_clamp, vp_nI, nI_le_t, nI_le_f, nI_lt_t, nI_lt_f, imp_t, imp_f, Option.toList_some, Option.toList_none, not_true_eq_false, not_false_eq_true, iR_t, nar_zI, zI_f0, zI_t0, va_up_same, upd_ne, upd_self]
    try exact iR_i
  | succ r ih =>
    intro k hk
    have e := ih (k + 1) (by omega)
    rw [cvC] at e
    have hle := cvC_le lk c k
    have h1 := txC_n 5 (cvC lk k c) 1
    refine wp_ok (cuts := []) 1 _ _ _ _ ?_
    simp only [wp_su, wp_0, eX11_chalkLacking_21, S_iload_n2, List.not_mem_nil, if_false]
    cases hb : bitF lk (nI k)
    · simp only [hb, Bool.false_eq_true, if_false] at e
      have hb' := bitF_f hb
      refine wp_ok (cuts := [21]) 30 _ _ _ _ ?_
      simp (config := { maxSteps := 2000000 }) (disch := omega) only [wp_su, wp_0, eX11_chalkLacking_0, eX11_chalkLacking_1, eX11_chalkLacking_4, eX11_chalkLacking_5, eX11_chalkLacking_8, eX11_chalkLacking_11, eX11_chalkLacking_12, eX11_chalkLacking_13, eX11_chalkLacking_16, eX11_chalkLacking_19, eX11_chalkLacking_20, eX11_chalkLacking_21, eX11_chalkLacking_22, eX11_chalkLacking_23, eX11_chalkLacking_26, eX11_chalkLacking_27, eX11_chalkLacking_28, eX11_chalkLacking_29, eX11_chalkLacking_30, eX11_chalkLacking_31, eX11_chalkLacking_34, eX11_chalkLacking_35, eX11_chalkLacking_38, eX11_chalkLacking_41, eX11_chalkLacking_42, eX11_chalkLacking_43, eX11_chalkLacking_46, eX11_chalkLacking_49, eX11_chalkLacking_52, eX11_chalkLacking_55, S_aload_n0, S_aload_n0N, S_callS, S_callV, S_goto, S_iand, S_icmp_ge, S_iconst, S_if_eq, S_if_ne, S_iinc_2, S_iload_n1, S_iload_n2, S_ishr, S_istore_2, S_ldcw, S_return, iCk_i, iCk_l, iCk_n, iCk_o, iCk_r, iS1_2, jc_0, jc_1, jc_4, aX11_chalkLacking, bX11_chalkLacking, rX11_chalkLacking, nar_i, nar_n0, nar_n1, List.mem_cons, List.not_mem_nil, or_false, or_self, or_true, true_or, false_or, if_false, if_true, true_and, and_true, Nat.reduceEqDiff, Nat.reduceAdd, Nat.reduceLT, reduceIte, iSet_1, iEnt_e, iEn_n, iEn_i, iEn_r, iEn_u, iEn_l, List.cons_append, List.nil_append, List.length_cons, List.length_nil, Nat.reduceSub, List.replicate_succ, List.replicate_zero, Nat.zero_add, nI_lit0, va_up_app, nI_add, nI_mul, nI_sub, nI_clamp, vp_nI, nI_le_t, nI_le_f, nI_lt_t, nI_lt_f, imp_t, imp_f, Option.toList_some, Option.toList_none, not_true_eq_false, not_false_eq_true, iR_t, nar_zI, zI_f0, zI_t0, va_up_same, upd_ne, upd_self, hb', nI_eq_t, nI_add]
      exact e
    · simp only [hb, if_true] at e
      have hb' := bitF_t hb
      refine wp_ok (cuts := [35]) 30 _ _ _ _ ?_
      simp (config := { maxSteps := 2000000 }) (disch := omega) only [wp_su, wp_0, eX11_chalkLacking_0, eX11_chalkLacking_1, eX11_chalkLacking_4, eX11_chalkLacking_5, eX11_chalkLacking_8, eX11_chalkLacking_11, eX11_chalkLacking_12, eX11_chalkLacking_13, eX11_chalkLacking_16, eX11_chalkLacking_19, eX11_chalkLacking_20, eX11_chalkLacking_21, eX11_chalkLacking_22, eX11_chalkLacking_23, eX11_chalkLacking_26, eX11_chalkLacking_27, eX11_chalkLacking_28, eX11_chalkLacking_29, eX11_chalkLacking_30, eX11_chalkLacking_31, eX11_chalkLacking_34, eX11_chalkLacking_35, eX11_chalkLacking_38, eX11_chalkLacking_41, eX11_chalkLacking_42, eX11_chalkLacking_43, eX11_chalkLacking_46, eX11_chalkLacking_49, eX11_chalkLacking_52, eX11_chalkLacking_55, S_aload_n0, S_aload_n0N, S_callS, S_callV, S_goto, S_iand, S_icmp_ge, S_iconst, S_if_eq, S_if_ne, S_iinc_2, S_iload_n1, S_iload_n2, S_ishr, S_istore_2, S_ldcw, S_return, iCk_i, iCk_l, iCk_n, iCk_o, iCk_r, iS1_2, jc_0, jc_1, jc_4, aX11_chalkLacking, bX11_chalkLacking, rX11_chalkLacking, nar_i, nar_n0, nar_n1, List.mem_cons, List.not_mem_nil, or_false, or_self, or_true, true_or, false_or, if_false, if_true, true_and, and_true, Nat.reduceEqDiff, Nat.reduceAdd, Nat.reduceLT, reduceIte, iSet_1, iEnt_e, iEn_n, iEn_i, iEn_r, iEn_u, iEn_l, List.cons_append, List.nil_append, List.length_cons, List.length_nil, Nat.reduceSub, List.replicate_succ, List.replicate_zero, Nat.zero_add, nI_lit0, va_up_app, nI_add, nI_mul, nI_sub, nI_clamp, vp_nI, nI_le_t, nI_le_f, nI_lt_t, nI_lt_f, imp_t, imp_f, Option.toList_some, Option.toList_none, not_true_eq_false, not_false_eq_true, iR_t, nar_zI, zI_f0, zI_t0, va_up_same, upd_ne, upd_self, hb', n_1z]
      refine ks_ldcs eX11_chalkLacking_35 (fun s hs => (hG.2.2 5 (by decide) s hs).1) ?_
      refine dVu1 (Y' := mX11_chalkText) eX11_chalkLacking_38 l_RX11_330 kX11_chalkText iX11_chalkText nX11_chalkText (x_o) rfl rfl (Nat.le_of_ble_eq_true rfl) (c_chT (i := 5) hG (by decide) (by show _ + 1 ≤ 64; omega)) ?_
      refine wp_ok (cuts := []) 30 _ _ _ _ ?_
      simp (config := { maxSteps := 2000000 }) (disch := omega) only [wp_su, wp_0, eX11_chalkLacking_0, eX11_chalkLacking_1, eX11_chalkLacking_4, eX11_chalkLacking_5, eX11_chalkLacking_8, eX11_chalkLacking_11, eX11_chalkLacking_12, eX11_chalkLacking_13, eX11_chalkLacking_16, eX11_chalkLacking_19, eX11_chalkLacking_20, eX11_chalkLacking_21, eX11_chalkLacking_22, eX11_chalkLacking_23, eX11_chalkLacking_26, eX11_chalkLacking_27, eX11_chalkLacking_28, eX11_chalkLacking_29, eX11_chalkLacking_30, eX11_chalkLacking_31, eX11_chalkLacking_34, eX11_chalkLacking_35, eX11_chalkLacking_38, eX11_chalkLacking_41, eX11_chalkLacking_42, eX11_chalkLacking_43, eX11_chalkLacking_46, eX11_chalkLacking_49, eX11_chalkLacking_52, eX11_chalkLacking_55, S_aload_n0, S_aload_n0N, S_callS, S_callV, S_goto, S_iand, S_icmp_ge, S_iconst, S_if_eq, S_if_ne, S_iinc_2, S_iload_n1, S_iload_n2, S_ishr, S_istore_2, S_ldcw, S_return, iCk_i, iCk_l, iCk_n, iCk_o, iCk_r, iS1_2, jc_0, jc_1, jc_4, aX11_chalkLacking, bX11_chalkLacking, rX11_chalkLacking, nar_i, nar_n0, nar_n1, List.mem_cons, List.not_mem_nil, or_false, or_self, or_true, true_or, false_or, if_false, if_true, true_and, and_true, Nat.reduceEqDiff, Nat.reduceAdd, Nat.reduceLT, reduceIte, iSet_1, iEnt_e, iEn_n, iEn_i, iEn_r, iEn_u, iEn_l, List.cons_append, List.nil_append, List.length_cons, List.length_nil, Nat.reduceSub, List.replicate_succ, List.replicate_zero, Nat.zero_add, nI_lit0, va_up_app, nI_add, nI_mul, nI_sub, nI_clamp, vp_nI, nI_le_t, nI_le_f, nI_lt_t, nI_lt_f, imp_t, imp_f, Option.toList_some, Option.toList_none, not_true_eq_false, not_false_eq_true, iR_t, nar_zI, zI_f0, zI_t0, va_up_same, upd_ne, upd_self]
      refine dS1 (Y' := mX10_packedGift) eX11_chalkLacking_43 l_RX11_350 kX10_packedGift sX10_packedGift nX10_packedGift (Nat.le_of_ble_eq_true rfl) (c_packed (by omega) hW) ?_
      refine dVu1 (Y' := mX11_chalkName) eX11_chalkLacking_46 l_RX11_324 kX11_chalkName iX11_chalkName nX11_chalkName (x_o) rfl rfl (Nat.le_of_ble_eq_true rfl) (c_chN (pW_rs _ (by omega)) (by show (txC 5 (cvC lk k c) 1).2 + 8 ≤ 64; omega)) ?_
      refine wp_ok (cuts := [21]) 30 _ _ _ _ ?_
      simp (config := { maxSteps := 2000000 }) (disch := omega) only [wp_su, wp_0, eX11_chalkLacking_0, eX11_chalkLacking_1, eX11_chalkLacking_4, eX11_chalkLacking_5, eX11_chalkLacking_8, eX11_chalkLacking_11, eX11_chalkLacking_12, eX11_chalkLacking_13, eX11_chalkLacking_16, eX11_chalkLacking_19, eX11_chalkLacking_20, eX11_chalkLacking_21, eX11_chalkLacking_22, eX11_chalkLacking_23, eX11_chalkLacking_26, eX11_chalkLacking_27, eX11_chalkLacking_28, eX11_chalkLacking_29, eX11_chalkLacking_30, eX11_chalkLacking_31, eX11_chalkLacking_34, eX11_chalkLacking_35, eX11_chalkLacking_38, eX11_chalkLacking_41, eX11_chalkLacking_42, eX11_chalkLacking_43, eX11_chalkLacking_46, eX11_chalkLacking_49, eX11_chalkLacking_52, eX11_chalkLacking_55, S_aload_n0, S_aload_n0N, S_callS, S_callV, S_goto, S_iand, S_icmp_ge, S_iconst, S_if_eq, S_if_ne, S_iinc_2, S_iload_n1, S_iload_n2, S_ishr, S_istore_2, S_ldcw, S_return, iCk_i, iCk_l, iCk_n, iCk_o, iCk_r, iS1_2, jc_0, jc_1, jc_4, aX11_chalkLacking, bX11_chalkLacking, rX11_chalkLacking, nar_i, nar_n0, nar_n1, List.mem_cons, List.not_mem_nil, or_false, or_self, or_true, true_or, false_or, if_false, if_true, true_and, and_true, Nat.reduceEqDiff, Nat.reduceAdd, Nat.reduceLT, reduceIte, iSet_1, iEnt_e, iEn_n, iEn_i, iEn_r, iEn_u, iEn_l, List.cons_append, List.nil_append, List.length_cons, List.length_nil, Nat.reduceSub, List.replicate_succ, List.replicate_zero, Nat.zero_add, nI_lit0, va_up_app, nI_add, nI_mul, nI_sub, nI_clamp, vp_nI, nI_le_t, nI_le_f, nI_lt_t, nI_lt_f, imp_t, imp_f, Option.toList_some, Option.toList_none, not_true_eq_false, not_false_eq_true, iR_t, nar_zI, zI_f0, zI_t0, va_up_same, upd_ne, upd_self, nI_add]
      exact e
theorem c_chL (hG : StG G sa sv o9) (hW : SG G wa al) (hl : c.2 + 42 ≤ 64) : C G (d + 5) 0 0 mX11_chalkLacking [.ref b, .int lk] (chH G b X g c) (iR none (chH G b X g (cvC lk 4 (txC (if lk = nI 0 then 3 else 4) c 6)))) := by
  have h3 := txC_n 4 c 6
  refine C_in p_RX11 (Nat.le_of_ble_eq_true rfl) rfl ?_
  by_cases hz : lk = nI 0
  · subst hz
    have e0 : ∀ c, cvC (nI 0) 4 c = c := fun c => by
      have hb : ∀ k, k < 4 → bitF (nI 0) (nI k) = false := by decide +kernel
      simp only [cvC, hb 0 (by decide), hb 1 (by decide), hb 2 (by decide), hb 3 (by decide), Bool.false_eq_true, if_false]
    rw [e0]
    simp only [if_true]
    refine wp_ok (cuts := [5]) 10 _ _ _ _ ?_
    simp (config := { maxSteps := 2000000 }) (disch := omega) only [wp_su, wp_0, eX11_chalkLacking_0, eX11_chalkLacking_1, eX11_chalkLacking_4, eX11_chalkLacking_5, eX11_chalkLacking_8, eX11_chalkLacking_11, eX11_chalkLacking_12, eX11_chalkLacking_13, eX11_chalkLacking_16, eX11_chalkLacking_19, eX11_chalkLacking_20, eX11_chalkLacking_21, eX11_chalkLacking_22, eX11_chalkLacking_23, eX11_chalkLacking_26, eX11_chalkLacking_27, eX11_chalkLacking_28, eX11_chalkLacking_29, eX11_chalkLacking_30, eX11_chalkLacking_31, eX11_chalkLacking_34, eX11_chalkLacking_35, eX11_chalkLacking_38, eX11_chalkLacking_41, eX11_chalkLacking_42, eX11_chalkLacking_43, eX11_chalkLacking_46, eX11_chalkLacking_49, eX11_chalkLacking_52, eX11_chalkLacking_55, S_aload_n0, S_aload_n0N, S_callS, S_callV, S_goto, S_iand, S_icmp_ge, S_iconst, S_if_eq, S_if_ne, S_iinc_2, S_iload_n1, S_iload_n2, S_ishr, S_istore_2, S_ldcw, S_return, iCk_i, iCk_l, iCk_n, iCk_o, iCk_r, iS1_2, jc_0, jc_1, jc_4, aX11_chalkLacking, bX11_chalkLacking, rX11_chalkLacking, nar_i, nar_n0, nar_n1, List.mem_cons, List.not_mem_nil, or_false, or_self, or_true, true_or, false_or, if_false, if_true, true_and, and_true, Nat.reduceEqDiff, Nat.reduceAdd, Nat.reduceLT, reduceIte, iSet_1, iEnt_e, iEn_n, iEn_i, iEn_r, iEn_u, iEn_l, List.cons_append, List.nil_append, List.length_cons, List.length_nil, Nat.reduceSub, List.replicate_succ, List.replicate_zero, Nat.zero_add, nI_lit0, va_up_app, nI_add, nI_mul, nI_sub, nI_clamp, vp_nI, nI_le_t, nI_le_f, nI_lt_t, nI_lt_f, imp_t, imp_f, Option.toList_some, Option.toList_none, not_true_eq_false, not_false_eq_true, iR_t, nar_zI, zI_f0, zI_t0, va_up_same, upd_ne, upd_self, nI_eq_t]
    refine ks_ldcs eX11_chalkLacking_5 (fun s hs => (hG.2.2 3 (by decide) s hs).1) ?_
    refine dVu1 (Y' := mX11_chalkText) eX11_chalkLacking_8 l_RX11_330 kX11_chalkText iX11_chalkText nX11_chalkText (x_o) rfl rfl (Nat.le_of_ble_eq_true rfl) (c_chT (i := 3) hG (by decide) (by show _ + 6 ≤ 64; omega)) ?_
    refine wp_ok (cuts := []) 10 _ _ _ _ ?_
    simp (config := { maxSteps := 2000000 }) (disch := omega) only [wp_su, wp_0, eX11_chalkLacking_0, eX11_chalkLacking_1, eX11_chalkLacking_4, eX11_chalkLacking_5, eX11_chalkLacking_8, eX11_chalkLacking_11, eX11_chalkLacking_12, eX11_chalkLacking_13, eX11_chalkLacking_16, eX11_chalkLacking_19, eX11_chalkLacking_20, eX11_chalkLacking_21, eX11_chalkLacking_22, eX11_chalkLacking_23, eX11_chalkLacking_26, eX11_chalkLacking_27, eX11_chalkLacking_28, eX11_chalkLacking_29, eX11_chalkLacking_30, eX11_chalkLacking_31, eX11_chalkLacking_34, eX11_chalkLacking_35, eX11_chalkLacking_38, eX11_chalkLacking_41, eX11_chalkLacking_42, eX11_chalkLacking_43, eX11_chalkLacking_46, eX11_chalkLacking_49, eX11_chalkLacking_52, eX11_chalkLacking_55, S_aload_n0, S_aload_n0N, S_callS, S_callV, S_goto, S_iand, S_icmp_ge, S_iconst, S_if_eq, S_if_ne, S_iinc_2, S_iload_n1, S_iload_n2, S_ishr, S_istore_2, S_ldcw, S_return, iCk_i, iCk_l, iCk_n, iCk_o, iCk_r, iS1_2, jc_0, jc_1, jc_4, aX11_chalkLacking, bX11_chalkLacking, rX11_chalkLacking, nar_i, nar_n0, nar_n1, List.mem_cons, List.not_mem_nil, or_false, or_self, or_true, true_or, false_or, if_false, if_true, true_and, and_true, Nat.reduceEqDiff, Nat.reduceAdd, Nat.reduceLT, reduceIte, iSet_1, iEnt_e, iEn_n, iEn_i, iEn_r, iEn_u, iEn_l, List.cons_append, List.nil_append, List.length_cons, List.length_nil, Nat.reduceSub, List.replicate_succ, List.replicate_zero, Nat.zero_add, nI_lit0, va_up_app, nI_add, nI_mul, nI_sub, nI_clamp, vp_nI, nI_le_t, nI_le_f, nI_lt_t, nI_lt_f, imp_t, imp_f, Option.toList_some, Option.toList_none, not_true_eq_false, not_false_eq_true, iR_t, nar_zI, zI_f0, zI_t0, va_up_same, upd_ne, upd_self]
    exact iR_i
  · simp only [hz, if_false]
    refine wp_ok (cuts := [13]) 10 _ _ _ _ ?_
    simp (config := { maxSteps := 2000000 }) (disch := omega) only [wp_su, wp_0, eX11_chalkLacking_0, eX11_chalkLacking_1, eX11_chalkLacking_4, eX11_chalkLacking_5, eX11_chalkLacking_8, eX11_chalkLacking_11, eX11_chalkLacking_12, eX11_chalkLacking_13, eX11_chalkLacking_16, eX11_chalkLacking_19, eX11_chalkLacking_20, eX11_chalkLacking_21, eX11_chalkLacking_22, eX11_chalkLacking_23, eX11_chalkLacking_26, eX11_chalkLacking_27, eX11_chalkLacking_28, eX11_chalkLacking_29, eX11_chalkLacking_30, eX11_chalkLacking_31, eX11_chalkLacking_34, eX11_chalkLacking_35, eX11_chalkLacking_38, eX11_chalkLacking_41, eX11_chalkLacking_42, eX11_chalkLacking_43, eX11_chalkLacking_46, eX11_chalkLacking_49, eX11_chalkLacking_52, eX11_chalkLacking_55, S_aload_n0, S_aload_n0N, S_callS, S_callV, S_goto, S_iand, S_icmp_ge, S_iconst, S_if_eq, S_if_ne, S_iinc_2, S_iload_n1, S_iload_n2, S_ishr, S_istore_2, S_ldcw, S_return, iCk_i, iCk_l, iCk_n, iCk_o, iCk_r, iS1_2, jc_0, jc_1, jc_4, aX11_chalkLacking, bX11_chalkLacking, rX11_chalkLacking, nar_i, nar_n0, nar_n1, List.mem_cons, List.not_mem_nil, or_false, or_self, or_true, true_or, false_or, if_false, if_true, true_and, and_true, Nat.reduceEqDiff, Nat.reduceAdd, Nat.reduceLT, reduceIte, iSet_1, iEnt_e, iEn_n, iEn_i, iEn_r, iEn_u, iEn_l, List.cons_append, List.nil_append, List.length_cons, List.length_nil, Nat.reduceSub, List.replicate_succ, List.replicate_zero, Nat.zero_add, nI_lit0, va_up_app, nI_add, nI_mul, nI_sub, nI_clamp, vp_nI, nI_le_t, nI_le_f, nI_lt_t, nI_lt_f, imp_t, imp_f, Option.toList_some, Option.toList_none, not_true_eq_false, not_false_eq_true, iR_t, nar_zI, zI_f0, zI_t0, va_up_same, upd_ne, upd_self, hz]
    refine ks_ldcs eX11_chalkLacking_13 (fun s hs => (hG.2.2 4 (by decide) s hs).1) ?_
    refine dVu1 (Y' := mX11_chalkText) eX11_chalkLacking_16 l_RX11_330 kX11_chalkText iX11_chalkText nX11_chalkText (x_o) rfl rfl (Nat.le_of_ble_eq_true rfl) (c_chT (i := 4) hG (by decide) (by show _ + 6 ≤ 64; omega)) ?_
    refine wp_ok (cuts := [21]) 10 _ _ _ _ ?_
    simp (config := { maxSteps := 2000000 }) (disch := omega) only [wp_su, wp_0, eX11_chalkLacking_0, eX11_chalkLacking_1, eX11_chalkLacking_4, eX11_chalkLacking_5, eX11_chalkLacking_8, eX11_chalkLacking_11, eX11_chalkLacking_12, eX11_chalkLacking_13, eX11_chalkLacking_16, eX11_chalkLacking_19, eX11_chalkLacking_20, eX11_chalkLacking_21, eX11_chalkLacking_22, eX11_chalkLacking_23, eX11_chalkLacking_26, eX11_chalkLacking_27, eX11_chalkLacking_28, eX11_chalkLacking_29, eX11_chalkLacking_30, eX11_chalkLacking_31, eX11_chalkLacking_34, eX11_chalkLacking_35, eX11_chalkLacking_38, eX11_chalkLacking_41, eX11_chalkLacking_42, eX11_chalkLacking_43, eX11_chalkLacking_46, eX11_chalkLacking_49, eX11_chalkLacking_52, eX11_chalkLacking_55, S_aload_n0, S_aload_n0N, S_callS, S_callV, S_goto, S_iand, S_icmp_ge, S_iconst, S_if_eq, S_if_ne, S_iinc_2, S_iload_n1, S_iload_n2, S_ishr, S_istore_2, S_ldcw, S_return, iCk_i, iCk_l, iCk_n, iCk_o, iCk_r, iS1_2, jc_0, jc_1, jc_4, aX11_chalkLacking, bX11_chalkLacking, rX11_chalkLacking, nar_i, nar_n0, nar_n1, List.mem_cons, List.not_mem_nil, or_false, or_self, or_true, true_or, false_or, if_false, if_true, true_and, and_true, Nat.reduceEqDiff, Nat.reduceAdd, Nat.reduceLT, reduceIte, iSet_1, iEnt_e, iEn_n, iEn_i, iEn_r, iEn_u, iEn_l, List.cons_append, List.nil_append, List.length_cons, List.length_nil, Nat.reduceSub, List.replicate_succ, List.replicate_zero, Nat.zero_add, nI_lit0, va_up_app, nI_add, nI_mul, nI_sub, nI_clamp, vp_nI, nI_le_t, nI_le_f, nI_lt_t, nI_lt_f, imp_t, imp_f, Option.toList_some, Option.toList_none, not_true_eq_false, not_false_eq_true, iR_t, nar_zI, zI_f0, zI_t0, va_up_same, upd_ne, upd_self]
    exact l_chL hG hW (by show (txC 4 c 6).2 + 36 ≤ 64; omega) 4 0 rfl
end CCv
section XCh
variable {G : iG} {b : Nat} {g : iH} {X I : Nat → Int32} {W : Int64} {A : Nat → Nat → Int32} {N : Nat → Nat → Int64} {F n U : Nat} {c p : (Nat → Int32) × Nat}
theorem XR_ch (hX : XR G b g I W A N F n U) (hx : Blk g b 1 (xE b X)) (hr : chR c p) (hl : p.2 ≤ 64) : XR G b (chH G b X g c) (va_up (va_up I 0 (nI 0)) 39 (nI p.2)) W (va_up A 16 p.1) N F n U := by
  obtain ⟨zw, zO, zT, zR, zH, zD, zS, zL, zY, zZ, zB, zV, zP, zQ, zG, zK, zC⟩ := hX
  obtain ⟨X', hx', x1, x3, x16, x18⟩ := zO
  have e : xFs b X = xFs b X' := by
    have h1 := xb_o hx
    have h2 := xb_o hx'
    rw [h1] at h2
    injection h2 with h2; injection h2 with h2; injection h2
  have f1 : X 1 = X' 1 := by have := congrArg (fun l => l[1]?) e; simp only [xf_1] at this; injection this with t; injection t
  have f3 : X 3 = X' 3 := by have := congrArg (fun l => l[3]?) e; simp only [xf_3] at this; injection this with t; injection t
  have f16 : X 16 = X' 16 := by have := congrArg (fun l => l[16]?) e; simp only [xf_16] at this; injection this with t; injection t
  exact ⟨zw, ⟨_, Blk_own, f1.trans x1, f3.trans x3, f16.trans x16, (show nI c.2 = nI p.2 by rw [hr.1])⟩, (pT_a (pT_a zT (alk_ov (by omega))) (alk_ov (by omega))), (pR_a (pR_a zR (alk_ov (by omega))) (alk_ov (by omega))), (pH_a (pH_a zH (alk_ov (by omega))) (alk_ov (by omega))), (pD_a (pD_a zD (alk_ov (by omega))) (alk_ov (by omega))), (pSt_a (pSt_a zS (alk_ov (by omega))) (alk_ov (by omega))), (pL_a (pL_a zL (alk_ov (by omega))) (alk_ov (by omega))), (pY_a (pY_a zY (alk_ov (by omega))) (alk_ov (by omega))), (pZ_a (pZ_a zZ (alk_ov (by omega))) (alk_ov (by omega))), (pB_a (pB_a zB (alk_ov (by omega))) (alk_ov (by omega))), (pV_a (pV_a zV (alk_ov (by omega))) (alk_ov (by omega))), (pP_a (pP_a zP (alk_ov (by omega))) (alk_ov (by omega))), (pQ_a (pQ_a zQ (alk_ov (by omega))) (alk_ov (by omega))), (pG_a (pG_a zG (alk_ov (by omega))) (alk_ov (by omega))), (pK_a (pK_a zK (alk_ov (by omega))) (alk_ov (by omega))), ⟨c.1, Blk_alk Blk_own (alk_ov (by omega)), p.2, hl, rfl, hr.2⟩⟩
end XCh
