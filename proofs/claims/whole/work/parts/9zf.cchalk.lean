/-! The class: chalk -/
theorem kk_sm : ∀ i, i < 8 → ((kkF i).toInt64 &&& 63).toBitVec.smod 64 = BitVec.ofNat 64 (56 - 8 * i) := by decide +kernel
theorem b255 : ∀ j, j < 64 → (255 : Int64).toBitVec.getLsbD j = decide (j < 8) := by decide +kernel
theorem wb_bit {w : Int64} {i j : Nat} (hi : i < 8) (hj : j < 64) : (wbF w i).toBitVec.getLsbD j = (decide (j < 8) && w.toBitVec.getLsbD (56 - 8 * i + j)) := by
  unfold wbF
  rw [Int64.toBitVec_and, BitVec.getLsbD_and, b255 j hj, Int64.toBitVec_shiftRight, kk_sm i hi, BitVec.sshiftRight']
  have : (BitVec.ofNat 64 (56 - 8 * i)).toNat = 56 - 8 * i := by simp; omega
  rw [this, BitVec.getLsbD_sshiftRight]
  by_cases h : j < 8
  · simp [h, show ¬ 64 ≤ j by omega, show 56 - 8 * i + j < 64 by omega]
  · simp [h]
theorem wb_v {w : Int64} {i : Nat} (hp : pW w) (hi : i < 8) : ∃ v, v < 128 ∧ wbF w i = Int64.ofNat v := by
  refine ⟨(wbF w i).toBitVec.toNat, ?_, ?_⟩
  · refine Nat.lt_pow_two_of_testBit (n := 7) _ (fun j hj => ?_)
    rw [← BitVec.getLsbD]
    by_cases h : j < 64
    · rw [wb_bit hi h]
      by_cases h8 : j < 8
      · obtain rfl : j = 7 := by omega
        have := hp (7 - i) (by omega)
        rw [show 8 * (7 - i) + 7 = 56 - 8 * i + 7 by omega] at this
        rw [this]; simp
      · simp [h8]
    · exact BitVec.getLsbD_of_ge _ _ (by omega)
  · apply Int64.toBitVec_inj.mp
    apply BitVec.eq_of_toNat_eq
    simp
theorem ofNat_32 {v : Nat} (hv : v < 128) : (Int64.ofNat v).toInt32 = nI v := by
  revert v; decide +kernel
theorem ofNat_z {v : Nat} (hv : v < 128) : (Int64.ofNat v = 0) ↔ v = 0 := by
  revert v; decide +kernel
theorem kk_um2 : ∀ i, i < 8 → ((kkF i).toInt64.toUInt64 &&& Int64.toUInt64 63).toBitVec % 64 = BitVec.ofNat 64 (56 - 8 * i) := by decide +kernel
theorem wc_eq {w : Int64} {i : Nat} (hi : i < 8) : (w.toUInt64 >>> ((kkF i).toInt64.toUInt64 &&& Int64.toUInt64 63)).toInt64 &&& 255 = wbF w i := by
  apply Int64.toBitVec_inj.mp
  apply BitVec.eq_of_getLsbD_eq
  intro j hj
  rw [wb_bit hi hj, Int64.toBitVec_and, BitVec.getLsbD_and, b255 j hj]
  have e1 : (w.toUInt64 >>> ((kkF i).toInt64.toUInt64 &&& Int64.toUInt64 63)).toInt64.toBitVec = w.toBitVec >>> (56 - 8 * i) := by
    show (w.toUInt64 >>> ((kkF i).toInt64.toUInt64 &&& Int64.toUInt64 63)).toBitVec = _
    rw [UInt64.toBitVec_shiftRight, BitVec.ushiftRight_eq', kk_um2 i hi]
    have : (BitVec.ofNat 64 (56 - 8 * i)).toNat = 56 - 8 * i := by simp; omega
    rw [this]; rfl
  rw [e1, BitVec.getLsbD_ushiftRight, Bool.and_comm]
theorem nb_v {v : Nat} (hv : v < 128) : nbF (nI v) = nI v := by
  revert v; decide +kernel
/-- a byte chalked by the class -/
def apC (p : (Nat → Int32) × Nat) (v : Int32) : (Nat → Int32) × Nat := (upd p.1 p.2 v, p.2 + 1)
def chR (c p : (Nat → Int32) × Nat) : Prop := c.2 = p.2 ∧ ∀ i, i < p.2 → c.1 i = p.1 i
theorem chR_ap {c p : (Nat → Int32) × Nat} {v : Nat} (h : chR c p) (hv : v < 128) : chR (apC c (nI v)) (apT p (nI v)) := by
  refine ⟨by show c.2 + 1 = p.2 + 1; rw [h.1], fun i hi => ?_⟩
  show upd c.1 c.2 (nI v) i = upd p.1 p.2 (nbF (nI v)) i
  rw [h.1, nb_v hv]
  by_cases z : i = p.2
  · subst z; rw [upd_self, upd_self]
  · rw [upd_ne z, upd_ne z]
    have hi : i < p.2 + 1 := hi
    exact h.2 i (by omega)
def chH (G : iG) (b : Nat) (X : Nat → Int32) (g : iH) (c : (Nat → Int32) × Nat) : iH := xH b (va_up X 18 (nI c.2)) (arH G (b + 177) 64 c.1 g)
section CHK
variable {G : iG} {d b : Nat} {g : iH} {X : Nat → Int32} {c p : (Nat → Int32) × Nat} {v : Int32} {w : Int64}
theorem xc_1 {X f : Nat → Int32} : (xH b X (arH G (b + 177) 64 f g)).1 (b + 177) = some (.inl (G.2.2.2.1 0, 64, .inl f)) := by
  unfold xH; rw [ovl_out (by omega)]; exact ar_o
theorem xc_u {X t f : Nat → Int32} : iSet (xH b X (arH G (b + 177) 64 t g)) (b + 177) (.inl (G.2.2.2.1 0, 64, .inl f)) = xH b X (arH G (b + 177) 64 f g) := by
  have e : ∀ t, xH b X (arH G (b + 177) 64 t g) = arH G (b + 177) 64 t (xH b X g) := fun t => ovl_comm (by omega)
  rw [e, e, aru]
theorem c_chB (hl : c.2 < 64) : C G d 0 0 mX11_chalkByte [.ref b, .int v] (chH G b X g c) (iR none (chH G b X g (apC c v))) := by
  unfold chH
  refine C_in p_RX11 (Nat.le_of_ble_eq_true rfl) rfl ?_
  refine wp_ok (cuts := []) 30 _ _ _ _ ?_
  simp (config := { maxSteps := 2000000 }) (disch := omega) only [wp_su, wp_0, eX11_chalkByte_0, eX11_chalkByte_1, eX11_chalkByte_4, eX11_chalkByte_6, eX11_chalkByte_9, eX11_chalkByte_10, eX11_chalkByte_13, eX11_chalkByte_14, eX11_chalkByte_17, eX11_chalkByte_18, eX11_chalkByte_19, eX11_chalkByte_20, eX11_chalkByte_21, eX11_chalkByte_24, eX11_chalkByte_25, eX11_chalkByte_26, eX11_chalkByte_29, S_aload_n0, S_aload_n0N, S_bipush, S_dupi, S_dupr, S_getf, S_iadd, S_iast, S_icmp_ge, S_iconst, S_iload_n1, S_puti, S_putl, S_return, g_RX11_102, g_RX11_105, jb_64, jc_1, aX11_chalkByte, bX11_chalkByte, rX11_chalkByte, nar_i, nar_n0, nar_n1, List.mem_cons, List.not_mem_nil, or_false, or_self, or_true, true_or, false_or, if_false, if_true, true_and, and_true, Nat.reduceEqDiff, Nat.reduceAdd, Nat.reduceLT, reduceIte, iSet_1, iEnt_e, iEn_n, iEn_i, iEn_r, iEn_u, iEn_l, List.cons_append, List.nil_append, List.length_cons, List.length_nil, Nat.reduceSub, List.replicate_succ, List.replicate_zero, Nat.zero_add, nI_lit0, va_up_app, nI_add, nI_mul, nI_sub, nI_clamp, vp_nI, nI_le_t, nI_le_f, nI_lt_t, nI_lt_f, imp_t, imp_f, Option.toList_some, Option.toList_none, not_true_eq_false, not_false_eq_true, iR_t, nar_zI, zI_f0, zI_t0, va_up_same, upd_ne, upd_self, x_o, xFs_len, xf_17, xf_18, xk_18, xp_18, xc_1, xc_u, va_sf, nI_add, va_up_same]
  exact iR_i
/-- letters of a name chalked, i told -/
def spC (w : Int64) (c : (Nat → Int32) × Nat) : Nat → (Nat → Int32) × Nat
  | 0 => c
  | i + 1 => if wbF w i = 0 then spC w c i else apC (spC w c i) (wbF w i).toInt32
theorem spC_le (w : Int64) (p : (Nat → Int32) × Nat) : ∀ i, (spC w p i).2 ≤ p.2 + i
  | 0 => Nat.le_refl _
  | i + 1 => by
    rw [spC]
    have := spC_le w p i
    split
    · omega
    · show (spC w p i).2 + 1 ≤ _
      omega
theorem chR_sp (hw : pW w) (h : chR c p) : ∀ i, i ≤ 8 → chR (spC w c i) (spT w p i)
  | 0, _ => h
  | i + 1, hi => by
    rw [spC, spT]
    obtain ⟨v, hv, e⟩ := wb_v hw (show i < 8 by omega)
    split
    · exact chR_sp hw h i (by omega)
    · rw [e, ofNat_32 hv]
      exact chR_ap (chR_sp hw h i (by omega)) hv
theorem ks_l255 {w : Int64} : w &&& 255 = w &&& 255 := rfl
theorem l_chN (hw : pW w) (hl : c.2 + 8 ≤ 64) : ∀ (r i : Nat) (o : Option Value), i + r = 8 → K G (d + 1) 0 0 mX11_chalkName 3 [some (.ref b), some (.long w), none, some (.int (kkF i)), o] [] (chH G b X g (spC w c i)) (iR none (chH G b X g (spC w c 8))) := by
  intro r
  induction r with
  | zero =>
    intro i o hi
    obtain rfl : i = 8 := by omega
    refine wp_ok (cuts := []) 30 _ _ _ _ ?_
    simp (config := { maxSteps := 2000000 }) (disch := omega) only [wp_su, wp_0, eX11_chalkName_0, eX11_chalkName_2, eX11_chalkName_3, eX11_chalkName_4, eX11_chalkName_7, eX11_chalkName_8, eX11_chalkName_9, eX11_chalkName_10, eX11_chalkName_13, eX11_chalkName_14, eX11_chalkName_15, eX11_chalkName_17, eX11_chalkName_19, eX11_chalkName_22, eX11_chalkName_23, eX11_chalkName_25, eX11_chalkName_28, eX11_chalkName_31, eX11_chalkName_34, S_aload_n0, S_aload_n0N, S_bipush, S_callV, S_goto, S_if_eq, S_if_lt, S_iinc_3, S_iload_4, S_iload_n3, S_istore_3, S_istore_4, S_l2i, S_land, S_ldc2, S_lload_n1, S_lushr, S_return, iCk_i, iCk_l, iCk_n, iCk_o, iCk_r, iS1_3, iS1_4, ic_m8, jb_56, aX11_chalkName, bX11_chalkName, rX11_chalkName, nar_i, nar_n0, nar_n1, List.mem_cons, List.not_mem_nil, or_false, or_self, or_true, true_or, false_or, if_false, if_true, true_and, and_true, Nat.reduceEqDiff, Nat.reduceAdd, Nat.reduceLT, reduceIte, iSet_1, iEnt_e, iEn_n, iEn_i, iEn_r, iEn_u, iEn_l, List.cons_append, List.nil_append, List.length_cons, List.length_nil, Nat.reduceSub, List.replicate_succ, List.replicate_zero, Nat.zero_add, nI_lit0, va_up_app, nI_add, nI_mul, nI_sub, nI_clamp, vp_nI, nI_le_t, nI_le_f, nI_lt_t, nI_lt_f, imp_t, imp_f, Option.toList_some, Option.toList_none, not_true_eq_false, not_false_eq_true, iR_t, nar_zI, zI_f0, zI_t0, va_up_same, upd_ne, upd_self, kk_8]
  | succ r ih =>
    intro i o hi
    have hle := spC_le w c i
    have hkp := kk_p i (by omega)
    obtain ⟨v, hv, ev⟩ := wb_v hw (show i < 8 by omega)
    have hx : ((w.toUInt64 >>> ((kkF i).toInt64.toUInt64 &&& Int64.toUInt64 63)).toInt64 &&& 255).toInt32 = nI v := by rw [wc_eq (by omega), ev, ofNat_32 hv]
    have e := ih (i + 1) (some (.int (nI v))) (by omega)
    rw [spC, ev, ofNat_32 hv] at e
    refine wp_ok (cuts := []) 1 _ _ _ _ ?_
    simp only [wp_su, wp_0, eX11_chalkName_3, S_iload_n3, List.not_mem_nil, if_false]
    refine wp_ok (cuts := []) 30 _ _ _ _ ?_
    simp (config := { maxSteps := 2000000 }) (disch := omega) only [wp_su, wp_0, eX11_chalkName_0, eX11_chalkName_2, eX11_chalkName_3, eX11_chalkName_4, eX11_chalkName_7, eX11_chalkName_8, eX11_chalkName_9, eX11_chalkName_10, eX11_chalkName_13, eX11_chalkName_14, eX11_chalkName_15, eX11_chalkName_17, eX11_chalkName_19, eX11_chalkName_22, eX11_chalkName_23, eX11_chalkName_25, eX11_chalkName_28, eX11_chalkName_31, eX11_chalkName_34, S_aload_n0, S_aload_n0N, S_bipush, S_callV, S_goto, S_if_eq, S_if_lt, S_iinc_3, S_iload_4, S_iload_n3, S_istore_3, S_istore_4, S_l2i, S_land, S_ldc2, S_lload_n1, S_lushr, S_return, iCk_i, iCk_l, iCk_n, iCk_o, iCk_r, iS1_3, iS1_4, ic_m8, jb_56, aX11_chalkName, bX11_chalkName, rX11_chalkName, nar_i, nar_n0, nar_n1, List.mem_cons, List.not_mem_nil, or_false, or_self, or_true, true_or, false_or, if_false, if_true, true_and, and_true, Nat.reduceEqDiff, Nat.reduceAdd, Nat.reduceLT, reduceIte, iSet_1, iEnt_e, iEn_n, iEn_i, iEn_r, iEn_u, iEn_l, List.cons_append, List.nil_append, List.length_cons, List.length_nil, Nat.reduceSub, List.replicate_succ, List.replicate_zero, Nat.zero_add, nI_lit0, va_up_app, nI_add, nI_mul, nI_sub, nI_clamp, vp_nI, nI_le_t, nI_le_f, nI_lt_t, nI_lt_f, imp_t, imp_f, Option.toList_some, Option.toList_none, not_true_eq_false, not_false_eq_true, iR_t, nar_zI, zI_f0, zI_t0, va_up_same, upd_ne, upd_self, hkp]
    refine ks_ldc2 eX11_chalkName_10 q_RX11_368 ?_
    by_cases hz : v = 0
    · subst hz
      simp only [show Int64.ofNat 0 = 0 from rfl, if_true] at e
      refine wp_ok (cuts := [3]) 30 _ _ _ _ ?_
      simp (config := { maxSteps := 2000000 }) (disch := omega) only [wp_su, wp_0, eX11_chalkName_0, eX11_chalkName_2, eX11_chalkName_3, eX11_chalkName_4, eX11_chalkName_7, eX11_chalkName_8, eX11_chalkName_9, eX11_chalkName_10, eX11_chalkName_13, eX11_chalkName_14, eX11_chalkName_15, eX11_chalkName_17, eX11_chalkName_19, eX11_chalkName_22, eX11_chalkName_23, eX11_chalkName_25, eX11_chalkName_28, eX11_chalkName_31, eX11_chalkName_34, S_aload_n0, S_aload_n0N, S_bipush, S_callV, S_goto, S_if_eq, S_if_lt, S_iinc_3, S_iload_4, S_iload_n3, S_istore_3, S_istore_4, S_l2i, S_land, S_ldc2, S_lload_n1, S_lushr, S_return, iCk_i, iCk_l, iCk_n, iCk_o, iCk_r, iS1_3, iS1_4, ic_m8, jb_56, aX11_chalkName, bX11_chalkName, rX11_chalkName, nar_i, nar_n0, nar_n1, List.mem_cons, List.not_mem_nil, or_false, or_self, or_true, true_or, false_or, if_false, if_true, true_and, and_true, Nat.reduceEqDiff, Nat.reduceAdd, Nat.reduceLT, reduceIte, iSet_1, iEnt_e, iEn_n, iEn_i, iEn_r, iEn_u, iEn_l, List.cons_append, List.nil_append, List.length_cons, List.length_nil, Nat.reduceSub, List.replicate_succ, List.replicate_zero, Nat.zero_add, nI_lit0, va_up_app, nI_add, nI_mul, nI_sub, nI_clamp, vp_nI, nI_le_t, nI_le_f, nI_lt_t, nI_lt_f, imp_t, imp_f, Option.toList_some, Option.toList_none, not_true_eq_false, not_false_eq_true, iR_t, nar_zI, zI_f0, zI_t0, va_up_same, upd_ne, upd_self, hx, nI_eq_t, kk_s, ic_m8]
      exact e
    · have hz' : ¬ Int64.ofNat v = 0 := fun z => hz ((ofNat_z hv).mp z)
      simp only [hz', if_false] at e
      refine wp_ok (cuts := []) 30 _ _ _ _ ?_
      simp (config := { maxSteps := 2000000 }) (disch := omega) only [wp_su, wp_0, eX11_chalkName_0, eX11_chalkName_2, eX11_chalkName_3, eX11_chalkName_4, eX11_chalkName_7, eX11_chalkName_8, eX11_chalkName_9, eX11_chalkName_10, eX11_chalkName_13, eX11_chalkName_14, eX11_chalkName_15, eX11_chalkName_17, eX11_chalkName_19, eX11_chalkName_22, eX11_chalkName_23, eX11_chalkName_25, eX11_chalkName_28, eX11_chalkName_31, eX11_chalkName_34, S_aload_n0, S_aload_n0N, S_bipush, S_callV, S_goto, S_if_eq, S_if_lt, S_iinc_3, S_iload_4, S_iload_n3, S_istore_3, S_istore_4, S_l2i, S_land, S_ldc2, S_lload_n1, S_lushr, S_return, iCk_i, iCk_l, iCk_n, iCk_o, iCk_r, iS1_3, iS1_4, ic_m8, jb_56, aX11_chalkName, bX11_chalkName, rX11_chalkName, nar_i, nar_n0, nar_n1, List.mem_cons, List.not_mem_nil, or_false, or_self, or_true, true_or, false_or, if_false, if_true, true_and, and_true, Nat.reduceEqDiff, Nat.reduceAdd, Nat.reduceLT, reduceIte, iSet_1, iEnt_e, iEn_n, iEn_i, iEn_r, iEn_u, iEn_l, List.cons_append, List.nil_append, List.length_cons, List.length_nil, Nat.reduceSub, List.replicate_succ, List.replicate_zero, Nat.zero_add, nI_lit0, va_up_app, nI_add, nI_mul, nI_sub, nI_clamp, vp_nI, nI_le_t, nI_le_f, nI_lt_t, nI_lt_f, imp_t, imp_f, Option.toList_some, Option.toList_none, not_true_eq_false, not_false_eq_true, iR_t, nar_zI, zI_f0, zI_t0, va_up_same, upd_ne, upd_self, hx, nI_eq_f]
      refine dVu1 (Y' := mX11_chalkByte) eX11_chalkName_25 l_RX11_365 kX11_chalkByte iX11_chalkByte nX11_chalkByte (x_o) rfl rfl (Nat.le_of_ble_eq_true rfl) (c_chB (by omega)) ?_
      refine wp_ok (cuts := [3]) 30 _ _ _ _ ?_
      simp (config := { maxSteps := 2000000 }) (disch := omega) only [wp_su, wp_0, eX11_chalkName_0, eX11_chalkName_2, eX11_chalkName_3, eX11_chalkName_4, eX11_chalkName_7, eX11_chalkName_8, eX11_chalkName_9, eX11_chalkName_10, eX11_chalkName_13, eX11_chalkName_14, eX11_chalkName_15, eX11_chalkName_17, eX11_chalkName_19, eX11_chalkName_22, eX11_chalkName_23, eX11_chalkName_25, eX11_chalkName_28, eX11_chalkName_31, eX11_chalkName_34, S_aload_n0, S_aload_n0N, S_bipush, S_callV, S_goto, S_if_eq, S_if_lt, S_iinc_3, S_iload_4, S_iload_n3, S_istore_3, S_istore_4, S_l2i, S_land, S_ldc2, S_lload_n1, S_lushr, S_return, iCk_i, iCk_l, iCk_n, iCk_o, iCk_r, iS1_3, iS1_4, ic_m8, jb_56, aX11_chalkName, bX11_chalkName, rX11_chalkName, nar_i, nar_n0, nar_n1, List.mem_cons, List.not_mem_nil, or_false, or_self, or_true, true_or, false_or, if_false, if_true, true_and, and_true, Nat.reduceEqDiff, Nat.reduceAdd, Nat.reduceLT, reduceIte, iSet_1, iEnt_e, iEn_n, iEn_i, iEn_r, iEn_u, iEn_l, List.cons_append, List.nil_append, List.length_cons, List.length_nil, Nat.reduceSub, List.replicate_succ, List.replicate_zero, Nat.zero_add, nI_lit0, va_up_app, nI_add, nI_mul, nI_sub, nI_clamp, vp_nI, nI_le_t, nI_le_f, nI_lt_t, nI_lt_f, imp_t, imp_f, Option.toList_some, Option.toList_none, not_true_eq_false, not_false_eq_true, iR_t, nar_zI, zI_f0, zI_t0, va_up_same, upd_ne, upd_self, kk_s, ic_m8]
      exact e
theorem c_chN (hw : pW w) (hl : c.2 + 8 ≤ 64) : C G (d + 1) 0 0 mX11_chalkName [.ref b, .long w] (chH G b X g c) (iR none (chH G b X g (spC w c 8))) := by
  refine C_in p_RX11 (Nat.le_of_ble_eq_true rfl) rfl ?_
  refine wp_ok (cuts := [3]) 30 _ _ _ _ ?_
  simp (config := { maxSteps := 2000000 }) (disch := omega) only [wp_su, wp_0, eX11_chalkName_0, eX11_chalkName_2, eX11_chalkName_3, eX11_chalkName_4, eX11_chalkName_7, eX11_chalkName_8, eX11_chalkName_9, eX11_chalkName_10, eX11_chalkName_13, eX11_chalkName_14, eX11_chalkName_15, eX11_chalkName_17, eX11_chalkName_19, eX11_chalkName_22, eX11_chalkName_23, eX11_chalkName_25, eX11_chalkName_28, eX11_chalkName_31, eX11_chalkName_34, S_aload_n0, S_aload_n0N, S_bipush, S_callV, S_goto, S_if_eq, S_if_lt, S_iinc_3, S_iload_4, S_iload_n3, S_istore_3, S_istore_4, S_l2i, S_land, S_ldc2, S_lload_n1, S_lushr, S_return, iCk_i, iCk_l, iCk_n, iCk_o, iCk_r, iS1_3, iS1_4, ic_m8, jb_56, aX11_chalkName, bX11_chalkName, rX11_chalkName, nar_i, nar_n0, nar_n1, List.mem_cons, List.not_mem_nil, or_false, or_self, or_true, true_or, false_or, if_false, if_true, true_and, and_true, Nat.reduceEqDiff, Nat.reduceAdd, Nat.reduceLT, reduceIte, iSet_1, iEnt_e, iEn_n, iEn_i, iEn_r, iEn_u, iEn_l, List.cons_append, List.nil_append, List.length_cons, List.length_nil, Nat.reduceSub, List.replicate_succ, List.replicate_zero, Nat.zero_add, nI_lit0, va_up_app, nI_add, nI_mul, nI_sub, nI_clamp, vp_nI, nI_le_t, nI_le_f, nI_lt_t, nI_lt_f, imp_t, imp_f, Option.toList_some, Option.toList_none, not_true_eq_false, not_false_eq_true, iR_t, nar_zI, zI_f0, zI_t0, va_up_same, upd_ne, upd_self]
  exact l_chN hw hl 8 0 none rfl
end CHK
