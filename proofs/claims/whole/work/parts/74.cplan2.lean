/-! The class: plans -/
def foN (P : Nat → Bool) (v : Nat → Int32) : Nat → Option Nat
  | 0 => none
  | k + 1 => if P k = true then (match foN P v k with | none => some k | some c => if v k < v c then some k else some c) else foN P v k
def lenO (v : Nat → Int32) (o : Option Nat) : Int32 := match o with | none => -1 | some c => v c
theorem foN_P {P : Nat → Bool} {v : Nat → Int32} : ∀ (k c : Nat), foN P v k = some c → P c = true ∧ c < k
  | 0, c, h => by cases h
  | k + 1, c, h => by
    rw [foN] at h
    have ih := foN_P (P := P) (v := v) k
    split at h
    · rename_i hp
      split at h
      · cases h; exact ⟨hp, by omega⟩
      · rename_i c' hc'
        have := ih c' hc'
        split at h
        · cases h; exact ⟨hp, by omega⟩
        · cases h; exact ⟨this.1, by omega⟩
    · have := ih c h
      exact ⟨this.1, by omega⟩
theorem plB_last {pb : Nat → Int32} : ∀ (k b cd : Nat), plB pb b cd (k + 1) = if pb (plB pb b cd k) ≤ pb (cd + k) then plB pb b cd k else cd + k
  | 0, b, cd => rfl
  | k + 1, b, cd => by
    rw [plB, plB_last k, plB]
    rw [show cd + 1 + k = cd + (k + 1) by omega]
theorem foN_plB {P : Nat → Bool} {v pb : Nat → Int32} (hpb : ∀ c, pb c = if P c = true then v c else 1000000) (hv : ∀ c, P c = true → v c < 1000000) : ∀ k, (foN P v (k + 1) = none → plB pb 0 1 k = 0 ∧ P 0 = false) ∧ ∀ c, foN P v (k + 1) = some c → plB pb 0 1 k = c
  | 0 => by
    rw [foN, foN, plB]
    cases hp : P 0
    · simp
    · simp
  | k + 1 => by
    obtain ⟨i1, i2⟩ := foN_plB hpb hv k
    rw [foN, plB_last]
    rw [show 1 + k = k + 1 by omega]
    cases hp : P (k + 1)
    · simp only [Bool.false_eq_true, if_false]
      have e1 : pb (k + 1) = 1000000 := by rw [hpb, hp]; simp
      have hle : ∀ c, pb c ≤ 1000000 := fun c => by
        rw [hpb]
        split
        · exact Int32.le_of_lt (hv c ‹_›)
        · exact Int32.le_refl _
      rw [e1, if_pos (hle _)]
      exact ⟨i1, i2⟩
    · simp only [if_true]
      have e1 : pb (k + 1) = v (k + 1) := by rw [hpb, hp]; simp
      rw [e1]
      cases hf : foN P v (k + 1) with
      | none =>
        obtain ⟨j1, j2⟩ := i1 hf
        have e2 : pb 0 = 1000000 := by rw [hpb, j2]; simp
        rw [j1, e2, if_neg (Int32.not_le.mpr (hv _ hp))]
        exact ⟨fun h => (by cases h), fun c h => (by cases h; rfl)⟩
      | some c =>
        have j1 := i2 c hf
        have hpc := (foN_P _ _ hf).1
        have e2 : pb c = v c := by rw [hpb, hpc]; simp
        rw [j1, e2]
        by_cases z : v (k + 1) < v c
        · simp only [z, if_true]
          rw [if_neg (Int32.not_le.mpr z)]
          exact ⟨fun h => (by cases h), fun c h => (by cases h; rfl)⟩
        · simp only [z, if_false]
          rw [if_pos (Int32.not_lt.mp z)]
          exact ⟨fun h => (by cases h), fun c h => (by cases h; rfl)⟩
theorem foN_some {P : Nat → Bool} {v : Nat → Int32} {j : Nat} (hj : P j = true) : ∀ k, j < k → ∃ c, foN P v k = some c
  | 0, h => by omega
  | k + 1, h => by
    rw [foN]
    by_cases e : j = k
    · subst e
      rw [if_pos hj]
      cases foN P v j with
      | none => exact ⟨_, rfl⟩
      | some c => dsimp only; split <;> exact ⟨_, rfl⟩
    · obtain ⟨c, hc⟩ := foN_some (v := v) hj k (by omega)
      rw [hc]
      split
      · dsimp only; split <;> exact ⟨_, rfl⟩
      · exact ⟨_, rfl⟩
theorem perm_ok : ∀ q, q ≤ 4 → ∃ j, j < q ^ q ∧ popN (pbS q j q) = q := by
  intro q hq
  rcases (show q = 0 ∨ q = 1 ∨ q = 2 ∨ q = 3 ∨ q = 4 by omega) with rfl | rfl | rfl | rfl | rfl
  · exact ⟨0, by decide, by decide +kernel⟩
  · exact ⟨0, by decide, by decide +kernel⟩
  · exact ⟨1, by decide, by decide +kernel⟩
  · exact ⟨5, by decide, by decide +kernel⟩
  · exact ⟨27, by decide, by decide +kernel⟩
theorem pbW_val {st : Nat → Int32} {fr : Int32} {q cd p : Nat} (hst : ∀ i, i < q → ∃ y, y ≤ 8 ∧ st i = nI y) (hp : p ≤ 8) (hfr : fr = nI p) : ∀ k, k ≤ q → ∃ x y, x ≤ 8 * k ∧ y ≤ 8 ∧ pbW st fr q cd k = (nI x, nI y)
  | 0, _ => ⟨0, p, by omega, hp, by rw [pbW, hfr]⟩
  | k + 1, hk => by
    obtain ⟨x, y, hx, hy, e⟩ := pbW_val hst hp hfr k (by omega)
    have hs : sNx cd q k < q := Nat.mod_lt _ (by omega)
    obtain ⟨z, hz, ez⟩ := hst _ hs
    rw [pbW, e, ez, absF_sub (by omega) (by omega), nI_add]
    refine ⟨_, z, ?_, hz, rfl⟩
    split <;> omega
theorem pbW_congr {st ch : Nat → Int32} {fr : Int32} {q cd : Nat} (h : ∀ i, i < q → ch i = st i) : ∀ k, k ≤ q → pbW ch fr q cd k = pbW st fr q cd k
  | 0, _ => rfl
  | k + 1, hk => by
    have hs : sNx cd q k < q := Nat.mod_lt _ (by omega)
    rw [pbW, pbW, pbW_congr h k (by omega), h _ hs]
theorem qq_le : ∀ q, q ≤ 4 → ∀ i, i ≤ q → q ^ i ≤ 256 := by decide +kernel
section CFo
variable {G : iG} {d : Nat} {h : iH} {p : Nat} {I : Nat → Int32} {A : Nat → Nat → Int32} {Q : Option Value → iH → Prop}
theorem l_fo1 {q : Nat} {fr : Int32} (hq : q ≤ 4) (e3 : I 3 = nI q) (cont : K G (d + 2) 0 0 mX4_findOrder 25 [some (.ref p), some (.int fr), some (.int (nI (q ^ q))), some (.int (nI q)), none] [] (pnH G p I A h) Q) : ∀ (k i : Nat), i + k = q → K G (d + 2) 0 0 mX4_findOrder 4 [some (.ref p), some (.int fr), some (.int (nI (q ^ i))), some (.int (nI i)), none] [] (pnH G p I A h) Q := by
  intro k
  induction k with
  | zero =>
    intro i hi
    obtain rfl : i = q := by omega
    refine wp_ok (cuts := [25]) 30 _ _ _ _ ?_
    simp (config := { maxSteps := 2000000 }) (disch := omega) only [wp_su, wp_0, eX4_findOrder_0, eX4_findOrder_1, eX4_findOrder_2, eX4_findOrder_3, eX4_findOrder_4, eX4_findOrder_5, eX4_findOrder_6, eX4_findOrder_9, eX4_findOrder_12, eX4_findOrder_13, eX4_findOrder_14, eX4_findOrder_17, eX4_findOrder_18, eX4_findOrder_19, eX4_findOrder_22, eX4_findOrder_25, eX4_findOrder_26, eX4_findOrder_27, eX4_findOrder_30, eX4_findOrder_31, eX4_findOrder_32, eX4_findOrder_33, eX4_findOrder_34, eX4_findOrder_37, eX4_findOrder_38, eX4_findOrder_39, eX4_findOrder_42, eX4_findOrder_45, eX4_findOrder_46, eX4_findOrder_47, eX4_findOrder_50, eX4_findOrder_52, eX4_findOrder_53, eX4_findOrder_56, eX4_findOrder_57, eX4_findOrder_60, eX4_findOrder_62, eX4_findOrder_63, eX4_findOrder_66, eX4_findOrder_69, eX4_findOrder_70, eX4_findOrder_72, eX4_findOrder_75, eX4_findOrder_76, eX4_findOrder_79, eX4_findOrder_80, eX4_findOrder_81, eX4_findOrder_84, eX4_findOrder_85, eX4_findOrder_86, eX4_findOrder_89, eX4_findOrder_92, eX4_findOrder_95, eX4_findOrder_98, S_aload_n0, S_aload_n0N, S_callS, S_callV, S_getf, S_goto, S_icmp_eq, S_icmp_ge, S_iconst, S_if_eq, S_iinc_3, S_iload_4, S_iload_n1, S_iload_n2, S_iload_n3, S_imul, S_istore_2, S_istore_3, S_istore_4, S_puti, S_putl, S_return, g_RX4_15, g_RX4_18, g_RX4_21, g_RX4_25, iCk_i, iCk_l, iCk_n, iCk_o, iCk_r, iS1_2, iS1_3, iS1_4, ic_m1, jc_0, jc_1, aX4_findOrder, bX4_findOrder, rX4_findOrder, nar_i, nar_n0, nar_n1, List.mem_cons, List.not_mem_nil, or_false, or_self, or_true, true_or, false_or, if_false, if_true, true_and, and_true, Nat.reduceEqDiff, Nat.reduceAdd, Nat.reduceLT, reduceIte, iSet_1, iEnt_e, iEn_n, iEn_i, iEn_r, iEn_u, iEn_l, List.cons_append, List.nil_append, List.length_cons, List.length_nil, Nat.reduceSub, List.replicate_succ, List.replicate_zero, Nat.zero_add, nI_lit0, va_up_app, nI_add, nI_mul, nI_sub, nI_clamp, vp_nI, nI_le_t, nI_le_f, nI_lt_t, nI_lt_f, imp_t, imp_f, Option.toList_some, Option.toList_none, not_true_eq_false, not_false_eq_true, iR_t, nar_zI, zI_f0, zI_t0, va_up_same, upd_ne, upd_self, pn_o, pnFs_len, pnf_3, e3]
    exact cont
  | succ k ih =>
    intro i hi
    have e := ih (i + 1) (by omega)
    rw [Nat.pow_succ] at e
    refine wp_ok (cuts := []) 1 _ _ _ _ ?_
    simp only [wp_su, wp_0, eX4_findOrder_4, S_iload_n3, List.not_mem_nil, if_false]
    refine wp_ok (cuts := [4]) 30 _ _ _ _ ?_
    simp (config := { maxSteps := 2000000 }) (disch := omega) only [wp_su, wp_0, eX4_findOrder_0, eX4_findOrder_1, eX4_findOrder_2, eX4_findOrder_3, eX4_findOrder_4, eX4_findOrder_5, eX4_findOrder_6, eX4_findOrder_9, eX4_findOrder_12, eX4_findOrder_13, eX4_findOrder_14, eX4_findOrder_17, eX4_findOrder_18, eX4_findOrder_19, eX4_findOrder_22, eX4_findOrder_25, eX4_findOrder_26, eX4_findOrder_27, eX4_findOrder_30, eX4_findOrder_31, eX4_findOrder_32, eX4_findOrder_33, eX4_findOrder_34, eX4_findOrder_37, eX4_findOrder_38, eX4_findOrder_39, eX4_findOrder_42, eX4_findOrder_45, eX4_findOrder_46, eX4_findOrder_47, eX4_findOrder_50, eX4_findOrder_52, eX4_findOrder_53, eX4_findOrder_56, eX4_findOrder_57, eX4_findOrder_60, eX4_findOrder_62, eX4_findOrder_63, eX4_findOrder_66, eX4_findOrder_69, eX4_findOrder_70, eX4_findOrder_72, eX4_findOrder_75, eX4_findOrder_76, eX4_findOrder_79, eX4_findOrder_80, eX4_findOrder_81, eX4_findOrder_84, eX4_findOrder_85, eX4_findOrder_86, eX4_findOrder_89, eX4_findOrder_92, eX4_findOrder_95, eX4_findOrder_98, S_aload_n0, S_aload_n0N, S_callS, S_callV, S_getf, S_goto, S_icmp_eq, S_icmp_ge, S_iconst, S_if_eq, S_iinc_3, S_iload_4, S_iload_n1, S_iload_n2, S_iload_n3, S_imul, S_istore_2, S_istore_3, S_istore_4, S_puti, S_putl, S_return, g_RX4_15, g_RX4_18, g_RX4_21, g_RX4_25, iCk_i, iCk_l, iCk_n, iCk_o, iCk_r, iS1_2, iS1_3, iS1_4, ic_m1, jc_0, jc_1, aX4_findOrder, bX4_findOrder, rX4_findOrder, nar_i, nar_n0, nar_n1, List.mem_cons, List.not_mem_nil, or_false, or_self, or_true, true_or, false_or, if_false, if_true, true_and, and_true, Nat.reduceEqDiff, Nat.reduceAdd, Nat.reduceLT, reduceIte, iSet_1, iEnt_e, iEn_n, iEn_i, iEn_r, iEn_u, iEn_l, List.cons_append, List.nil_append, List.length_cons, List.length_nil, Nat.reduceSub, List.replicate_succ, List.replicate_zero, Nat.zero_add, nI_lit0, va_up_app, nI_add, nI_mul, nI_sub, nI_clamp, vp_nI, nI_le_t, nI_le_f, nI_lt_t, nI_lt_f, imp_t, imp_f, Option.toList_some, Option.toList_none, not_true_eq_false, not_false_eq_true, iR_t, nar_zI, zI_f0, zI_t0, va_up_same, upd_ne, upd_self, pn_o, pnFs_len, pnf_3, e3]
    exact e
theorem fo_up {A : Nat → Nat → Int32} {x y z : Nat → Int32} : va_up (va_up (va_up A 2 x) 3 y) 2 z = va_up (va_up A 2 z) 3 y := by
  funext j
  by_cases h4 : j = 2
  · subst h4; simp [va_up]
  · by_cases h5 : j = 3 <;> simp [va_up, h4, h5]
theorem l_fo2 {q : Nat} {fr : Int32} (hq : q ≤ 4) (e3 : I 3 = nI q) (hv : ∀ c, ¬ (pbW (A 1) fr q c q).1 = -1) : ∀ (k cd : Nat) (pk od : Nat → Int32) (o : Option Value), cd + k = q ^ q → (∀ c, foN (fun c => decide (popN (pbS q c q) = q)) (fun c => (pbW (A 1) fr q c q).1) cd = some c → ∀ i, i < q → od i = A 1 (sNx c q i)) → K G (d + 2) 0 0 mX4_findOrder 32 [some (.ref p), some (.int fr), some (.int (nI (q ^ q))), some (.int (nI cd)), o] [] (pnH G p (va_up I 4 (lenO (fun c => (pbW (A 1) fr q c q).1) (foN (fun c => decide (popN (pbS q c q) = q)) (fun c => (pbW (A 1) fr q c q).1) cd))) (va_up (va_up A 2 pk) 3 od) h) (fun v g => v = none ∧ ∃ pk od, g = pnH G p (va_up I 4 (lenO (fun c => (pbW (A 1) fr q c q).1) (foN (fun c => decide (popN (pbS q c q) = q)) (fun c => (pbW (A 1) fr q c q).1) (q ^ q)))) (va_up (va_up A 2 pk) 3 od) h ∧ ∀ c, foN (fun c => decide (popN (pbS q c q) = q)) (fun c => (pbW (A 1) fr q c q).1) (q ^ q) = some c → ∀ i, i < q → od i = A 1 (sNx c q i)) := by
  have hqq := qq_le q hq q (Nat.le_refl _)
  generalize hP : (fun c => decide (popN (pbS q c q) = q)) = P
  generalize hV : (fun c => (pbW (A 1) fr q c q).1) = V
  have hPc : ∀ c, P c = decide (popN (pbS q c q) = q) := fun c => by rw [← hP]
  have hVc : ∀ c, V c = (pbW (A 1) fr q c q).1 := fun c => by rw [← hV]
  intro k
  induction k with
  | zero =>
    intro cd pk od o hc hod
    obtain rfl : cd = q ^ q := by omega
    refine wp_ok (cuts := []) 30 _ _ _ _ ?_
    simp (config := { maxSteps := 2000000 }) (disch := omega) only [wp_su, wp_0, eX4_findOrder_0, eX4_findOrder_1, eX4_findOrder_2, eX4_findOrder_3, eX4_findOrder_4, eX4_findOrder_5, eX4_findOrder_6, eX4_findOrder_9, eX4_findOrder_12, eX4_findOrder_13, eX4_findOrder_14, eX4_findOrder_17, eX4_findOrder_18, eX4_findOrder_19, eX4_findOrder_22, eX4_findOrder_25, eX4_findOrder_26, eX4_findOrder_27, eX4_findOrder_30, eX4_findOrder_31, eX4_findOrder_32, eX4_findOrder_33, eX4_findOrder_34, eX4_findOrder_37, eX4_findOrder_38, eX4_findOrder_39, eX4_findOrder_42, eX4_findOrder_45, eX4_findOrder_46, eX4_findOrder_47, eX4_findOrder_50, eX4_findOrder_52, eX4_findOrder_53, eX4_findOrder_56, eX4_findOrder_57, eX4_findOrder_60, eX4_findOrder_62, eX4_findOrder_63, eX4_findOrder_66, eX4_findOrder_69, eX4_findOrder_70, eX4_findOrder_72, eX4_findOrder_75, eX4_findOrder_76, eX4_findOrder_79, eX4_findOrder_80, eX4_findOrder_81, eX4_findOrder_84, eX4_findOrder_85, eX4_findOrder_86, eX4_findOrder_89, eX4_findOrder_92, eX4_findOrder_95, eX4_findOrder_98, S_aload_n0, S_aload_n0N, S_callS, S_callV, S_getf, S_goto, S_icmp_eq, S_icmp_ge, S_iconst, S_if_eq, S_iinc_3, S_iload_4, S_iload_n1, S_iload_n2, S_iload_n3, S_imul, S_istore_2, S_istore_3, S_istore_4, S_puti, S_putl, S_return, g_RX4_15, g_RX4_18, g_RX4_21, g_RX4_25, iCk_i, iCk_l, iCk_n, iCk_o, iCk_r, iS1_2, iS1_3, iS1_4, ic_m1, jc_0, jc_1, aX4_findOrder, bX4_findOrder, rX4_findOrder, nar_i, nar_n0, nar_n1, List.mem_cons, List.not_mem_nil, or_false, or_self, or_true, true_or, false_or, if_false, if_true, true_and, and_true, Nat.reduceEqDiff, Nat.reduceAdd, Nat.reduceLT, reduceIte, iSet_1, iEnt_e, iEn_n, iEn_i, iEn_r, iEn_u, iEn_l, List.cons_append, List.nil_append, List.length_cons, List.length_nil, Nat.reduceSub, List.replicate_succ, List.replicate_zero, Nat.zero_add, nI_lit0, va_up_app, nI_add, nI_mul, nI_sub, nI_clamp, vp_nI, nI_le_t, nI_le_f, nI_lt_t, nI_lt_f, imp_t, imp_f, Option.toList_some, Option.toList_none, not_true_eq_false, not_false_eq_true, iR_t, nar_zI, zI_f0, zI_t0, va_up_same, upd_ne, upd_self]
    exact ⟨pk, od, rfl, hod⟩
  | succ k ih =>
    intro cd pk od o hc hod
    have hx := ih (cd + 1)
    rw [foN] at hx
    refine wp_ok (cuts := []) 1 _ _ _ _ ?_
    simp only [wp_su, wp_0, eX4_findOrder_32, S_iload_n3, List.not_mem_nil, if_false]
    refine wp_ok (cuts := []) 30 _ _ _ _ ?_
    simp (config := { maxSteps := 2000000 }) (disch := omega) only [wp_su, wp_0, eX4_findOrder_0, eX4_findOrder_1, eX4_findOrder_2, eX4_findOrder_3, eX4_findOrder_4, eX4_findOrder_5, eX4_findOrder_6, eX4_findOrder_9, eX4_findOrder_12, eX4_findOrder_13, eX4_findOrder_14, eX4_findOrder_17, eX4_findOrder_18, eX4_findOrder_19, eX4_findOrder_22, eX4_findOrder_25, eX4_findOrder_26, eX4_findOrder_27, eX4_findOrder_30, eX4_findOrder_31, eX4_findOrder_32, eX4_findOrder_33, eX4_findOrder_34, eX4_findOrder_37, eX4_findOrder_38, eX4_findOrder_39, eX4_findOrder_42, eX4_findOrder_45, eX4_findOrder_46, eX4_findOrder_47, eX4_findOrder_50, eX4_findOrder_52, eX4_findOrder_53, eX4_findOrder_56, eX4_findOrder_57, eX4_findOrder_60, eX4_findOrder_62, eX4_findOrder_63, eX4_findOrder_66, eX4_findOrder_69, eX4_findOrder_70, eX4_findOrder_72, eX4_findOrder_75, eX4_findOrder_76, eX4_findOrder_79, eX4_findOrder_80, eX4_findOrder_81, eX4_findOrder_84, eX4_findOrder_85, eX4_findOrder_86, eX4_findOrder_89, eX4_findOrder_92, eX4_findOrder_95, eX4_findOrder_98, S_aload_n0, S_aload_n0N, S_callS, S_callV, S_getf, S_goto, S_icmp_eq, S_icmp_ge, S_iconst, S_if_eq, S_iinc_3, S_iload_4, S_iload_n1, S_iload_n2, S_iload_n3, S_imul, S_istore_2, S_istore_3, S_istore_4, S_puti, S_putl, S_return, g_RX4_15, g_RX4_18, g_RX4_21, g_RX4_25, iCk_i, iCk_l, iCk_n, iCk_o, iCk_r, iS1_2, iS1_3, iS1_4, ic_m1, jc_0, jc_1, aX4_findOrder, bX4_findOrder, rX4_findOrder, nar_i, nar_n0, nar_n1, List.mem_cons, List.not_mem_nil, or_false, or_self, or_true, true_or, false_or, if_false, if_true, true_and, and_true, Nat.reduceEqDiff, Nat.reduceAdd, Nat.reduceLT, reduceIte, iSet_1, iEnt_e, iEn_n, iEn_i, iEn_r, iEn_u, iEn_l, List.cons_append, List.nil_append, List.length_cons, List.length_nil, Nat.reduceSub, List.replicate_succ, List.replicate_zero, Nat.zero_add, nI_lit0, va_up_app, nI_add, nI_mul, nI_sub, nI_clamp, vp_nI, nI_le_t, nI_le_f, nI_lt_t, nI_lt_f, imp_t, imp_f, Option.toList_some, Option.toList_none, not_true_eq_false, not_false_eq_true, iR_t, nar_zI, zI_f0, zI_t0, va_up_same, upd_ne, upd_self]
    refine dV1 (Y' := mX4_pick) eX4_findOrder_39 l_RX4_66 kX4_pick iX4_pick nX4_pick (pn_o) rfl rfl (Nat.le_of_ble_eq_true rfl) (c_pick hq (by omega) (by omega) (by rw [va_up_ne _ _ (by decide)]; exact e3)) ?_
    rw [fo_up, ← hPc]
    rw [show (va_up (va_up A 2 pk) 3 od) 1 = A 1 from rfl, show (va_up (va_up A 2 pk) 3 od) 2 = pk from rfl]
    cases hp : P cd
    · refine wp_ok (cuts := [92]) 30 _ _ _ _ ?_
      simp (config := { maxSteps := 2000000 }) (disch := omega) only [wp_su, wp_0, eX4_findOrder_0, eX4_findOrder_1, eX4_findOrder_2, eX4_findOrder_3, eX4_findOrder_4, eX4_findOrder_5, eX4_findOrder_6, eX4_findOrder_9, eX4_findOrder_12, eX4_findOrder_13, eX4_findOrder_14, eX4_findOrder_17, eX4_findOrder_18, eX4_findOrder_19, eX4_findOrder_22, eX4_findOrder_25, eX4_findOrder_26, eX4_findOrder_27, eX4_findOrder_30, eX4_findOrder_31, eX4_findOrder_32, eX4_findOrder_33, eX4_findOrder_34, eX4_findOrder_37, eX4_findOrder_38, eX4_findOrder_39, eX4_findOrder_42, eX4_findOrder_45, eX4_findOrder_46, eX4_findOrder_47, eX4_findOrder_50, eX4_findOrder_52, eX4_findOrder_53, eX4_findOrder_56, eX4_findOrder_57, eX4_findOrder_60, eX4_findOrder_62, eX4_findOrder_63, eX4_findOrder_66, eX4_findOrder_69, eX4_findOrder_70, eX4_findOrder_72, eX4_findOrder_75, eX4_findOrder_76, eX4_findOrder_79, eX4_findOrder_80, eX4_findOrder_81, eX4_findOrder_84, eX4_findOrder_85, eX4_findOrder_86, eX4_findOrder_89, eX4_findOrder_92, eX4_findOrder_95, eX4_findOrder_98, S_aload_n0, S_aload_n0N, S_callS, S_callV, S_getf, S_goto, S_icmp_eq, S_icmp_ge, S_iconst, S_if_eq, S_iinc_3, S_iload_4, S_iload_n1, S_iload_n2, S_iload_n3, S_imul, S_istore_2, S_istore_3, S_istore_4, S_puti, S_putl, S_return, g_RX4_15, g_RX4_18, g_RX4_21, g_RX4_25, iCk_i, iCk_l, iCk_n, iCk_o, iCk_r, iS1_2, iS1_3, iS1_4, ic_m1, jc_0, jc_1, aX4_findOrder, bX4_findOrder, rX4_findOrder, nar_i, nar_n0, nar_n1, List.mem_cons, List.not_mem_nil, or_false, or_self, or_true, true_or, false_or, if_false, if_true, true_and, and_true, Nat.reduceEqDiff, Nat.reduceAdd, Nat.reduceLT, reduceIte, iSet_1, iEnt_e, iEn_n, iEn_i, iEn_r, iEn_u, iEn_l, List.cons_append, List.nil_append, List.length_cons, List.length_nil, Nat.reduceSub, List.replicate_succ, List.replicate_zero, Nat.zero_add, nI_lit0, va_up_app, nI_add, nI_mul, nI_sub, nI_clamp, vp_nI, nI_le_t, nI_le_f, nI_lt_t, nI_lt_f, imp_t, imp_f, Option.toList_some, Option.toList_none, not_true_eq_false, not_false_eq_true, iR_t, nar_zI, zI_f0, zI_t0, va_up_same, upd_ne, upd_self]
      refine wp_ok (cuts := [32]) 30 _ _ _ _ ?_
      simp (config := { maxSteps := 2000000 }) (disch := omega) only [wp_su, wp_0, eX4_findOrder_0, eX4_findOrder_1, eX4_findOrder_2, eX4_findOrder_3, eX4_findOrder_4, eX4_findOrder_5, eX4_findOrder_6, eX4_findOrder_9, eX4_findOrder_12, eX4_findOrder_13, eX4_findOrder_14, eX4_findOrder_17, eX4_findOrder_18, eX4_findOrder_19, eX4_findOrder_22, eX4_findOrder_25, eX4_findOrder_26, eX4_findOrder_27, eX4_findOrder_30, eX4_findOrder_31, eX4_findOrder_32, eX4_findOrder_33, eX4_findOrder_34, eX4_findOrder_37, eX4_findOrder_38, eX4_findOrder_39, eX4_findOrder_42, eX4_findOrder_45, eX4_findOrder_46, eX4_findOrder_47, eX4_findOrder_50, eX4_findOrder_52, eX4_findOrder_53, eX4_findOrder_56, eX4_findOrder_57, eX4_findOrder_60, eX4_findOrder_62, eX4_findOrder_63, eX4_findOrder_66, eX4_findOrder_69, eX4_findOrder_70, eX4_findOrder_72, eX4_findOrder_75, eX4_findOrder_76, eX4_findOrder_79, eX4_findOrder_80, eX4_findOrder_81, eX4_findOrder_84, eX4_findOrder_85, eX4_findOrder_86, eX4_findOrder_89, eX4_findOrder_92, eX4_findOrder_95, eX4_findOrder_98, S_aload_n0, S_aload_n0N, S_callS, S_callV, S_getf, S_goto, S_icmp_eq, S_icmp_ge, S_iconst, S_if_eq, S_iinc_3, S_iload_4, S_iload_n1, S_iload_n2, S_iload_n3, S_imul, S_istore_2, S_istore_3, S_istore_4, S_puti, S_putl, S_return, g_RX4_15, g_RX4_18, g_RX4_21, g_RX4_25, iCk_i, iCk_l, iCk_n, iCk_o, iCk_r, iS1_2, iS1_3, iS1_4, ic_m1, jc_0, jc_1, aX4_findOrder, bX4_findOrder, rX4_findOrder, nar_i, nar_n0, nar_n1, List.mem_cons, List.not_mem_nil, or_false, or_self, or_true, true_or, false_or, if_false, if_true, true_and, and_true, Nat.reduceEqDiff, Nat.reduceAdd, Nat.reduceLT, reduceIte, iSet_1, iEnt_e, iEn_n, iEn_i, iEn_r, iEn_u, iEn_l, List.cons_append, List.nil_append, List.length_cons, List.length_nil, Nat.reduceSub, List.replicate_succ, List.replicate_zero, Nat.zero_add, nI_lit0, va_up_app, nI_add, nI_mul, nI_sub, nI_clamp, vp_nI, nI_le_t, nI_le_f, nI_lt_t, nI_lt_f, imp_t, imp_f, Option.toList_some, Option.toList_none, not_true_eq_false, not_false_eq_true, iR_t, nar_zI, zI_f0, zI_t0, va_up_same, upd_ne, upd_self]
      simp only [hp, Bool.false_eq_true, if_false] at hx
      exact hx _ od _ (by omega) hod
    · simp only [hp, if_true] at hx
      refine wp_ok (cuts := [92]) 30 _ _ _ _ ?_
      simp (config := { maxSteps := 2000000 }) (disch := omega) only [wp_su, wp_0, eX4_findOrder_0, eX4_findOrder_1, eX4_findOrder_2, eX4_findOrder_3, eX4_findOrder_4, eX4_findOrder_5, eX4_findOrder_6, eX4_findOrder_9, eX4_findOrder_12, eX4_findOrder_13, eX4_findOrder_14, eX4_findOrder_17, eX4_findOrder_18, eX4_findOrder_19, eX4_findOrder_22, eX4_findOrder_25, eX4_findOrder_26, eX4_findOrder_27, eX4_findOrder_30, eX4_findOrder_31, eX4_findOrder_32, eX4_findOrder_33, eX4_findOrder_34, eX4_findOrder_37, eX4_findOrder_38, eX4_findOrder_39, eX4_findOrder_42, eX4_findOrder_45, eX4_findOrder_46, eX4_findOrder_47, eX4_findOrder_50, eX4_findOrder_52, eX4_findOrder_53, eX4_findOrder_56, eX4_findOrder_57, eX4_findOrder_60, eX4_findOrder_62, eX4_findOrder_63, eX4_findOrder_66, eX4_findOrder_69, eX4_findOrder_70, eX4_findOrder_72, eX4_findOrder_75, eX4_findOrder_76, eX4_findOrder_79, eX4_findOrder_80, eX4_findOrder_81, eX4_findOrder_84, eX4_findOrder_85, eX4_findOrder_86, eX4_findOrder_89, eX4_findOrder_92, eX4_findOrder_95, eX4_findOrder_98, S_aload_n0, S_aload_n0N, S_callS, S_callV, S_getf, S_goto, S_icmp_eq, S_icmp_ge, S_iconst, S_if_eq, S_iinc_3, S_iload_4, S_iload_n1, S_iload_n2, S_iload_n3, S_imul, S_istore_2, S_istore_3, S_istore_4, S_puti, S_putl, S_return, g_RX4_15, g_RX4_18, g_RX4_21, g_RX4_25, iCk_i, iCk_l, iCk_n, iCk_o, iCk_r, iS1_2, iS1_3, iS1_4, ic_m1, jc_0, jc_1, aX4_findOrder, bX4_findOrder, rX4_findOrder, nar_i, nar_n0, nar_n1, List.mem_cons, List.not_mem_nil, or_false, or_self, or_true, true_or, false_or, if_false, if_true, true_and, and_true, Nat.reduceEqDiff, Nat.reduceAdd, Nat.reduceLT, reduceIte, iSet_1, iEnt_e, iEn_n, iEn_i, iEn_r, iEn_u, iEn_l, List.cons_append, List.nil_append, List.length_cons, List.length_nil, Nat.reduceSub, List.replicate_succ, List.replicate_zero, Nat.zero_add, nI_lit0, va_up_app, nI_add, nI_mul, nI_sub, nI_clamp, vp_nI, nI_le_t, nI_le_f, nI_lt_t, nI_lt_f, imp_t, imp_f, Option.toList_some, Option.toList_none, not_true_eq_false, not_false_eq_true, iR_t, nar_zI, zI_f0, zI_t0, va_up_same, upd_ne, upd_self]
      have hpk : ∀ i, i < q → (va_up (va_up A 2 (pkP (A 1) pk q cd q)) 3 od) 2 i = A 1 (sNx cd q i) := fun i hi => by
        have z : q - q ≤ i ∧ i < q := by omega
        show pkP (A 1) pk q cd q i = _
        simp only [pkP, z, and_self, if_true]
      refine dV1 (Y' := mX4_pickedLength) eX4_findOrder_47 l_RX4_70 kX4_pickedLength iX4_pickedLength nX4_pickedLength (pn_o) rfl rfl (Nat.le_of_ble_eq_true rfl) (c_pickedLength (ch := A 1) hq (by rw [va_up_ne _ _ (by decide)]; exact e3) hpk) ?_
      rw [← hVc]
      cases hf : foN P V cd with
      | none =>
        rw [hf] at hx
        dsimp only at hx
        rw [show lenO V none = -1 from rfl]
        refine wp_ok (cuts := []) 40 _ _ _ _ ?_
        simp (config := { maxSteps := 2000000 }) (disch := omega) only [wp_su, wp_0, eX4_findOrder_0, eX4_findOrder_1, eX4_findOrder_2, eX4_findOrder_3, eX4_findOrder_4, eX4_findOrder_5, eX4_findOrder_6, eX4_findOrder_9, eX4_findOrder_12, eX4_findOrder_13, eX4_findOrder_14, eX4_findOrder_17, eX4_findOrder_18, eX4_findOrder_19, eX4_findOrder_22, eX4_findOrder_25, eX4_findOrder_26, eX4_findOrder_27, eX4_findOrder_30, eX4_findOrder_31, eX4_findOrder_32, eX4_findOrder_33, eX4_findOrder_34, eX4_findOrder_37, eX4_findOrder_38, eX4_findOrder_39, eX4_findOrder_42, eX4_findOrder_45, eX4_findOrder_46, eX4_findOrder_47, eX4_findOrder_50, eX4_findOrder_52, eX4_findOrder_53, eX4_findOrder_56, eX4_findOrder_57, eX4_findOrder_60, eX4_findOrder_62, eX4_findOrder_63, eX4_findOrder_66, eX4_findOrder_69, eX4_findOrder_70, eX4_findOrder_72, eX4_findOrder_75, eX4_findOrder_76, eX4_findOrder_79, eX4_findOrder_80, eX4_findOrder_81, eX4_findOrder_84, eX4_findOrder_85, eX4_findOrder_86, eX4_findOrder_89, eX4_findOrder_92, eX4_findOrder_95, eX4_findOrder_98, S_aload_n0, S_aload_n0N, S_callS, S_callV, S_getf, S_goto, S_icmp_eq, S_icmp_ge, S_iconst, S_if_eq, S_iinc_3, S_iload_4, S_iload_n1, S_iload_n2, S_iload_n3, S_imul, S_istore_2, S_istore_3, S_istore_4, S_puti, S_putl, S_return, g_RX4_15, g_RX4_18, g_RX4_21, g_RX4_25, iCk_i, iCk_l, iCk_n, iCk_o, iCk_r, iS1_2, iS1_3, iS1_4, ic_m1, jc_0, jc_1, aX4_findOrder, bX4_findOrder, rX4_findOrder, nar_i, nar_n0, nar_n1, List.mem_cons, List.not_mem_nil, or_false, or_self, or_true, true_or, false_or, if_false, if_true, true_and, and_true, Nat.reduceEqDiff, Nat.reduceAdd, Nat.reduceLT, reduceIte, iSet_1, iEnt_e, iEn_n, iEn_i, iEn_r, iEn_u, iEn_l, List.cons_append, List.nil_append, List.length_cons, List.length_nil, Nat.reduceSub, List.replicate_succ, List.replicate_zero, Nat.zero_add, nI_lit0, va_up_app, nI_add, nI_mul, nI_sub, nI_clamp, vp_nI, nI_le_t, nI_le_f, nI_lt_t, nI_lt_f, imp_t, imp_f, Option.toList_some, Option.toList_none, not_true_eq_false, not_false_eq_true, iR_t, nar_zI, zI_f0, zI_t0, va_up_same, upd_ne, upd_self, pn_o, pnFs_len, pnf_1, pn_2, pnu_2, pnf_2, pn_3, pnu_3, pnf_3, pnf_4, pnk_4, pnp_4, e3]
        refine ks_cpy0 eX4_findOrder_89 l_RX4_74 pn_2 pn_3 (by omega) hq hq (Nat.le_of_ble_eq_true rfl) ?_
        rw [pnu_3]
        refine wp_ok (cuts := [32]) 30 _ _ _ _ ?_
        simp (config := { maxSteps := 2000000 }) (disch := omega) only [wp_su, wp_0, eX4_findOrder_0, eX4_findOrder_1, eX4_findOrder_2, eX4_findOrder_3, eX4_findOrder_4, eX4_findOrder_5, eX4_findOrder_6, eX4_findOrder_9, eX4_findOrder_12, eX4_findOrder_13, eX4_findOrder_14, eX4_findOrder_17, eX4_findOrder_18, eX4_findOrder_19, eX4_findOrder_22, eX4_findOrder_25, eX4_findOrder_26, eX4_findOrder_27, eX4_findOrder_30, eX4_findOrder_31, eX4_findOrder_32, eX4_findOrder_33, eX4_findOrder_34, eX4_findOrder_37, eX4_findOrder_38, eX4_findOrder_39, eX4_findOrder_42, eX4_findOrder_45, eX4_findOrder_46, eX4_findOrder_47, eX4_findOrder_50, eX4_findOrder_52, eX4_findOrder_53, eX4_findOrder_56, eX4_findOrder_57, eX4_findOrder_60, eX4_findOrder_62, eX4_findOrder_63, eX4_findOrder_66, eX4_findOrder_69, eX4_findOrder_70, eX4_findOrder_72, eX4_findOrder_75, eX4_findOrder_76, eX4_findOrder_79, eX4_findOrder_80, eX4_findOrder_81, eX4_findOrder_84, eX4_findOrder_85, eX4_findOrder_86, eX4_findOrder_89, eX4_findOrder_92, eX4_findOrder_95, eX4_findOrder_98, S_aload_n0, S_aload_n0N, S_callS, S_callV, S_getf, S_goto, S_icmp_eq, S_icmp_ge, S_iconst, S_if_eq, S_iinc_3, S_iload_4, S_iload_n1, S_iload_n2, S_iload_n3, S_imul, S_istore_2, S_istore_3, S_istore_4, S_puti, S_putl, S_return, g_RX4_15, g_RX4_18, g_RX4_21, g_RX4_25, iCk_i, iCk_l, iCk_n, iCk_o, iCk_r, iS1_2, iS1_3, iS1_4, ic_m1, jc_0, jc_1, aX4_findOrder, bX4_findOrder, rX4_findOrder, nar_i, nar_n0, nar_n1, List.mem_cons, List.not_mem_nil, or_false, or_self, or_true, true_or, false_or, if_false, if_true, true_and, and_true, Nat.reduceEqDiff, Nat.reduceAdd, Nat.reduceLT, reduceIte, iSet_1, iEnt_e, iEn_n, iEn_i, iEn_r, iEn_u, iEn_l, List.cons_append, List.nil_append, List.length_cons, List.length_nil, Nat.reduceSub, List.replicate_succ, List.replicate_zero, Nat.zero_add, nI_lit0, va_up_app, nI_add, nI_mul, nI_sub, nI_clamp, vp_nI, nI_le_t, nI_le_f, nI_lt_t, nI_lt_f, imp_t, imp_f, Option.toList_some, Option.toList_none, not_true_eq_false, not_false_eq_true, iR_t, nar_zI, zI_f0, zI_t0, va_up_same, upd_ne, upd_self]
        exact hx _ _ _ (by omega) (fun c hc i hi => by
          cases hc
          rw [cpy_in hi]
          exact hpk i hi)
      | some c =>
        rw [hf] at hx
        dsimp only at hx
        rw [show lenO V (some c) = V c from rfl]
        have hm := hv c
        rw [← hVc] at hm
        by_cases z : V cd < V c
        · simp only [z, if_true] at hx
          refine wp_ok (cuts := [69,92]) 40 _ _ _ _ ?_
          simp (config := { maxSteps := 2000000 }) (disch := omega) only [wp_su, wp_0, eX4_findOrder_0, eX4_findOrder_1, eX4_findOrder_2, eX4_findOrder_3, eX4_findOrder_4, eX4_findOrder_5, eX4_findOrder_6, eX4_findOrder_9, eX4_findOrder_12, eX4_findOrder_13, eX4_findOrder_14, eX4_findOrder_17, eX4_findOrder_18, eX4_findOrder_19, eX4_findOrder_22, eX4_findOrder_25, eX4_findOrder_26, eX4_findOrder_27, eX4_findOrder_30, eX4_findOrder_31, eX4_findOrder_32, eX4_findOrder_33, eX4_findOrder_34, eX4_findOrder_37, eX4_findOrder_38, eX4_findOrder_39, eX4_findOrder_42, eX4_findOrder_45, eX4_findOrder_46, eX4_findOrder_47, eX4_findOrder_50, eX4_findOrder_52, eX4_findOrder_53, eX4_findOrder_56, eX4_findOrder_57, eX4_findOrder_60, eX4_findOrder_62, eX4_findOrder_63, eX4_findOrder_66, eX4_findOrder_69, eX4_findOrder_70, eX4_findOrder_72, eX4_findOrder_75, eX4_findOrder_76, eX4_findOrder_79, eX4_findOrder_80, eX4_findOrder_81, eX4_findOrder_84, eX4_findOrder_85, eX4_findOrder_86, eX4_findOrder_89, eX4_findOrder_92, eX4_findOrder_95, eX4_findOrder_98, S_aload_n0, S_aload_n0N, S_callS, S_callV, S_getf, S_goto, S_icmp_eq, S_icmp_ge, S_iconst, S_if_eq, S_iinc_3, S_iload_4, S_iload_n1, S_iload_n2, S_iload_n3, S_imul, S_istore_2, S_istore_3, S_istore_4, S_puti, S_putl, S_return, g_RX4_15, g_RX4_18, g_RX4_21, g_RX4_25, iCk_i, iCk_l, iCk_n, iCk_o, iCk_r, iS1_2, iS1_3, iS1_4, ic_m1, jc_0, jc_1, aX4_findOrder, bX4_findOrder, rX4_findOrder, nar_i, nar_n0, nar_n1, List.mem_cons, List.not_mem_nil, or_false, or_self, or_true, true_or, false_or, if_false, if_true, true_and, and_true, Nat.reduceEqDiff, Nat.reduceAdd, Nat.reduceLT, reduceIte, iSet_1, iEnt_e, iEn_n, iEn_i, iEn_r, iEn_u, iEn_l, List.cons_append, List.nil_append, List.length_cons, List.length_nil, Nat.reduceSub, List.replicate_succ, List.replicate_zero, Nat.zero_add, nI_lit0, va_up_app, nI_add, nI_mul, nI_sub, nI_clamp, vp_nI, nI_le_t, nI_le_f, nI_lt_t, nI_lt_f, imp_t, imp_f, Option.toList_some, Option.toList_none, not_true_eq_false, not_false_eq_true, iR_t, nar_zI, zI_f0, zI_t0, va_up_same, upd_ne, upd_self, pn_o, pnFs_len, pnf_4, nI_eq_t]
          refine ⟨fun q9 => absurd q9 hm, fun _ => ⟨fun q9 => absurd z (Int32.not_lt.mpr q9), fun _ => ?_⟩⟩
          refine wp_ok (cuts := []) 40 _ _ _ _ ?_
          simp (config := { maxSteps := 2000000 }) (disch := omega) only [wp_su, wp_0, eX4_findOrder_0, eX4_findOrder_1, eX4_findOrder_2, eX4_findOrder_3, eX4_findOrder_4, eX4_findOrder_5, eX4_findOrder_6, eX4_findOrder_9, eX4_findOrder_12, eX4_findOrder_13, eX4_findOrder_14, eX4_findOrder_17, eX4_findOrder_18, eX4_findOrder_19, eX4_findOrder_22, eX4_findOrder_25, eX4_findOrder_26, eX4_findOrder_27, eX4_findOrder_30, eX4_findOrder_31, eX4_findOrder_32, eX4_findOrder_33, eX4_findOrder_34, eX4_findOrder_37, eX4_findOrder_38, eX4_findOrder_39, eX4_findOrder_42, eX4_findOrder_45, eX4_findOrder_46, eX4_findOrder_47, eX4_findOrder_50, eX4_findOrder_52, eX4_findOrder_53, eX4_findOrder_56, eX4_findOrder_57, eX4_findOrder_60, eX4_findOrder_62, eX4_findOrder_63, eX4_findOrder_66, eX4_findOrder_69, eX4_findOrder_70, eX4_findOrder_72, eX4_findOrder_75, eX4_findOrder_76, eX4_findOrder_79, eX4_findOrder_80, eX4_findOrder_81, eX4_findOrder_84, eX4_findOrder_85, eX4_findOrder_86, eX4_findOrder_89, eX4_findOrder_92, eX4_findOrder_95, eX4_findOrder_98, S_aload_n0, S_aload_n0N, S_callS, S_callV, S_getf, S_goto, S_icmp_eq, S_icmp_ge, S_iconst, S_if_eq, S_iinc_3, S_iload_4, S_iload_n1, S_iload_n2, S_iload_n3, S_imul, S_istore_2, S_istore_3, S_istore_4, S_puti, S_putl, S_return, g_RX4_15, g_RX4_18, g_RX4_21, g_RX4_25, iCk_i, iCk_l, iCk_n, iCk_o, iCk_r, iS1_2, iS1_3, iS1_4, ic_m1, jc_0, jc_1, aX4_findOrder, bX4_findOrder, rX4_findOrder, nar_i, nar_n0, nar_n1, List.mem_cons, List.not_mem_nil, or_false, or_self, or_true, true_or, false_or, if_false, if_true, true_and, and_true, Nat.reduceEqDiff, Nat.reduceAdd, Nat.reduceLT, reduceIte, iSet_1, iEnt_e, iEn_n, iEn_i, iEn_r, iEn_u, iEn_l, List.cons_append, List.nil_append, List.length_cons, List.length_nil, Nat.reduceSub, List.replicate_succ, List.replicate_zero, Nat.zero_add, nI_lit0, va_up_app, nI_add, nI_mul, nI_sub, nI_clamp, vp_nI, nI_le_t, nI_le_f, nI_lt_t, nI_lt_f, imp_t, imp_f, Option.toList_some, Option.toList_none, not_true_eq_false, not_false_eq_true, iR_t, nar_zI, zI_f0, zI_t0, va_up_same, upd_ne, upd_self, pn_o, pnFs_len, pnf_1, pn_2, pnu_2, pnf_2, pn_3, pnu_3, pnf_3, pnf_4, pnk_4, pnp_4, e3]
          refine ks_cpy0 eX4_findOrder_89 l_RX4_74 pn_2 pn_3 (by omega) hq hq (Nat.le_of_ble_eq_true rfl) ?_
          rw [pnu_3]
          refine wp_ok (cuts := [32]) 30 _ _ _ _ ?_
          simp (config := { maxSteps := 2000000 }) (disch := omega) only [wp_su, wp_0, eX4_findOrder_0, eX4_findOrder_1, eX4_findOrder_2, eX4_findOrder_3, eX4_findOrder_4, eX4_findOrder_5, eX4_findOrder_6, eX4_findOrder_9, eX4_findOrder_12, eX4_findOrder_13, eX4_findOrder_14, eX4_findOrder_17, eX4_findOrder_18, eX4_findOrder_19, eX4_findOrder_22, eX4_findOrder_25, eX4_findOrder_26, eX4_findOrder_27, eX4_findOrder_30, eX4_findOrder_31, eX4_findOrder_32, eX4_findOrder_33, eX4_findOrder_34, eX4_findOrder_37, eX4_findOrder_38, eX4_findOrder_39, eX4_findOrder_42, eX4_findOrder_45, eX4_findOrder_46, eX4_findOrder_47, eX4_findOrder_50, eX4_findOrder_52, eX4_findOrder_53, eX4_findOrder_56, eX4_findOrder_57, eX4_findOrder_60, eX4_findOrder_62, eX4_findOrder_63, eX4_findOrder_66, eX4_findOrder_69, eX4_findOrder_70, eX4_findOrder_72, eX4_findOrder_75, eX4_findOrder_76, eX4_findOrder_79, eX4_findOrder_80, eX4_findOrder_81, eX4_findOrder_84, eX4_findOrder_85, eX4_findOrder_86, eX4_findOrder_89, eX4_findOrder_92, eX4_findOrder_95, eX4_findOrder_98, S_aload_n0, S_aload_n0N, S_callS, S_callV, S_getf, S_goto, S_icmp_eq, S_icmp_ge, S_iconst, S_if_eq, S_iinc_3, S_iload_4, S_iload_n1, S_iload_n2, S_iload_n3, S_imul, S_istore_2, S_istore_3, S_istore_4, S_puti, S_putl, S_return, g_RX4_15, g_RX4_18, g_RX4_21, g_RX4_25, iCk_i, iCk_l, iCk_n, iCk_o, iCk_r, iS1_2, iS1_3, iS1_4, ic_m1, jc_0, jc_1, aX4_findOrder, bX4_findOrder, rX4_findOrder, nar_i, nar_n0, nar_n1, List.mem_cons, List.not_mem_nil, or_false, or_self, or_true, true_or, false_or, if_false, if_true, true_and, and_true, Nat.reduceEqDiff, Nat.reduceAdd, Nat.reduceLT, reduceIte, iSet_1, iEnt_e, iEn_n, iEn_i, iEn_r, iEn_u, iEn_l, List.cons_append, List.nil_append, List.length_cons, List.length_nil, Nat.reduceSub, List.replicate_succ, List.replicate_zero, Nat.zero_add, nI_lit0, va_up_app, nI_add, nI_mul, nI_sub, nI_clamp, vp_nI, nI_le_t, nI_le_f, nI_lt_t, nI_lt_f, imp_t, imp_f, Option.toList_some, Option.toList_none, not_true_eq_false, not_false_eq_true, iR_t, nar_zI, zI_f0, zI_t0, va_up_same, upd_ne, upd_self]
          exact hx _ _ _ (by omega) (fun c hc i hi => by
            cases hc
            rw [cpy_in hi]
            exact hpk i hi)
        · simp only [z, if_false] at hx
          refine wp_ok (cuts := [69,92]) 40 _ _ _ _ ?_
          simp (config := { maxSteps := 2000000 }) (disch := omega) only [wp_su, wp_0, eX4_findOrder_0, eX4_findOrder_1, eX4_findOrder_2, eX4_findOrder_3, eX4_findOrder_4, eX4_findOrder_5, eX4_findOrder_6, eX4_findOrder_9, eX4_findOrder_12, eX4_findOrder_13, eX4_findOrder_14, eX4_findOrder_17, eX4_findOrder_18, eX4_findOrder_19, eX4_findOrder_22, eX4_findOrder_25, eX4_findOrder_26, eX4_findOrder_27, eX4_findOrder_30, eX4_findOrder_31, eX4_findOrder_32, eX4_findOrder_33, eX4_findOrder_34, eX4_findOrder_37, eX4_findOrder_38, eX4_findOrder_39, eX4_findOrder_42, eX4_findOrder_45, eX4_findOrder_46, eX4_findOrder_47, eX4_findOrder_50, eX4_findOrder_52, eX4_findOrder_53, eX4_findOrder_56, eX4_findOrder_57, eX4_findOrder_60, eX4_findOrder_62, eX4_findOrder_63, eX4_findOrder_66, eX4_findOrder_69, eX4_findOrder_70, eX4_findOrder_72, eX4_findOrder_75, eX4_findOrder_76, eX4_findOrder_79, eX4_findOrder_80, eX4_findOrder_81, eX4_findOrder_84, eX4_findOrder_85, eX4_findOrder_86, eX4_findOrder_89, eX4_findOrder_92, eX4_findOrder_95, eX4_findOrder_98, S_aload_n0, S_aload_n0N, S_callS, S_callV, S_getf, S_goto, S_icmp_eq, S_icmp_ge, S_iconst, S_if_eq, S_iinc_3, S_iload_4, S_iload_n1, S_iload_n2, S_iload_n3, S_imul, S_istore_2, S_istore_3, S_istore_4, S_puti, S_putl, S_return, g_RX4_15, g_RX4_18, g_RX4_21, g_RX4_25, iCk_i, iCk_l, iCk_n, iCk_o, iCk_r, iS1_2, iS1_3, iS1_4, ic_m1, jc_0, jc_1, aX4_findOrder, bX4_findOrder, rX4_findOrder, nar_i, nar_n0, nar_n1, List.mem_cons, List.not_mem_nil, or_false, or_self, or_true, true_or, false_or, if_false, if_true, true_and, and_true, Nat.reduceEqDiff, Nat.reduceAdd, Nat.reduceLT, reduceIte, iSet_1, iEnt_e, iEn_n, iEn_i, iEn_r, iEn_u, iEn_l, List.cons_append, List.nil_append, List.length_cons, List.length_nil, Nat.reduceSub, List.replicate_succ, List.replicate_zero, Nat.zero_add, nI_lit0, va_up_app, nI_add, nI_mul, nI_sub, nI_clamp, vp_nI, nI_le_t, nI_le_f, nI_lt_t, nI_lt_f, imp_t, imp_f, Option.toList_some, Option.toList_none, not_true_eq_false, not_false_eq_true, iR_t, nar_zI, zI_f0, zI_t0, va_up_same, upd_ne, upd_self, pn_o, pnFs_len, pnf_4, nI_eq_t]
          refine ⟨fun q9 => absurd q9 hm, fun _ => ⟨fun _ => ?_, fun q9 => absurd (Int32.not_lt.mp z) q9⟩⟩
          refine wp_ok (cuts := [32]) 30 _ _ _ _ ?_
          simp (config := { maxSteps := 2000000 }) (disch := omega) only [wp_su, wp_0, eX4_findOrder_0, eX4_findOrder_1, eX4_findOrder_2, eX4_findOrder_3, eX4_findOrder_4, eX4_findOrder_5, eX4_findOrder_6, eX4_findOrder_9, eX4_findOrder_12, eX4_findOrder_13, eX4_findOrder_14, eX4_findOrder_17, eX4_findOrder_18, eX4_findOrder_19, eX4_findOrder_22, eX4_findOrder_25, eX4_findOrder_26, eX4_findOrder_27, eX4_findOrder_30, eX4_findOrder_31, eX4_findOrder_32, eX4_findOrder_33, eX4_findOrder_34, eX4_findOrder_37, eX4_findOrder_38, eX4_findOrder_39, eX4_findOrder_42, eX4_findOrder_45, eX4_findOrder_46, eX4_findOrder_47, eX4_findOrder_50, eX4_findOrder_52, eX4_findOrder_53, eX4_findOrder_56, eX4_findOrder_57, eX4_findOrder_60, eX4_findOrder_62, eX4_findOrder_63, eX4_findOrder_66, eX4_findOrder_69, eX4_findOrder_70, eX4_findOrder_72, eX4_findOrder_75, eX4_findOrder_76, eX4_findOrder_79, eX4_findOrder_80, eX4_findOrder_81, eX4_findOrder_84, eX4_findOrder_85, eX4_findOrder_86, eX4_findOrder_89, eX4_findOrder_92, eX4_findOrder_95, eX4_findOrder_98, S_aload_n0, S_aload_n0N, S_callS, S_callV, S_getf, S_goto, S_icmp_eq, S_icmp_ge, S_iconst, S_if_eq, S_iinc_3, S_iload_4, S_iload_n1, S_iload_n2, S_iload_n3, S_imul, S_istore_2, S_istore_3, S_istore_4, S_puti, S_putl, S_return, g_RX4_15, g_RX4_18, g_RX4_21, g_RX4_25, iCk_i, iCk_l, iCk_n, iCk_o, iCk_r, iS1_2, iS1_3, iS1_4, ic_m1, jc_0, jc_1, aX4_findOrder, bX4_findOrder, rX4_findOrder, nar_i, nar_n0, nar_n1, List.mem_cons, List.not_mem_nil, or_false, or_self, or_true, true_or, false_or, if_false, if_true, true_and, and_true, Nat.reduceEqDiff, Nat.reduceAdd, Nat.reduceLT, reduceIte, iSet_1, iEnt_e, iEn_n, iEn_i, iEn_r, iEn_u, iEn_l, List.cons_append, List.nil_append, List.length_cons, List.length_nil, Nat.reduceSub, List.replicate_succ, List.replicate_zero, Nat.zero_add, nI_lit0, va_up_app, nI_add, nI_mul, nI_sub, nI_clamp, vp_nI, nI_le_t, nI_le_f, nI_lt_t, nI_lt_f, imp_t, imp_f, Option.toList_some, Option.toList_none, not_true_eq_false, not_false_eq_true, iR_t, nar_zI, zI_f0, zI_t0, va_up_same, upd_ne, upd_self]
          exact hx _ od _ (by omega) (fun c' hc' => by cases hc'; exact hod c hf)
theorem c_findOrder {q : Nat} {fr : Int32} (hq : q ≤ 4) (e3 : I 3 = nI q) (hv : ∀ c, ¬ (pbW (A 1) fr q c q).1 = -1) : C G (d + 2) 0 0 mX4_findOrder [.ref p, .int fr] (pnH G p I A h) (fun v g => v = none ∧ ∃ pk od, g = pnH G p (va_up I 4 (lenO (fun c => (pbW (A 1) fr q c q).1) (foN (fun c => decide (popN (pbS q c q) = q)) (fun c => (pbW (A 1) fr q c q).1) (q ^ q)))) (va_up (va_up A 2 pk) 3 od) h ∧ ∀ c, foN (fun c => decide (popN (pbS q c q) = q)) (fun c => (pbW (A 1) fr q c q).1) (q ^ q) = some c → ∀ i, i < q → od i = A 1 (sNx c q i)) := by
  refine C_in p_RX4 (Nat.le_of_ble_eq_true rfl) rfl ?_
  refine wp_ok (cuts := [4]) 30 _ _ _ _ ?_
  simp (config := { maxSteps := 2000000 }) (disch := omega) only [wp_su, wp_0, eX4_findOrder_0, eX4_findOrder_1, eX4_findOrder_2, eX4_findOrder_3, eX4_findOrder_4, eX4_findOrder_5, eX4_findOrder_6, eX4_findOrder_9, eX4_findOrder_12, eX4_findOrder_13, eX4_findOrder_14, eX4_findOrder_17, eX4_findOrder_18, eX4_findOrder_19, eX4_findOrder_22, eX4_findOrder_25, eX4_findOrder_26, eX4_findOrder_27, eX4_findOrder_30, eX4_findOrder_31, eX4_findOrder_32, eX4_findOrder_33, eX4_findOrder_34, eX4_findOrder_37, eX4_findOrder_38, eX4_findOrder_39, eX4_findOrder_42, eX4_findOrder_45, eX4_findOrder_46, eX4_findOrder_47, eX4_findOrder_50, eX4_findOrder_52, eX4_findOrder_53, eX4_findOrder_56, eX4_findOrder_57, eX4_findOrder_60, eX4_findOrder_62, eX4_findOrder_63, eX4_findOrder_66, eX4_findOrder_69, eX4_findOrder_70, eX4_findOrder_72, eX4_findOrder_75, eX4_findOrder_76, eX4_findOrder_79, eX4_findOrder_80, eX4_findOrder_81, eX4_findOrder_84, eX4_findOrder_85, eX4_findOrder_86, eX4_findOrder_89, eX4_findOrder_92, eX4_findOrder_95, eX4_findOrder_98, S_aload_n0, S_aload_n0N, S_callS, S_callV, S_getf, S_goto, S_icmp_eq, S_icmp_ge, S_iconst, S_if_eq, S_iinc_3, S_iload_4, S_iload_n1, S_iload_n2, S_iload_n3, S_imul, S_istore_2, S_istore_3, S_istore_4, S_puti, S_putl, S_return, g_RX4_15, g_RX4_18, g_RX4_21, g_RX4_25, iCk_i, iCk_l, iCk_n, iCk_o, iCk_r, iS1_2, iS1_3, iS1_4, ic_m1, jc_0, jc_1, aX4_findOrder, bX4_findOrder, rX4_findOrder, nar_i, nar_n0, nar_n1, List.mem_cons, List.not_mem_nil, or_false, or_self, or_true, true_or, false_or, if_false, if_true, true_and, and_true, Nat.reduceEqDiff, Nat.reduceAdd, Nat.reduceLT, reduceIte, iSet_1, iEnt_e, iEn_n, iEn_i, iEn_r, iEn_u, iEn_l, List.cons_append, List.nil_append, List.length_cons, List.length_nil, Nat.reduceSub, List.replicate_succ, List.replicate_zero, Nat.zero_add, nI_lit0, va_up_app, nI_add, nI_mul, nI_sub, nI_clamp, vp_nI, nI_le_t, nI_le_f, nI_lt_t, nI_lt_f, imp_t, imp_f, Option.toList_some, Option.toList_none, not_true_eq_false, not_false_eq_true, iR_t, nar_zI, zI_f0, zI_t0, va_up_same, upd_ne, upd_self]
  refine l_fo1 hq e3 ?_ q 0 (by omega)
  refine wp_ok (cuts := [32]) 30 _ _ _ _ ?_
  simp (config := { maxSteps := 2000000 }) (disch := omega) only [wp_su, wp_0, eX4_findOrder_0, eX4_findOrder_1, eX4_findOrder_2, eX4_findOrder_3, eX4_findOrder_4, eX4_findOrder_5, eX4_findOrder_6, eX4_findOrder_9, eX4_findOrder_12, eX4_findOrder_13, eX4_findOrder_14, eX4_findOrder_17, eX4_findOrder_18, eX4_findOrder_19, eX4_findOrder_22, eX4_findOrder_25, eX4_findOrder_26, eX4_findOrder_27, eX4_findOrder_30, eX4_findOrder_31, eX4_findOrder_32, eX4_findOrder_33, eX4_findOrder_34, eX4_findOrder_37, eX4_findOrder_38, eX4_findOrder_39, eX4_findOrder_42, eX4_findOrder_45, eX4_findOrder_46, eX4_findOrder_47, eX4_findOrder_50, eX4_findOrder_52, eX4_findOrder_53, eX4_findOrder_56, eX4_findOrder_57, eX4_findOrder_60, eX4_findOrder_62, eX4_findOrder_63, eX4_findOrder_66, eX4_findOrder_69, eX4_findOrder_70, eX4_findOrder_72, eX4_findOrder_75, eX4_findOrder_76, eX4_findOrder_79, eX4_findOrder_80, eX4_findOrder_81, eX4_findOrder_84, eX4_findOrder_85, eX4_findOrder_86, eX4_findOrder_89, eX4_findOrder_92, eX4_findOrder_95, eX4_findOrder_98, S_aload_n0, S_aload_n0N, S_callS, S_callV, S_getf, S_goto, S_icmp_eq, S_icmp_ge, S_iconst, S_if_eq, S_iinc_3, S_iload_4, S_iload_n1, S_iload_n2, S_iload_n3, S_imul, S_istore_2, S_istore_3, S_istore_4, S_puti, S_putl, S_return, g_RX4_15, g_RX4_18, g_RX4_21, g_RX4_25, iCk_i, iCk_l, iCk_n, iCk_o, iCk_r, iS1_2, iS1_3, iS1_4, ic_m1, jc_0, jc_1, aX4_findOrder, bX4_findOrder, rX4_findOrder, nar_i, nar_n0, nar_n1, List.mem_cons, List.not_mem_nil, or_false, or_self, or_true, true_or, false_or, if_false, if_true, true_and, and_true, Nat.reduceEqDiff, Nat.reduceAdd, Nat.reduceLT, reduceIte, iSet_1, iEnt_e, iEn_n, iEn_i, iEn_r, iEn_u, iEn_l, List.cons_append, List.nil_append, List.length_cons, List.length_nil, Nat.reduceSub, List.replicate_succ, List.replicate_zero, Nat.zero_add, nI_lit0, va_up_app, nI_add, nI_mul, nI_sub, nI_clamp, vp_nI, nI_le_t, nI_le_f, nI_lt_t, nI_lt_f, imp_t, imp_f, Option.toList_some, Option.toList_none, not_true_eq_false, not_false_eq_true, iR_t, nar_zI, zI_f0, zI_t0, va_up_same, upd_ne, upd_self, pn_o, pnFs_len, pnk_4, pnp_4]
  have k := l_fo2 (G := G) (d := d) (h := h) (p := p) (I := I) (A := A) hq e3 hv (q ^ q) 0 (A 2) (A 3) none (by omega) (fun c hc => by cases hc)
  rw [A_same, A_same] at k
  exact k
end CFo
