/-! The class: a whole Sentence read; what said() rests on -/
section CSu
variable {G : iG} {d : Nat} {h : iH} {r t a : Nat} {e : rE} {I Ic : Nat → Int32} {q q' : pS} {al : Nat} {J : Nat → Int32} {B Ac : Nat → Nat → Int32} {M : Nat → Nat → Int64} {F n U : Nat} {nm : Nat → Int64} {Y : Bool × sS}
theorem one_all (hE : sEnv G r t a e h nm F al J B M) : ∀ (b D g : Nat), D + b = 9 → 2 * b ≤ g → oneC G (g + 5) r t a e h nm F Y D := by
  intro b
  induction b with
  | zero =>
    intro D g hD hg
    exact c_one hE (by omega) (fun z => by omega) (fun z => by omega)
  | succ b ih =>
    intro D g hD hg
    obtain ⟨g', rfl⟩ : ∃ g', g = g' + 2 := ⟨g - 2, by omega⟩
    exact c_one (d := g' + 2) hE (by omega) (fun _ => ih (D + 1) (g' + 1) (by omega) (by omega)) (fun _ => c_cond (d := g') hE (by omega) (ih (D + 1) g' (by omega) (by omega)))
theorem cnd_all (hE : sEnv G r t a e h nm F al J B M) : cndC G (d + 22) r t a e h nm F Y 1 := c_cond (d := d + 16) hE (by omega) (one_all hE 8 1 (d + 16) (by omega) (by omega))
def senQ (G : iG) (r a : Nat) (e : rE) (h : iH) (Y : Bool × sS) (v : Option Value) (g : iH) : Prop := v = none ∧ ∃ I' Ic' Ac', g = rEH G r e (seH G a Ic' Ac' h) I' ∧ ((Y.1 = true ∧ rL e I' Y.2.1 ∧ crel Ic' Ac' Y.2.2.1 ∧ Ic' 5 = Y.2.1.1 46 ∧ wfC Y.2.2.1 1) ∨ (Y.1 = false ∧ rF e I' Y.2.1))
theorem c_senFrom (hE : sEnv G r t a e h nm F al J B M) {q : pS} (hOn : On (rEp e) nm F Y (q, [], []) 0 0) (h48 : q.1 48 = nI 1) (hl : rL e I q) : C G (d + 23) 0 0 mX6_readFrom [.ref a, .ref r, .ref t] (rEH G r e (seH G a Ic Ac h) I) (senQ G r a e h Y) := by
  have hcn := cnd_all (d := d) (Y := Y) hE
  obtain ⟨hG, hN, hk, hT, hd, hda, hta, e0, h0, N0⟩ := hE
  have eC : ∀ Ic Ac I, rEH G r e (seH G a Ic Ac h) I = seH G a Ic Ac (rEH G r e h I) := fun Ic Ac I => re_se hda
  refine C_in p_RX6 (Nat.le_of_ble_eq_true rfl) rfl ?_
  rw [eC]
  refine wp_ok (cuts := []) 30 _ _ _ _ ?_
  simp (config := { maxSteps := 2000000 }) (disch := omega) only [wp_su, wp_0, eX6_readFrom_0, eX6_readFrom_1, eX6_readFrom_4, eX6_readFrom_5, eX6_readFrom_6, eX6_readFrom_7, eX6_readFrom_8, eX6_readFrom_11, eX6_readFrom_12, eX6_readFrom_15, S_aload_n0, S_aload_n0N, S_aload_n1, S_aload_n1N, S_aload_n2, S_aload_n2N, S_callV, S_iconst, S_return, jc_1, aX6_readFrom, bX6_readFrom, rX6_readFrom, nar_i, nar_n0, nar_n1, List.mem_cons, List.not_mem_nil, or_false, or_self, or_true, true_or, false_or, if_false, if_true, true_and, and_true, Nat.reduceEqDiff, Nat.reduceAdd, Nat.reduceLT, reduceIte, iSet_1, iEnt_e, iEn_n, iEn_i, iEn_r, iEn_u, iEn_l, List.cons_append, List.nil_append, List.length_cons, List.length_nil, Nat.reduceSub, List.replicate_succ, List.replicate_zero, Nat.zero_add, nI_lit0, va_up_app, nI_add, nI_mul, nI_sub, nI_clamp, vp_nI, nI_le_t, nI_le_f, nI_lt_t, nI_lt_f, imp_t, imp_f, Option.toList_some, Option.toList_none, not_true_eq_false, not_false_eq_true, iR_t, nar_zI, zI_f0, zI_t0, va_up_same, upd_ne, upd_self]
  refine dVu0 (Y' := mX6_clear) eX6_readFrom_1 l_RX6_37 kX6_clear iX6_clear nX6_clear (se_r) rfl rfl (Nat.le_of_ble_eq_true rfl) c_seClear ?_
  rw [← eC]
  have hc : crel (va_up (va_up Ic 4 (nI 0)) 5 (nI 0)) Ac [] := ⟨(va_ne (by omega)).trans va_sf, by simp, trivial⟩
  have h5 : va_up (va_up Ic 4 (nI 0)) 5 (nI 0) 5 = nI 0 := va_sf
  generalize va_up (va_up Ic 4 (nI 0)) 5 (nI 0) = Ic1 at hc h5 ⊢
  have hser : (rEH G r e (seH G a Ic1 Ac h) I).1 a = some (.inr (6, seFs a Ic1)) := by rw [eC]; exact se_r
  refine wp_ok (cuts := []) 30 _ _ _ _ ?_
  simp (config := { maxSteps := 2000000 }) (disch := omega) only [wp_su, wp_0, eX6_readFrom_0, eX6_readFrom_1, eX6_readFrom_4, eX6_readFrom_5, eX6_readFrom_6, eX6_readFrom_7, eX6_readFrom_8, eX6_readFrom_11, eX6_readFrom_12, eX6_readFrom_15, S_aload_n0, S_aload_n0N, S_aload_n1, S_aload_n1N, S_aload_n2, S_aload_n2N, S_callV, S_iconst, S_return, jc_1, aX6_readFrom, bX6_readFrom, rX6_readFrom, nar_i, nar_n0, nar_n1, List.mem_cons, List.not_mem_nil, or_false, or_self, or_true, true_or, false_or, if_false, if_true, true_and, and_true, Nat.reduceEqDiff, Nat.reduceAdd, Nat.reduceLT, reduceIte, iSet_1, iEnt_e, iEn_n, iEn_i, iEn_r, iEn_u, iEn_l, List.cons_append, List.nil_append, List.length_cons, List.length_nil, Nat.reduceSub, List.replicate_succ, List.replicate_zero, Nat.zero_add, nI_lit0, va_up_app, nI_add, nI_mul, nI_sub, nI_clamp, vp_nI, nI_le_t, nI_le_f, nI_lt_t, nI_lt_f, imp_t, imp_f, Option.toList_some, Option.toList_none, not_true_eq_false, not_false_eq_true, iR_t, nar_zI, zI_f0, zI_t0, va_up_same, upd_ne, upd_self]
  refine ks_callV (As := [.ref r, .ref t, .int (nI 1)]) (mc := 0) (ms := 0) (Y' := mX6_readCondition) eX6_readFrom_8 l_RX6_40 kX6_readCondition iX6_readCondition nX6_readCondition (hser) rfl rfl (Nat.le_of_ble_eq_true rfl) (hcn (q, [], []) 0 I Ic1 Ac (Or.inl rfl) hOn h48 hl hc h5) (Nat.zero_le _) (Nat.zero_le _) ?_
  rintro v g ⟨rfl, I3, Ic3, Ac3, rfl, ⟨x3, o3, hOn3, hoo1, wA, wO, hS3, h483, hl3, hc3, h53⟩ | ⟨q1, q2, q3⟩⟩
  · have hS3 : (joinsS 22 (notsS x3)).2.2 = [] := hS3
    have hnq : ∀ i, i ≠ 45 → i ≠ 47 → i ≠ 48 → (notsS x3).1.1 i = x3.1.1 i := fun i z1 z2 z3 => (notsA_q z1 z2 z3 _ _ _).1
    have hnw : (notsS x3).1.2 = x3.1.2 := (notsA_q (j := 0) (by omega) (by omega) (by omega) _ _ _).2
    have hwd : ∀ w, isWordB w (notsS x3).1 = isWordB w x3.1 := fun w => isWord_q (hnq 11 (by omega) (by omega) (by omega)) hnw
    have hjq : ∀ i, i ≠ 45 → i ≠ 47 → i ≠ 48 → (joinsS 22 (notsS x3)).1.1 i = x3.1.1 i := fun i z1 z2 z3 => (joinsA_q z1 z2 _ _ _).1.trans (hnq i z1 z2 z3)
    have hjw : (joinsS 22 (notsS x3)).1.2 = x3.1.2 := (joinsA_q (j := 0) (by omega) (by omega) _ _ _).2.trans hnw
    have hlq : rL e I3 (joinsS 22 (notsS x3)).1 := rL_q hl3 (fun j hj => hjq j (by omega) (by omega) (by omega)) hjw
    refine wp_ok (cuts := []) 30 _ _ _ _ ?_
    simp (config := { maxSteps := 2000000 }) (disch := omega) only [wp_su, wp_0, eX6_readFrom_0, eX6_readFrom_1, eX6_readFrom_4, eX6_readFrom_5, eX6_readFrom_6, eX6_readFrom_7, eX6_readFrom_8, eX6_readFrom_11, eX6_readFrom_12, eX6_readFrom_15, S_aload_n0, S_aload_n0N, S_aload_n1, S_aload_n1N, S_aload_n2, S_aload_n2N, S_callV, S_iconst, S_return, jc_1, aX6_readFrom, bX6_readFrom, rX6_readFrom, nar_i, nar_n0, nar_n1, List.mem_cons, List.not_mem_nil, or_false, or_self, or_true, true_or, false_or, if_false, if_true, true_and, and_true, Nat.reduceEqDiff, Nat.reduceAdd, Nat.reduceLT, reduceIte, iSet_1, iEnt_e, iEn_n, iEn_i, iEn_r, iEn_u, iEn_l, List.cons_append, List.nil_append, List.length_cons, List.length_nil, Nat.reduceSub, List.replicate_succ, List.replicate_zero, Nat.zero_add, nI_lit0, va_up_app, nI_add, nI_mul, nI_sub, nI_clamp, vp_nI, nI_le_t, nI_le_f, nI_lt_t, nI_lt_f, imp_t, imp_f, Option.toList_some, Option.toList_none, not_true_eq_false, not_false_eq_true, iR_t, nar_zI, zI_f0, zI_t0, va_up_same, upd_ne, upd_self]
    refine ks_callV (As := []) (mc := 0) (ms := 0) (Y' := mX5_finish) eX6_readFrom_12 l_RX6_44 kX5_finish iX5_finish nX5_finish (re_o) rfl rfl (Nat.le_of_ble_eq_true rfl) (z_finish hlq) (Nat.zero_le _) (Nat.zero_le _) ?_
    rintro v g ⟨rfl, I4, rfl, ⟨z0, rfl⟩ | ⟨z0, hf⟩⟩
    · rw [hjq 11 (by omega) (by omega) (by omega)] at z0
      have eY := On_end hOn3 z0
      rw [if_pos hS3] at eY
      refine wp_ok (cuts := []) 30 _ _ _ _ ?_
      simp (config := { maxSteps := 2000000 }) (disch := omega) only [wp_su, wp_0, eX6_readFrom_0, eX6_readFrom_1, eX6_readFrom_4, eX6_readFrom_5, eX6_readFrom_6, eX6_readFrom_7, eX6_readFrom_8, eX6_readFrom_11, eX6_readFrom_12, eX6_readFrom_15, S_aload_n0, S_aload_n0N, S_aload_n1, S_aload_n1N, S_aload_n2, S_aload_n2N, S_callV, S_iconst, S_return, jc_1, aX6_readFrom, bX6_readFrom, rX6_readFrom, nar_i, nar_n0, nar_n1, List.mem_cons, List.not_mem_nil, or_false, or_self, or_true, true_or, false_or, if_false, if_true, true_and, and_true, Nat.reduceEqDiff, Nat.reduceAdd, Nat.reduceLT, reduceIte, iSet_1, iEnt_e, iEn_n, iEn_i, iEn_r, iEn_u, iEn_l, List.cons_append, List.nil_append, List.length_cons, List.length_nil, Nat.reduceSub, List.replicate_succ, List.replicate_zero, Nat.zero_add, nI_lit0, va_up_app, nI_add, nI_mul, nI_sub, nI_clamp, vp_nI, nI_le_t, nI_le_f, nI_lt_t, nI_lt_f, imp_t, imp_f, Option.toList_some, Option.toList_none, not_true_eq_false, not_false_eq_true, iR_t, nar_zI, zI_f0, zI_t0, va_up_same, upd_ne, upd_self]
      rw [eY]
      refine ⟨rfl, I4, Ic3, Ac3, rfl, Or.inl ⟨rfl, hlq, hc3, ?_, ?_⟩⟩
      · rw [h53]
        show nI o3 = (joinsS 22 (notsS x3)).1.1 46
        rw [hjq 46 (by omega) (by omega) (by omega)]; exact hOn3.1.2.1.symm
      · obtain ⟨w1, w2, w3⟩ := hOn3.2.1
        obtain ⟨v1, v2⟩ := wf_nots x3.2.2 x3.1 x3.2.1 o3 w1 w2 w3
        obtain ⟨u1, u2⟩ := wf_joins (till := 22) (notsS x3).2.2 (notsS x3).1 (notsS x3).2.1 o3 v1 v2 w3
        have u1 : wfC (joinsS 22 (notsS x3)).2.1 (1 + bnS (joinsS 22 (notsS x3)).2.2) := u1
        rw [hS3] at u1
        exact u1
    · have z1 := z0
      rw [hjq 11 (by omega) (by omega) (by omega)] at z1
      have ebh : bhS (rEp e) x3 = (false, badP (nI 1) (joinsS 22 (notsS x3)).1, (joinsS 22 (notsS x3)).2) := by
        unfold bhS bh2S
        rw [hwd, hwd, wA, wO, hS3]
        simp
      have eY := (On_bh hOn3 z1).2 (by rw [ebh])
      rw [ebh] at eY
      refine wp_ok (cuts := []) 30 _ _ _ _ ?_
      simp (config := { maxSteps := 2000000 }) (disch := omega) only [wp_su, wp_0, eX6_readFrom_0, eX6_readFrom_1, eX6_readFrom_4, eX6_readFrom_5, eX6_readFrom_6, eX6_readFrom_7, eX6_readFrom_8, eX6_readFrom_11, eX6_readFrom_12, eX6_readFrom_15, S_aload_n0, S_aload_n0N, S_aload_n1, S_aload_n1N, S_aload_n2, S_aload_n2N, S_callV, S_iconst, S_return, jc_1, aX6_readFrom, bX6_readFrom, rX6_readFrom, nar_i, nar_n0, nar_n1, List.mem_cons, List.not_mem_nil, or_false, or_self, or_true, true_or, false_or, if_false, if_true, true_and, and_true, Nat.reduceEqDiff, Nat.reduceAdd, Nat.reduceLT, reduceIte, iSet_1, iEnt_e, iEn_n, iEn_i, iEn_r, iEn_u, iEn_l, List.cons_append, List.nil_append, List.length_cons, List.length_nil, Nat.reduceSub, List.replicate_succ, List.replicate_zero, Nat.zero_add, nI_lit0, va_up_app, nI_add, nI_mul, nI_sub, nI_clamp, vp_nI, nI_le_t, nI_le_f, nI_lt_t, nI_lt_f, imp_t, imp_f, Option.toList_some, Option.toList_none, not_true_eq_false, not_false_eq_true, iR_t, nar_zI, zI_f0, zI_t0, va_up_same, upd_ne, upd_self]
      rw [eY]
      exact ⟨rfl, I4, Ic3, Ac3, rfl, Or.inr ⟨rfl, hf⟩⟩
  · refine wp_ok (cuts := []) 30 _ _ _ _ ?_
    simp (config := { maxSteps := 2000000 }) (disch := omega) only [wp_su, wp_0, eX6_readFrom_0, eX6_readFrom_1, eX6_readFrom_4, eX6_readFrom_5, eX6_readFrom_6, eX6_readFrom_7, eX6_readFrom_8, eX6_readFrom_11, eX6_readFrom_12, eX6_readFrom_15, S_aload_n0, S_aload_n0N, S_aload_n1, S_aload_n1N, S_aload_n2, S_aload_n2N, S_callV, S_iconst, S_return, jc_1, aX6_readFrom, bX6_readFrom, rX6_readFrom, nar_i, nar_n0, nar_n1, List.mem_cons, List.not_mem_nil, or_false, or_self, or_true, true_or, false_or, if_false, if_true, true_and, and_true, Nat.reduceEqDiff, Nat.reduceAdd, Nat.reduceLT, reduceIte, iSet_1, iEnt_e, iEn_n, iEn_i, iEn_r, iEn_u, iEn_l, List.cons_append, List.nil_append, List.length_cons, List.length_nil, Nat.reduceSub, List.replicate_succ, List.replicate_zero, Nat.zero_add, nI_lit0, va_up_app, nI_add, nI_mul, nI_sub, nI_clamp, vp_nI, nI_le_t, nI_le_f, nI_lt_t, nI_lt_f, imp_t, imp_f, Option.toList_some, Option.toList_none, not_true_eq_false, not_false_eq_true, iR_t, nar_zI, zI_f0, zI_t0, va_up_same, upd_ne, upd_self]
    refine dVu0 (Y' := mX5_finish) eX6_readFrom_12 l_RX6_44 kX5_finish iX5_finish nX5_finish (re_o) rfl rfl (Nat.le_of_ble_eq_true rfl) (r_finishD q2.1) ?_
    refine wp_ok (cuts := []) 30 _ _ _ _ ?_
    simp (config := { maxSteps := 2000000 }) (disch := omega) only [wp_su, wp_0, eX6_readFrom_0, eX6_readFrom_1, eX6_readFrom_4, eX6_readFrom_5, eX6_readFrom_6, eX6_readFrom_7, eX6_readFrom_8, eX6_readFrom_11, eX6_readFrom_12, eX6_readFrom_15, S_aload_n0, S_aload_n0N, S_aload_n1, S_aload_n1N, S_aload_n2, S_aload_n2N, S_callV, S_iconst, S_return, jc_1, aX6_readFrom, bX6_readFrom, rX6_readFrom, nar_i, nar_n0, nar_n1, List.mem_cons, List.not_mem_nil, or_false, or_self, or_true, true_or, false_or, if_false, if_true, true_and, and_true, Nat.reduceEqDiff, Nat.reduceAdd, Nat.reduceLT, reduceIte, iSet_1, iEnt_e, iEn_n, iEn_i, iEn_r, iEn_u, iEn_l, List.cons_append, List.nil_append, List.length_cons, List.length_nil, Nat.reduceSub, List.replicate_succ, List.replicate_zero, Nat.zero_add, nI_lit0, va_up_app, nI_add, nI_mul, nI_sub, nI_clamp, vp_nI, nI_le_t, nI_le_f, nI_lt_t, nI_lt_f, imp_t, imp_f, Option.toList_some, Option.toList_none, not_true_eq_false, not_false_eq_true, iR_t, nar_zI, zI_f0, zI_t0, va_up_same, upd_ne, upd_self]
    exact ⟨rfl, I3, Ic3, Ac3, rfl, Or.inr ⟨q1, q2⟩⟩
end CSu
theorem okN_wf {r : Nat → Int32} {what : Nat → Nat} (hw : ∀ i, what i = (r (3 * i)).toNatClampNeg) : ∀ (cs : List cS) (m k : Nat), rcS r cs → wfC cs m → okN what k cs.length m → okN what (cs.length + k) 0 0
  | [], m, k, _, h2, h3 => by
    have : m = 0 := h2
    subst this
    rw [List.length_nil, Nat.zero_add]; exact h3
  | c :: cs, m, k, h1, h2, h3 => by
    obtain ⟨r1, r2, r3, r4⟩ := h1
    obtain ⟨n, w1, w2, w3⟩ := h2
    have hl : (c :: cs).length = cs.length + 1 := rfl
    rw [hl, show cs.length + 1 + k = cs.length + (k + 1) by omega]
    rw [hl] at h3
    refine okN_wf hw cs n (k + 1) r4 w1 ?_
    refine ⟨w2, ?_⟩
    have hc : what cs.length = c.1.toNatClampNeg := by rw [hw, r1]
    rcases w3 with ⟨z1, z2, rfl⟩ | ⟨z1, z2, rfl⟩ | ⟨w, z1, z2, rfl⟩
    · have e1 : what cs.length = 20 := by rw [hc, z1, nI_clamp (by omega)]
      rw [if_pos e1]; exact ⟨z2, h3⟩
    · have e1 : what cs.length = 21 ∨ what cs.length = 22 := by
        rcases z1 with z1 | z1
        · left; rw [hc, z1, nI_clamp (by omega)]
        · right; rw [hc, z1, nI_clamp (by omega)]
      rw [if_neg (by omega), if_pos e1]; exact ⟨z2, h3⟩
    · have e1 : what cs.length = w := by rw [hc, z2, nI_clamp (by omega)]
      rw [if_neg (by omega), if_neg (by omega)]; exact ⟨by omega, h3⟩
/-- the class's Sentence is the reference's -/
def seRel (s : Nat → Int32) (Ic : Nat → Int32) (Ac : Nat → Nat → Int32) : Prop := ∃ (c : Nat) (what : Nat → Nat), c ≤ 40 ∧ s 144 = nI c ∧ Ic 4 = nI c ∧ (∀ i, i < c → s (145 + 3 * i) = nI (what i) ∧ what i < 30 ∧ stepR (Ac 1 i) (Ac 2 i) (Ac 3 i) (Ac 4 i) (what i) (s (145 + 3 * i + 1)) (s (145 + 3 * i + 2))) ∧ (¬ c = 0 → okN what c 0 0)
theorem sc_row {r : Nat → Int32} {Ac : Nat → Nat → Int32} : ∀ (cs : List cS), rcS r cs → scR Ac cs → ∀ i, i < cs.length → r (3 * i) = nI (r (3 * i)).toNatClampNeg ∧ (r (3 * i)).toNatClampNeg < 30 ∧ stepR (Ac 1 i) (Ac 2 i) (Ac 3 i) (Ac 4 i) (r (3 * i)).toNatClampNeg (r (3 * i + 1)) (r (3 * i + 2))
  | [], _, _, i, hi => by simp at hi
  | c :: cs, h1, h2, i, hi => by
    obtain ⟨r1, r2, r3, r4⟩ := h1
    obtain ⟨⟨w, w1, w2, w3⟩, s4⟩ := h2
    have hl : (c :: cs).length = cs.length + 1 := rfl
    rw [hl] at hi
    by_cases z : i = cs.length
    · subst z
      rw [r1, r2, r3, w2, nI_clamp (by omega)]
      exact ⟨rfl, w1, w3⟩
    · exact sc_row cs r4 s4 i (by omega)
theorem seRel_new {s0 r Ic : Nat → Int32} {Ac : Nat → Nat → Int32} {cs : List cS} (hc : crel Ic Ac cs) (hr : rcS r cs) (hw : wfC cs 1) : seRel (va_cpy r (upd s0 144 (nI cs.length)) 0 145 (3 * cs.length)) Ic Ac := by
  have ec : ∀ j, j < 3 * cs.length → va_cpy r (upd s0 144 (nI cs.length)) 0 145 (3 * cs.length) (145 + j) = r j := fun j hj => by
    simp only [va_cpy]
    rw [if_pos (by omega), show 0 + (145 + j - 145) = j by omega]
  refine ⟨cs.length, fun i => (r (3 * i)).toNatClampNeg, hc.2.1, ?_, hc.1, fun i hi => ?_, fun _ => ?_⟩
  · simp only [va_cpy]
    rw [if_neg (by omega), upd_self]
  · rw [show 145 + 3 * i + 1 = 145 + (3 * i + 1) by omega, show 145 + 3 * i + 2 = 145 + (3 * i + 2) by omega, ec _ (by omega), ec _ (by omega), ec _ (by omega)]
    exact sc_row cs hr hc.2.2 i hi
  · have := okN_wf (r := r) (what := fun i => (r (3 * i)).toNatClampNeg) (fun _ => rfl) cs 1 0 hr hw rfl
    exact this
