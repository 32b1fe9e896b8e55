/-! The class: tower -/
section XTW
variable {G : iG} {d b al : Nat} {g : iH} {wa : Nat → Nat} {I : Nat → Int32} {W : Int64} {A : Nat → Nat → Int32} {N : Nat → Nat → Int64} {F n U sz : Nat}
theorem TN_of {M : Nat → Nat → Int64} {nm nm' : Nat → Int64} (h : TN M nm F n U) (hF : F ≤ 8) (hn : n ≤ 6) (hU : U ≤ 5) (he : ∀ j, j < 19 → nm' j = nm j) : TN M nm' F n U := by
  obtain ⟨h1, h2, h3⟩ := h
  exact ⟨fun f a c => by rw [he _ (by omega)]; exact h1 f a c, fun c a => by rw [he _ (by omega)]; exact h2 c a, fun u a => by rw [he _ (by omega)]; exact h3 u a⟩
theorem nI_ij {a c : Nat} (h : nI a = nI c) (ha : a < 2 ^ 31) (hc : c < 2 ^ 31) : a = c := (nI_eq ha hc).mp h
theorem tow_ok (h2 : I 2 = nI sz) (hsz : sz ≤ 940) : tOk (A 1, sz, 900, N 6) (towX I W A N) := by
  refine ⟨⟨hsz, (show 900 ≤ 940 from by decide), ?_, ?_, 0, Nat.zero_le _, ?_⟩, ?_, ?_, ?_⟩
  · simp [towX, va_up, h2]
  · simp [towX, va_up]
  · simp [towX, va_up]
  · constructor <;> simp [towX, clrH, cnt, va_up, zrF] <;> decide +kernel
  · constructor <;> simp [towX, clrH, cnt, va_up, zrF] <;> decide +kernel
  · constructor <;> simp [towX, clrH, cnt, va_up, zrF] <;> decide +kernel
theorem clrH_at {s : Nat → Int32} {j : Nat} (hj : j < 85) : clrH s j = if j = 3 then nI 100 else if j = 4 then nI 6 else nI 0 := by
  unfold clrH
  by_cases z4 : j = 4
  · subst z4; rw [va_sf]; rfl
  · rw [va_ne z4]
    by_cases z3 : j = 3
    · subst z3; rw [va_sf]; rfl
    · rw [va_ne z3, if_neg z3, if_neg z4]
      unfold zrF; rw [if_pos hj]
theorem clrH_rg {s : Nat → Int32} : rg5 (clrH s) := by
  have c0 : cnt (clrH s) 0 = 0 := by unfold cnt; rw [clrH_at (by omega)]; decide +kernel
  have c1 : cnt (clrH s) 1 = 0 := by unfold cnt; rw [clrH_at (by omega)]; decide +kernel
  have c2 : cnt (clrH s) 2 = 0 := by unfold cnt; rw [clrH_at (by omega)]; decide +kernel
  unfold rg5
  rw [c0, c1, c2]
  exact ⟨fun f hf => by omega, fun f hf => by omega, fun f hf => by omega, ⟨100, by omega, by omega, clrH_at (by omega)⟩, 6, by omega, by omega, clrH_at (by omega)⟩
theorem x_tower (hG : SG G wa al) (hX : XR G b g I W A N F n U) (h2 : I 2 = nI sz) (hsz : sz ≤ 940) : C G (d + 6) 0 0 mX11_tower [.ref b] g
    (fun v g' => fr b g g' ∧ (if (towR A N sz (towX I W A N)).1 = true then v = some (.int ((towR A N sz (towX I W A N)).2.1.1 19)) ∧ ∃ F n U, XR G b g' (va_up (towR A N sz (towX I W A N)).2.1.1 23 (nI 0)) (towR A N sz (towX I W A N)).2.1.2 (va_up (va_up A 3 (towR A N sz (towX I W A N)).2.2.1) 2 (sTw (towR A N sz (towX I W A N)).2.2.1 (A 2))) (va_up N 5 (cpL (towR A N sz (towX I W A N)).2.2.2 (towR A N sz (towX I W A N)).2.2.2 19 0 19)) F n U
      else v = some (.int (-1 - (towR A N sz (towX I W A N)).2.1.1 16)) ∧ XR G b g' (towR A N sz (towX I W A N)).2.1.1 (towR A N sz (towX I W A N)).2.1.2 (va_up A 3 (towR A N sz (towX I W A N)).2.2.1) (va_up N 5 (towR A N sz (towX I W A N)).2.2.2) F n U)) := by
  obtain ⟨zw, zO, zT, zR, zH, zD, zS, zL, zY, zZ, zB, zV, zP, zQ, zG, zK, zC⟩ := hX
  obtain ⟨X, hx, x1, x3, x16, x18⟩ := zO
  obtain ⟨tx, ht, sz', hsz', e2, hrow⟩ := zT
  obtain ⟨-, hF, -, hn, -, hU⟩ := gWF_n zw.1
  obtain rfl : sz = sz' := nI_ij (h2.symm.trans e2) (by omega) (by omega)
  obtain ⟨J, B, M, hH, hTS, hTN⟩ := zH
  obtain ⟨Jd, Bd, Md, hD⟩ := zD
  have ko := x_open (d := d + 2) (t := A 1) (lm := 900) hG hx (x1.trans h2) ht hsz (by decide) hrow zR
  refine C_in p_RX11 (Nat.le_of_ble_eq_true rfl) rfl ?_
  refine wp_ok (cuts := []) 30 _ _ _ _ ?_
  simp (config := { maxSteps := 2000000 }) (disch := omega) only [wp_su, wp_0, eX11_tower_0, eX11_tower_1, eX11_tower_4, eX11_tower_7, eX11_tower_8, eX11_tower_11, eX11_tower_12, eX11_tower_15, eX11_tower_18, eX11_tower_19, eX11_tower_20, eX11_tower_21, eX11_tower_24, eX11_tower_27, eX11_tower_30, eX11_tower_31, eX11_tower_34, eX11_tower_37, eX11_tower_40, eX11_tower_41, eX11_tower_42, eX11_tower_45, eX11_tower_48, eX11_tower_49, eX11_tower_50, eX11_tower_51, eX11_tower_54, eX11_tower_55, eX11_tower_58, eX11_tower_61, eX11_tower_62, eX11_tower_65, eX11_tower_66, eX11_tower_69, eX11_tower_72, eX11_tower_73, eX11_tower_76, eX11_tower_79, eX11_tower_80, eX11_tower_83, eX11_tower_86, eX11_tower_87, S_aload_n0, S_aload_n0N, S_callV, S_getf, S_iconst, S_if_eq, S_iload_n1, S_ireturn, S_istore_1, S_isub, S_puti, S_putl, S_sipush, g_RX11_123, g_RX11_128, g_RX11_20, g_RX11_24, g_RX11_30, g_RX11_34, g_RX11_40, g_RX11_50, g_RX11_60, iCk_i, iCk_l, iCk_n, iCk_o, iCk_r, iS1_1, ic_m1, js_900, aX11_tower, bX11_tower, rX11_tower, nar_i, nar_n0, nar_n1, List.mem_cons, List.not_mem_nil, or_false, or_self, or_true, true_or, false_or, if_false, if_true, true_and, and_true, Nat.reduceEqDiff, Nat.reduceAdd, Nat.reduceLT, reduceIte, iSet_1, iEnt_e, iEn_n, iEn_i, iEn_r, iEn_u, iEn_l, List.cons_append, List.nil_append, List.length_cons, List.length_nil, Nat.reduceSub, List.replicate_succ, List.replicate_zero, Nat.zero_add, nI_lit0, va_up_app, nI_add, nI_mul, nI_sub, nI_clamp, vp_nI, nI_le_t, nI_le_f, nI_lt_t, nI_lt_f, imp_t, imp_f, Option.toList_some, Option.toList_none, not_true_eq_false, not_false_eq_true, iR_t, nar_zI, zI_f0, zI_t0, va_up_same, upd_ne, upd_self]
  refine ks_callV (As := [.int (nI 900)]) (mc := 0) (ms := 0) (Y' := mX11_openTape) eX11_tower_4 l_RX11_116 kX11_openTape iX11_openTape nX11_openTape (xb_o hx) rfl rfl (Nat.le_of_ble_eq_true rfl) (ko) (Nat.zero_le _) (Nat.zero_le _) ?_
  rintro v g1 ⟨rfl, e, I1, he, hp, hk, rfl, hl⟩
  have ok0 : tOk (A 1, sz, 900, N 6) (towX I W A N) := tow_ok h2 hsz
  have hq : rL e I1 (nxT (A 1, sz, 900, N 6) (towX I W A N)).1 := hl _ ok0.1 (by simp [towX, va_up])
  have hp2 : rEp e = (A 1, sz, 900, N 6) := by rw [hp, zw.2.2.2.2]
  obtain ⟨p1, p2, p3, -⟩ : e.2.2.1 = A 1 ∧ e.2.2.2.1 = sz ∧ e.2.2.2.2.1 = 900 ∧ rsW = rsW := by
    simpa only [rEp, Prod.mk.injEq] using hp
  have hD1 : TW G (xH b (va_up X 1 (nI 0)) g) (b + 18) Jd Bd Md := Blk_alk hD (alk_ov (by omega))
  have kr := c_readFrom (G := G) (d := d) (r := b + 2) (t := b + 18) (e := e) (al := al) (h := xH b (va_up X 1 (nI 0)) g) (J := Jd) (B := Bd) (M := Md) (I := I1) (x := nxT (A 1, sz, 900, N 6) (towX I W A N)) (by rw [he]; exact hG) hk (by omega) (by omega) hq ((nx_f (by unfold fX; omega)).trans (by simp [towX, va_up])) ((nx_f (by unfold fX; omega)).trans (by simp [towX, va_up])) (fun j hj => clrH_at hj)
  rw [hp2, p2] at kr
  have hnp : nP (N 5) (towX I W A N).1.1 (towR A N sz (towX I W A N)).2 := nP_tow _ _ (nP_nx ⟨fun _ _ => rfl, zw.2.2.1, zw.2.1, fun _ _ _ _ => rfl⟩)
  have hrp : (towR A N sz (towX I W A N)).1 = true → rP (nI 0) (towR A N sz (towX I W A N)).2 := fun h => (rP_tow _ _ (tKp_ok ok0 (tKp_nx (tKp_r ok0))) ⟨clrH_rg, nx_15.trans (by simp [towX, va_up])⟩ h).1
  have kr : C G (d + 5) 0 0 mX8_readFrom [.ref (b + 18), .ref (b + 2)] (rEH G (b + 2) e (txH G (b + 18) Jd Bd Md (xH b (va_up X 1 (nI 0)) g)) I1) (tQ G (b + 2) (b + 18) e (xH b (va_up X 1 (nI 0)) g) (towR A N sz (towX I W A N))) := kr
  generalize towR A N sz (towX I W A N) = y at kr hnp hrp ⊢
  refine K_h (show rEH G (b + 2) e (txH G (b + 18) Jd Bd Md (xH b (va_up X 1 (nI 0)) g)) I1 = rEH G (b + 2) e (xH b (va_up X 1 (nI 0)) g) I1 from by rw [tx_self hD1]) ?_
  have hx1 : Blk (rEH G (b + 2) e (txH G (b + 18) Jd Bd Md (xH b (va_up X 1 (nI 0)) g)) I1) b 1 (xE b (va_up X 1 (nI 0))) := Blk_alk (Blk_alk Blk_own (alk_ov (by omega))) (alk_ov (by omega))
  have hT1 : TW G (rEH G (b + 2) e (txH G (b + 18) Jd Bd Md (xH b (va_up X 1 (nI 0)) g)) I1) (b + 18) Jd Bd Md := TW_d (by omega)
  refine wp_ok (cuts := []) 30 _ _ _ _ ?_
  simp (config := { maxSteps := 2000000 }) (disch := omega) only [wp_su, wp_0, eX11_tower_0, eX11_tower_1, eX11_tower_4, eX11_tower_7, eX11_tower_8, eX11_tower_11, eX11_tower_12, eX11_tower_15, eX11_tower_18, eX11_tower_19, eX11_tower_20, eX11_tower_21, eX11_tower_24, eX11_tower_27, eX11_tower_30, eX11_tower_31, eX11_tower_34, eX11_tower_37, eX11_tower_40, eX11_tower_41, eX11_tower_42, eX11_tower_45, eX11_tower_48, eX11_tower_49, eX11_tower_50, eX11_tower_51, eX11_tower_54, eX11_tower_55, eX11_tower_58, eX11_tower_61, eX11_tower_62, eX11_tower_65, eX11_tower_66, eX11_tower_69, eX11_tower_72, eX11_tower_73, eX11_tower_76, eX11_tower_79, eX11_tower_80, eX11_tower_83, eX11_tower_86, eX11_tower_87, S_aload_n0, S_aload_n0N, S_callV, S_getf, S_iconst, S_if_eq, S_iload_n1, S_ireturn, S_istore_1, S_isub, S_puti, S_putl, S_sipush, g_RX11_123, g_RX11_128, g_RX11_20, g_RX11_24, g_RX11_30, g_RX11_34, g_RX11_40, g_RX11_50, g_RX11_60, iCk_i, iCk_l, iCk_n, iCk_o, iCk_r, iS1_1, ic_m1, js_900, aX11_tower, bX11_tower, rX11_tower, nar_i, nar_n0, nar_n1, List.mem_cons, List.not_mem_nil, or_false, or_self, or_true, true_or, false_or, if_false, if_true, true_and, and_true, Nat.reduceEqDiff, Nat.reduceAdd, Nat.reduceLT, reduceIte, iSet_1, iEnt_e, iEn_n, iEn_i, iEn_r, iEn_u, iEn_l, List.cons_append, List.nil_append, List.length_cons, List.length_nil, Nat.reduceSub, List.replicate_succ, List.replicate_zero, Nat.zero_add, nI_lit0, va_up_app, nI_add, nI_mul, nI_sub, nI_clamp, vp_nI, nI_le_t, nI_le_f, nI_lt_t, nI_lt_f, imp_t, imp_f, Option.toList_some, Option.toList_none, not_true_eq_false, not_false_eq_true, iR_t, nar_zI, zI_f0, zI_t0, va_up_same, upd_ne, upd_self, xb_o hx1, xFs_len, xf_2, xf_5]
  refine ks_callV (As := [.ref (b + 2)]) (mc := 0) (ms := 0) (Y' := mX8_readFrom) eX11_tower_15 l_RX11_119 kX8_readFrom iX8_readFrom nX8_readFrom (txb_o hT1) rfl rfl (Nat.le_of_ble_eq_true rfl) (kr) (Nat.zero_le _) (Nat.zero_le _) ?_
  rintro v g2 ⟨I2, J2, B2, M2, rfl, hc⟩
  obtain ⟨vv, rfl⟩ : ∃ vv, v = some (.int vv) := by
    rcases hc with ⟨-, h, -⟩ | ⟨-, -, h⟩
    · exact ⟨_, h⟩
    · exact h
  have hx2 : Blk (rEH G (b + 2) e (txH G (b + 18) J2 B2 M2 (xH b (va_up X 1 (nI 0)) g)) I2) b 1 (xE b (va_up X 1 (nI 0))) := Blk_alk (Blk_alk Blk_own (alk_ov (by omega))) (alk_ov (by omega))
  refine K_h (x_self hx2) ?_
  have hr2 : ∀ X, Blk (xH b X (rEH G (b + 2) e (txH G (b + 18) J2 B2 M2 (xH b (va_up X 1 (nI 0)) g)) I2)) (b + 2) 5 (rdE G (b + 2) I2 e.2.2.2.2.2.1 e.2.2.2.2.2.2.1 e.2.2.2.2.2.2.2.1) := sorry
  sorry
end XTW
