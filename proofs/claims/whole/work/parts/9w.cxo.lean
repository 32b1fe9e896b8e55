/-! The class: a text opened, a tower told -/
section OP
variable {G : iG} {d b sz lm al : Nat} {g : iH} {wa : Nat → Nat} {X : Nat → Int32} {tx t : Nat → Int32}
theorem x_open (hG : SG G wa al) (hx : Blk g b 1 (xE b X)) (x1 : X 1 = nI sz) (ht : Blk g (b + 1) 1 (arE G 940 tx)) (hsz : sz ≤ 940) (hlm : lm ≤ 940) (hrow : ∀ i, i < sz → tx i = t i &&& nI 255) (hr : pR G b g) : C G (d + 3) 0 0 mX11_openTape [.ref b, .int (nI lm)] g (fun v g' => v = none ∧ ∃ (e : rE) (I' : Nat → Int32), e.1 = wa ∧ rEp e = (t, sz, lm, rsW) ∧ rEk e ∧ g' = rEH G (b + 2) e (xH b (va_up X 1 (nI 0)) g) I' ∧ ∀ q : pS, pOk sz lm q.1 → q.1 4 = nI 0 → rL e I' (nxP t sz lm q)) := by
  obtain ⟨I0, A0, N0, R0, hr⟩ := hr
  have ko := c_open (d := d) (r := b + 2) (I := I0) (A := A0) (N := N0) (R := R0) (h := g) (txa := b + 1) (t := t) (tx := tx) hG hsz hlm (tl := decide (lm < sz)) rfl (fun i hi => by rw [hrow i hi, pkF, if_pos hi]) (fun I A N R => by unfold rdH; rw [ovl_out (by omega)]; exact ht 0 (by decide))
  refine C_in p_RX11 (Nat.le_of_ble_eq_true rfl) rfl ?_
  refine wp_ok (cuts := []) 30 _ _ _ _ ?_
  simp (config := { maxSteps := 2000000 }) (disch := omega) only [wp_su, wp_0, eX11_openTape_0, eX11_openTape_1, eX11_openTape_4, eX11_openTape_5, eX11_openTape_8, eX11_openTape_9, eX11_openTape_12, eX11_openTape_13, eX11_openTape_16, eX11_openTape_17, eX11_openTape_18, eX11_openTape_21, S_aload_n0, S_aload_n0N, S_callV, S_getf, S_iconst, S_iload_n1, S_puti, S_putl, S_return, g_RX11_13, g_RX11_20, g_RX11_9, jc_0, aX11_openTape, bX11_openTape, rX11_openTape, nar_i, nar_n0, nar_n1, List.mem_cons, List.not_mem_nil, or_false, or_self, or_true, true_or, false_or, if_false, if_true, true_and, and_true, Nat.reduceEqDiff, Nat.reduceAdd, Nat.reduceLT, reduceIte, iSet_1, iEnt_e, iEn_n, iEn_i, iEn_r, iEn_u, iEn_l, List.cons_append, List.nil_append, List.length_cons, List.length_nil, Nat.reduceSub, List.replicate_succ, List.replicate_zero, Nat.zero_add, nI_lit0, va_up_app, nI_add, nI_mul, nI_sub, nI_clamp, vp_nI, nI_le_t, nI_le_f, nI_lt_t, nI_lt_f, imp_t, imp_f, Option.toList_some, Option.toList_none, not_true_eq_false, not_false_eq_true, iR_t, nar_zI, zI_f0, zI_t0, va_up_same, upd_ne, upd_self, xb_o hx, xFs_len, xf_0, xf_1, xf_2, x1]
  refine K_h (rd_self hr) ?_
  refine ks_callV (As := [.ref (b + 1), .int (nI sz), .int (nI lm)]) (mc := 0) (ms := 0) (Y' := mX5_open) eX11_openTape_13 l_RX11_112 kX5_open iX5_open nX5_open (rd_o) rfl rfl (Nat.le_of_ble_eq_true rfl) (ko) (Nat.zero_le _) (Nat.zero_le _) ?_
  rintro v g' ⟨rfl, I', A', N', R', T, cur, rfl, i4, i5, i6, i7, i8, tk⟩
  have hx2 : Blk (rdH G (b + 2) I' A' N' R' g) b 1 (xE b X) := Blk_alk hx (alk_ov (by omega))
  refine K_h (x_self hx2) ?_
  refine wp_ok (cuts := []) 30 _ _ _ _ ?_
  simp (config := { maxSteps := 2000000 }) (disch := omega) only [wp_su, wp_0, eX11_openTape_0, eX11_openTape_1, eX11_openTape_4, eX11_openTape_5, eX11_openTape_8, eX11_openTape_9, eX11_openTape_12, eX11_openTape_13, eX11_openTape_16, eX11_openTape_17, eX11_openTape_18, eX11_openTape_21, S_aload_n0, S_aload_n0N, S_callV, S_getf, S_iconst, S_iload_n1, S_puti, S_putl, S_return, g_RX11_13, g_RX11_20, g_RX11_9, jc_0, aX11_openTape, bX11_openTape, rX11_openTape, nar_i, nar_n0, nar_n1, List.mem_cons, List.not_mem_nil, or_false, or_self, or_true, true_or, false_or, if_false, if_true, true_and, and_true, Nat.reduceEqDiff, Nat.reduceAdd, Nat.reduceLT, reduceIte, iSet_1, iEnt_e, iEn_n, iEn_i, iEn_r, iEn_u, iEn_l, List.cons_append, List.nil_append, List.length_cons, List.length_nil, Nat.reduceSub, List.replicate_succ, List.replicate_zero, Nat.zero_add, nI_lit0, va_up_app, nI_add, nI_mul, nI_sub, nI_clamp, vp_nI, nI_le_t, nI_le_f, nI_lt_t, nI_lt_f, imp_t, imp_f, Option.toList_some, Option.toList_none, not_true_eq_false, not_false_eq_true, iR_t, nar_zI, zI_f0, zI_t0, va_up_same, upd_ne, upd_self, x_o, xFs_len, xk_1, xp_1]
  refine ⟨(wa, decide (lm < sz), t, sz, lm, A', N', R', T, cur), I', rfl, rfl, tk, ovl_comm (by omega), fun q hp h4 => ?_⟩
  obtain ⟨k1, k2, k3, t0, t1, t2⟩ := tk
  obtain ⟨m1, m2⟩ := t2 0 (by omega) q hp (by rw [h4, t0])
  exact ⟨0, ⟨i7, i5, i4, k2, (show 0 < T by omega), k3 0 (by omega), m1⟩, m2, pOk_nx hp, i6⟩
end OP
section XT
theorem sTw_lo {h s : Nat → Int32} {j : Nat} (hj : j < 85) : sTw h s j = h j := by
  unfold sTw va_cpy sT1
  rw [if_neg (by omega), if_pos (by omega), if_pos hj]
theorem sTw_w {h s : Nat → Int32} {c : Nat} (hc : c < 6) : sTw h s (96 + c) = h (22 + c) := by
  unfold sTw va_cpy sT1
  rw [if_pos (by omega), if_pos (by omega), if_pos (by omega)]
  congr 1; omega
theorem sTw_0 {h s : Nat → Int32} {j : Nat} (h1 : 85 ≤ j) (h2 : j < 96 ∨ 102 ≤ j) (h3 : j < 325) : sTw h s j = nI 0 := by
  unfold sTw va_cpy sT1
  rw [if_neg (by omega), if_pos h3, if_neg (by omega)]
theorem sTw_beg {h s : Nat → Int32} : ∀ j, 85 ≤ j → j < 144 → begF h j = sTw h s j := fun j h1 h2 => by
  by_cases z : 96 ≤ j ∧ j < 102
  · obtain ⟨c, rfl⟩ : ∃ c, j = 96 + c := ⟨j - 96, by omega⟩
    rw [begF_w (by omega), sTw_w (by omega)]
  · rw [begF_0 h1 (by omega) (by omega), sTw_0 h1 (by omega) (by omega)]
variable {J : Nat → Int32} {B : Nat → Nat → Int32} {M : Nat → Nat → Int64} {s s0 : Nat → Int32} {nm : Nat → Int64} {F n U : Nat}
theorem gWF_tw (h : tE F n U J B M s nm) (hr : rg5 s) : gWF (sTw s s0) F n U := by
  obtain ⟨⟨f1, f2, f3, f4, v, v1, v2, v3⟩, ⟨c1, c2, c3, c4⟩, ⟨u1, u2, u3, u4⟩, ⟨l1, l2⟩, j13, j14⟩ := h
  obtain ⟨r1, r2, r3, r4, r5⟩ := hr
  rw [nI_cnt (by omega) f2] at r1
  rw [nI_cnt (by omega) c2] at r2
  rw [nI_cnt (by omega) u2] at r3
  have lo : ∀ j, j < 85 → sTw s s0 j = s j := fun j hj => sTw_lo hj
  have h4 : ∃ v, 1 ≤ v ∧ v ≤ 48 ∧ sTw s s0 4 = nI v := by rw [lo 4 (by omega)]; exact r5
  have h4z : ¬ sTw s s0 4 = nI 0 := by
    obtain ⟨v, w1, w2, w3⟩ := h4
    rw [w3]
    exact fun z => by rw [nI_eq_f (by omega) (by omega) (by omega)] at z; exact z
  refine ⟨⟨⟨⟨?_, f1, ?_, c1, ?_, u1, ?_, ?_, h4z⟩, ?_, ⟨?_, ?_⟩, ?_⟩, ?_, ?_⟩, ⟨?_, ?_, ?_, ?_, ?_⟩, ?_⟩
  · rw [lo 0 (by omega)]; exact f2
  · rw [lo 1 (by omega)]; exact c2
  · rw [lo 2 (by omega)]; exact u2
  · intro f hf; rw [lo _ (by omega)]; exact (r1 f hf).1
  · intro c hc; exact Or.inr ⟨0, Nat.zero_le _, sTw_0 (by omega) (by omega) (by omega)⟩
  · intro f hf
    rw [lo _ (by omega)]
    obtain ⟨v, w1, w2, w3⟩ := (r1 f hf).2
    exact ⟨v, by omega, w3⟩
  · intro i hi; exact ⟨0, by omega, sTw_0 (by omega) (by omega) (by omega)⟩
  · intro i hi; exact ⟨0, by omega, sTw_0 (by omega) (by omega) (by omega)⟩
  · obtain ⟨v, w1, w2, w3⟩ := h4
    rw [w3, nI_lt_t (by omega) (by omega)]; trivial
  · exact ⟨0, by omega, sTw_0 (by omega) (by omega) (by omega)⟩
  · exact ⟨0, by omega, sTw_0 (by omega) (by omega) (by omega)⟩
  · intro f hf; rw [lo _ (by omega)]; exact (r1 f hf).2
  · intro u hu; rw [lo _ (by omega)]; exact r3 u hu
  · intro c hc; rw [lo _ (by omega)]; exact r2 c hc
  · intro j h1 h2
    rw [lo _ (by omega)]
    obtain ⟨-, m, hm, e⟩ := l2 ((j - 37) / 6) ((j - 37) % 6) (by omega) (by omega)
    rw [show 37 + 6 * ((j - 37) / 6) + (j - 37) % 6 = j by omega] at e
    exact ⟨m, hm, e⟩
  · rw [lo _ (by omega)]; exact r4
  · intro c hc
    rw [sTw_w (by omega)]
    obtain ⟨v, w1, w2⟩ := r2 c hc
    exact ⟨v, by omega, w2⟩
theorem TS_tE (h : tE F n U J B M s nm) : TS J B (sTw s s0) F n U := by
  obtain ⟨⟨f1, f2, f3, f4, v, v1, v2, v3⟩, ⟨c1, c2, c3, c4⟩, ⟨u1, u2, u3, u4⟩, ⟨l1, l2⟩, j13, j14⟩ := h
  have lo : ∀ j, j < 85 → sTw s s0 j = s j := fun j hj => sTw_lo hj
  refine ⟨f3, c3, u3, ?_, ?_, ?_, ?_, ?_, ?_, ?_, ?_, ?_⟩
  · rw [lo _ (by omega)]; exact j13
  · rw [lo _ (by omega)]; exact j14
  · intro f h1 h2
    rw [lo _ (by omega)]
    have := (f4 (f - 1) (by omega)).1
    rw [show f - 1 + 1 = f by omega, show 5 + (f - 1) = 5 + f - 1 by omega] at this
    exact this
  · intro f h1 h2
    rw [lo _ (by omega)]
    have := (f4 (f - 1) (by omega)).2.1
    rw [show f - 1 + 1 = f by omega, show 13 + (f - 1) = 13 + f - 1 by omega] at this
    exact this
  · intro f h1 h2
    rw [lo _ (by omega)]
    have := (f4 (f - 1) (by omega)).2.2.1
    rw [show f - 1 + 1 = f by omega] at this
    exact this
  · intro c hc; rw [lo _ (by omega)]; exact (c4 c hc).1
  · intro u hu; rw [lo _ (by omega)]; exact (u4 u hu).1
  · intro g hg; rw [lo _ (by omega)]; exact (l1 g hg).1
  · intro f c h1 h2 hc
    rw [lo _ (by omega)]
    have := (l2 (f - 1) c (by omega) hc).1
    rw [show f - 1 + 1 = f by omega, show 37 + 6 * (f - 1) + c = 37 + 6 * f - 6 + c by omega] at this
    exact this
theorem TN_tE (h : tE F n U J B M s nm) : TN M (cpL nm nm 19 0 19) F n U := by
  obtain ⟨⟨f1, f2, f3, f4, v, v1, v2, v3⟩, ⟨c1, c2, c3, c4⟩, ⟨u1, u2, u3, u4⟩, -⟩ := h
  have cp : ∀ j, j < 19 → cpL nm nm 19 0 19 j = nm (19 + j) := fun j hj => by
    unfold cpL; rw [if_pos (by omega)]; congr 1
  refine ⟨?_, ?_, ?_⟩
  · intro f h1 h2
    have := (f4 (f - 1) (by omega)).2.2.2
    rw [show f - 1 + 1 = f by omega] at this
    rw [cp _ (by omega)]; exact this
  · intro c hc
    rw [cp _ (by omega), show 19 + (8 + c) = 27 + c by omega]; exact (c4 c hc).2
  · intro u hu
    rw [cp _ (by omega), show 19 + (14 + u) = 33 + u by omega]; exact (u4 u hu).2
end XT
section XI
variable {G : iG} {b : Nat} {g : iH} {I I' : Nat → Int32} {W W' : Int64} {A : Nat → Nat → Int32} {N : Nat → Nat → Int64} {F n U : Nat}
theorem XR_c (h : XR G b g I W A N F n U) (hw : pW W') (e2 : I' 2 = I 2) (e15 : I' 15 = I 15) (e33 : I' 33 = I 33) (e34 : I' 34 = I 34) (e39 : I' 39 = I 39) (e23 : I' 23 = I 23) (e26 : I' 26 = I 26) (e27 : I' 27 = I 27) (e31 : I' 31 = I 31) (e32 : I' 32 = I 32) (e37 : I' 37 = I 37) (e43 : I' 43 = I 43) : XR G b g I' W' A N F n U := by
  unfold XR
  rw [e2, e15, e33, e34, e39, e23, e26, e27, e31, e32, e37, e43]
  exact ⟨⟨h.1.1, hw, h.1.2.2⟩, h.2⟩
end XI
