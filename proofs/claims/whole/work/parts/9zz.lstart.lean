/-! The law: its start -/
theorem dv_X11 : ∀ j ty, j < 19 → parseFieldDescriptor (TX11 j).2.2.1 = some ty → defaultValue ty = vp_V [.null, .int 0, .null, .int 0, .null, .null, .null, .null, .null, .null, .null, .null, .null, .null, .null, .null, .int 0, .null, .int 0] j := fun j ty hj h => by
  have h1 := tyX11_ok j hj
  rw [h1] at h
  cases h
  have h2 : ∀ j, j < 19 → defaultValue (tyX11 j) = vp_V [.null, .int 0, .null, .int 0, .null, .null, .null, .null, .null, .null, .null, .null, .null, .null, .null, .null, .int 0, .null, .int 0] j := by decide +kernel
  exact h2 j hj
theorem dv_X12 : ∀ j ty, j < 54 → parseFieldDescriptor (TX12 j).2.2.1 = some ty → defaultValue ty = vp_V [.int 0, .null, .int 0, .int 0, .int 0, .int 0, .null, .null, .null, .null, .null, .int 0, .int 0, .int 0, .int 0, .int 0, .int 0, .long 0, .int 0, .int 0, .int 0, .null, .null, .int 0, .null, .null, .int 0, .int 0, .null, .null, .null, .int 0, .int 0, .int 0, .int 0, .null, .null, .int 0, .null, .int 0, .int 0, .int 0, .null, .int 0, .null, .int 0, .int 0, .int 0, .int 0, .int 0, .null, .null, .null, .null] j := fun j ty hj h => by
  have h1 := tyX12_ok j hj
  rw [h1] at h
  cases h
  have h2 : ∀ j, j < 54 → defaultValue (tyX12 j) = vp_V [.int 0, .null, .int 0, .int 0, .int 0, .int 0, .null, .null, .null, .null, .null, .int 0, .int 0, .int 0, .int 0, .int 0, .int 0, .long 0, .int 0, .int 0, .int 0, .null, .null, .int 0, .null, .null, .int 0, .int 0, .null, .null, .null, .int 0, .int 0, .int 0, .int 0, .null, .null, .int 0, .null, .int 0, .int 0, .int 0, .null, .int 0, .null, .int 0, .int 0, .int 0, .int 0, .int 0, .null, .null, .null, .null] j := by decide +kernel
  exact h2 j hj
section LS
variable {G : iG} {d kc ks sb b L : Nat} {xs : Nat → Int32} {h1 : iH}
theorem li_new (e2 : h1.2 = b + 178) (hg : ∀ j, j < 178 → h1.1 (b + j) = (xC G b)[j]?) : LI G b h1.2 (h1.2 + 23) (iNew (mH G h1.2 i0 0 a0 n0 (h1.1, h1.2 + 23)) (.inl (G.2.2.2.1 2, 1, .inr (.inl (fun _ => 0))))) := by
  have hne : ∀ p, ¬ p = h1.2 + 23 → (iNew (mH G h1.2 i0 0 a0 n0 (h1.1, h1.2 + 23)) (.inl (G.2.2.2.1 2, 1, .inr (.inl (fun _ => 0))))).1 p = (mH G h1.2 i0 0 a0 n0 (h1.1, h1.2 + 23)).1 p := fun p hp => if_neg hp
  refine ⟨i0, 0, a0, n0, 0, 0, 0, fun _ => 0, XR_new (fun j hj => ?_), ?_, if_pos rfl⟩
  · rw [hne _ (by omega), mh_in (by omega)]
    exact hg j hj
  · exact mh_al mh_mh (fun p h2 h3 => hne p (by omega))
theorem L_start2 (hall : AllG G sb L xs) (hL : L ≤ 3072) (e2 : h1.2 = b + 178) (hg : ∀ j, j < 178 → h1.1 (b + j) = (xC G b)[j]?) : K G (d + 25) 1000 10000 mL_law 8 [some (.ref sb), some (.ref b), none, none, none, none, none] [] h1 lQ := by
  refine ks_new uCl (ci := 11) (fs := [.int 0, .null, .int 0, .int 0, .int 0, .int 0, .null, .null, .null, .null, .null, .int 0, .int 0, .int 0, .int 0, .int 0, .int 0, .long 0, .int 0, .int 0, .int 0, .null, .null, .int 0, .null, .null, .int 0, .int 0, .null, .null, .null, .int 0, .int 0, .int 0, .int 0, .null, .null, .int 0, .null, .int 0, .int 0, .int 0, .null, .int 0, .null, .int 0, .int 0, .int 0, .int 0, .int 0, .null, .null, .null, .null]) eL_law_8 rfl ⟨o_RL_16, v_RX12, w_RX12⟩ dv_X12 (Nat.le_of_ble_eq_true rfl) (Nat.le_of_ble_eq_true rfl) ?_
  rw [ap_1]
  refine ks_dup eL_law_11 rfl ?_
  refine ks_callI (As := []) (mc := 22) (ms := 2978) (Y' := mX12_init) eL_law_12 l_RL_18 kX12_init jX12_init rfl rfl nX12_init (Nat.le_of_ble_eq_true rfl) (n_X12_init (d := d + 23)) (Nat.le_of_ble_eq_true rfl) (Nat.le_of_ble_eq_true rfl) ?_
  rintro v g ⟨rfl, rfl⟩
  refine ks_astore_n (x := h1.2) (st := []) eL_law_15 (by decide) ?_
  refine ks_iconst eL_law_16 (v := nI 1) (by decide) ?_
  refine ks_newJ (N := 1) eL_law_17 ac_long (by decide) (by decide) (by decide) (Nat.le_of_ble_eq_true rfl) (Nat.le_of_ble_eq_true rfl) ?_
  refine ks_astore_n (x := h1.2 + 23) (st := []) eL_law_19 (by decide) ?_
  refine ks_iconst eL_law_20 (v := nI 0) (by decide) ?_
  refine ks_istore (x := nI 0) (st := []) eL_law_21 (by decide) ?_
  refine K_wide (kc := 512) (ks := 6 * 512) (Nat.le_of_ble_eq_true rfl) (Nat.le_of_ble_eq_true rfl) ?_
  exact L_loop hall hL (by omega) (Nat.le_refl _) 512 0 (by omega) (Nat.zero_le _) none none _ (li_new e2 hg)
set_option maxRecDepth 20000 in
theorem xC_len : (xC G b).length = 178 := rfl
set_option maxRecDepth 20000 in
theorem L_start (hall : AllG G sb L xs) (hL : L ≤ 3072) {h : iH} : K G (d + 25) 601024 7293034 mL_law 0 [some (.ref sb), none, none, none, none, none, none] [] h lQ := by
  have hN := hall.2.1
  have hO := hall.2.2.1
  refine ks_new uCl (ci := 10) (fs := [.null, .int 0, .null, .int 0, .null, .null, .null, .null, .null, .null, .null, .null, .null, .null, .null, .null, .int 0, .null, .int 0]) eL_law_0 rfl ⟨o_RL_8, v_RX11, w_RX11⟩ dv_X11 (Nat.le_of_ble_eq_true rfl) (Nat.le_of_ble_eq_true rfl) ?_
  rw [ap_1]
  refine ks_dup eL_law_3 rfl ?_
  refine ks_callI (As := []) (mc := 177) (ms := 6990) (Y' := mX11_init) eL_law_4 l_RL_15 kX11_init jX11_init rfl rfl nX11_init (Nat.le_of_ble_eq_true rfl) (n_X11_init (d := d + 21) hO hN) (Nat.le_of_ble_eq_true rfl) (Nat.le_of_ble_eq_true rfl) ?_
  rintro v g ⟨rfl, rfl⟩
  refine K_new ?_
  have e2 : (apH h (xC G h.2)).2 = h.2 + 178 := by rw [ap_sz, xC_len]
  have hg : ∀ j, j < 178 → (apH h (xC G h.2)).1 (h.2 + j) = (xC G h.2)[j]? := fun j hj => ap_at (by rw [xC_len]; exact hj)
  generalize apH h (xC G h.2) = h1 at e2 hg ⊢
  refine ks_astore_n (x := h.2) (st := []) eL_law_7 (by decide) ?_
  exact K_wide (Nat.le_of_ble_eq_true rfl) (Nat.le_of_ble_eq_true rfl) (L_start2 hall hL e2 hg)
end LS
