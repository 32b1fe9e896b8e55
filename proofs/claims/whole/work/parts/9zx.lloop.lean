/-! The law: its child, its loop, its start -/
section LL
variable {G : iG} {d kc ks sb b c o L i : Nat} {xs : Nat → Int32} {x5 x6 : Option Value} {g : iH} {Q : Option Value → iH → Prop}
theorem wsC_law : GoodIn (iws mL_law) (va_wsS RL 38 yL_child wsC) := by
  have hs : Cond.static yL_child ∈ igt := List.mem_filter.mpr ⟨by decide +kernel, by decide +kernel⟩
  intro w hw
  have hw2 : w ∈ igt := by
    rcases List.mem_append.mp hw with h | h
    · rcases List.mem_cons.mp h with rfl | h
      · exact l_RL_38
      · rcases List.mem_cons.mp h with rfl | h
        · exact hs
        · rcases List.mem_cons.mp h with rfl | h
          · exact w_RL
          · exact absurd h List.not_mem_nil
    · rcases List.mem_cons.mp h with rfl | h
      · exact wsC_in
      · exact h
  exact ⟨List.mem_cons_of_mem _ hw2, igood hw2⟩
theorem loc24 (d : Nat) : 8 + (5 + 11) + 64 * (d + 24) ≤ 64 * (d + 25) := by omega
theorem nL_child : (parseMethodDescriptor yL_child.desc).map (fun d => d.parameters.length) = some 4 := by decide +kernel
theorem ks_child {pc t : Nat} {ls : iL} {h : iH} {a1 a2 a3 a4 : Value} {Q' : Option Value → iH → Prop} (hi : ino mL_law pc = some (.invokestatic 38, t)) (hC : Met G.1 yL_child wsC (iRm (d + 24) 1 6) (iPc G [a1, a2, a3, a4] h) (iQ G Q') 1 6 G.2.2.1) (hk1 : 1 ≤ kc) (hk2 : 6 ≤ ks) (k : ∀ (r : Option Value) (h' : iH), Q' r h' → K G (d + 25) (kc - 1) (ks - 6) mL_law t ls (r.toList ++ []) h' Q) : K G (d + 25) kc ks mL_law pc ls [a4, a3, a2, a1] h Q := by
  intro p e R s m args below meth c H locs z cells slots X hf hlo hc1 hc2 hL hH hS
  obtain rfl : t = pc + 3 := ino_n hi rfl
  refine iRun (G := G) (mc := 1) (ms := 6) (rest := []) (a := [a1, a2, a3, a4].toArray) (Q' := Q') (vx_runSW (As := [a1, a2, a3, a4]) (iFx X) hC (vx_cwSW (hh := [(0, 10, 13, 13)]) 4 X.2.2.2.2.2.2.1 wsC_law rfl rfl rfl ⟨h_RL.1, h_RL.2, nL_child⟩ ⟨hf, ?_⟩) ⟨iPc_blind, iPc_at X hH hS⟩ rfl rfl hL.1 rfl (lv_room (Nat.zero_le _)) (ino_d hi) ⟨by omega, by omega⟩) hS (fun r h' H1 locs1 hq1 hh1 hs1 => k r h' hq1 p e R s m args below meth c H1 locs1 z (cells + 1) (slots + 6) X hf hlo (by omega) (by omega) hL hh1 hs1)
  exact Nat.le_trans (loc24 d) hlo
theorem mh_al {I : Nat → Int32} {W : Int64} {A : Nat → Nat → Int32} {N : Nat → Nat → Int64} {g1 : iH} (h : g = mH G c I W A N g) (hf : ∀ p, c ≤ p → p < c + 23 → g1.1 p = g.1 p) : g1 = mH G c I W A N g1 := by
  refine Prod.ext (funext fun p => ?_) rfl
  by_cases z : p < c ∨ c + 23 ≤ p
  · rw [mh_in z]
  · rw [hf p (by omega) (by omega), h]
    unfold mH
    dsimp only
    by_cases z1 : p = c
    · rw [if_pos z1, if_pos z1]
    · rw [if_neg z1, if_pos (by omega), if_neg z1, if_pos (by omega)]
theorem li_mk {F n U : Nat} {g1 : iH} {f : Nat → Int64} {I1 I2 : Nat → Int32} {W1 W2 : Int64} {A1 A2 : Nat → Nat → Int32} {N1 N2 : Nat → Nat → Int64} (hc : b + 178 ≤ c) (ho : c + 23 ≤ o) (h : XR G b g1 I1 W1 A1 N1 F n U) (hg : g1.1 o = some (.inl (G.2.2.2.1 2, 1, .inr (.inl f)))) (e : XRe I1 W1 A1 N1 I2 W2 A2 N2) : LI G b c o (mH G c I2 W2 A2 N2 g1) :=
  li_end hc ho h fr_rf hg e
theorem in_w {w : Int32} (h1 : ¬ w < 0) (h2 : w ≤ 6) : inF w (nI 0) (nI 6) = true := by
  unfold inF
  rw [Bool.and_eq_true]
  exact ⟨decide_eq_true (Int32.not_lt.mp h1), decide_eq_true h2⟩
set_option maxRecDepth 20000 in
theorem LC_4 (hT : TG G) (hs : ScG G sb L xs) (hL : L ≤ 3072) (hi : i + 6 ≤ L) (hc : b + 178 ≤ c) (ho : c + 23 ≤ o) (hl : LI G b c o g) (hk1 : 1 ≤ kc) (hk2 : 6 ≤ ks) (kn : ∀ x5 x6 g', LI G b c o g' → K G (d + 25) (kc - 1) (ks - 6) mL_law 1336 [some (.ref sb), some (.ref b), some (.ref c), some (.ref o), some (.int (nI i)), x5, x6] [] g' Q) : K G (d + 25) kc ks mL_law 344 [some (.ref sb), some (.ref b), some (.ref c), some (.ref o), some (.int (nI i)), x5, x6] [] g Q := by
  obtain ⟨I, W, A, N, F, n, U, f, hX, hm, hf⟩ := hl
  obtain ⟨e0, hF, e1, hn, e2, hU⟩ := gWF_n hX.1.1
  refine ks_aload_n eL_law_344 rfl ?_
  refine ks_arg (j := 1) eL_law_345 eL_law_346 eL_law_348 eL_law_349 eL_law_350 (by decide) (by decide) hs hL hi ?_
  refine ks_arg (j := 2) eL_law_351 eL_law_352 eL_law_354 eL_law_355 eL_law_356 (by decide) (by decide) hs hL hi ?_
  refine ks_aload_n eL_law_357 rfl ?_
  cases hok : (inF (xs (i + 1)) (nI 0) (A 2 1 - nI 1) && inF (xs (i + 2)) (nI 0) (nI 6)) with
  | true =>
    obtain ⟨ok1, ok2⟩ := (Bool.and_eq_true _ _).mp hok
    have ok1' := ok1
    rw [e1] at ok1'
    obtain ⟨k, hk, ek⟩ := in_nI (by omega) ok1'
    obtain ⟨w, -, hw, ew⟩ := in_nIr (by decide) (by decide) ok2
    obtain ⟨v, hx, ht⟩ : ∃ v : Int32, C G (d + 23) 0 0 mX11_child [.ref b, .int (xs (i + 1)), .int (xs (i + 2))] g (iR (some (.int v)) g) ∧ ∀ g1 : iH, C G (d + 24) 0 0 mX12_child [.ref c, .int (xs (i + 1)), .int (xs (i + 2))] (mH G c I W A N g1) (iR (some (.int v)) (mH G c (va_up I 0 (nI 0)) W A N g1)) := by
      refine ⟨(if nI w = nI 0 then A 2 (90 + k) else if nI w = nI 1 then A 2 (96 + k) else if nI w = nI 2 then A 2 (102 + k) else if nI w = nI 3 then A 2 (108 + k) else if nI w = nI 4 then A 2 (114 + k) else if nI w = nI 5 then mLack (A 2) k else nearB (A 2) n k), ?_, fun g1 => ?_⟩
      · rw [ek, ew]
        exact x_childV (d := d + 20) hX hk hw
      · have ht := t_child (G := G) (d := d + 21) (b := c) (I := I) (W := W) (A := A) (N := N) (c := xs (i + 1)) (w := xs (i + 2)) (h0 := g1) hX.1.1.1.1.1
        rw [if_pos hok] at ht
        rw [ek, ew, nI_clamp (by omega)] at ht
        rw [ek, ew]
        exact ht
    refine ks_child eL_law_358 (l_child (d := d + 15) (ok := true) (v := v) hT hX hf (fun _ => hx) (fun h => by cases h)) hk1 hk2 ?_
    intro r g1 hq1
    obtain ⟨rfl, hg⟩ : r = some (.int 0) ∧ g1 = iSet g o (.inl (G.2.2.2.1 2, 1, .inr (.inl (vp_updL f 0 v.toInt64)))) := hq1
    have hg1 : ∀ p, ¬ p = o → g1.1 p = g.1 p := fun p hp => by rw [hg]; exact if_neg hp
    have ho1 : g1.1 o = some (.inl (G.2.2.2.1 2, 1, .inr (.inl (vp_updL f 0 v.toInt64)))) := by rw [hg]; exact if_pos rfl
    have hm1 := mh_al (g1 := g1) hm (fun p h1 h2 => hg1 p (by omega))
    have hX1 : XR G b g1 I W A N F n U := XR_a hX (fun p h1 h2 => hg1 p (by omega))
    refine ks_istore (x := 0) (st := []) eL_law_361 (by decide) ?_
    show K _ _ _ _ _ _ [some (.ref sb), some (.ref b), some (.ref c), some (.ref o), some (.int (nI i)), some (.int 0), x6] _ _ _
    refine ks_aload_n eL_law_363 rfl ?_
    refine ks_arg (j := 1) eL_law_364 eL_law_365 eL_law_367 eL_law_368 eL_law_369 (by decide) (by decide) hs hL hi ?_
    refine ks_arg (j := 2) eL_law_370 eL_law_371 eL_law_373 eL_law_374 eL_law_375 (by decide) (by decide) hs hL hi ?_
    obtain ⟨fs2, hc2⟩ := mh_c hm1
    refine ks_callV (As := [.int (xs (i + 1)), .int (xs (i + 2))]) (mc := 0) (ms := 0) (Y' := mX12_child) eL_law_376 l_RL_43 kX12_child iX12_child nX12_child hc2 rfl rfl (Nat.zero_le _) (C_hp hm1 (ht g1)) (Nat.zero_le _) (Nat.zero_le _) ?_
    intro v2 g2 hq2
    obtain ⟨rfl, rfl⟩ := hq2
    refine ks_istore (x := v) (st := []) eL_law_379 (by decide) ?_
    show K _ _ _ _ _ _ [some (.ref sb), some (.ref b), some (.ref c), some (.ref o), some (.int (nI i)), some (.int 0), some (.int v)] _ _ _
    refine ks_aload_n eL_law_381 rfl ?_
    refine ks_callV (As := []) (mc := 0) (ms := 0) (Y' := mX12_thrown) eL_law_382 l_RL_44 kX12_thrown iX12_thrown nX12_thrown m_o rfl rfl (Nat.zero_le _) (t_thrown (d := d + 24)) (Nat.zero_le _) (Nat.zero_le _) ?_
    intro v3 g3 hq3
    obtain ⟨rfl, rfl⟩ := hq3
    refine ks_iload (x := 0) eL_law_385 rfl ?_
    refine ks_icmp_eq (x := nI 0) (y := 0) (st := []) eL_law_387 (fun _ => ?_) (fun h => absurd (by decide) h)
    refine ks_iload (x := 0) eL_law_392 rfl ?_
    refine ks_if_ne (x := 0) (st := []) eL_law_394 (fun h => absurd rfl h) (fun _ => ?_)
    refine ks_aload_n eL_law_397 rfl ?_
    refine ks_iconst eL_law_398 (v := nI 0) (by decide) ?_
    refine ks_lald (n := 1) (f := vp_updL f 0 v.toInt64) eL_law_399 ?_ (vp_in_nI (by decide) (by decide)) ?_
    · rw [mh_in (by omega)]
      exact ho1
    refine ks_iload (x := v) eL_law_400 rfl ?_
    refine ks_i2l eL_law_402 ?_
    refine ks_lcmp eL_law_403 ?_
    rw [show vp_updL f 0 v.toInt64 (nI 0).toNatClampNeg = v.toInt64 from rfl, show lg_cmp v.toInt64 v.toInt64 = 0 from (lg_cmp_eq _ _).mpr rfl]
    refine ks_if_eq (x := 0) (st := []) eL_law_404 (fun _ => ?_) (fun h => absurd rfl h)
    refine ks_goto eL_law_409 ?_
    exact kn _ _ _ (li_mk hc ho hX1 ho1 ⟨rfl, rfl, rfl, rfl, rfl, rfl, rfl, rfl, rfl, rfl, rfl, rfl, rfl, rfl, rfl, rfl, rfl, rfl, rfl, rfl, rfl, rfl, rfl, rfl, rfl, rfl⟩)
  | false =>
    have ht : ∀ g1 : iH, C G (d + 24) 0 0 mX12_child [.ref c, .int (xs (i + 1)), .int (xs (i + 2))] (mH G c I W A N g1) (iR (some (.int (nI 0))) (mH G c (va_up I 0 (nI 1)) W A N g1)) := fun g1 => by
      have ht := t_child (G := G) (d := d + 21) (b := c) (I := I) (W := W) (A := A) (N := N) (c := xs (i + 1)) (w := xs (i + 2)) (h0 := g1) hX.1.1.1.1.1
      rw [if_neg (by rw [hok]; decide)] at ht
      exact ht
    refine ks_child eL_law_358 (l_child (d := d + 15) (ok := false) (v := 0) hT hX hf (fun h => by cases h) (fun _ h => by rw [h.1, in_w h.2.1 h.2.2] at hok; cases hok)) hk1 hk2 ?_
    intro r g1 hq1
    obtain ⟨rfl, hg1⟩ : r = some (.int 1) ∧ g1.1 = g.1 := hq1
    have ho1 : g1.1 o = some (.inl (G.2.2.2.1 2, 1, .inr (.inl f))) := by rw [hg1]; exact hf
    have hm1 := mh_al (g1 := g1) hm (fun p h1 h2 => by rw [hg1])
    have hX1 : XR G b g1 I W A N F n U := XR_a hX (fun p h1 h2 => by rw [hg1])
    refine ks_istore (x := 1) (st := []) eL_law_361 (by decide) ?_
    show K _ _ _ _ _ _ [some (.ref sb), some (.ref b), some (.ref c), some (.ref o), some (.int (nI i)), some (.int 1), x6] _ _ _
    refine ks_aload_n eL_law_363 rfl ?_
    refine ks_arg (j := 1) eL_law_364 eL_law_365 eL_law_367 eL_law_368 eL_law_369 (by decide) (by decide) hs hL hi ?_
    refine ks_arg (j := 2) eL_law_370 eL_law_371 eL_law_373 eL_law_374 eL_law_375 (by decide) (by decide) hs hL hi ?_
    obtain ⟨fs2, hc2⟩ := mh_c hm1
    refine ks_callV (As := [.int (xs (i + 1)), .int (xs (i + 2))]) (mc := 0) (ms := 0) (Y' := mX12_child) eL_law_376 l_RL_43 kX12_child iX12_child nX12_child hc2 rfl rfl (Nat.zero_le _) (C_hp hm1 (ht g1)) (Nat.zero_le _) (Nat.zero_le _) ?_
    intro v2 g2 hq2
    obtain ⟨rfl, rfl⟩ := hq2
    refine ks_istore (x := nI 0) (st := []) eL_law_379 (by decide) ?_
    show K _ _ _ _ _ _ [some (.ref sb), some (.ref b), some (.ref c), some (.ref o), some (.int (nI i)), some (.int 1), some (.int (nI 0))] _ _ _
    refine ks_aload_n eL_law_381 rfl ?_
    refine ks_callV (As := []) (mc := 0) (ms := 0) (Y' := mX12_thrown) eL_law_382 l_RL_44 kX12_thrown iX12_thrown nX12_thrown m_o rfl rfl (Nat.zero_le _) (t_thrown (d := d + 24)) (Nat.zero_le _) (Nat.zero_le _) ?_
    intro v3 g3 hq3
    obtain ⟨rfl, rfl⟩ := hq3
    refine ks_iload (x := 1) eL_law_385 rfl ?_
    refine ks_icmp_eq (x := nI 1) (y := 1) (st := []) eL_law_387 (fun _ => ?_) (fun h => absurd (by decide) h)
    refine ks_iload (x := 1) eL_law_392 rfl ?_
    refine ks_if_ne (x := 1) (st := []) eL_law_394 (fun _ => ?_) (fun h => absurd h (by decide))
    refine ks_goto eL_law_409 ?_
    exact kn _ _ _ (li_mk hc ho hX1 ho1 ⟨rfl, rfl, rfl, rfl, rfl, rfl, rfl, rfl, rfl, rfl, rfl, rfl, rfl, rfl, rfl, rfl, rfl, rfl, rfl, rfl, rfl, rfl, rfl, rfl, rfl, rfl⟩)
def tsL : List Nat := [220, 293, 318, 331, 344, 412, 449, 486, 523, 548, 573, 610, 635, 660, 685, 710, 735, 748, 773, 798, 823, 836, 861, 886, 899, 924, 937, 974, 999, 1012, 1037, 1062, 1087, 1124, 1173, 1198, 1223, 1236, 1261, 1286, 1311]
theorem sub6 : ∀ L, L < 6 → ∀ i, i < 6 → nI L - nI 6 < nI i := by decide
/-- all that is said of the world, for the loop -/
def AllG (G : iG) (sb L : Nat) (xs : Nat → Int32) : Prop := (∃ wa al, SG G wa al) ∧ NG G ∧ AO G ∧ (∃ sa sv o9, StG G sa sv o9) ∧ TG G ∧ ScG G sb L xs
set_option maxRecDepth 20000 in
theorem L_sw (hall : AllG G sb L xs) (hL : L ≤ 3072) (hi : i + 6 ≤ L) (hc : b + 178 ≤ c) (ho : c + 23 ≤ o) (hl : LI G b c o g) (hk1 : 1 ≤ kc) (hk2 : 6 ≤ ks) (kn : ∀ x5 x6 g', LI G b c o g' → K G (d + 25) (kc - 1) (ks - 6) mL_law 1336 [some (.ref sb), some (.ref b), some (.ref c), some (.ref o), some (.int (nI i)), x5, x6] [] g' Q) : ∀ k, k < 64 → K G (d + 25) kc ks mL_law 40 [some (.ref sb), some (.ref b), some (.ref c), some (.ref o), some (.int (nI i)), x5, x6] [.int (nI k)] g Q := by
  obtain ⟨⟨wa, al, hG⟩, hN, hO, ⟨sa, sv, o9, hSt⟩, hT, hs⟩ := hall
  have kn0 : ∀ g', LI G b c o g' → K G (d + 25) kc ks mL_law 1336 [some (.ref sb), some (.ref b), some (.ref c), some (.ref o), some (.int (nI i)), x5, x6] [] g' Q := fun g' h => K_wide (by omega) (by omega) (kn x5 x6 g' h)
  intro k hk
  by_cases z : 41 ≤ k
  · exact ks_tswD (k := k) eL_law_40 tsL 1336 rfl rfl rfl z (by omega) (kn0 g hl)
  match k, z with
  | 0, _ => exact ks_tswN (k := 0) (t := 220) eL_law_40 tsL 1336 rfl rfl rfl rfl (by decide) (LC_0 hs hL hi (v_feed hc ho hl) kn0)
  | 1, _ => exact ks_tswN (k := 1) (t := 293) eL_law_40 tsL 1336 rfl rfl rfl rfl (by decide) (LC_1 hs hL hi (v_end hc ho hl) kn0)
  | 2, _ => exact ks_tswN (k := 2) (t := 318) eL_law_40 tsL 1336 rfl rfl rfl rfl (by decide) (LC_2 hs hL hi (v_tower hG hc ho hl) kn0)
  | 3, _ => exact ks_tswN (k := 3) (t := 331) eL_law_40 tsL 1336 rfl rfl rfl rfl (by decide) (LC_3 hs hL hi (v_fault hc ho hl) kn0)
  | 4, _ => exact ks_tswN (k := 4) (t := 344) eL_law_40 tsL 1336 rfl rfl rfl rfl (by decide) (LC_4 hT hs hL hi hc ho hl hk1 hk2 kn)
  | 5, _ => exact ks_tswN (k := 5) (t := 412) eL_law_40 tsL 1336 rfl rfl rfl rfl (by decide) (LC_5 hs hL hi (v_has hc ho hl) kn0)
  | 6, _ => exact ks_tswN (k := 6) (t := 449) eL_law_40 tsL 1336 rfl rfl rfl rfl (by decide) (LC_6 hs hL hi (v_floor hc ho hl) kn0)
  | 7, _ => exact ks_tswN (k := 7) (t := 486) eL_law_40 tsL 1336 rfl rfl rfl rfl (by decide) (LC_7 hs hL hi (v_uncle hc ho hl) kn0)
  | 8, _ => exact ks_tswN (k := 8) (t := 523) eL_law_40 tsL 1336 rfl rfl rfl rfl (by decide) (LC_8 hs hL hi (v_law hc ho hl) kn0)
  | 9, _ => exact ks_tswN (k := 9) (t := 548) eL_law_40 tsL 1336 rfl rfl rfl rfl (by decide) (LC_9 hs hL hi (v_now hc ho hl) kn0)
  | 10, _ => exact ks_tswN (k := 10) (t := 573) eL_law_40 tsL 1336 rfl rfl rfl rfl (by decide) (LC_10 hs hL hi (v_send hc ho hl) kn0)
  | 11, _ => exact ks_tswN (k := 11) (t := 610) eL_law_40 tsL 1336 rfl rfl rfl rfl (by decide) (LC_11 hs hL hi (v_hang hc ho hl) kn0)
  | 12, _ => exact ks_tswN (k := 12) (t := 635) eL_law_40 tsL 1336 rfl rfl rfl rfl (by decide) (LC_12 hs hL hi (v_take hc ho hl) kn0)
  | 13, _ => exact ks_tswN (k := 13) (t := 660) eL_law_40 tsL 1336 rfl rfl rfl rfl (by decide) (LC_13 hs hL hi (v_serve hc ho hl) kn0)
  | 14, _ => exact ks_tswN (k := 14) (t := 685) eL_law_40 tsL 1336 rfl rfl rfl rfl (by decide) (LC_14 hs hL hi (v_back hc ho hl) kn0)
  | 15, _ => exact ks_tswN (k := 15) (t := 710) eL_law_40 tsL 1336 rfl rfl rfl rfl (by decide) (LC_15 hs hL hi (v_hours hc ho hl) kn0)
  | 16, _ => exact ks_tswN (k := 16) (t := 735) eL_law_40 tsL 1336 rfl rfl rfl rfl (by decide) (LC_16 hs hL hi (v_undo hc ho hl) kn0)
  | 17, _ => exact ks_tswN (k := 17) (t := 748) eL_law_40 tsL 1336 rfl rfl rfl rfl (by decide) (LC_17 hs hL hi (v_when hc ho hl) kn0)
  | 18, _ => exact ks_tswN (k := 18) (t := 773) eL_law_40 tsL 1336 rfl rfl rfl rfl (by decide) (LC_18 hs hL hi (v_plan hc ho hl) kn0)
  | 19, _ => exact ks_tswN (k := 19) (t := 798) eL_law_40 tsL 1336 rfl rfl rfl rfl (by decide) (LC_19 hs hL hi (v_planAt hc ho hl) kn0)
  | 20, _ => exact ks_tswN (k := 20) (t := 823) eL_law_40 tsL 1336 rfl rfl rfl rfl (by decide) (LC_20 hs hL hi (v_passes hc ho hl) kn0)
  | 21, _ => exact ks_tswN (k := 21) (t := 836) eL_law_40 tsL 1336 rfl rfl rfl rfl (by decide) (LC_21 hs hL hi (v_been hc ho hl) kn0)
  | 22, _ => exact ks_tswN (k := 22) (t := 861) eL_law_40 tsL 1336 rfl rfl rfl rfl (by decide) (LC_22 hs hL hi (v_beenAt hc ho hl) kn0)
  | 23, _ => exact ks_tswN (k := 23) (t := 886) eL_law_40 tsL 1336 rfl rfl rfl rfl (by decide) (LC_23 hs hL hi (v_ask hc ho hl) kn0)
  | 24, _ => exact ks_tswN (k := 24) (t := 899) eL_law_40 tsL 1336 rfl rfl rfl rfl (by decide) (LC_24 hs hL hi (v_hung hc ho hl) kn0)
  | 25, _ => exact ks_tswN (k := 25) (t := 924) eL_law_40 tsL 1336 rfl rfl rfl rfl (by decide) (LC_25 hs hL hi (v_hanging hc ho hl) kn0)
  | 26, _ => exact ks_tswN (k := 26) (t := 937) eL_law_40 tsL 1336 rfl rfl rfl rfl (by decide) (LC_26 hs hL hi (v_holds hc ho hl) kn0)
  | 27, _ => exact ks_tswN (k := 27) (t := 974) eL_law_40 tsL 1336 rfl rfl rfl rfl (by decide) (LC_27 hs hL hi (v_web hc ho hl) kn0)
  | 28, _ => exact ks_tswN (k := 28) (t := 999) eL_law_40 tsL 1336 rfl rfl rfl rfl (by decide) (LC_28 hs hL hi (v_bargain hc ho hl) kn0)
  | 29, _ => exact ks_tswN (k := 29) (t := 1012) eL_law_40 tsL 1336 rfl rfl rfl rfl (by decide) (LC_29 hs hL hi (v_bargained hc ho hl) kn0)
  | 30, _ => exact ks_tswN (k := 30) (t := 1037) eL_law_40 tsL 1336 rfl rfl rfl rfl (by decide) (LC_30 hs hL hi (v_cover hSt hG hc ho hl) kn0)
  | 31, _ => exact ks_tswN (k := 31) (t := 1062) eL_law_40 tsL 1336 rfl rfl rfl rfl (by decide) (LC_31 hs hL hi (v_byteAt hc ho hl) kn0)
  | 32, _ => exact ks_tswN (k := 32) (t := 1087) eL_law_40 tsL 1336 rfl rfl rfl rfl (by decide) (LC_32 hs hL hi (v_drawn hc ho hl) kn0)
  | 33, _ => exact ks_tswN (k := 33) (t := 1124) eL_law_40 tsL 1336 rfl rfl rfl rfl (by decide) (LC_33 hs hL hi (v_odds hc ho hl) kn0)
  | 34, _ => exact ks_tswN (k := 34) (t := 1173) eL_law_40 tsL 1336 rfl rfl rfl rfl (by decide) (LC_34 hs hL hi (v_book hG hN hc ho hl) kn0)
  | 35, _ => exact ks_tswN (k := 35) (t := 1198) eL_law_40 tsL 1336 rfl rfl rfl rfl (by decide) (LC_35 hs hL hi (v_told hc ho hl) kn0)
  | 36, _ => exact ks_tswN (k := 36) (t := 1223) eL_law_40 tsL 1336 rfl rfl rfl rfl (by decide) (LC_36 hs hL hi (v_sentence hG hN hc ho hl) kn0)
  | 37, _ => exact ks_tswN (k := 37) (t := 1236) eL_law_40 tsL 1336 rfl rfl rfl rfl (by decide) (LC_37 hs hL hi (v_said hc ho hl) kn0)
  | 38, _ => exact ks_tswN (k := 38) (t := 1261) eL_law_40 tsL 1336 rfl rfl rfl rfl (by decide) (LC_38 hs hL hi (v_image hc ho hl) kn0)
  | 39, _ => exact ks_tswN (k := 39) (t := 1286) eL_law_40 tsL 1336 rfl rfl rfl rfl (by decide) (LC_39 hs hL hi (v_restore hc ho hl) kn0)
  | 40, _ => exact ks_tswN (k := 40) (t := 1311) eL_law_40 tsL 1336 rfl rfl rfl rfl (by decide) (LC_40 hs hL hi (v_count hc ho hl) kn0)
  | n + 41, z => exact absurd (Nat.le_add_left 41 n) z
/-- the law's answer is 1 -/
def lQ : Option Value → iH → Prop := fun r _ => r = some (.int 1)
theorem L_loop (hall : AllG G sb L xs) (hL : L ≤ 3072) (hc : b + 178 ≤ c) (ho : c + 23 ≤ o) : ∀ (k i : Nat), L < i + 6 * (k + 1) → i ≤ L → ∀ (x5 x6 : Option Value) (g : iH), LI G b c o g → K G (d + 25) k (6 * k) mL_law 23 [some (.ref sb), some (.ref b), some (.ref c), some (.ref o), some (.int (nI i)), x5, x6] [] g lQ := by
  have hs := hall.2.2.2.2.2
  intro k
  induction k with
  | zero =>
    intro i h1 h2 x5 x6 g hl
    refine ks_iload eL_law_23 rfl ?_
    refine ks_aload_n eL_law_25 rfl ?_
    refine ks_slen eL_law_26 hs ?_
    refine ks_bipush eL_law_27 (v := nI 6) (by decide) ?_
    refine ks_isub eL_law_29 ?_
    have hlt : nI L - nI 6 < nI i := by
      by_cases z : L < 6
      · exact sub6 L z i (by omega)
      · rw [nI_sub (by omega)]
        exact nI_lt (by omega) (by omega)
    refine ks_icmp_gt eL_law_30 (fun _ => ?_) (fun h => absurd hlt h)
    refine ks_iconst eL_law_1342 (v := 1) (by decide) ?_
    exact ks_ireturn (st := []) eL_law_1343 rfl (of_eq_true nar_z1) rfl
  | succ k ih =>
    intro i h1 h2 x5 x6 g hl
    refine ks_iload eL_law_23 rfl ?_
    refine ks_aload_n eL_law_25 rfl ?_
    refine ks_slen eL_law_26 hs ?_
    refine ks_bipush eL_law_27 (v := nI 6) (by decide) ?_
    refine ks_isub eL_law_29 ?_
    refine ks_icmp_gt eL_law_30 (fun _ => ?_) (fun h => ?_)
    · refine ks_iconst eL_law_1342 (v := 1) (by decide) ?_
      exact ks_ireturn (st := []) eL_law_1343 rfl (of_eq_true nar_z1) rfl
    · have hi : i + 6 ≤ L := by
        by_cases z : L < 6
        · exact absurd (sub6 L z i (by omega)) h
        · rw [nI_sub (by omega)] at h
          by_cases z2 : i + 6 ≤ L
          · exact z2
          · exact absurd (nI_lt (by omega) (by omega)) h
      refine ks_aload_n eL_law_33 rfl ?_
      refine ks_iload eL_law_34 rfl ?_
      refine ks_sld eL_law_36 hs (vp_in_nI (by omega) (by omega)) ?_
      refine ks_bipush eL_law_37 (v := nI 63) (by decide) ?_
      refine ks_iand eL_law_39 ?_
      obtain ⟨k9, hk9, e9⟩ := and63 (xs (nI i).toNatClampNeg)
      rw [e9]
      refine L_sw hall hL hi hc ho hl (by omega) (by omega) (fun x5 x6 g' hl' => ?_) k9 hk9
      refine ks_iinc (x := nI i) eL_law_1336 rfl (by decide) ?_
      refine ks_goto eL_law_1339 ?_
      have hk := ih (i + 6) (by omega) (by omega) x5 x6 g' hl'
      rw [show nI (i + 6) = nI i + Int32.ofInt 6 by rw [show Int32.ofInt 6 = nI 6 by decide, nI_add]] at hk
      exact hk
end LL
