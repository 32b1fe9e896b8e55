/-! The class and the reference side by side: a call of each answers alike, and they stay alike -/
def XRe (I1 : Nat → Int32) (W1 : Int64) (A1 : Nat → Nat → Int32) (N1 : Nat → Nat → Int64) (I2 : Nat → Int32) (W2 : Int64) (A2 : Nat → Nat → Int32) (N2 : Nat → Nat → Int64) : Prop := I2 2 = I1 2 ∧ I2 15 = I1 15 ∧ I2 33 = I1 33 ∧ I2 34 = I1 34 ∧ I2 39 = I1 39 ∧ I2 23 = I1 23 ∧ I2 26 = I1 26 ∧ I2 27 = I1 27 ∧ I2 31 = I1 31 ∧ I2 32 = I1 32 ∧ I2 37 = I1 37 ∧ I2 43 = I1 43 ∧ W2 = W1 ∧ A2 1 = A1 1 ∧ A2 2 = A1 2 ∧ A2 7 = A1 7 ∧ A2 10 = A1 10 ∧ A2 11 = A1 11 ∧ A2 14 = A1 14 ∧ A2 16 = A1 16 ∧ A2 17 = A1 17 ∧ A2 20 = A1 20 ∧ A2 22 = A1 22 ∧ N2 5 = N1 5 ∧ N2 6 = N1 6 ∧ N2 21 = N1 21
/-- object, reference and the law's row of one long, in one heap -/
def LI (G : iG) (b c o : Nat) (g : iH) : Prop := ∃ (I : Nat → Int32) (W : Int64) (A : Nat → Nat → Int32) (N : Nat → Nat → Int64) (F n U : Nat) (f : Nat → Int64), XR G b g I W A N F n U ∧ g = mH G c I W A N g ∧ g.1 o = some (.inl (G.2.2.2.1 2, 1, .inr (.inl f)))
def PairP (G : iG) (d : Nat) (Yx Ym : iM) (b c : Nat) (As : List Value) (g : iH) (P : iH → Prop) : Prop :=
  (∃ fs, g.1 b = some (.inr (10, fs))) ∧ ∃ Qx : Option Value → iH → Prop, C G d 0 0 Yx (.ref b :: As) g Qx ∧ ∀ v g', Qx v g' → (∃ fs, g'.1 c = some (.inr (11, fs))) ∧ ∃ Qm : Option Value → iH → Prop, C G d 0 0 Ym (.ref c :: As) g' Qm ∧ ∀ v2 g2, Qm v2 g2 → ∃ x : Int32, v = some (.int x) ∧ v2 = some (.int x) ∧ P g2
section LP
variable {G : iG} {d b c o : Nat} {g g' : iH} {I : Nat → Int32} {W : Int64} {A : Nat → Nat → Int32} {N : Nat → Nat → Int64} {F n U : Nat} {f : Nat → Int64}
theorem C_hp {mc ms : Nat} {Y : iM} {av : List Value} {h h' : iH} {Q : Option Value → iH → Prop} (e : h' = h) (k : C G d mc ms Y av h Q) : C G d mc ms Y av h' Q := by
  subst e
  exact k
theorem XR_ce {I1 I2 : Nat → Int32} {W1 W2 : Int64} {A1 A2 : Nat → Nat → Int32} {N1 N2 : Nat → Nat → Int64} (h : XR G b g I1 W1 A1 N1 F n U) (e : XRe I1 W1 A1 N1 I2 W2 A2 N2) : XR G b g I2 W2 A2 N2 F n U := by
  obtain ⟨e0, e1, e2, e3, e4, e5, e6, e7, e8, e9, e10, e11, e12, e13, e14, e15, e16, e17, e18, e19, e20, e21, e22, e23, e24, e25⟩ := e
  unfold XR at h ⊢
  simp only [e0, e1, e2, e3, e4, e5, e6, e7, e8, e9, e10, e11, e12, e13, e14, e15, e16, e17, e18, e19, e20, e21, e22, e23, e24, e25]
  exact h
theorem mh_in {p : Nat} (h : p < c ∨ c + 23 ≤ p) : (mH G c I W A N g).1 p = g.1 p := by
  unfold mH
  dsimp only
  rw [if_neg (by omega), if_neg (by omega)]
theorem mh_fr (hc : b + 178 ≤ c) (h : g = mH G c I W A N g) (hf : fr b g g') : g' = mH G c I W A N g' := by
  refine Prod.ext (funext fun p => ?_) rfl
  by_cases z : p < c ∨ c + 23 ≤ p
  · rw [mh_in z]
  · rw [hf.1 p (by omega), h]
    unfold mH
    dsimp only
    by_cases z1 : p = c
    · rw [if_pos z1, if_pos z1]
    · rw [if_neg z1, if_pos (by omega), if_neg z1, if_pos (by omega)]
theorem mh_c (h : g = mH G c I W A N g) : ∃ fs, g.1 c = some (.inr (11, fs)) := by
  rw [h]
  exact ⟨_, if_pos rfl⟩
theorem mh_mh {I2 : Nat → Int32} {W2 : Int64} {A2 : Nat → Nat → Int32} {N2 : Nat → Nat → Int64} : mH G c I2 W2 A2 N2 g = mH G c I2 W2 A2 N2 (mH G c I2 W2 A2 N2 g) := by
  refine Prod.ext (funext fun p => ?_) rfl
  unfold mH
  dsimp only
  by_cases z1 : p = c
  · rw [if_pos z1, if_pos z1]
  · rw [if_neg z1, if_neg z1]
    by_cases z2 : c < p ∧ p < c + 23
    · rw [if_pos z2, if_pos z2]
    · rw [if_neg z2, if_neg z2]
theorem xr_b (h : XR G b g I W A N F n U) : ∃ fs, g.1 b = some (.inr (10, fs)) := by
  obtain ⟨X, hx, -⟩ := h.2.1
  exact ⟨_, xb_o hx⟩
theorem li_end {I1 I2 : Nat → Int32} {W1 W2 : Int64} {A1 A2 : Nat → Nat → Int32} {N1 N2 : Nat → Nat → Int64} (hc : b + 178 ≤ c) (ho : c + 23 ≤ o) (h : XR G b g' I1 W1 A1 N1 F n U) (hf : fr b g g') (hg : g.1 o = some (.inl (G.2.2.2.1 2, 1, .inr (.inl f)))) (e : XRe I1 W1 A1 N1 I2 W2 A2 N2) : LI G b c o (mH G c I2 W2 A2 N2 g') := by
  refine ⟨I2, W2, A2, N2, F, n, U, f, XR_a (XR_ce h e) (fun p h1 h2 => mh_in (by omega)), mh_mh, ?_⟩
  rw [mh_in (by omega), hf.1 o (by omega)]
  exact hg
theorem xr_23 (h : XR G b g I W A N F n U) : ∃ m, I 23 = nI m ∧ m ≤ 8 := by
  obtain ⟨zw, zO, zT, zR, zH, zD, zS, zL, zY, zZ, zB, zV, zP, zQ, zG, zK, zC⟩ := h
  obtain ⟨I9, tp, sz, -, -, h1, -, -, h2, -⟩ := zB
  exact ⟨sz, h2, h1⟩
theorem xr_2 (h : XR G b g I W A N F n U) : ∃ sz, I 2 = nI sz ∧ sz ≤ 940 := by
  obtain ⟨zw, zO, zT, zR, zH, zD, zS, zL, zY, zZ, zB, zV, zP, zQ, zG, zK, zC⟩ := h
  obtain ⟨tx, -, sz, h1, h2, -⟩ := zT
  exact ⟨sz, h2, h1⟩
theorem xr_26 (h : XR G b g I W A N F n U) : ∃ q, q ≤ 4 ∧ (I 26 = nI q ∨ (I 26 = -1 ∧ q = 0)) := by
  obtain ⟨zw, zO, zT, zR, zH, zD, zS, zL, zY, zZ, zB, zV, zP, zQ, zG, zK, zC⟩ := h
  obtain ⟨I9, A9, -, -, q, h1, -, h2, -⟩ := zP
  exact ⟨q, h1, h2⟩
theorem xr_31 (h : XR G b g I W A N F n U) : ∃ q, q ≤ 4 ∧ (I 31 = nI q ∨ (I 31 = -1 ∧ q = 0)) := by
  obtain ⟨zw, zO, zT, zR, zH, zD, zS, zL, zY, zZ, zB, zV, zP, zQ, zG, zK, zC⟩ := h
  obtain ⟨I9, A9, -, -, q, h1, -, h2, -⟩ := zQ
  exact ⟨q, h1, h2⟩
theorem xr_37 (h : XR G b g I W A N F n U) : ∃ q, q ≤ 6 ∧ (I 37 = nI q ∨ (I 37 = -1 ∧ q = 0)) := by
  obtain ⟨zw, zO, zT, zR, zH, zD, zS, zL, zY, zZ, zB, zV, zP, zQ, zG, zK, zC⟩ := h
  obtain ⟨I9, A9, -, q, h1, h2, -⟩ := zG
  exact ⟨q, h1, h2⟩
theorem xr_39 (h : XR G b g I W A N F n U) : ∃ l, I 39 = nI l ∧ l ≤ 64 := by
  obtain ⟨zw, zO, zT, zR, zH, zD, zS, zL, zY, zZ, zB, zV, zP, zQ, zG, zK, zC⟩ := h
  obtain ⟨ch, -, l, h1, h2, -⟩ := zC
  exact ⟨l, h2, h1⟩
theorem xr_22 (h : XR G b g I W A N F n U) : ∀ q, q < 2 → ∃ c, A 22 q = zI c := by
  obtain ⟨zw, zO, zT, zR, zH, zD, zS, zL, zY, zZ, zB, zV, zP, zQ, zG, zK, zC⟩ := h
  intro q hq
  obtain ⟨-, h | h⟩ := zV.2 q hq
  · exact ⟨false, h.1⟩
  · exact ⟨true, h.1⟩
theorem nz_9 : ∀ v, v < 10 → 1 ≤ v → ¬ nI v = nI 0 := by decide
theorem xr_mu (h : XR G b g I W A N F n U) : ∀ f, f < F → ¬ A 2 (13 + f) = nI 0 := by
  intro f hf e
  obtain ⟨v, h1, h2, h3⟩ := h.1.1.2.1.1 f hf
  rw [h3] at e
  exact nz_9 v (by omega) h1 e
theorem v_fault (hc : b + 178 ≤ c) (ho : c + 23 ≤ o) (hl : LI G b c o g) : PairP G (d + 24) mX11_fault mX12_fault b c [] g (LI G b c o) := by
  obtain ⟨I, W, A, N, F, n, U, f, hX, hm, hf⟩ := hl
  refine ⟨xr_b hX, _, x_fault (d := d + 24) hX, fun v g' hx => ?_⟩
  obtain ⟨rfl, rfl⟩ := hx
  refine ⟨mh_c hm, _, C_hp hm (t_fault (d := d + 24) ), fun v2 g2 hq => ?_⟩
  obtain ⟨rfl, rfl⟩ := hq
  exact ⟨_, rfl, rfl, li_end hc ho hX fr_rf hf ⟨rfl, rfl, rfl, rfl, rfl, rfl, rfl, rfl, rfl, rfl, rfl, rfl, rfl, rfl, rfl, rfl, rfl, rfl, rfl, rfl, rfl, rfl, rfl, rfl, rfl, rfl⟩⟩
theorem v_hanging (hc : b + 178 ≤ c) (ho : c + 23 ≤ o) (hl : LI G b c o g) : PairP G (d + 24) mX11_hanging mX12_hanging b c [] g (LI G b c o) := by
  obtain ⟨I, W, A, N, F, n, U, f, hX, hm, hf⟩ := hl
  refine ⟨xr_b hX, _, x_hanging (d := d + 24) hX, fun v g' hx => ?_⟩
  obtain ⟨rfl, rfl⟩ := hx
  refine ⟨mh_c hm, _, C_hp hm (t_hanging (d := d + 24) ), fun v2 g2 hq => ?_⟩
  obtain ⟨rfl, rfl⟩ := hq
  exact ⟨_, rfl, rfl, li_end hc ho hX fr_rf hf ⟨rfl, rfl, rfl, rfl, rfl, rfl, rfl, rfl, rfl, rfl, rfl, rfl, rfl, rfl, rfl, rfl, rfl, rfl, rfl, rfl, rfl, rfl, rfl, rfl, rfl, rfl⟩⟩
theorem v_passes (hc : b + 178 ≤ c) (ho : c + 23 ≤ o) (hl : LI G b c o g) : PairP G (d + 24) mX11_passes mX12_passes b c [] g (LI G b c o) := by
  obtain ⟨I, W, A, N, F, n, U, f, hX, hm, hf⟩ := hl
  refine ⟨xr_b hX, _, x_passes (d := d + 24) hX, fun v g' hx => ?_⟩
  obtain ⟨rfl, rfl⟩ := hx
  refine ⟨mh_c hm, _, C_hp hm (t_passes (d := d + 24) ), fun v2 g2 hq => ?_⟩
  obtain ⟨rfl, rfl⟩ := hq
  exact ⟨_, rfl, rfl, li_end hc ho hX fr_rf hf ⟨rfl, rfl, rfl, rfl, rfl, rfl, rfl, rfl, rfl, rfl, rfl, rfl, rfl, rfl, rfl, rfl, rfl, rfl, rfl, rfl, rfl, rfl, rfl, rfl, rfl, rfl⟩⟩
theorem v_ask (hc : b + 178 ≤ c) (ho : c + 23 ≤ o) (hl : LI G b c o g) : PairP G (d + 24) mX11_ask mX12_ask b c [] g (LI G b c o) := by
  obtain ⟨I, W, A, N, F, n, U, f, hX, hm, hf⟩ := hl
  refine ⟨xr_b hX, _, x_ask (d := d + 24) hX, fun v g' hx => ?_⟩
  obtain ⟨rfl, rfl⟩ := hx
  refine ⟨mh_c hm, _, C_hp hm (t_ask (d := d + 24) ), fun v2 g2 hq => ?_⟩
  obtain ⟨rfl, rfl⟩ := hq
  exact ⟨_, rfl, rfl, li_end hc ho hX fr_rf hf ⟨rfl, rfl, rfl, rfl, rfl, rfl, rfl, rfl, rfl, rfl, rfl, rfl, rfl, rfl, rfl, rfl, rfl, rfl, rfl, rfl, rfl, rfl, rfl, rfl, rfl, rfl⟩⟩
theorem v_law {a1 : Int32} (hc : b + 178 ≤ c) (ho : c + 23 ≤ o) (hl : LI G b c o g) : PairP G (d + 24) mX11_law mX12_law b c [.int a1] g (LI G b c o) := by
  obtain ⟨I, W, A, N, F, n, U, f, hX, hm, hf⟩ := hl
  refine ⟨xr_b hX, _, x_law (d := d + 24) hX, fun v g' hx => ?_⟩
  obtain ⟨rfl, rfl⟩ := hx
  refine ⟨mh_c hm, _, C_hp hm (t_law (d := d + 23) ), fun v2 g2 hq => ?_⟩
  obtain ⟨rfl, rfl⟩ := hq
  exact ⟨_, rfl, rfl, li_end hc ho hX fr_rf hf ⟨rfl, rfl, rfl, rfl, rfl, rfl, rfl, rfl, rfl, rfl, rfl, rfl, rfl, rfl, rfl, rfl, rfl, rfl, rfl, rfl, rfl, rfl, rfl, rfl, rfl, rfl⟩⟩
theorem v_planAt {a1 : Int32} (hc : b + 178 ≤ c) (ho : c + 23 ≤ o) (hl : LI G b c o g) : PairP G (d + 24) mX11_planAt mX12_planAt b c [.int a1] g (LI G b c o) := by
  obtain ⟨I, W, A, N, F, n, U, f, hX, hm, hf⟩ := hl
  obtain ⟨q4, hq4, h26⟩ := xr_26 hX
  refine ⟨xr_b hX, _, x_planAt (d := d + 24) hX, fun v g' hx => ?_⟩
  obtain ⟨rfl, rfl⟩ := hx
  refine ⟨mh_c hm, _, C_hp hm (t_planAt (d := d + 23) hq4 h26), fun v2 g2 hq => ?_⟩
  obtain ⟨rfl, rfl⟩ := hq
  exact ⟨_, rfl, rfl, li_end hc ho hX fr_rf hf ⟨rfl, rfl, rfl, rfl, rfl, rfl, rfl, rfl, rfl, rfl, rfl, rfl, rfl, rfl, rfl, rfl, rfl, rfl, rfl, rfl, rfl, rfl, rfl, rfl, rfl, rfl⟩⟩
theorem v_beenAt {a1 : Int32} (hc : b + 178 ≤ c) (ho : c + 23 ≤ o) (hl : LI G b c o g) : PairP G (d + 24) mX11_beenAt mX12_beenAt b c [.int a1] g (LI G b c o) := by
  obtain ⟨I, W, A, N, F, n, U, f, hX, hm, hf⟩ := hl
  obtain ⟨q4, hq4, h31⟩ := xr_31 hX
  refine ⟨xr_b hX, _, x_beenAt (d := d + 24) hX, fun v g' hx => ?_⟩
  obtain ⟨rfl, rfl⟩ := hx
  refine ⟨mh_c hm, _, C_hp hm (t_beenAt (d := d + 23) hq4 h31), fun v2 g2 hq => ?_⟩
  obtain ⟨rfl, rfl⟩ := hq
  exact ⟨_, rfl, rfl, li_end hc ho hX fr_rf hf ⟨rfl, rfl, rfl, rfl, rfl, rfl, rfl, rfl, rfl, rfl, rfl, rfl, rfl, rfl, rfl, rfl, rfl, rfl, rfl, rfl, rfl, rfl, rfl, rfl, rfl, rfl⟩⟩
theorem v_bargained {a1 : Int32} (hc : b + 178 ≤ c) (ho : c + 23 ≤ o) (hl : LI G b c o g) : PairP G (d + 24) mX11_bargained mX12_bargained b c [.int a1] g (LI G b c o) := by
  obtain ⟨I, W, A, N, F, n, U, f, hX, hm, hf⟩ := hl
  obtain ⟨q4, hq4, h37⟩ := xr_37 hX
  refine ⟨xr_b hX, _, x_bargained (d := d + 24) hX, fun v g' hx => ?_⟩
  obtain ⟨rfl, rfl⟩ := hx
  refine ⟨mh_c hm, _, C_hp hm (t_bargained (d := d + 23) hq4 h37), fun v2 g2 hq => ?_⟩
  obtain ⟨rfl, rfl⟩ := hq
  exact ⟨_, rfl, rfl, li_end hc ho hX fr_rf hf ⟨rfl, rfl, rfl, rfl, rfl, rfl, rfl, rfl, rfl, rfl, rfl, rfl, rfl, rfl, rfl, rfl, rfl, rfl, rfl, rfl, rfl, rfl, rfl, rfl, rfl, rfl⟩⟩
theorem v_byteAt {a1 : Int32} (hc : b + 178 ≤ c) (ho : c + 23 ≤ o) (hl : LI G b c o g) : PairP G (d + 24) mX11_byteAt mX12_byteAt b c [.int a1] g (LI G b c o) := by
  obtain ⟨I, W, A, N, F, n, U, f, hX, hm, hf⟩ := hl
  obtain ⟨l9, h39, h64⟩ := xr_39 hX
  refine ⟨xr_b hX, _, x_byteAt (d := d + 24) hX h39 h64, fun v g' hx => ?_⟩
  obtain ⟨rfl, rfl⟩ := hx
  refine ⟨mh_c hm, _, C_hp hm (t_byteAt (d := d + 23) h39 (by omega)), fun v2 g2 hq => ?_⟩
  obtain ⟨rfl, rfl⟩ := hq
  exact ⟨_, rfl, rfl, li_end hc ho hX fr_rf hf ⟨rfl, rfl, rfl, rfl, rfl, rfl, rfl, rfl, rfl, rfl, rfl, rfl, rfl, rfl, rfl, rfl, rfl, rfl, rfl, rfl, rfl, rfl, rfl, rfl, rfl, rfl⟩⟩
theorem v_count {a1 : Int32} (hc : b + 178 ≤ c) (ho : c + 23 ≤ o) (hl : LI G b c o g) : PairP G (d + 24) mX11_count mX12_count b c [.int a1] g (LI G b c o) := by
  obtain ⟨I, W, A, N, F, n, U, f, hX, hm, hf⟩ := hl
  refine ⟨xr_b hX, _, x_count (d := d + 24) hX, fun v g' hx => ?_⟩
  obtain ⟨rfl, rfl⟩ := hx
  refine ⟨mh_c hm, _, C_hp hm (t_count (d := d + 23) ), fun v2 g2 hq => ?_⟩
  obtain ⟨rfl, rfl⟩ := hq
  exact ⟨_, rfl, rfl, li_end hc ho hX fr_rf hf ⟨rfl, rfl, rfl, rfl, rfl, rfl, rfl, rfl, rfl, rfl, rfl, rfl, rfl, rfl, rfl, rfl, rfl, rfl, rfl, rfl, rfl, rfl, rfl, rfl, rfl, rfl⟩⟩
theorem v_told {a1 : Int32} (hc : b + 178 ≤ c) (ho : c + 23 ≤ o) (hl : LI G b c o g) : PairP G (d + 24) mX11_told mX12_told b c [.int a1] g (LI G b c o) := by
  obtain ⟨I, W, A, N, F, n, U, f, hX, hm, hf⟩ := hl
  refine ⟨xr_b hX, _, x_told (d := d + 24) hX, fun v g' hx => ?_⟩
  obtain ⟨rfl, rfl⟩ := hx
  refine ⟨mh_c hm, _, C_hp hm (t_told (d := d + 23) ), fun v2 g2 hq => ?_⟩
  obtain ⟨rfl, rfl⟩ := hq
  exact ⟨_, rfl, rfl, li_end hc ho hX fr_rf hf ⟨rfl, rfl, rfl, rfl, rfl, rfl, rfl, rfl, rfl, rfl, rfl, rfl, rfl, rfl, rfl, rfl, rfl, rfl, rfl, rfl, rfl, rfl, rfl, rfl, rfl, rfl⟩⟩
theorem v_now {a1 : Int32} (hc : b + 178 ≤ c) (ho : c + 23 ≤ o) (hl : LI G b c o g) : PairP G (d + 24) mX11_now mX12_now b c [.int a1] g (LI G b c o) := by
  obtain ⟨I, W, A, N, F, n, U, f, hX, hm, hf⟩ := hl
  refine ⟨xr_b hX, _, x_now (d := d + 21) hX, fun v g' hx => ?_⟩
  obtain ⟨rfl, rfl⟩ := hx
  refine ⟨mh_c hm, _, C_hp hm (t_now (d := d + 22) hX.1.1.1.1.1), fun v2 g2 hq => ?_⟩
  obtain ⟨rfl, rfl⟩ := hq
  exact ⟨_, rfl, rfl, li_end hc ho hX fr_rf hf ⟨rfl, rfl, rfl, rfl, rfl, rfl, rfl, rfl, rfl, rfl, rfl, rfl, rfl, rfl, rfl, rfl, rfl, rfl, rfl, rfl, rfl, rfl, rfl, rfl, rfl, rfl⟩⟩
theorem v_has {a1 a2 : Int32} (hc : b + 178 ≤ c) (ho : c + 23 ≤ o) (hl : LI G b c o g) : PairP G (d + 24) mX11_has mX12_has b c [.int a1, .int a2] g (LI G b c o) := by
  obtain ⟨I, W, A, N, F, n, U, f, hX, hm, hf⟩ := hl
  refine ⟨xr_b hX, _, x_has (d := d + 22) hX, fun v g' hx => ?_⟩
  obtain ⟨rfl, rfl⟩ := hx
  refine ⟨mh_c hm, _, C_hp hm (t_has (d := d + 22) hX.1.1.1.1.1), fun v2 g2 hq => ?_⟩
  obtain ⟨rfl, rfl⟩ := hq
  exact ⟨_, rfl, rfl, li_end hc ho hX fr_rf hf ⟨rfl, rfl, rfl, rfl, rfl, rfl, rfl, rfl, rfl, rfl, rfl, rfl, rfl, rfl, rfl, rfl, rfl, rfl, rfl, rfl, rfl, rfl, rfl, rfl, rfl, rfl⟩⟩
theorem v_floor {a1 a2 : Int32} (hc : b + 178 ≤ c) (ho : c + 23 ≤ o) (hl : LI G b c o g) : PairP G (d + 24) mX11_floor mX12_floor b c [.int a1, .int a2] g (LI G b c o) := by
  obtain ⟨I, W, A, N, F, n, U, f, hX, hm, hf⟩ := hl
  refine ⟨xr_b hX, _, x_floor (d := d + 22) hX, fun v g' hx => ?_⟩
  obtain ⟨rfl, rfl⟩ := hx
  refine ⟨mh_c hm, _, C_hp hm (t_floor (d := d + 22) hX.1.1.1.1.1), fun v2 g2 hq => ?_⟩
  obtain ⟨rfl, rfl⟩ := hq
  exact ⟨_, rfl, rfl, li_end hc ho hX fr_rf hf ⟨rfl, rfl, rfl, rfl, rfl, rfl, rfl, rfl, rfl, rfl, rfl, rfl, rfl, rfl, rfl, rfl, rfl, rfl, rfl, rfl, rfl, rfl, rfl, rfl, rfl, rfl⟩⟩
theorem v_uncle {a1 a2 : Int32} (hc : b + 178 ≤ c) (ho : c + 23 ≤ o) (hl : LI G b c o g) : PairP G (d + 24) mX11_uncle mX12_uncle b c [.int a1, .int a2] g (LI G b c o) := by
  obtain ⟨I, W, A, N, F, n, U, f, hX, hm, hf⟩ := hl
  refine ⟨xr_b hX, _, x_uncle (d := d + 22) hX, fun v g' hx => ?_⟩
  obtain ⟨rfl, rfl⟩ := hx
  refine ⟨mh_c hm, _, C_hp hm (t_uncle (d := d + 22) hX.1.1.1.1.1), fun v2 g2 hq => ?_⟩
  obtain ⟨rfl, rfl⟩ := hq
  exact ⟨_, rfl, rfl, li_end hc ho hX fr_rf hf ⟨rfl, rfl, rfl, rfl, rfl, rfl, rfl, rfl, rfl, rfl, rfl, rfl, rfl, rfl, rfl, rfl, rfl, rfl, rfl, rfl, rfl, rfl, rfl, rfl, rfl, rfl⟩⟩
theorem v_holds {a1 a2 : Int32} (hc : b + 178 ≤ c) (ho : c + 23 ≤ o) (hl : LI G b c o g) : PairP G (d + 24) mX11_holds mX12_holds b c [.int a1, .int a2] g (LI G b c o) := by
  obtain ⟨I, W, A, N, F, n, U, f, hX, hm, hf⟩ := hl
  refine ⟨xr_b hX, _, x_holds (d := d + 22) hX, fun v g' hx => ?_⟩
  obtain ⟨rfl, rfl⟩ := hx
  refine ⟨mh_c hm, _, C_hp hm (t_holds (d := d + 22) hX.1.1.1.1.1), fun v2 g2 hq => ?_⟩
  obtain ⟨rfl, rfl⟩ := hq
  exact ⟨_, rfl, rfl, li_end hc ho hX fr_rf hf ⟨rfl, rfl, rfl, rfl, rfl, rfl, rfl, rfl, rfl, rfl, rfl, rfl, rfl, rfl, rfl, rfl, rfl, rfl, rfl, rfl, rfl, rfl, rfl, rfl, rfl, rfl⟩⟩
theorem v_web {a1 : Int32} (hc : b + 178 ≤ c) (ho : c + 23 ≤ o) (hl : LI G b c o g) : PairP G (d + 24) mX11_web mX12_web b c [.int a1] g (LI G b c o) := by
  obtain ⟨I, W, A, N, F, n, U, f, hX, hm, hf⟩ := hl
  refine ⟨xr_b hX, _, x_web (d := d + 21) hX, fun v g' hx => ?_⟩
  obtain ⟨rfl, rfl⟩ := hx
  refine ⟨mh_c hm, _, C_hp hm (t_web (d := d + 21) hX.1.1.1.1.1), fun v2 g2 hq => ?_⟩
  obtain ⟨rfl, rfl⟩ := hq
  exact ⟨_, rfl, rfl, li_end hc ho hX fr_rf hf ⟨rfl, rfl, rfl, rfl, rfl, rfl, rfl, rfl, rfl, rfl, rfl, rfl, rfl, rfl, rfl, rfl, rfl, rfl, rfl, rfl, rfl, rfl, rfl, rfl, rfl, rfl⟩⟩
theorem v_end {a1 : Int32} (hc : b + 178 ≤ c) (ho : c + 23 ≤ o) (hl : LI G b c o g) : PairP G (d + 24) mX11_end mX12_end b c [.int a1] g (LI G b c o) := by
  obtain ⟨I, W, A, N, F, n, U, f, hX, hm, hf⟩ := hl
  refine ⟨xr_b hX, _, x_end (d := d + 24) hX, fun v g' hx => ?_⟩
  obtain ⟨hv, hfr, hX2⟩ := hx
  have hm2 := mh_fr hc hm hfr
  refine ⟨mh_c hm2, _, C_hp hm2 (t_end (d := d + 24) ), fun v2 g2 hq => ?_⟩
  obtain ⟨rfl, rfl⟩ := hq
  exact ⟨_, hv, rfl, li_end hc ho hX2 hfr hf ⟨rfl, rfl, rfl, rfl, rfl, rfl, rfl, rfl, rfl, rfl, rfl, rfl, rfl, rfl, rfl, rfl, rfl, rfl, rfl, rfl, rfl, rfl, rfl, rfl, rfl, rfl⟩⟩
theorem v_send {a1 a2 : Int32} (hc : b + 178 ≤ c) (ho : c + 23 ≤ o) (hl : LI G b c o g) : PairP G (d + 24) mX11_send mX12_send b c [.int a1, .int a2] g (LI G b c o) := by
  obtain ⟨I, W, A, N, F, n, U, f, hX, hm, hf⟩ := hl
  obtain ⟨m, h23, h8⟩ := xr_23 hX
  refine ⟨xr_b hX, _, x_send (d := d + 18) hX h23 h8, fun v g' hx => ?_⟩
  obtain ⟨hfr, hx⟩ := hx
  have hm2 := mh_fr hc hm hfr
  refine ⟨mh_c hm2, _, C_hp hm2 (t_send (d := d + 21) hX.1.1.1.1.1 h8 h23), fun v2 g2 hq => ?_⟩
  split at hx
  · rename_i z
    rw [if_pos z] at hq
    split at hx
    · rename_i z
      rw [if_pos z] at hq
      obtain ⟨hv, hX2⟩ := hx
      obtain ⟨rfl, rfl⟩ := hq
      exact ⟨_, hv, rfl, li_end hc ho hX2 hfr hf ⟨rfl, rfl, rfl, rfl, rfl, rfl, rfl, rfl, rfl, rfl, rfl, rfl, rfl, rfl, rfl, rfl, rfl, rfl, rfl, rfl, rfl, rfl, rfl, rfl, rfl, rfl⟩⟩
    · rename_i z
      rw [if_neg z] at hq
      obtain ⟨hv, hX2⟩ := hx
      obtain ⟨rfl, rfl⟩ := hq
      exact ⟨_, hv, rfl, li_end hc ho hX2 hfr hf ⟨rfl, rfl, rfl, rfl, rfl, rfl, rfl, rfl, rfl, rfl, rfl, rfl, rfl, rfl, rfl, rfl, rfl, rfl, rfl, rfl, rfl, rfl, rfl, rfl, rfl, rfl⟩⟩
  · rename_i z
    rw [if_neg z] at hq
    obtain ⟨hv, hX2⟩ := hx
    obtain ⟨rfl, rfl⟩ := hq
    exact ⟨_, hv, rfl, li_end hc ho hX2 hfr hf ⟨rfl, rfl, rfl, rfl, rfl, rfl, rfl, rfl, rfl, rfl, rfl, rfl, rfl, rfl, rfl, rfl, rfl, rfl, rfl, rfl, rfl, rfl, rfl, rfl, rfl, rfl⟩⟩
theorem v_hang {a1 : Int32} (hc : b + 178 ≤ c) (ho : c + 23 ≤ o) (hl : LI G b c o g) : PairP G (d + 24) mX11_hang mX12_hang b c [.int a1] g (LI G b c o) := by
  obtain ⟨I, W, A, N, F, n, U, f, hX, hm, hf⟩ := hl
  obtain ⟨m, h23, h8⟩ := xr_23 hX
  refine ⟨xr_b hX, _, x_hang (d := d + 18) hX h23 h8, fun v g' hx => ?_⟩
  obtain ⟨hfr, hx⟩ := hx
  have hm2 := mh_fr hc hm hfr
  refine ⟨mh_c hm2, _, C_hp hm2 (t_hang (d := d + 21) hX.1.1.1.1.1 h8 h23), fun v2 g2 hq => ?_⟩
  unfold mTurnQ at hq
  split at hx
  · rename_i z
    rw [if_pos z] at hq
    split at hx
    · rename_i z
      rw [if_pos z] at hq
      obtain ⟨hv, hX2⟩ := hx
      obtain ⟨rfl, rfl⟩ := hq
      exact ⟨_, hv, rfl, li_end hc ho hX2 hfr hf ⟨rfl, rfl, rfl, rfl, rfl, rfl, rfl, rfl, rfl, rfl, rfl, rfl, rfl, rfl, rfl, rfl, rfl, rfl, rfl, rfl, rfl, rfl, rfl, rfl, rfl, rfl⟩⟩
    · rename_i z
      rw [if_neg z] at hq
      obtain ⟨hv, hX2⟩ := hx
      obtain ⟨rfl, rfl⟩ := hq
      exact ⟨_, hv, rfl, li_end hc ho hX2 hfr hf ⟨rfl, rfl, rfl, rfl, rfl, rfl, rfl, rfl, rfl, rfl, rfl, rfl, rfl, rfl, rfl, rfl, rfl, rfl, rfl, rfl, rfl, rfl, rfl, rfl, rfl, rfl⟩⟩
  · rename_i z
    rw [if_neg z] at hq
    obtain ⟨hv, hX2⟩ := hx
    obtain ⟨rfl, rfl⟩ := hq
    exact ⟨_, hv, rfl, li_end hc ho hX2 hfr hf ⟨rfl, rfl, rfl, rfl, rfl, rfl, rfl, rfl, rfl, rfl, rfl, rfl, rfl, rfl, rfl, rfl, rfl, rfl, rfl, rfl, rfl, rfl, rfl, rfl, rfl, rfl⟩⟩
theorem v_take {a1 : Int32} (hc : b + 178 ≤ c) (ho : c + 23 ≤ o) (hl : LI G b c o g) : PairP G (d + 24) mX11_take mX12_take b c [.int a1] g (LI G b c o) := by
  obtain ⟨I, W, A, N, F, n, U, f, hX, hm, hf⟩ := hl
  obtain ⟨m, h23, h8⟩ := xr_23 hX
  refine ⟨xr_b hX, _, x_take (d := d + 18) hX h23 h8, fun v g' hx => ?_⟩
  obtain ⟨hfr, hx⟩ := hx
  have hm2 := mh_fr hc hm hfr
  refine ⟨mh_c hm2, _, C_hp hm2 (t_take (d := d + 21) hX.1.1.1.1.1 h8 h23), fun v2 g2 hq => ?_⟩
  unfold mTurnQ at hq
  split at hx
  · rename_i z
    rw [if_pos z] at hq
    split at hx
    · rename_i z
      rw [if_pos z] at hq
      obtain ⟨hv, hX2⟩ := hx
      obtain ⟨rfl, rfl⟩ := hq
      exact ⟨_, hv, rfl, li_end hc ho hX2 hfr hf ⟨rfl, rfl, rfl, rfl, rfl, rfl, rfl, rfl, rfl, rfl, rfl, rfl, rfl, rfl, rfl, rfl, rfl, rfl, rfl, rfl, rfl, rfl, rfl, rfl, rfl, rfl⟩⟩
    · rename_i z
      rw [if_neg z] at hq
      obtain ⟨hv, hX2⟩ := hx
      obtain ⟨rfl, rfl⟩ := hq
      exact ⟨_, hv, rfl, li_end hc ho hX2 hfr hf ⟨rfl, rfl, rfl, rfl, rfl, rfl, rfl, rfl, rfl, rfl, rfl, rfl, rfl, rfl, rfl, rfl, rfl, rfl, rfl, rfl, rfl, rfl, rfl, rfl, rfl, rfl⟩⟩
  · rename_i z
    rw [if_neg z] at hq
    obtain ⟨hv, hX2⟩ := hx
    obtain ⟨rfl, rfl⟩ := hq
    exact ⟨_, hv, rfl, li_end hc ho hX2 hfr hf ⟨rfl, rfl, rfl, rfl, rfl, rfl, rfl, rfl, rfl, rfl, rfl, rfl, rfl, rfl, rfl, rfl, rfl, rfl, rfl, rfl, rfl, rfl, rfl, rfl, rfl, rfl⟩⟩
theorem v_serve {a1 : Int32} (hc : b + 178 ≤ c) (ho : c + 23 ≤ o) (hl : LI G b c o g) : PairP G (d + 24) mX11_serve mX12_serve b c [.int a1] g (LI G b c o) := by
  obtain ⟨I, W, A, N, F, n, U, f, hX, hm, hf⟩ := hl
  obtain ⟨m, h23, h8⟩ := xr_23 hX
  refine ⟨xr_b hX, _, x_serve (d := d + 18) hX h23 h8, fun v g' hx => ?_⟩
  obtain ⟨hfr, hx⟩ := hx
  have hm2 := mh_fr hc hm hfr
  refine ⟨mh_c hm2, _, C_hp hm2 (t_serve (d := d + 21) hX.1.1.1.1.1 h8 h23), fun v2 g2 hq => ?_⟩
  split at hx
  · rename_i z
    rw [if_pos z] at hq
    split at hx
    · rename_i z
      rw [if_pos z] at hq
      obtain ⟨hv, hX2⟩ := hx
      obtain ⟨rfl, rfl⟩ := hq
      exact ⟨_, hv, rfl, li_end hc ho hX2 hfr hf ⟨rfl, rfl, rfl, rfl, rfl, rfl, rfl, rfl, rfl, rfl, rfl, rfl, rfl, rfl, rfl, rfl, rfl, rfl, rfl, rfl, rfl, rfl, rfl, rfl, rfl, rfl⟩⟩
    · rename_i z
      rw [if_neg z] at hq
      obtain ⟨hv, hX2⟩ := hx
      obtain ⟨rfl, rfl⟩ := hq
      exact ⟨_, hv, rfl, li_end hc ho hX2 hfr hf ⟨rfl, rfl, rfl, rfl, rfl, rfl, rfl, rfl, rfl, rfl, rfl, rfl, rfl, rfl, rfl, rfl, rfl, rfl, rfl, rfl, rfl, rfl, rfl, rfl, rfl, rfl⟩⟩
  · rename_i z
    rw [if_neg z] at hq
    obtain ⟨hv, hX2⟩ := hx
    obtain ⟨rfl, rfl⟩ := hq
    exact ⟨_, hv, rfl, li_end hc ho hX2 hfr hf ⟨rfl, rfl, rfl, rfl, rfl, rfl, rfl, rfl, rfl, rfl, rfl, rfl, rfl, rfl, rfl, rfl, rfl, rfl, rfl, rfl, rfl, rfl, rfl, rfl, rfl, rfl⟩⟩
theorem v_back {a1 : Int32} (hc : b + 178 ≤ c) (ho : c + 23 ≤ o) (hl : LI G b c o g) : PairP G (d + 24) mX11_back mX12_back b c [.int a1] g (LI G b c o) := by
  obtain ⟨I, W, A, N, F, n, U, f, hX, hm, hf⟩ := hl
  obtain ⟨m, h23, h8⟩ := xr_23 hX
  refine ⟨xr_b hX, _, x_back (d := d + 18) hX h23 h8, fun v g' hx => ?_⟩
  obtain ⟨hfr, hx⟩ := hx
  have hm2 := mh_fr hc hm hfr
  refine ⟨mh_c hm2, _, C_hp hm2 (t_back (d := d + 22) hX.1.1.1.1.1 h8 h23), fun v2 g2 hq => ?_⟩
  split at hx
  · rename_i z
    rw [if_pos z] at hq
    split at hx
    · rename_i z
      rw [if_pos z] at hq
      obtain ⟨hv, hX2⟩ := hx
      obtain ⟨rfl, rfl⟩ := hq
      exact ⟨_, hv, rfl, li_end hc ho hX2 hfr hf ⟨rfl, rfl, rfl, rfl, rfl, rfl, rfl, rfl, rfl, rfl, rfl, rfl, rfl, rfl, rfl, rfl, rfl, rfl, rfl, rfl, rfl, rfl, rfl, rfl, rfl, rfl⟩⟩
    · rename_i z
      rw [if_neg z] at hq
      obtain ⟨hv, hX2⟩ := hx
      obtain ⟨rfl, rfl⟩ := hq
      exact ⟨_, hv, rfl, li_end hc ho hX2 hfr hf ⟨rfl, rfl, rfl, rfl, rfl, rfl, rfl, rfl, rfl, rfl, rfl, rfl, rfl, rfl, rfl, rfl, rfl, rfl, rfl, rfl, rfl, rfl, rfl, rfl, rfl, rfl⟩⟩
  · rename_i z
    rw [if_neg z] at hq
    obtain ⟨hv, hX2⟩ := hx
    obtain ⟨rfl, rfl⟩ := hq
    exact ⟨_, hv, rfl, li_end hc ho hX2 hfr hf ⟨rfl, rfl, rfl, rfl, rfl, rfl, rfl, rfl, rfl, rfl, rfl, rfl, rfl, rfl, rfl, rfl, rfl, rfl, rfl, rfl, rfl, rfl, rfl, rfl, rfl, rfl⟩⟩
theorem v_hours {a1 : Int32} (hc : b + 178 ≤ c) (ho : c + 23 ≤ o) (hl : LI G b c o g) : PairP G (d + 24) mX11_hours mX12_hours b c [.int a1] g (LI G b c o) := by
  obtain ⟨I, W, A, N, F, n, U, f, hX, hm, hf⟩ := hl
  obtain ⟨m, h23, h8⟩ := xr_23 hX
  refine ⟨xr_b hX, _, x_hours (d := d + 18) hX h23 h8, fun v g' hx => ?_⟩
  obtain ⟨hfr, hx⟩ := hx
  have hm2 := mh_fr hc hm hfr
  refine ⟨mh_c hm2, _, C_hp hm2 (t_hours (d := d + 19) hX.1.1.1.1.1 h8 h23), fun v2 g2 hq => ?_⟩
  split at hx
  · rename_i z
    rw [if_pos z] at hq
    split at hx
    · rename_i z
      rw [if_pos z] at hq
      obtain ⟨hv, hX2⟩ := hx
      obtain ⟨rfl, rfl⟩ := hq
      exact ⟨_, hv, rfl, li_end hc ho hX2 hfr hf ⟨rfl, rfl, rfl, rfl, rfl, rfl, rfl, rfl, rfl, rfl, rfl, rfl, rfl, rfl, rfl, rfl, rfl, rfl, rfl, rfl, rfl, rfl, rfl, rfl, rfl, rfl⟩⟩
    · rename_i z
      rw [if_neg z] at hq
      obtain ⟨hv, hX2⟩ := hx
      obtain ⟨rfl, rfl⟩ := hq
      exact ⟨_, hv, rfl, li_end hc ho hX2 hfr hf ⟨rfl, rfl, rfl, rfl, rfl, rfl, rfl, rfl, rfl, rfl, rfl, rfl, rfl, rfl, rfl, rfl, rfl, rfl, rfl, rfl, rfl, rfl, rfl, rfl, rfl, rfl⟩⟩
  · rename_i z
    rw [if_neg z] at hq
    obtain ⟨hv, hX2⟩ := hx
    obtain ⟨rfl, rfl⟩ := hq
    exact ⟨_, hv, rfl, li_end hc ho hX2 hfr hf ⟨rfl, rfl, rfl, rfl, rfl, rfl, rfl, rfl, rfl, rfl, rfl, rfl, rfl, rfl, rfl, rfl, rfl, rfl, rfl, rfl, rfl, rfl, rfl, rfl, rfl, rfl⟩⟩
theorem v_undo (hc : b + 178 ≤ c) (ho : c + 23 ≤ o) (hl : LI G b c o g) : PairP G (d + 24) mX11_undo mX12_undo b c [] g (LI G b c o) := by
  obtain ⟨I, W, A, N, F, n, U, f, hX, hm, hf⟩ := hl
  obtain ⟨m, h23, h8⟩ := xr_23 hX
  refine ⟨xr_b hX, _, x_undo (d := d + 21) hX h23 h8, fun v g' hx => ?_⟩
  obtain ⟨hfr, hx⟩ := hx
  have hm2 := mh_fr hc hm hfr
  refine ⟨mh_c hm2, _, C_hp hm2 (t_undo (d := d + 24) h8 h23), fun v2 g2 hq => ?_⟩
  split at hx
  · rename_i z
    rw [if_pos z] at hq
    obtain ⟨hv, hX2⟩ := hx
    obtain ⟨rfl, rfl⟩ := hq
    exact ⟨_, hv, rfl, li_end hc ho hX2 hfr hf ⟨rfl, rfl, rfl, rfl, rfl, rfl, rfl, rfl, rfl, rfl, rfl, rfl, rfl, rfl, rfl, rfl, rfl, rfl, rfl, rfl, rfl, rfl, rfl, rfl, rfl, rfl⟩⟩
  · rename_i z
    rw [if_neg z] at hq
    obtain ⟨hv, hX2⟩ := hx
    obtain ⟨rfl, rfl⟩ := hq
    exact ⟨_, hv, rfl, li_end hc ho hX2 hfr hf ⟨rfl, rfl, rfl, rfl, rfl, rfl, rfl, rfl, rfl, rfl, rfl, rfl, rfl, rfl, rfl, rfl, rfl, rfl, rfl, rfl, rfl, rfl, rfl, rfl, rfl, rfl⟩⟩
theorem v_drawn {a1 a2 : Int32} (hc : b + 178 ≤ c) (ho : c + 23 ≤ o) (hl : LI G b c o g) : PairP G (d + 24) mX11_drawn mX12_drawn b c [.int a1, .int a2] g (LI G b c o) := by
  obtain ⟨I, W, A, N, F, n, U, f, hX, hm, hf⟩ := hl
  obtain ⟨m, h23, h8⟩ := xr_23 hX
  refine ⟨xr_b hX, _, x_drawn (d := d + 19) hX h23 h8, fun v g' hx => ?_⟩
  obtain ⟨hfr, hx⟩ := hx
  have hm2 := mh_fr hc hm hfr
  refine ⟨mh_c hm2, _, C_hp hm2 (t_drawn (d := d + 19) hX.1.1.1.1.1 h8 h23), fun v2 g2 hq => ?_⟩
  split at hx
  · rename_i z
    rw [if_pos z] at hq
    obtain ⟨hv, hx⟩ := hx
    split at hx
    · rename_i z2
      rw [if_pos z2] at hq
      have hX2 := hx
      obtain ⟨rfl, rfl⟩ := hq
      exact ⟨_, hv, rfl, li_end hc ho hX2 hfr hf ⟨rfl, rfl, rfl, rfl, rfl, rfl, rfl, rfl, rfl, rfl, rfl, rfl, rfl, rfl, rfl, rfl, rfl, rfl, rfl, rfl, rfl, rfl, rfl, rfl, rfl, rfl⟩⟩
    · rename_i z2
      rw [if_neg z2] at hq
      have hX2 := hx
      obtain ⟨rfl, rfl⟩ := hq
      exact ⟨_, hv, rfl, li_end hc ho hX2 hfr hf ⟨rfl, rfl, rfl, rfl, rfl, rfl, rfl, rfl, rfl, rfl, rfl, rfl, rfl, rfl, rfl, rfl, rfl, rfl, rfl, rfl, rfl, rfl, rfl, rfl, rfl, rfl⟩⟩
  · rename_i z
    rw [if_neg z] at hq
    obtain ⟨hv, hX2⟩ := hx
    obtain ⟨rfl, rfl⟩ := hq
    exact ⟨_, hv, rfl, li_end hc ho hX2 hfr hf ⟨rfl, rfl, rfl, rfl, rfl, rfl, rfl, rfl, rfl, rfl, rfl, rfl, rfl, rfl, rfl, rfl, rfl, rfl, rfl, rfl, rfl, rfl, rfl, rfl, rfl, rfl⟩⟩
theorem v_plan {a1 : Int32} (hc : b + 178 ≤ c) (ho : c + 23 ≤ o) (hl : LI G b c o g) : PairP G (d + 24) mX11_plan mX12_plan b c [.int a1] g (LI G b c o) := by
  obtain ⟨I, W, A, N, F, n, U, f, hX, hm, hf⟩ := hl
  refine ⟨xr_b hX, _, x_plan (d := d + 20) hX, fun v g' hx => ?_⟩
  obtain ⟨hfr, hx⟩ := hx
  have hm2 := mh_fr hc hm hfr
  refine ⟨mh_c hm2, _, C_hp hm2 (t_plan (d := d + 22) hX.1.1.1.1.1 (xr_mu hX)), fun v2 g2 hq => ?_⟩
  split at hx
  · rename_i z
    rw [if_pos z] at hq
    unfold mPlanQ at hq
    rcases hP : plA (A 2) F a1.toNatClampNeg 0 4 0 (nI 0) with _ | ⟨bt, hr⟩
    · simp only [hP] at hx hq
      obtain ⟨hv, hX2⟩ := hx
      obtain ⟨rfl, rfl⟩ := hq
      exact ⟨_, hv, rfl, li_end hc ho hX2 hfr hf ⟨rfl, rfl, rfl, rfl, rfl, rfl, rfl, rfl, rfl, rfl, rfl, rfl, rfl, rfl, rfl, rfl, rfl, rfl, rfl, rfl, rfl, rfl, rfl, rfl, rfl, rfl⟩⟩
    · simp only [hP] at hx hq
      obtain ⟨hv, hX2⟩ := hx
      obtain ⟨rfl, rfl⟩ := hq
      exact ⟨_, hv, rfl, li_end hc ho hX2 hfr hf ⟨rfl, rfl, rfl, rfl, rfl, rfl, rfl, rfl, rfl, rfl, rfl, rfl, rfl, rfl, rfl, rfl, rfl, rfl, rfl, rfl, rfl, rfl, rfl, rfl, rfl, rfl⟩⟩
  · rename_i z
    rw [if_neg z] at hq
    obtain ⟨hv, hX2⟩ := hx
    obtain ⟨rfl, rfl⟩ := hq
    exact ⟨_, hv, rfl, li_end hc ho hX2 hfr hf ⟨rfl, rfl, rfl, rfl, rfl, rfl, rfl, rfl, rfl, rfl, rfl, rfl, rfl, rfl, rfl, rfl, rfl, rfl, rfl, rfl, rfl, rfl, rfl, rfl, rfl, rfl⟩⟩
theorem v_bargain (hc : b + 178 ≤ c) (ho : c + 23 ≤ o) (hl : LI G b c o g) : PairP G (d + 24) mX11_bargain mX12_bargain b c [] g (LI G b c o) := by
  obtain ⟨I, W, A, N, F, n, U, f, hX, hm, hf⟩ := hl
  refine ⟨xr_b hX, _, x_bargain (d := d + 20) hX, fun v g' hx => ?_⟩
  obtain ⟨hfr, hx⟩ := hx
  have hm2 := mh_fr hc hm hfr
  refine ⟨mh_c hm2, _, C_hp hm2 (t_bargain (d := d + 20) hX.1.1.1.1.1), fun v2 g2 hq => ?_⟩
  obtain ⟨hv, hX2⟩ := hx
  obtain ⟨rfl, rfl⟩ := hq
  exact ⟨_, hv, rfl, li_end hc ho hX2 hfr hf ⟨rfl, rfl, rfl, rfl, rfl, rfl, rfl, rfl, rfl, rfl, rfl, rfl, rfl, rfl, rfl, rfl, rfl, rfl, rfl, rfl, rfl, rfl, rfl, rfl, rfl, rfl⟩⟩
theorem v_been {a1 : Int32} (hc : b + 178 ≤ c) (ho : c + 23 ≤ o) (hl : LI G b c o g) : PairP G (d + 24) mX11_been mX12_been b c [.int a1] g (LI G b c o) := by
  obtain ⟨I, W, A, N, F, n, U, f, hX, hm, hf⟩ := hl
  refine ⟨xr_b hX, _, x_been (d := d + 16) hX, fun v g' hx => ?_⟩
  obtain ⟨hfr, hx⟩ := hx
  have hm2 := mh_fr hc hm hfr
  refine ⟨mh_c hm2, _, C_hp hm2 (t_been (d := d + 21) hX.1.1.1.1.1), fun v2 g2 hq => ?_⟩
  split at hx
  · rename_i z
    rw [if_pos z] at hq
    split at hx
    · rename_i z2
      rw [if_pos z2] at hq
      obtain ⟨hv, hx⟩ := hx
      obtain ⟨rfl, hq⟩ := hq
      split at hx
      · rename_i z3
        rw [if_pos z3] at hq
        obtain ⟨f9, rfl⟩ := hq
        have hX2 := hx
        exact ⟨_, hv, rfl, li_end hc ho hX2 hfr hf ⟨rfl, rfl, rfl, rfl, rfl, rfl, rfl, rfl, rfl, rfl, rfl, rfl, rfl, rfl, rfl, rfl, rfl, rfl, rfl, rfl, rfl, rfl, rfl, rfl, rfl, rfl⟩⟩
      · rename_i z3
        rw [if_neg z3] at hq
        obtain ⟨f9, g9, rfl⟩ := hq
        have hX2 := hx
        exact ⟨_, hv, rfl, li_end hc ho hX2 hfr hf ⟨rfl, rfl, rfl, rfl, rfl, rfl, rfl, rfl, rfl, rfl, rfl, rfl, rfl, rfl, rfl, rfl, rfl, rfl, rfl, rfl, rfl, rfl, rfl, rfl, rfl, rfl⟩⟩
    · rename_i z2
      rw [if_neg z2] at hq
      obtain ⟨hv, hX2⟩ := hx
      obtain ⟨rfl, rfl⟩ := hq
      exact ⟨_, hv, rfl, li_end hc ho hX2 hfr hf ⟨rfl, rfl, rfl, rfl, rfl, rfl, rfl, rfl, rfl, rfl, rfl, rfl, rfl, rfl, rfl, rfl, rfl, rfl, rfl, rfl, rfl, rfl, rfl, rfl, rfl, rfl⟩⟩
  · rename_i z
    rw [if_neg z] at hq
    obtain ⟨hv, hX2⟩ := hx
    obtain ⟨rfl, rfl⟩ := hq
    exact ⟨_, hv, rfl, li_end hc ho hX2 hfr hf ⟨rfl, rfl, rfl, rfl, rfl, rfl, rfl, rfl, rfl, rfl, rfl, rfl, rfl, rfl, rfl, rfl, rfl, rfl, rfl, rfl, rfl, rfl, rfl, rfl, rfl, rfl⟩⟩
theorem v_when {a1 : Int32} (hc : b + 178 ≤ c) (ho : c + 23 ≤ o) (hl : LI G b c o g) : PairP G (d + 24) mX11_when mX12_when b c [.int a1] g (LI G b c o) := by
  obtain ⟨I, W, A, N, F, n, U, f, hX, hm, hf⟩ := hl
  refine ⟨xr_b hX, _, x_when (d := d + 20) hX, fun v g' hx => ?_⟩
  obtain ⟨hfr, hx⟩ := hx
  have hm2 := mh_fr hc hm hfr
  refine ⟨mh_c hm2, _, C_hp hm2 (t_when (d := d + 20) hX.1.1.1.1.1), fun v2 g2 hq => ?_⟩
  obtain ⟨hv, hX2⟩ := hx
  by_cases z : (inF a1 (nI 0) (A 2 1 - nI 1) && !(decide (A 2 (90 + a1.toNatClampNeg) < nI 0))) = true
  · rw [if_pos z] at hv hq
    obtain ⟨rfl, rfl⟩ := hq
    exact ⟨_, hv, rfl, li_end hc ho hX2 hfr hf ⟨rfl, rfl, rfl, rfl, rfl, rfl, rfl, rfl, rfl, rfl, rfl, rfl, rfl, rfl, rfl, rfl, rfl, rfl, rfl, rfl, rfl, rfl, rfl, rfl, rfl, rfl⟩⟩
  · rw [if_neg z] at hv hq
    obtain ⟨rfl, rfl⟩ := hq
    exact ⟨_, hv, rfl, li_end hc ho hX2 hfr hf ⟨rfl, rfl, rfl, rfl, rfl, rfl, rfl, rfl, rfl, rfl, rfl, rfl, rfl, rfl, rfl, rfl, rfl, rfl, rfl, rfl, rfl, rfl, rfl, rfl, rfl, rfl⟩⟩
theorem v_odds {a1 a2 a3 : Int32} (hc : b + 178 ≤ c) (ho : c + 23 ≤ o) (hl : LI G b c o g) : PairP G (d + 24) mX11_odds mX12_odds b c [.int a1, .int a2, .int a3] g (LI G b c o) := by
  obtain ⟨I, W, A, N, F, n, U, f, hX, hm, hf⟩ := hl
  refine ⟨xr_b hX, _, x_odds (d := d + 19) hX, fun v g' hx => ?_⟩
  obtain ⟨hfr, hx⟩ := hx
  have hm2 := mh_fr hc hm hfr
  refine ⟨mh_c hm2, _, C_hp hm2 (t_odds (d := d + 19) hX.1.1.1.1.1), fun v2 g2 hq => ?_⟩
  obtain ⟨hv, hX2⟩ := hx
  by_cases z : (inF a1 (nI 0) (A 2 1 - nI 1) && inF a2 (nI 1) (nI 30)) = true
  · rw [if_pos z] at hv hq
    obtain ⟨rfl, x9, rfl⟩ := hq
    exact ⟨_, hv, rfl, li_end hc ho hX2 hfr hf ⟨rfl, rfl, rfl, rfl, rfl, rfl, rfl, rfl, rfl, rfl, rfl, rfl, rfl, rfl, rfl, rfl, rfl, rfl, rfl, rfl, rfl, rfl, rfl, rfl, rfl, rfl⟩⟩
  · rw [if_neg z] at hv hq
    obtain ⟨rfl, rfl⟩ := hq
    exact ⟨_, hv, rfl, li_end hc ho hX2 hfr hf ⟨rfl, rfl, rfl, rfl, rfl, rfl, rfl, rfl, rfl, rfl, rfl, rfl, rfl, rfl, rfl, rfl, rfl, rfl, rfl, rfl, rfl, rfl, rfl, rfl, rfl, rfl⟩⟩
theorem v_hung {a1 : Int32} (hc : b + 178 ≤ c) (ho : c + 23 ≤ o) (hl : LI G b c o g) : PairP G (d + 24) mX11_hung mX12_hung b c [.int a1] g (LI G b c o) := by
  obtain ⟨I, W, A, N, F, n, U, f, hX, hm, hf⟩ := hl
  refine ⟨xr_b hX, _, x_hung (d := d + 22) hX, fun v g' hx => ?_⟩
  obtain ⟨hfr, hx⟩ := hx
  have hm2 := mh_fr hc hm hfr
  refine ⟨mh_c hm2, _, C_hp hm2 (t_hung (d := d + 22) hX.1.1.1.1.1), fun v2 g2 hq => ?_⟩
  split at hx
  · rename_i z
    rw [if_pos z] at hq
    obtain ⟨hv, hX2⟩ := hx
    obtain ⟨rfl, rfl⟩ := hq
    exact ⟨_, hv, rfl, li_end hc ho hX2 hfr hf ⟨rfl, rfl, rfl, rfl, rfl, rfl, rfl, rfl, rfl, rfl, rfl, rfl, rfl, rfl, rfl, rfl, rfl, rfl, rfl, rfl, rfl, rfl, rfl, rfl, rfl, rfl⟩⟩
  · rename_i z
    rw [if_neg z] at hq
    obtain ⟨hv, hX2⟩ := hx
    obtain ⟨rfl, rfl⟩ := hq
    exact ⟨_, hv, rfl, li_end hc ho hX2 hfr hf ⟨rfl, rfl, rfl, rfl, rfl, rfl, rfl, rfl, rfl, rfl, rfl, rfl, rfl, rfl, rfl, rfl, rfl, rfl, rfl, rfl, rfl, rfl, rfl, rfl, rfl, rfl⟩⟩
theorem v_tower {wa : Nat → Nat} {al : Nat} (hG : SG G wa al) (hc : b + 178 ≤ c) (ho : c + 23 ≤ o) (hl : LI G b c o g) : PairP G (d + 24) mX11_tower mX12_tower b c [] g (LI G b c o) := by
  obtain ⟨I, W, A, N, F, n, U, f, hX, hm, hf⟩ := hl
  obtain ⟨sz, h2, hsz⟩ := xr_2 hX
  refine ⟨xr_b hX, _, x_tower (d := d + 18) hG hX h2 hsz, fun v g' hx => ?_⟩
  obtain ⟨hfr, hx⟩ := hx
  have hm2 := mh_fr hc hm hfr
  refine ⟨mh_c hm2, _, C_hp hm2 (t_tower (d := d + 18) h2 hsz), fun v2 g2 hq => ?_⟩
  split at hx
  · rename_i z
    rw [if_pos z] at hq
    obtain ⟨hv, F2, n2, U2, hX2⟩ := hx
    obtain ⟨rfl, rfl⟩ := hq
    exact ⟨_, hv, rfl, li_end hc ho hX2 hfr hf ⟨rfl, rfl, rfl, rfl, rfl, rfl, rfl, rfl, rfl, rfl, rfl, rfl, rfl, rfl, rfl, rfl, rfl, rfl, rfl, rfl, rfl, rfl, rfl, rfl, rfl, rfl⟩⟩
  · rename_i z
    rw [if_neg z] at hq
    obtain ⟨hv, hX2⟩ := hx
    obtain ⟨rfl, rfl⟩ := hq
    exact ⟨_, hv, rfl, li_end hc ho hX2 hfr hf ⟨rfl, rfl, rfl, rfl, rfl, rfl, rfl, rfl, rfl, rfl, rfl, rfl, rfl, rfl, rfl, rfl, rfl, rfl, rfl, rfl, rfl, rfl, rfl, rfl, rfl, rfl⟩⟩
theorem v_feed {a1 a2 a3 a4 a5 : Int32} (hc : b + 178 ≤ c) (ho : c + 23 ≤ o) (hl : LI G b c o g) : PairP G (d + 24) mX11_feed mX12_feed b c [.int a1, .int a2, .int a3, .int a4, .int a5] g (LI G b c o) := by
  obtain ⟨I, W, A, N, F, n, U, f, hX, hm, hf⟩ := hl
  obtain ⟨sz, h2, hsz⟩ := xr_2 hX
  refine ⟨xr_b hX, _, x_feed (d := d + 23) hX h2 hsz, fun v g' hx => ?_⟩
  obtain ⟨hfr, hx⟩ := hx
  have hm2 := mh_fr hc hm hfr
  refine ⟨mh_c hm2, _, C_hp hm2 (t_feed (d := d + 23) h2 hsz), fun v2 g2 hq => ?_⟩
  split at hx
  · rename_i z
    rw [if_pos z] at hq
    obtain ⟨hv, hX2⟩ := hx
    obtain ⟨rfl, rfl⟩ := hq
    exact ⟨_, hv, rfl, li_end hc ho hX2 hfr hf ⟨rfl, rfl, rfl, rfl, rfl, rfl, rfl, rfl, rfl, rfl, rfl, rfl, rfl, rfl, rfl, rfl, rfl, rfl, rfl, rfl, rfl, rfl, rfl, rfl, rfl, rfl⟩⟩
  · rename_i z
    rw [if_neg z] at hq
    obtain ⟨hv, hX2⟩ := hx
    obtain ⟨rfl, rfl⟩ := hq
    exact ⟨_, hv, rfl, li_end hc ho hX2 hfr hf ⟨rfl, rfl, rfl, rfl, rfl, rfl, rfl, rfl, rfl, rfl, rfl, rfl, rfl, rfl, rfl, rfl, rfl, rfl, rfl, rfl, rfl, rfl, rfl, rfl, rfl, rfl⟩⟩
theorem v_image {a1 : Int32} (hc : b + 178 ≤ c) (ho : c + 23 ≤ o) (hl : LI G b c o g) : PairP G (d + 24) mX11_image mX12_image b c [.int a1] g (LI G b c o) := by
  obtain ⟨I, W, A, N, F, n, U, f, hX, hm, hf⟩ := hl
  refine ⟨xr_b hX, _, x_image (d := d + 21) hX, fun v g' hx => ?_⟩
  obtain ⟨hfr, hx⟩ := hx
  have hm2 := mh_fr hc hm hfr
  refine ⟨mh_c hm2, _, C_hp hm2 (t_image (d := d + 23) ), fun v2 g2 hq => ?_⟩
  split at hx
  · rename_i z
    rw [if_pos z] at hq
    obtain ⟨hv, hX2⟩ := hx
    obtain ⟨rfl, rfl⟩ := hq
    exact ⟨_, hv, rfl, li_end hc ho hX2 hfr hf ⟨rfl, rfl, rfl, rfl, rfl, rfl, rfl, rfl, rfl, rfl, rfl, rfl, rfl, rfl, rfl, rfl, rfl, rfl, rfl, rfl, rfl, rfl, rfl, rfl, rfl, rfl⟩⟩
  · rename_i z
    rw [if_neg z] at hq
    obtain ⟨hv, hX2⟩ := hx
    obtain ⟨rfl, rfl⟩ := hq
    exact ⟨_, hv, rfl, li_end hc ho hX2 hfr hf ⟨rfl, rfl, rfl, rfl, rfl, rfl, rfl, rfl, rfl, rfl, rfl, rfl, rfl, rfl, rfl, rfl, rfl, rfl, rfl, rfl, rfl, rfl, rfl, rfl, rfl, rfl⟩⟩
theorem v_restore {a1 : Int32} (hc : b + 178 ≤ c) (ho : c + 23 ≤ o) (hl : LI G b c o g) : PairP G (d + 24) mX11_restore mX12_restore b c [.int a1] g (LI G b c o) := by
  obtain ⟨I, W, A, N, F, n, U, f, hX, hm, hf⟩ := hl
  refine ⟨xr_b hX, _, x_restore (d := d + 21) hX, fun v g' hx => ?_⟩
  obtain ⟨hfr, hx⟩ := hx
  have hm2 := mh_fr hc hm hfr
  refine ⟨mh_c hm2, _, C_hp hm2 (t_restore (d := d + 23) (xr_22 hX)), fun v2 g2 hq => ?_⟩
  split at hx
  · rename_i z
    rw [if_pos z] at hq
    obtain ⟨hv, F2, n2, U2, hX2⟩ := hx
    obtain ⟨rfl, rfl⟩ := hq
    exact ⟨_, hv, rfl, li_end hc ho hX2 hfr hf ⟨rfl, rfl, rfl, rfl, rfl, rfl, rfl, rfl, rfl, rfl, rfl, rfl, rfl, rfl, rfl, rfl, rfl, rfl, rfl, rfl, rfl, rfl, rfl, rfl, rfl, rfl⟩⟩
  · rename_i z
    rw [if_neg z] at hq
    obtain ⟨hv, hX2⟩ := hx
    obtain ⟨rfl, rfl⟩ := hq
    exact ⟨_, hv, rfl, li_end hc ho hX2 hfr hf ⟨rfl, rfl, rfl, rfl, rfl, rfl, rfl, rfl, rfl, rfl, rfl, rfl, rfl, rfl, rfl, rfl, rfl, rfl, rfl, rfl, rfl, rfl, rfl, rfl, rfl, rfl⟩⟩
theorem v_cover {sa sv : Nat → Nat} {o9 : Option Nat} {wa : Nat → Nat} {al : Nat} (hG : StG G sa sv o9) (hW : SG G wa al) {a1 : Int32} (hc : b + 178 ≤ c) (ho : c + 23 ≤ o) (hl : LI G b c o g) : PairP G (d + 24) mX11_cover mX12_cover b c [.int a1] g (LI G b c o) := by
  obtain ⟨I, W, A, N, F, n, U, f, hX, hm, hf⟩ := hl
  refine ⟨xr_b hX, _, x_cover (d := d + 18) hG hW hX, fun v g' hx => ?_⟩
  obtain ⟨hfr, hx⟩ := hx
  have hm2 := mh_fr hc hm hfr
  refine ⟨mh_c hm2, _, C_hp hm2 (t_cover (d := d + 21) hX.1.1.1.1.1), fun v2 g2 hq => ?_⟩
  split at hx
  · rename_i z
    rw [if_pos z] at hq
    obtain ⟨hv, hX2⟩ := hx
    obtain ⟨rfl, rfl⟩ := hq
    exact ⟨_, hv, rfl, li_end hc ho hX2 hfr hf ⟨rfl, rfl, rfl, rfl, rfl, rfl, rfl, rfl, rfl, rfl, rfl, rfl, rfl, rfl, rfl, rfl, rfl, rfl, rfl, rfl, rfl, rfl, rfl, rfl, rfl, rfl⟩⟩
  · rename_i z
    rw [if_neg z] at hq
    obtain ⟨hv, hX2⟩ := hx
    obtain ⟨rfl, rfl⟩ := hq
    exact ⟨_, hv, rfl, li_end hc ho hX2 hfr hf ⟨rfl, rfl, rfl, rfl, rfl, rfl, rfl, rfl, rfl, rfl, rfl, rfl, rfl, rfl, rfl, rfl, rfl, rfl, rfl, rfl, rfl, rfl, rfl, rfl, rfl, rfl⟩⟩
theorem v_book {wa : Nat → Nat} {al : Nat} (hG : SG G wa al) (hN : NG G) {a1 : Int32} (hc : b + 178 ≤ c) (ho : c + 23 ≤ o) (hl : LI G b c o g) : PairP G (d + 24) mX11_book mX12_book b c [.int a1] g (LI G b c o) := by
  obtain ⟨I, W, A, N, F, n, U, f, hX, hm, hf⟩ := hl
  obtain ⟨m, h23, h8⟩ := xr_23 hX
  obtain ⟨sz, h2, hsz⟩ := xr_2 hX
  refine ⟨xr_b hX, _, x_book (d := d + 18) hG hN hX h2 hsz h8 h23, fun v g' hx => ?_⟩
  obtain ⟨hfr, hx⟩ := hx
  have hm2 := mh_fr hc hm hfr
  refine ⟨mh_c hm2, _, C_hp hm2 (t_book (d := d + 18) h2 hsz hX.1.1.1.1.1 h8 h23), fun v2 g2 hq => ?_⟩
  split at hx
  · rename_i z
    rw [if_pos z] at hq
    rcases hR : bkR I W A N sz F n U with ⟨_ | _, m9, y⟩
    · have hx := hx.1 m9 y hR
      have hq := hq.1 m9 y hR
      obtain ⟨hv, hX2⟩ := hx
      obtain ⟨rfl, rfl⟩ := hq
      exact ⟨_, hv, rfl, li_end hc ho hX2 hfr hf ⟨rfl, rfl, rfl, rfl, rfl, rfl, rfl, rfl, rfl, rfl, rfl, rfl, rfl, rfl, rfl, rfl, rfl, rfl, rfl, rfl, rfl, rfl, rfl, rfl, rfl, rfl⟩⟩
    · obtain ⟨hv, hx⟩ := hx.2 m9 y hR
      obtain ⟨rfl, hq9⟩ := hq.2 m9 y hR
      unfold bkQ at hx
      unfold bkHp at hq9
      split at hx
      · rename_i z2
        rw [if_pos z2] at hq9
        have hX2 := hx
        subst hq9
        exact ⟨_, hv, rfl, li_end hc ho hX2 hfr hf ⟨rfl, rfl, rfl, rfl, rfl, rfl, rfl, rfl, rfl, rfl, rfl, rfl, rfl, rfl, rfl, rfl, rfl, rfl, rfl, rfl, rfl, rfl, rfl, rfl, rfl, rfl⟩⟩
      · rename_i z2
        rw [if_neg z2] at hq9
        split at hx
        · rename_i z3
          rw [if_pos z3] at hq9
          have hX2 := hx
          subst hq9
          exact ⟨_, hv, rfl, li_end hc ho hX2 hfr hf ⟨rfl, rfl, rfl, rfl, rfl, rfl, rfl, rfl, rfl, rfl, rfl, rfl, rfl, rfl, rfl, rfl, rfl, rfl, rfl, rfl, rfl, rfl, rfl, rfl, rfl, rfl⟩⟩
        · rename_i z3
          rw [if_neg z3] at hq9
          have hX2 := hx
          subst hq9
          exact ⟨_, hv, rfl, li_end hc ho hX2 hfr hf ⟨rfl, rfl, rfl, rfl, rfl, rfl, rfl, rfl, rfl, rfl, rfl, rfl, rfl, rfl, rfl, rfl, rfl, rfl, rfl, rfl, rfl, rfl, rfl, rfl, rfl, rfl⟩⟩
  · rename_i z
    rw [if_neg z] at hq
    obtain ⟨hv, hX2⟩ := hx
    obtain ⟨rfl, rfl⟩ := hq
    exact ⟨_, hv, rfl, li_end hc ho hX2 hfr hf ⟨rfl, rfl, rfl, rfl, rfl, rfl, rfl, rfl, rfl, rfl, rfl, rfl, rfl, rfl, rfl, rfl, rfl, rfl, rfl, rfl, rfl, rfl, rfl, rfl, rfl, rfl⟩⟩
theorem v_sentence {wa : Nat → Nat} {al : Nat} (hG : SG G wa al) (hN : NG G) (hc : b + 178 ≤ c) (ho : c + 23 ≤ o) (hl : LI G b c o g) : PairP G (d + 24) mX11_sentence mX12_sentence b c [] g (LI G b c o) := by
  obtain ⟨I, W, A, N, F, n, U, f, hX, hm, hf⟩ := hl
  obtain ⟨sz, h2, hsz⟩ := xr_2 hX
  refine ⟨xr_b hX, _, x_sentence (d := d + 0) hG hN hX h2 hsz, fun v g' hx => ?_⟩
  obtain ⟨hfr, hx⟩ := hx
  have hm2 := mh_fr hc hm hfr
  refine ⟨mh_c hm2, _, C_hp hm2 (t_sentence (d := d + 18) h2 hsz (gWF_n hX.1.1).1 (gWF_n hX.1.1).2.1), fun v2 g2 hq => ?_⟩
  obtain ⟨r9, s9, hq1, hq2⟩ := hq
  rcases hR : seR I W A N sz F with ⟨_ | _, y⟩
  · obtain ⟨hv, hx⟩ := hx.1 y hR
    obtain ⟨rfl, rfl⟩ := hq1 y hR
    have hX2 := hx r9 s9
    exact ⟨_, hv, rfl, li_end hc ho hX2 hfr hf ⟨rfl, rfl, rfl, rfl, rfl, rfl, rfl, rfl, rfl, rfl, rfl, rfl, rfl, rfl, rfl, rfl, rfl, rfl, rfl, rfl, rfl, rfl, rfl, rfl, rfl, rfl⟩⟩
  · obtain ⟨hv, hx⟩ := hx.2 y hR
    obtain ⟨rfl, hrc, -, rfl⟩ := hq2 y hR
    have hX2 := hx r9 s9 hrc
    exact ⟨_, hv, rfl, li_end hc ho hX2 hfr hf ⟨rfl, rfl, rfl, rfl, rfl, rfl, rfl, rfl, rfl, rfl, rfl, rfl, rfl, rfl, rfl, rfl, rfl, rfl, rfl, rfl, rfl, rfl, rfl, rfl, rfl, rfl⟩⟩
theorem v_said {a1 : Int32} (hc : b + 178 ≤ c) (ho : c + 23 ≤ o) (hl : LI G b c o g) : PairP G (d + 24) mX11_said mX12_said b c [.int a1] g (LI G b c o) := by
  obtain ⟨I, W, A, N, F, n, U, f, hX, hm, hf⟩ := hl
  obtain ⟨val, h1, h2⟩ := x_said (k := a1) hX
  refine ⟨xr_b hX, _, h1 (d + 19), fun v g' hx => ?_⟩
  obtain ⟨rfl, rfl⟩ := hx
  refine ⟨mh_c hm, _, C_hp hm (h2 (d + 19) c _), fun v2 g2 hq => ?_⟩
  obtain ⟨rfl, t9, rfl⟩ := hq
  exact ⟨_, rfl, rfl, li_end hc ho hX fr_rf hf ⟨rfl, rfl, rfl, rfl, rfl, rfl, rfl, rfl, rfl, rfl, rfl, rfl, rfl, rfl, rfl, rfl, rfl, rfl, rfl, rfl, rfl, rfl, rfl, rfl, rfl, rfl⟩⟩
end LP
