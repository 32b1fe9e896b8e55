/-! The class beside the reference: what its cells hold -/
/-- two heaps alike over cells -/
def alk (g g' : iH) (o m : Nat) : Prop := ∀ p, o ≤ p → p < o + m → g'.1 p = g.1 p
theorem alk_sub {g g' : iH} {o m o2 m2 : Nat} (h : alk g g' o m) (h1 : o ≤ o2) (h2 : o2 + m2 ≤ o + m) : alk g g' o2 m2 := fun p a b => h p (by omega) (by omega)
theorem alk_ov {g : iH} {a n o m : Nat} {f : Nat → va_E} (hd : a + n ≤ o ∨ o + m ≤ a) : alk g (ovl g a n f) o m := fun p h1 h2 => ovl_out (by omega)
theorem Blk_alk {g g' : iH} {o m : Nat} {f : Nat → va_E} (h : Blk g o m f) (ha : alk g g' o m) : Blk g' o m f := fun j hj => by rw [ha (o + j) (by omega) (by omega)]; exact h j hj
def xFs (b : Nat) (X : Nat → Int32) : List Value := [.ref (b + 1), .int (X 1), .ref (b + 2), .int (X 3), .ref (b + 7), .ref (b + 18), .ref (b + 29), .ref (b + 36), .ref (b + 43), .ref (b + 48), .ref (b + 53), .ref (b + 111), .ref (b + 160), .ref (b + 164), .ref (b + 169), .ref (b + 173), .int (X 16), .ref (b + 177), .int (X 18)]
def xE (b : Nat) (X : Nat → Int32) (_ : Nat) : va_E := .inr (10, xFs b X)
def xH (b : Nat) (X : Nat → Int32) (g : iH) : iH := ovl g b 1 (xE b X)
/-- a row of ints alone -/
def arE (G : iG) (n : Nat) (f : Nat → Int32) (_ : Nat) : va_E := .inl (G.2.2.2.1 0, n, .inl f)
def arH (G : iG) (o n : Nat) (f : Nat → Int32) (g : iH) : iH := ovl g o 1 (arE G n f)
section XO
variable {G : iG} {b o n : Nat} {X : Nat → Int32} {g : iH} {f f' : Nat → Int32}
theorem x_o : (xH b X g).1 b = some (.inr (10, xFs b X)) := ovl_i0 (by decide)
theorem xFs_len : (xFs b X).length = 19 := rfl
theorem xf_0 : (xFs b X)[0]? = some (.ref (b + 1)) := rfl
theorem xf_1 : (xFs b X)[1]? = some (.int (X 1)) := rfl
theorem xf_2 : (xFs b X)[2]? = some (.ref (b + 2)) := rfl
theorem xf_3 : (xFs b X)[3]? = some (.int (X 3)) := rfl
theorem xf_4 : (xFs b X)[4]? = some (.ref (b + 7)) := rfl
theorem xf_5 : (xFs b X)[5]? = some (.ref (b + 18)) := rfl
theorem xf_6 : (xFs b X)[6]? = some (.ref (b + 29)) := rfl
theorem xf_7 : (xFs b X)[7]? = some (.ref (b + 36)) := rfl
theorem xf_8 : (xFs b X)[8]? = some (.ref (b + 43)) := rfl
theorem xf_9 : (xFs b X)[9]? = some (.ref (b + 48)) := rfl
theorem xf_10 : (xFs b X)[10]? = some (.ref (b + 53)) := rfl
theorem xf_11 : (xFs b X)[11]? = some (.ref (b + 111)) := rfl
theorem xf_12 : (xFs b X)[12]? = some (.ref (b + 160)) := rfl
theorem xf_13 : (xFs b X)[13]? = some (.ref (b + 164)) := rfl
theorem xf_14 : (xFs b X)[14]? = some (.ref (b + 169)) := rfl
theorem xf_15 : (xFs b X)[15]? = some (.ref (b + 173)) := rfl
theorem xf_16 : (xFs b X)[16]? = some (.int (X 16)) := rfl
theorem xf_17 : (xFs b X)[17]? = some (.ref (b + 177)) := rfl
theorem xf_18 : (xFs b X)[18]? = some (.int (X 18)) := rfl
theorem xk_1 : ipk 10 1 = 0 := by decide +kernel
theorem xk_3 : ipk 10 3 = 0 := by decide +kernel
theorem xk_16 : ipk 10 16 = 0 := by decide +kernel
theorem xk_18 : ipk 10 18 = 0 := by decide +kernel
theorem xp_gen {fs : List Value} {X' : Nat → Int32} (h : fs = xFs b X') : iSet (xH b X g) b (.inr (10, fs)) = xH b X' g := by
  unfold xH
  rw [ovl_set0 (by decide), h]
  refine ovl_congr (fun j hj => ?_)
  obtain rfl : j = 0 := by omega
  rfl
theorem xp_1 {x : Int32} : iSet (xH b X g) b (.inr (10, (xFs b X).set 1 (.int x))) = xH b (va_up X 1 x) g := xp_gen rfl
theorem xp_3 {x : Int32} : iSet (xH b X g) b (.inr (10, (xFs b X).set 3 (.int x))) = xH b (va_up X 3 x) g := xp_gen rfl
theorem xp_16 {x : Int32} : iSet (xH b X g) b (.inr (10, (xFs b X).set 16 (.int x))) = xH b (va_up X 16 x) g := xp_gen rfl
theorem xp_18 {x : Int32} : iSet (xH b X g) b (.inr (10, (xFs b X).set 18 (.int x))) = xH b (va_up X 18 x) g := xp_gen rfl
theorem xb_o (hB : Blk g b 1 (xE b X)) : g.1 b = some (.inr (10, xFs b X)) := hB 0 (by decide)
theorem x_self (hB : Blk g b 1 (xE b X)) : xH b X g = g := ovl_self hB
theorem ar_o : (arH G o n f g).1 o = some (.inl (G.2.2.2.1 0, n, .inl f)) := ovl_i0 (by decide)
theorem arb_o (hB : Blk g o 1 (arE G n f)) : g.1 o = some (.inl (G.2.2.2.1 0, n, .inl f)) := hB 0 (by decide)
theorem aru : iSet (arH G o n f g) o (.inl (G.2.2.2.1 0, n, .inl f')) = arH G o n f' g := by
  unfold arH
  rw [ovl_set0 (by decide)]
  refine ovl_congr (fun j hj => ?_)
  obtain rfl : j = 0 := by omega
  rfl
theorem ar_self (hB : Blk g o 1 (arE G n f)) : arH G o n f g = g := ovl_self hB
end XO
/-- the reference's row with the state kept at k -/
def hsR (s u : Nat → Int32) (k : Nat) : Nat → Int32 := va_cpy u s (59 * k) 85 59
/-- ranges of a tower that was read -/
def rgT (s : Nat → Int32) (F n U : Nat) : Prop := (∀ f, f < F → ∃ v, 1 ≤ v ∧ v ≤ 9 ∧ s (13 + f) = nI v) ∧ (∀ u, u < U → ∃ v, v ≤ 20 ∧ s (28 + u) = nI v) ∧ (∀ c, c < n → ∃ v, v ≤ 20 ∧ s (22 + c) = nI v) ∧ (∀ j, 37 ≤ j → j < 85 → ∃ v, v ≤ 9 ∧ s j = nI v) ∧ ∃ v, 1 ≤ v ∧ v ≤ 500 ∧ s 3 = nI v
def wtOk (s : Nat → Int32) (n : Nat) : Prop := ∀ c, c < n → ∃ v, v ≤ 60 ∧ s (96 + c) = nI v
def gWF (s : Nat → Int32) (F n U : Nat) : Prop := lWF s F n U ∧ rgT s F n U ∧ wtOk s n
/-- no byte of it is above 127 -/
def pW (w : Int64) : Prop := ∀ i, i < 8 → w.toBitVec.getLsbD (8 * i + 7) = false
section XP
variable (G : iG) (b : Nat) (g : iH)
def pO (tl fk hh cl : Int32) : Prop := ∃ X, Blk g b 1 (xE b X) ∧ X 1 = tl ∧ X 3 = fk ∧ X 16 = hh ∧ X 18 = cl
def pT (tl : Int32) (ta : Nat → Int32) : Prop := ∃ tx, Blk g (b + 1) 1 (arE G 940 tx) ∧ ∃ sz, sz ≤ 940 ∧ tl = nI sz ∧ ∀ i, i < sz → tx i = ta i &&& nI 255
def pR : Prop := ∃ I A N R, Blk g (b + 2) 5 (rdE G (b + 2) I A N R)
def pH (s : Nat → Int32) (nm : Nat → Int64) (F n U : Nat) : Prop := ∃ J B M, TW G g (b + 7) J B M ∧ TS J B s F n U ∧ TN M nm F n U
def pD : Prop := ∃ J B M, TW G g (b + 18) J B M
def pSt (n : Nat) (s : Nat → Int32) : Prop := ∃ w, Blk g (b + 29) 7 (stE G (b + 29) n s w)
def pL : Prop := ∃ n s w, Blk g (b + 36) 7 (stE G (b + 36) n s w)
def pY (s : Nat → Int32) : Prop := ∃ I A, Blk g (b + 43) 5 (seE G (b + 43) I A) ∧ seRel s I A
def pZ : Prop := ∃ I A, Blk g (b + 48) 5 (seE G (b + 48) I A)
def hRow (_ i : Nat) : Option Nat := some (b + 55 + 7 * i)
def pB (um : Int32) (s u : Nat → Int32) (F n U : Nat) : Prop := ∃ I tp sz, Blk g (b + 53) 2 (hiE G (b + 53) I (hRow b)) ∧ tp < 8 ∧ sz ≤ 8 ∧ I 1 = nI tp ∧ I 2 = nI sz ∧ um = nI sz ∧ (∀ k, k < 8 → ∃ n s w, Blk g (b + 55 + 7 * k) 7 (stE G (b + 55 + 7 * k) n s w)) ∧ (∀ j, j < sz → (∃ w, Blk g (b + 55 + 7 * ((tp + 8 - sz + j) % 8)) 7 (stE G (b + 55 + 7 * ((tp + 8 - sz + j) % 8)) n (hsR s u j) w)) ∧ gWF (hsR s u j) F n U)
def imFs (a : Nat) (k : Int32) : List Value := [.ref (a + 1), .ref (a + 12), .ref (a + 19), .int k]
def imE (a : Nat) (k : Int32) (_ : Nat) : va_E := .inr (3, imFs a k)
def imRow (_ : Nat) : va_E := .inl (G.2.2.2.1 6, 2, .inr (.inr (.inr (.inr (fun i => some (b + 112 + 24 * i))))))
/-- image k: kept or not, and what it keeps -/
def pI (a : Nat) (kp : Int32) (s : Nat → Int32) (nm : Nat → Int64) : Prop := Blk g a 1 (imE a kp) ∧ ((kp = nI 0 ∧ (∃ J B M, TW G g (a + 1) J B M) ∧ (∃ n s w, Blk g (a + 12) 7 (stE G (a + 12) n s w)) ∧ ∃ I A, Blk g (a + 19) 5 (seE G (a + 19) I A)) ∨ (kp = nI 1 ∧ ∃ F n U, gWF s F n U ∧ (∃ J B M, TW G g (a + 1) J B M ∧ TS J B s F n U ∧ TN M nm F n U) ∧ (∃ w, Blk g (a + 12) 7 (stE G (a + 12) n s w)) ∧ ∃ I A, Blk g (a + 19) 5 (seE G (a + 19) I A) ∧ seRel s I A))
def pV (im kp : Nat → Int32) (nk : Nat → Int64) : Prop := Blk g (b + 111) 1 (imRow G b) ∧ ∀ k, k < 2 → pI G g (b + 112 + 24 * k) (kp k) (fun j => im (325 * k + j)) (fun j => nk (19 * k + j))
def pP (pm pp : Int32) (row : Nat → Int32) : Prop := ∃ I A, Blk g (b + 160) 4 (pnE G (b + 160) I A) ∧ I 4 = pp ∧ ∃ q, q ≤ 4 ∧ I 3 = nI q ∧ (pm = nI q ∨ pm = -1 ∧ q = 0) ∧ ∀ i, i < q → A 3 i = row i
def pQ (bm ah : Int32) (row : Nat → Int32) : Prop := ∃ I A, Blk g (b + 164) 5 (trE G (b + 164) I A) ∧ I 6 = ah ∧ ∃ q, q ≤ 4 ∧ I 5 = nI q ∧ (bm = nI q ∨ bm = -1 ∧ q = 0) ∧ ∀ i, i < q → A 4 i = row i
def pG (bm : Int32) (row : Nat → Int32) : Prop := ∃ I A, Blk g (b + 169) 4 (bgE G (b + 169) I A) ∧ ∃ q, q ≤ 6 ∧ (bm = nI q ∨ bm = -1 ∧ q = 0) ∧ (∀ i, i < q → A 3 i = row i) ∧ ∀ i, q ≤ i → i < 6 → A 3 i = -1
def pK (ht : Int32) (row : Nat → Int32) : Prop := ∃ I A, Blk g (b + 173) 4 (boE G (b + 173) I A) ∧ ∀ k, k < 4 → I (4 + k) = if ht = nI 0 then -1 else row k
def pC (tm : Int32) (row : Nat → Int32) : Prop := ∃ ch, Blk g (b + 177) 1 (arE G 64 ch) ∧ ∃ l, l ≤ 64 ∧ tm = nI l ∧ ∀ i, i < l → ch i = row i
/-- the class's object at b is the reference's I, A, N -/
def XR (I : Nat → Int32) (W : Int64) (A : Nat → Nat → Int32) (N : Nat → Nat → Int64) (F n U : Nat) : Prop :=
  (gWF (A 2) F n U ∧ pW W ∧ (∀ j, pW (N 5 j)) ∧ (∀ j, pW (N 21 j)) ∧ N 6 = rsW) ∧
  pO b g (I 2) (I 15) (if I 34 = nI 0 then -1 else I 33) (I 39) ∧ pT G b g (I 2) (A 1) ∧ pR G b g ∧ pH G b g (A 2) (N 5) F n U ∧ pD G b g ∧ pSt G b g n (A 2) ∧ pL G b g ∧ pY G b g (A 2) ∧ pZ G b g ∧ pB G b g (I 23) (A 2) (A 7) F n U ∧ pV G b g (A 20) (A 22) (N 21) ∧ pP G b g (I 26) (I 27) (A 10) ∧ pQ G b g (I 31) (I 32) (A 11) ∧ pG G b g (I 37) (A 14) ∧ pK G b g (I 43) (A 17) ∧ pC G b g (I 39) (A 16)
end XP
section XA
variable {G : iG} {b : Nat} {g g' : iH}
theorem pO_a {tl fk hh cl : Int32} (h : pO b g tl fk hh cl) (ha : alk g g' b 1) : pO b g' tl fk hh cl := by
  obtain ⟨X, h1, h2⟩ := h; exact ⟨X, Blk_alk h1 ha, h2⟩
theorem pT_a {tl : Int32} {ta : Nat → Int32} (h : pT G b g tl ta) (ha : alk g g' (b + 1) 1) : pT G b g' tl ta := by
  obtain ⟨X, h1, h2⟩ := h; exact ⟨X, Blk_alk h1 ha, h2⟩
theorem pR_a (h : pR G b g) (ha : alk g g' (b + 2) 5) : pR G b g' := by
  obtain ⟨I, A, N, R, h1⟩ := h; exact ⟨I, A, N, R, Blk_alk h1 ha⟩
theorem pH_a {s : Nat → Int32} {nm : Nat → Int64} {F n U : Nat} (h : pH G b g s nm F n U) (ha : alk g g' (b + 7) 11) : pH G b g' s nm F n U := by
  obtain ⟨J, B, M, h1, h2⟩ := h; exact ⟨J, B, M, Blk_alk h1 ha, h2⟩
theorem pD_a (h : pD G b g) (ha : alk g g' (b + 18) 11) : pD G b g' := by
  obtain ⟨J, B, M, h1⟩ := h; exact ⟨J, B, M, Blk_alk h1 ha⟩
theorem pSt_a {n : Nat} {s : Nat → Int32} (h : pSt G b g n s) (ha : alk g g' (b + 29) 7) : pSt G b g' n s := by
  obtain ⟨w, h1⟩ := h; exact ⟨w, Blk_alk h1 ha⟩
theorem pL_a (h : pL G b g) (ha : alk g g' (b + 36) 7) : pL G b g' := by
  obtain ⟨n, s, w, h1⟩ := h; exact ⟨n, s, w, Blk_alk h1 ha⟩
theorem pY_a {s : Nat → Int32} (h : pY G b g s) (ha : alk g g' (b + 43) 5) : pY G b g' s := by
  obtain ⟨I, A, h1, h2⟩ := h; exact ⟨I, A, Blk_alk h1 ha, h2⟩
theorem pZ_a (h : pZ G b g) (ha : alk g g' (b + 48) 5) : pZ G b g' := by
  obtain ⟨I, A, h1⟩ := h; exact ⟨I, A, Blk_alk h1 ha⟩
theorem pB_a {um : Int32} {s u : Nat → Int32} {F n U : Nat} (h : pB G b g um s u F n U) (ha : alk g g' (b + 53) 58) : pB G b g' um s u F n U := by
  obtain ⟨I, tp, sz, h1, h2, h3, h4, h5, h6, h7, h8⟩ := h
  refine ⟨I, tp, sz, Blk_alk h1 (alk_sub ha (by omega) (by omega)), h2, h3, h4, h5, h6, fun k hk => ?_, fun j hj => ?_⟩
  · obtain ⟨n, s, w, h9⟩ := h7 k hk
    exact ⟨n, s, w, Blk_alk h9 (alk_sub ha (by omega) (by omega))⟩
  · obtain ⟨⟨w, h9⟩, h10⟩ := h8 j hj
    exact ⟨⟨w, Blk_alk h9 (alk_sub ha (by omega) (by omega))⟩, h10⟩
theorem pI_a {a : Nat} {kp : Int32} {s : Nat → Int32} {nm : Nat → Int64} (h : pI G g a kp s nm) (ha : alk g g' a 24) : pI G g' a kp s nm := by
  obtain ⟨h0, h⟩ := h
  refine ⟨Blk_alk h0 (alk_sub ha (by omega) (by omega)), ?_⟩
  rcases h with ⟨z, ⟨J, B, M, h1⟩, ⟨n, s, w, h2⟩, I, A, h3⟩ | ⟨z, F, n, U, hw, ⟨J, B, M, h1, h11⟩, ⟨w, h2⟩, I, A, h3, h31⟩
  · exact Or.inl ⟨z, ⟨J, B, M, Blk_alk h1 (alk_sub ha (by omega) (by omega))⟩, ⟨n, s, w, Blk_alk h2 (alk_sub ha (by omega) (by omega))⟩, I, A, Blk_alk h3 (alk_sub ha (by omega) (by omega))⟩
  · exact Or.inr ⟨z, F, n, U, hw, ⟨J, B, M, Blk_alk h1 (alk_sub ha (by omega) (by omega)), h11⟩, ⟨w, Blk_alk h2 (alk_sub ha (by omega) (by omega))⟩, I, A, Blk_alk h3 (alk_sub ha (by omega) (by omega)), h31⟩
theorem pV_a {im kp : Nat → Int32} {nk : Nat → Int64} (h : pV G b g im kp nk) (ha : alk g g' (b + 111) 49) : pV G b g' im kp nk :=
  ⟨Blk_alk h.1 (alk_sub ha (by omega) (by omega)), fun k hk => pI_a (h.2 k hk) (alk_sub ha (by omega) (by omega))⟩
theorem pP_a {pm pp : Int32} {row : Nat → Int32} (h : pP G b g pm pp row) (ha : alk g g' (b + 160) 4) : pP G b g' pm pp row := by
  obtain ⟨I, A, h1, h2⟩ := h; exact ⟨I, A, Blk_alk h1 ha, h2⟩
theorem pQ_a {pm pp : Int32} {row : Nat → Int32} (h : pQ G b g pm pp row) (ha : alk g g' (b + 164) 5) : pQ G b g' pm pp row := by
  obtain ⟨I, A, h1, h2⟩ := h; exact ⟨I, A, Blk_alk h1 ha, h2⟩
theorem pG_a {bm : Int32} {row : Nat → Int32} (h : pG G b g bm row) (ha : alk g g' (b + 169) 4) : pG G b g' bm row := by
  obtain ⟨I, A, h1, h2⟩ := h; exact ⟨I, A, Blk_alk h1 ha, h2⟩
theorem pK_a {ht : Int32} {row : Nat → Int32} (h : pK G b g ht row) (ha : alk g g' (b + 173) 4) : pK G b g' ht row := by
  obtain ⟨I, A, h1, h2⟩ := h; exact ⟨I, A, Blk_alk h1 ha, h2⟩
theorem pC_a {tm : Int32} {row : Nat → Int32} (h : pC G b g tm row) (ha : alk g g' (b + 177) 1) : pC G b g' tm row := by
  obtain ⟨I, h1, h2⟩ := h; exact ⟨I, Blk_alk h1 ha, h2⟩
theorem XR_a {I : Nat → Int32} {W : Int64} {A : Nat → Nat → Int32} {N : Nat → Nat → Int64} {F n U : Nat} (h : XR G b g I W A N F n U) (ha : alk g g' b 178) : XR G b g' I W A N F n U := by
  obtain ⟨zw, zO, zT, zR, zH, zD, zS, zL, zY, zZ, zB, zV, zP, zQ, zG, zK, zC⟩ := h
  exact ⟨zw, pO_a zO (alk_sub ha (by omega) (by omega)), pT_a zT (alk_sub ha (by omega) (by omega)), pR_a zR (alk_sub ha (by omega) (by omega)), pH_a zH (alk_sub ha (by omega) (by omega)), pD_a zD (alk_sub ha (by omega) (by omega)), pSt_a zS (alk_sub ha (by omega) (by omega)), pL_a zL (alk_sub ha (by omega) (by omega)), pY_a zY (alk_sub ha (by omega) (by omega)), pZ_a zZ (alk_sub ha (by omega) (by omega)), pB_a zB (alk_sub ha (by omega) (by omega)), pV_a zV (alk_sub ha (by omega) (by omega)), pP_a zP (alk_sub ha (by omega) (by omega)), pQ_a zQ (alk_sub ha (by omega) (by omega)), pG_a zG (alk_sub ha (by omega) (by omega)), pK_a zK (alk_sub ha (by omega) (by omega)), pC_a zC (alk_sub ha (by omega) (by omega))⟩
/-- nothing outside the object has changed -/
def fr (b : Nat) (g g' : iH) : Prop := (∀ p, p < b ∨ b + 178 ≤ p → g'.1 p = g.1 p) ∧ g'.2 = g.2
theorem fr_rf : fr b g g := ⟨fun _ _ => rfl, rfl⟩
theorem fr_ov {o m : Nat} {f : Nat → va_E} (h : fr b g g') (h1 : b ≤ o) (h2 : o + m ≤ b + 178) : fr b g (ovl g' o m f) := ⟨fun p hp => by rw [ovl_out (by omega)]; exact h.1 p hp, h.2⟩
end XA
