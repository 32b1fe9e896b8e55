/-! The class: where one has been -/
def cV (isb : Nat → Bool) : Nat → Nat
  | 0 => 0
  | c + 1 => cV isb c + (if isb c = true then 1 else 0)
def fV (isb : Nat → Bool) : Nat → Nat
  | 0 => 0
  | c + 1 => if isb c = true then (if cV isb c = 0 then c else fV isb c) else fV isb c
def cD (isb : Nat → Bool) (dg : Nat → Nat) (f : Nat) : Nat → Nat
  | 0 => 0
  | c + 1 => cD isb dg f c + (if isb c = true then (if dg c = f then 1 else 0) else 0)
def mxD (cn : Nat → Nat) : Nat → Nat
  | 0 => 0
  | k + 1 => max (mxD cn k) (cn k)
theorem cV_le {isb : Nat → Bool} : ∀ c, cV isb c ≤ c
  | 0 => Nat.le_refl _
  | c + 1 => by
    rw [cV]
    have := cV_le (isb := isb) c
    split <;> omega
theorem cD_le {isb : Nat → Bool} {dg : Nat → Nat} {f : Nat} : ∀ c, cD isb dg f c ≤ cV isb c
  | 0 => Nat.le_refl _
  | c + 1 => by
    rw [cD, cV]
    have := cD_le (isb := isb) (dg := dg) (f := f) c
    split
    · split <;> omega
    · omega
theorem mxD_le {cn : Nat → Nat} {b : Nat} : ∀ k, (∀ f, f < k → cn f ≤ b) → mxD cn k ≤ b
  | 0, _ => Nat.zero_le _
  | k + 1, h => by
    rw [mxD]
    have := mxD_le k (fun f hf => h f (by omega))
    have := h k (by omega)
    omega
theorem mxD_congr {cn ce : Nat → Nat} : ∀ k, (∀ f, f < k → cn f = ce f) → mxD cn k = mxD ce k
  | 0, _ => rfl
  | k + 1, h => by rw [mxD, mxD, mxD_congr k (fun f hf => h f (by omega)), h k (by omega)]
theorem mxD_inc {cn ce : Nat → Nat} {x : Nat} : ∀ k, (∀ f, f < k → ce f = cn f + if x = f then 1 else 0) → x < k → mxD ce k = max (mxD cn k) (cn x + 1)
  | 0, _, h => by omega
  | k + 1, h, hx => by
    rw [mxD, mxD, h k (by omega)]
    by_cases e : x = k
    · subst e
      rw [mxD_congr (ce := cn) x (fun f hf => by rw [h f (by omega), if_neg (by omega)]; rfl), if_pos rfl]
      omega
    · rw [mxD_inc (cn := cn) k (fun f hf => h f (by omega)) (by omega), if_neg e]
      omega
theorem bn_eq {isb : Nat → Bool} : ∀ (k cd : Nat), bnN isb cd k (cV isb cd) (fV isb cd) = (cV isb (cd + k), fV isb (cd + k))
  | 0, cd => rfl
  | k + 1, cd => by
    rw [bnN]
    have ih := bn_eq (isb := isb) k (cd + 1)
    rw [show cd + 1 + k = cd + (k + 1) by omega] at ih
    rw [← ih, cV, fV]
    by_cases h : isb cd = true
    · simp only [h, if_true]
    · simp only [h, if_false, Nat.add_zero, Bool.false_eq_true]
theorem maxF_n {x y : Nat} (hx : x < 2 ^ 31) (hy : y < 2 ^ 31) : maxF (nI x) (nI y) = nI (max x y) := by
  unfold maxF
  by_cases h : y < x
  · rw [if_pos (nI_lt h hx)]; congr 1; omega
  · rw [if_neg (nI_nlt (by omega) hy)]; congr 1; omega
theorem lb_eq {isb : Nat → Bool} {dg : Nat → Nat} {B : Nat} (hdg : ∀ cd, dg cd < B) : ∀ (k cd : Nat) (gr : Nat → Int32), cd + k < 2 ^ 30 → (∀ f, f < B → gr f = nI (cD isb dg f cd)) → lbN isb dg cd k gr (nI (mxD (fun f => cD isb dg f cd) B)) = nI (mxD (fun f => cD isb dg f (cd + k)) B)
  | 0, cd, gr, _, _ => rfl
  | k + 1, cd, gr, hb, hg => by
    rw [lbN]
    have hd := hdg cd
    have h1 := cD_le (isb := isb) (dg := dg) (f := dg cd) cd
    have h2 := cV_le (isb := isb) cd
    have h3 : mxD (fun f => cD isb dg f cd) B ≤ cd := mxD_le B (fun f _ => Nat.le_trans (cD_le cd) h2)
    by_cases h : isb cd = true
    · rw [if_pos h, hg _ hd, nI_add, maxF_n (by omega) (by omega)]
      have e : max (mxD (fun f => cD isb dg f cd) B) (cD isb dg (dg cd) cd + 1) = mxD (fun f => cD isb dg f (cd + 1)) B := by
        exact (mxD_inc (cn := fun f => cD isb dg f cd) (ce := fun f => cD isb dg f (cd + 1)) (x := dg cd) B (fun f hf => by show cD isb dg f (cd + 1) = _; rw [cD, if_pos h]) hd).symm
      rw [e, lb_eq hdg k (cd + 1) _ (by omega) (fun f hf => ?_), show cd + 1 + k = cd + (k + 1) by omega]
      rw [cD, if_pos h]
      by_cases e2 : f = dg cd
      · subst e2; rw [upd_self, if_pos rfl]
      · rw [upd_ne e2, if_neg (fun q => e2 q.symm), hg f hf]; rfl
    · rw [if_neg h]
      have e : mxD (fun f => cD isb dg f cd) B = mxD (fun f => cD isb dg f (cd + 1)) B := mxD_congr B (fun f _ => by show _ = cD isb dg f (cd + 1); rw [cD, if_neg h]; rfl)
      rw [e, lb_eq hdg k (cd + 1) gr (by omega) (fun f hf => by rw [cD, if_neg h, hg f hf]; rfl), show cd + 1 + k = cd + (k + 1) by omega]
/-- what the digits dg give of the gift g, of k hours -/
def uN (gf gv dg : Nat → Nat) (g : Nat) : Nat → Nat
  | 0 => 0
  | k + 1 => uN gf gv dg g k + (if dg k = 0 then 0 else if gf (dg k) = g then gv (dg k) else 0)
theorem uN_le {gf gv dg : Nat → Nat} {g : Nat} (hv : ∀ k, dg k ≠ 0 → gv (dg k) ≤ 9) : ∀ k, uN gf gv dg g k ≤ 9 * k
  | 0 => Nat.le_refl _
  | k + 1 => by
    rw [uN]
    have := uN_le (gf := gf) (g := g) hv k
    split
    · omega
    · rename_i h
      have := hv k h
      split <;> omega
theorem uN_mono {gf gv dg : Nat → Nat} {g : Nat} : ∀ (j k : Nat), uN gf gv dg g k ≤ uN gf gv dg g (k + j)
  | 0, k => Nat.le_refl _
  | j + 1, k => by
    rw [show k + (j + 1) = (k + j) + 1 by omega, uN]
    have := uN_mono (gf := gf) (gv := gv) (dg := dg) (g := g) j k
    omega
theorem uN_congr {gf gv dg de : Nat → Nat} {g : Nat} : ∀ k, (∀ i, i < k → dg i = de i) → uN gf gv dg g k = uN gf gv de g k
  | 0, _ => rfl
  | k + 1, h => by rw [uN, uN, uN_congr k (fun i hi => h i (by omega)), h k (by omega)]
theorem dgN_lt {cd B q k : Nat} (h : 0 < B) : dgN cd B q k < B := Nat.mod_lt _ h
theorem gf_eq {s : Nat → Int32} {gf gv : Nat → Nat} {F B cd q : Nat} (hB : B = F + 1) (h1 : ∀ f, 1 ≤ f → f ≤ F → gf f < 4 ∧ s (5 + f - 1) = nI (gf f)) (h2 : ∀ f, 1 ≤ f → f ≤ F → gv f ≤ 9 ∧ s (13 + f - 1) = nI (gv f)) : ∀ k, k ≤ 100 → ∀ g, gfN s (fun _ => nI 0) B cd q k g = nI (uN gf gv (dgN cd B q) g k)
  | 0, _, g => rfl
  | k + 1, hk, g => by
    have ih := gf_eq (cd := cd) (q := q) hB h1 h2 k (by omega)
    have hlt : dgN cd B q k < B := Nat.mod_lt _ (by omega)
    have hb := uN_le (gf := gf) (gv := gv) (dg := dgN cd B q) (g := g) (fun k hk => (h2 _ (by omega) (by have := dgN_lt (cd := cd) (q := q) (k := k) (show 0 < B by omega); omega)).1) k
    rw [gfN, uN]
    by_cases h0 : dgN cd B q k = 0
    · rw [if_pos h0, if_pos h0, ih g]; rfl
    · rw [if_neg h0, if_neg h0, (h1 _ (by omega) (by omega)).2, (h2 _ (by omega) (by omega)).2, nI_clamp (by have := (h1 (dgN cd B q k) (by omega) (by omega)).1; omega)]
      by_cases e : g = gf (dgN cd B q k)
      · subst e; rw [upd_self, if_pos rfl, ih, nI_add]
      · rw [upd_ne e, if_neg (fun q => e q.symm), ih]; rfl
theorem isBB_eq {s tp : Nat → Int32} {gf gv tg : Nat → Nat} {F B cd q : Nat} (hB : B = F + 1) (hq : q ≤ 4) (h1 : ∀ f, 1 ≤ f → f ≤ F → gf f < 4 ∧ s (5 + f - 1) = nI (gf f)) (h2 : ∀ f, 1 ≤ f → f ≤ F → gv f ≤ 9 ∧ s (13 + f - 1) = nI (gv f)) (h3 : ∀ g, g < 4 → tg g ≤ 255 ∧ tp g &&& nI 255 = nI (tg g)) : isBB s tp B cd q = true ↔ ∀ g, g < 4 → uN gf gv (dgN cd B q) g q = tg g := by
  have hb : ∀ g, uN gf gv (dgN cd B q) g q ≤ 36 := fun g => by
    have := uN_le (gf := gf) (gv := gv) (dg := dgN cd B q) (g := g) (fun k hk => (h2 _ (by omega) (by have := dgN_lt (cd := cd) (q := q) (k := k) (show 0 < B by omega); omega)).1) q
    omega
  have e : ∀ g, g < 4 → (decide (minF (nI 99) (gfN s (fun _ => nI 0) B cd q q g) = tp g &&& nI 255) = true ↔ uN gf gv (dgN cd B q) g q = tg g) := fun g hg => by
    have := hb g
    have ht := (h3 g hg).1
    rw [gf_eq hB h1 h2 q (by omega), minF_n (by omega) (by omega), (h3 g hg).2, decide_eq_true_eq, nI_eq (by omega) (by omega)]
    omega
  unfold isBB
  simp only [allN, Bool.true_and, Bool.and_eq_true]
  rw [e 0 (by omega), e 1 (by omega), e 2 (by omega), e 3 (by omega)]
  constructor
  · rintro ⟨⟨⟨a, b⟩, c⟩, d⟩ g hg
    rcases (show g = 0 ∨ g = 1 ∨ g = 2 ∨ g = 3 by omega) with rfl | rfl | rfl | rfl <;> assumption
  · intro h
    exact ⟨⟨⟨h 0 (by omega), h 1 (by omega)⟩, h 2 (by omega)⟩, h 3 (by omega)⟩
theorem dg_pre {B q k P cd i : Nat} (hB : 0 < B) (hk : k ≤ q) (hi : i < k) (h1 : P * B ^ (q - k) ≤ cd) (h2 : cd < (P + 1) * B ^ (q - k)) : dgN cd B q i = dgN P B k i := by
  have hpos : 0 < B ^ (q - k) := Nat.pow_pos hB
  have e : cd / B ^ (q - k) = P := by
    apply Nat.div_eq_of_lt_le
    · exact h1
    · exact h2
  unfold dgN
  rw [← e, Nat.div_div_eq_div_mul, ← Nat.pow_add]
  congr 3
  omega
/-- the state of a trace when the codes below c are told -/
def TR (isb : Nat → Bool) (B q : Nat) (I0 : Nat → Int32) (A0 : Nat → Nat → Int32) (c : Nat) (I : Nat → Int32) (A : Nat → Nat → Int32) : Prop :=
  I 3 = nI (cV isb c) ∧ I 6 = I0 6 ∧ (cV isb c = 0 → I 5 = I0 5 ∧ ∀ i, i < 4 → A 4 i = A0 4 i) ∧ (0 < cV isb c → I 5 = nI q ∧ ∀ i, i < q → A 4 i = nI (dgN (fV isb c) B q i)) ∧ ∀ h f, h < q → f < 9 → A 3 (h * 9 + f) = nI (cD isb (fun cd => dgN cd B q h) f c)
theorem TR_skip {isb : Nat → Bool} {B q : Nat} {I0 I : Nat → Int32} {A0 A : Nat → Nat → Int32} : ∀ (m c : Nat), (∀ j, c ≤ j → j < c + m → isb j = false) → TR isb B q I0 A0 c I A → TR isb B q I0 A0 (c + m) I A
  | 0, c, _, h => h
  | m + 1, c, hz, h => by
    rw [show c + (m + 1) = c + 1 + m by omega]
    refine TR_skip m (c + 1) (fun j h1 h2 => hz j (by omega) (by omega)) ?_
    have e := hz c (Nat.le_refl _) (by omega)
    obtain ⟨a1, a2, a3, a4, a5⟩ := h
    unfold TR
    simp only [cV, fV, cD, e, Bool.false_eq_true, if_false, Nat.add_zero]
    exact ⟨a1, a2, a3, a4, a5⟩
