/-! Bargains: the reference's end -/
def gAct (s : Nat → Int32) (c : Nat) : Prop := ¬ s (90 + c) < nI 0
def gBt (s : Nat → Int32) (c f g : Nat) : Prop := lfF s c g < lfF s c f ∨ (lfF s c f = lfF s c g ∧ f < g)
def gPr (s : Nat → Int32) (f o c : Nat) : Prop := lcF s f c < lcF s f o ∨ (lcF s f o = lcF s f c ∧ o < c)
theorem gBt_irr {s : Nat → Int32} : ∀ c f g, gBt s c f g → gBt s c g f → False := by
  intro c f g h1 h2
  rcases h1 with h1 | ⟨h1, h3⟩
  · rcases h2 with h2 | ⟨h2, h4⟩
    · exact Int32.lt_irrefl (Int32.lt_trans h1 h2)
    · rw [h2] at h1; exact Int32.lt_irrefl h1
  · rcases h2 with h2 | ⟨h2, h4⟩
    · rw [h1] at h2; exact Int32.lt_irrefl h2
    · omega
theorem gPr_irr {s : Nat → Int32} : ∀ f c o, gPr s f c o → gPr s f o c → False := by
  intro f c o h1 h2
  rcases h1 with h1 | ⟨h1, h3⟩
  · rcases h2 with h2 | ⟨h2, h4⟩
    · exact Int32.lt_irrefl (Int32.lt_trans h1 h2)
    · rw [h2] at h1; exact Int32.lt_irrefl h1
  · rcases h2 with h2 | ⟨h2, h4⟩
    · rw [h1] at h2; exact Int32.lt_irrefl h2
    · omega
theorem gPr_tr {s : Nat → Int32} : ∀ f a b c, gPr s f a b → gPr s f b c → gPr s f a c := by
  intro f a b c h1 h2
  rcases h1 with h1 | ⟨h1, h3⟩
  · rcases h2 with h2 | ⟨h2, h4⟩
    · exact Or.inl (Int32.lt_trans h2 h1)
    · rw [h2] at h1; exact Or.inl h1
  · rcases h2 with h2 | ⟨h2, h4⟩
    · rw [← h1] at h2; exact Or.inl h2
    · exact Or.inr ⟨h1.trans h2, by omega⟩
theorem best_isB {s : Nat → Int32} {ab : Int32} {c : Nat} : ∀ (r best k : Nat), 1 ≤ k → ((best = 0 ∧ ∀ g, 1 ≤ g → g < k → bitF ab (nI g) = true) ∨ (1 ≤ best ∧ best < k ∧ bitF ab (nI best) = false ∧ ∀ g, 1 ≤ g → g < k → bitF ab (nI g) = false → g = best ∨ gBt s c best g)) → ((bestN s ab c best k r = 0 ∧ ∀ g, 1 ≤ g → g < k + r → bitF ab (nI g) = true) ∨ (1 ≤ bestN s ab c best k r ∧ bestN s ab c best k r < k + r ∧ bitF ab (nI (bestN s ab c best k r)) = false ∧ ∀ g, 1 ≤ g → g < k + r → bitF ab (nI g) = false → g = bestN s ab c best k r ∨ gBt s c (bestN s ab c best k r) g))
  | 0, best, k, _, h => h
  | r + 1, best, k, hk, h => by
    rw [bestN, show k + (r + 1) = k + 1 + r by omega]
    refine best_isB r _ (k + 1) (by omega) ?_
    cases hb : bitF ab (nI k)
    · simp only [Bool.false_eq_true, if_false]
      rcases h with ⟨h1, h2⟩ | ⟨h1, h2, h3, h4⟩
      · rw [if_pos h1]
        right
        refine ⟨hk, by omega, hb, fun g g1 g2 g3 => ?_⟩
        by_cases e : g = k
        · exact Or.inl e
        · rw [h2 g g1 (by omega)] at g3; cases g3
      · rw [if_neg (by omega)]
        by_cases z : lfF s c k ≤ lfF s c best
        · rw [if_pos z]
          right
          refine ⟨h1, by omega, h3, fun g g1 g2 g3 => ?_⟩
          by_cases e : g = k
          · subst e
            right
            by_cases z2 : lfF s c g = lfF s c best
            · exact Or.inr ⟨z2.symm, h2⟩
            · exact Or.inl (Int32.lt_of_le_of_ne z z2)
          · exact h4 g g1 (by omega) g3
        · rw [if_neg z]
          have z' := Int32.not_le.mp z
          right
          refine ⟨hk, by omega, hb, fun g g1 g2 g3 => ?_⟩
          by_cases e : g = k
          · exact Or.inl e
          · right
            left
            rcases h4 g g1 (by omega) g3 with q | q | ⟨q, _⟩
            · rw [q]; exact z'
            · exact Int32.lt_trans q z'
            · rw [← q]; exact z'
    · simp only [if_true]
      rcases h with ⟨h1, h2⟩ | ⟨h1, h2, h3, h4⟩
      · left
        refine ⟨h1, fun g g1 g2 => ?_⟩
        by_cases e : g = k
        · rw [e]; exact hb
        · exact h2 g g1 (by omega)
      · right
        refine ⟨h1, by omega, h3, fun g g1 g2 g3 => ?_⟩
        by_cases e : g = k
        · rw [e, hb] at g3; cases g3
        · exact h4 g g1 (by omega) g3
def bitS (F : Nat) (x : Int32) (f : Nat) : Bool := decide (1 ≤ f) && decide (f ≤ F) && bitF x (nI f)
theorem bitS_in {F f : Nat} {x : Int32} (h1 : 1 ≤ f) (h2 : f ≤ F) : bitS F x f = bitF x (nI f) := by simp [bitS, h1, h2]
theorem bestN_B {s : Nat → Int32} {ab : Int32} {c F : Nat} : (bestN s ab c 0 1 F = 0 ∧ ∀ g, 1 ≤ g → g ≤ F → bitF ab (nI g) = true) ∨ isB F (gBt s) c (bitS F ab) (bestN s ab c 0 1 F) := by
  rcases best_isB (s := s) (ab := ab) (c := c) F 0 1 (by omega) (Or.inl ⟨rfl, fun g h1 h2 => by omega⟩) with ⟨h1, h2⟩ | ⟨h1, h2, h3, h4⟩
  · exact Or.inl ⟨h1, fun g g1 g2 => h2 g g1 (by omega)⟩
  · refine Or.inr ⟨h1, by omega, by rw [bitS_in h1 (by omega)]; exact h3, fun g g1 g2 g3 => ?_⟩
    rw [bitS_in g1 g2] at g3
    exact h4 g g1 (by omega) g3
def muR (p : (Nat → Int32) × (Nat → Int32)) (c : Nat) : Nat := if p.1 c = -1 then 0 else (p.1 c).toNatClampNeg
def RR (F : Nat) (p : (Nat → Int32) × (Nat → Int32)) (c f : Nat) : Bool := bitS F (p.2 c) f && !(decide (muR p c = f))
def gRf (s : Nat → Int32) (n F : Nat) (p : (Nat → Int32) × (Nat → Int32)) : Prop := bOk F n p ∧ gInv n F (gAct s) (gBt s) (gPr s) (muR p) (RR F p) ∧ (∀ c, c < n → muR p c ≠ 0 → bitF (p.2 c) (nI (muR p c)) = true) ∧ ∀ (mu2 : Nat → Nat) (R2 : Nat → Nat → Bool), gFin n F (gAct s) (gBt s) (gPr s) mu2 R2 → gLe n (RR F p) R2
theorem muR_m {p : (Nat → Int32) × (Nat → Int32)} {c : Nat} (h : p.1 c = -1) : muR p c = 0 := by simp [muR, h]
theorem muR_n {p : (Nat → Int32) × (Nat → Int32)} {c f : Nat} (hf : f ≤ 8) (h : p.1 c = nI f) : muR p c = f := by
  unfold muR
  rw [h, if_neg (by rw [nI_m1 (by omega)]; exact id), nI_clamp (by omega)]
theorem muR_eq {n F c f : Nat} {p : (Nat → Int32) × (Nat → Int32)} (hF : F ≤ 8) (hp : bOk F n p) (hc : c < n) (hf1 : 1 ≤ f) (hf : f ≤ 8) : muR p c = f ↔ p.1 c = nI f := by
  constructor
  · intro h
    rcases (hp c hc).1 with e | ⟨g, g1, g2, e⟩
    · rw [muR_m e] at h; omega
    · rw [muR_n (by omega) e] at h; rw [e, h]
  · exact muR_n hf
theorem ask_step {s : Nat → Int32} {n F c : Nat} {p p' : (Nat → Int32) × (Nat → Int32)} (hF : F ≤ 8) (hc : c < n) (hg : gRf s n F p) (hm : p.1 c = -1) (ha : gAct s c) (h : askF s F n c p = some p') : gRf s n F p' := by
  obtain ⟨hb, hi, hown, hle⟩ := hg
  have hok := (askF_ok hF hc hb h).1
  have mc : muR p c = 0 := muR_m hm
  have hRc : RR F p c = bitS F (p.2 c) := funext (fun f => by
    unfold RR
    rw [mc]
    by_cases e : 0 = f
    · subst e; simp [bitS]
    · simp [e])
  obtain ⟨x, hx, hxe⟩ := (hb c hc).2
  unfold askF at h
  rcases bestN_B (s := s) (ab := p.2 c) (c := c) (F := F) with ⟨q, _⟩ | hB
  · rw [if_pos q] at h; cases h
  have f1 := hB.1
  have fF := hB.2.1
  rw [if_neg (by omega)] at h
  generalize bestN s (p.2 c) c 0 1 F = f at h hB f1 fF
  have hB' : isB F (gBt s) c (RR F p c) f := by rw [hRc]; exact hB
  -- bits of the asked row behind it
  have hbits : ∀ e g, e < n → 1 ≤ g → g ≤ F → bitF (upd p.2 c (p.2 c ||| shN f) e) (nI g) = (bitF (p.2 e) (nI g) || (decide (e = c) && decide (f = g))) := fun e g he g1 g2 => by
    by_cases ec : e = c
    · subst ec
      rw [upd_self, hxe, bit_or hx (by omega) (by omega)]
      simp
    · rw [upd_ne ec]; simp [ec]
  have hbS : ∀ e g, e < n → bitS F (upd p.2 c (p.2 c ||| shN f) e) g = (bitS F (p.2 e) g || (decide (e = c) && decide (f = g))) := fun e g he => by
    by_cases g1 : 1 ≤ g
    · by_cases g2 : g ≤ F
      · rw [bitS_in g1 g2, bitS_in g1 g2, hbits e g he g1 g2]
      · have : ¬ f = g := by omega
        simp [bitS, g2, this]
    · have : ¬ f = g := by omega
      simp [bitS, g1, this]
  have fin : ∀ (mu' : Nat → Nat) (R' : Nat → Nat → Bool), mu' = muR p' → R' = RR F p' → (∀ e, e < n → muR p' e ≠ 0 → bitF (p'.2 e) (nI (muR p' e)) = true) → gStep n F (gAct s) (gBt s) (gPr s) (muR p) (RR F p) c f mu' R' → gRf s n F p' := fun mu' R' e1 e2 e3 hs => by
    subst e1; subst e2
    obtain ⟨k1, k2⟩ := gs_step gBt_irr gPr_irr gPr_tr hi hs
    exact ⟨hok, k1, e3, fun mu2 R2 hf2 => k2 mu2 R2 hf2 (hle mu2 R2 hf2)⟩
  have bf : bitF (upd p.2 c (p.2 c ||| shN f) c) (nI f) = true := by rw [hbits c f hc f1 fF]; simp
  have bo : ∀ e, e < n → muR p e ≠ 0 → e ≠ c → bitF (upd p.2 c (p.2 c ||| shN f) e) (nI (muR p e)) = true := fun e he hne ec => by rw [upd_ne ec]; exact hown e he hne
  split at h
  · rename_i ho
    cases h
    have hnone : ∀ o, o < n → muR p o ≠ f := fun o ho' hq => by
      have := fstO_none n 0 ho o (Nat.zero_le _) (by omega)
      rw [(muR_eq hF hb ho' f1 (by omega)).mp hq] at this
      simp at this
    have hmu : ∀ e, e < n → muR (upd p.1 c (nI f), upd p.2 c (p.2 c ||| shN f)) e = if e = c then f else muR p e := fun e he => by
      by_cases ec : e = c
      · subst ec
        rw [if_pos rfl]
        exact muR_n (by omega) upd_self
      · rw [if_neg ec]
        unfold muR
        rw [show (upd p.1 c (nI f), upd p.2 c (p.2 c ||| shN f)).1 e = p.1 e from upd_ne ec]
    refine fin _ _ rfl rfl (fun e he hne => ?_) ⟨hc, ha, mc, hB', Or.inl ⟨hnone, hmu, fun e g he => ?_⟩⟩
    · rw [hmu e he] at hne ⊢
      by_cases ec : e = c
      · subst ec; rw [if_pos rfl]; exact bf
      · rw [if_neg ec] at hne ⊢; exact bo e he hne ec
    · unfold RR
      rw [hmu e he, hbS e g he]
      by_cases ec : e = c
      · subst ec
        rw [if_pos rfl, mc]
        by_cases fg : f = g
        · subst fg
          have : bitS F (p.2 e) f = false := hB.2.2.1
          simp [this]
        · by_cases g0 : 0 = g
          · subst g0; simp [bitS]
          · simp [fg, g0]
      · rw [if_neg ec]; simp [ec]
  · rename_i o ho
    obtain ⟨o1, o2, o3⟩ := fstO_some n 0 o ho
    have ho' : o < n := by omega
    have mo : muR p o = f := (muR_eq hF hb ho' f1 (by omega)).mpr (of_decide_eq_true o3)
    have hoc : o ≠ c := fun q => by subst q; rw [mc] at mo; omega
    split at h
    · rename_i hpr
      cases h
      have hmu : ∀ e, muR (p.1, upd p.2 c (p.2 c ||| shN f)) e = muR p e := fun e => rfl
      refine fin _ _ rfl rfl (fun e he hne => ?_) ⟨hc, ha, mc, hB', Or.inr (Or.inl ⟨o, ho', mo, hpr, fun e _ => rfl, fun e g he => ?_⟩)⟩
      · rw [hmu e] at hne ⊢
        by_cases ec : e = c
        · subst ec; rw [mc] at hne; exact (hne rfl).elim
        · exact bo e he hne ec
      · unfold RR
        rw [hmu e, hbS e g he]
        by_cases ec : e = c
        · subst ec
          rw [mc]
          by_cases fg : f = g
          · subst fg
            have : ¬ 0 = f := by omega
            simp [this]
          · have : ¬ g = f := fun q => fg q.symm
            simp [fg, this]
        · simp [ec]
    · rename_i hpr
      cases h
      have hpr2 : gPr s f c o := by
        by_cases z : lcF s f o < lcF s f c
        · exact Or.inl z
        · right
          by_cases z2 : lcF s f c = lcF s f o
          · refine ⟨z2, ?_⟩
            apply Classical.byContradiction
            intro q
            exact hpr (Or.inr ⟨z2.symm, by omega⟩)
          · exact (hpr (Or.inl (Int32.lt_of_le_of_ne (Int32.not_lt.mp z) z2))).elim
      have hmu : ∀ e, e < n → muR (upd (upd p.1 o (-1)) c (nI f), upd p.2 c (p.2 c ||| shN f)) e = if e = c then f else if e = o then 0 else muR p e := fun e he => by
        by_cases ec : e = c
        · subst ec
          rw [if_pos rfl]
          exact muR_n (by omega) upd_self
        · rw [if_neg ec]
          by_cases eo : e = o
          · subst eo
            rw [if_pos rfl]
            refine muR_m ?_
            show upd (upd p.1 e (-1)) c (nI f) e = -1
            rw [upd_ne ec, upd_self]
          · rw [if_neg eo]
            unfold muR
            rw [show (upd (upd p.1 o (-1)) c (nI f), upd p.2 c (p.2 c ||| shN f)).1 e = p.1 e from (upd_ne ec).trans (upd_ne eo)]
      refine fin _ _ rfl rfl (fun e he hne => ?_) ⟨hc, ha, mc, hB', Or.inr (Or.inr ⟨o, ho', mo, hpr2, hmu, fun e g he => ?_⟩)⟩
      · rw [hmu e he] at hne ⊢
        by_cases ec : e = c
        · subst ec; rw [if_pos rfl]; exact bf
        · rw [if_neg ec] at hne ⊢
          by_cases eo : e = o
          · rw [if_pos eo] at hne; exact (hne rfl).elim
          · rw [if_neg eo] at hne ⊢; exact bo e he hne ec
      · unfold RR
        rw [hmu e he, hbS e g he]
        by_cases ec : e = c
        · subst ec
          have eo : ¬ e = o := fun q => hoc q.symm
          rw [if_pos rfl, mc]
          by_cases fg : f = g
          · subst fg
            have : bitS F (p.2 e) f = false := hB.2.2.1
            simp [this, eo]
          · by_cases g0 : 0 = g
            · subst g0; simp [bitS, eo]
            · simp [fg, g0, eo]
        · rw [if_neg ec]
          by_cases eo : e = o
          · subst eo
            rw [if_pos rfl, mo]
            have hbo := hown e he (by omega)
            rw [mo] at hbo
            by_cases fg : f = g
            · subst fg
              have : ¬ 0 = f := by omega
              simp [this, ec, bitS_in f1 fF, hbo]
            · have : ¬ g = f := fun q => fg q.symm
              by_cases g0 : 0 = g
              · subst g0; simp [bitS, ec, this]
              · simp [fg, this, ec, g0]
          · rw [if_neg eo]; simp [ec, eo]
theorem ask_none {s : Nat → Int32} {n F c : Nat} {p : (Nat → Int32) × (Nat → Int32)} (h : askF s F n c p = none) : ∀ g, 1 ≤ g → g ≤ F → bitF (p.2 c) (nI g) = true := by
  unfold askF at h
  rcases bestN_B (s := s) (ab := p.2 c) (c := c) (F := F) with ⟨_, q⟩ | hB
  · exact q
  · rw [if_neg (by have := hB.1; omega)] at h
    split at h
    · cases h
    · split at h <;> cases h
theorem pass_rf {s : Nat → Int32} {n F : Nat} (hF : F ≤ 8) : ∀ (k c : Nat) (p : (Nat → Int32) × (Nat → Int32)) (mo : Bool), c + k = n → gRf s n F p → gRf s n F (passF s F n c k p mo).1 ∧ ((passF s F n c k p mo).2 = false → mo = false ∧ (passF s F n c k p mo).1 = p ∧ ∀ e, c ≤ e → e < n → p.1 e = -1 → gAct s e → ∀ g, 1 ≤ g → g ≤ F → bitF (p.2 e) (nI g) = true)
  | 0, c, p, mo, hc, hp => ⟨hp, fun h => ⟨h, rfl, fun e h1 h2 => by omega⟩⟩
  | k + 1, c, p, mo, hc, hp => by
    rw [passF]
    by_cases z1 : nI 0 ≤ p.1 c
    · rw [if_pos z1]
      obtain ⟨a, b⟩ := pass_rf hF k (c + 1) p mo (by omega) hp
      refine ⟨a, fun h => ?_⟩
      obtain ⟨b1, b2, b3⟩ := b h
      refine ⟨b1, b2, fun e h1 h2 h3 => ?_⟩
      by_cases ec : e = c
      · subst ec; rw [h3, m1_ge0] at z1; exact z1.elim
      · exact b3 e (by omega) h2 h3
    · rw [if_neg z1]
      by_cases z2 : s (90 + c) < nI 0
      · rw [if_pos z2]
        obtain ⟨a, b⟩ := pass_rf hF k (c + 1) p mo (by omega) hp
        refine ⟨a, fun h => ?_⟩
        obtain ⟨b1, b2, b3⟩ := b h
        refine ⟨b1, b2, fun e h1 h2 h3 h4 => ?_⟩
        by_cases ec : e = c
        · subst ec; exact (h4 z2).elim
        · exact b3 e (by omega) h2 h3 h4
      · rw [if_neg z2]
        have hm : p.1 c = -1 := by
          rcases (hp.1 c (by omega)).1 with e | ⟨f, f1, f2, e⟩
          · exact e
          · rw [e] at z1; exact absurd (nI_le (by omega) (by omega)) z1
        split
        · rename_i hn
          obtain ⟨a, b⟩ := pass_rf hF k (c + 1) p mo (by omega) hp
          refine ⟨a, fun h => ?_⟩
          obtain ⟨b1, b2, b3⟩ := b h
          refine ⟨b1, b2, fun e h1 h2 h3 h4 => ?_⟩
          by_cases ec : e = c
          · subst ec; exact ask_none hn
          · exact b3 e (by omega) h2 h3 h4
        · rename_i p' hs
          obtain ⟨a, b⟩ := pass_rf hF k (c + 1) p' true (by omega) (ask_step hF (by omega) hp hm z2 hs)
          exact ⟨a, fun h => by cases (b h).1⟩
theorem barg_rf {s : Nat → Int32} {n F : Nat} (hF : F ≤ 8) : ∀ (k : Nat) (p : (Nat → Int32) × (Nat → Int32)), muB F p.2 n < k → gRf s n F p → gRf s n F (bargF s F n k p) ∧ gFin n F (gAct s) (gBt s) (gPr s) (muR (bargF s F n k p)) (RR F (bargF s F n k p))
  | 0, p, h, _ => by omega
  | k + 1, p, h, hp => by
    rw [bargF]
    obtain ⟨a, b⟩ := pass_rf (s := s) hF n 0 p false (by omega) hp
    obtain ⟨_, m1, m2⟩ := passF_ok (s := s) hF n 0 p false (by omega) hp.1
    cases e : (passF s F n 0 n p false).2
    · simp only [Bool.false_eq_true, if_false]
      refine ⟨a, a.2.1, fun c hc hac hmc f f1 f2 => ?_⟩
      obtain ⟨_, b2, b3⟩ := b e
      rw [b2] at hmc ⊢
      have hm : p.1 c = -1 := by
        rcases (hp.1 c hc).1 with q | ⟨g, g1, g2, q⟩
        · exact q
        · rw [muR_n (by omega) q] at hmc; omega
      have := b3 c (Nat.zero_le _) hc hm hac f f1 f2
      unfold RR
      rw [hmc, bitS_in f1 f2, this]
      have : ¬ 0 = f := by omega
      simp [this]
    · simp only [if_true]
      rcases m2 e with q | q
      · cases q
      · exact barg_rf hF k _ (by omega) a
theorem gRf_init {s : Nat → Int32} {n F : Nat} {p : (Nat → Int32) × (Nat → Int32)} (h1 : ∀ c, c < n → p.1 c = -1) (h2 : ∀ c, c < n → p.2 c = nI 0) : gRf s n F p := by
  have e1 : ∀ c, c < n → muR p c = 0 := fun c hc => muR_m (h1 c hc)
  have e0 : ∀ f, 1 ≤ f → bitF (nI 0) (nI f) = false := fun f hf => by
    unfold bitF
    rw [nI_0, show (0 : Int32) >>> (nI f &&& 31) = 0 from Int32.zero_shiftRight, Int32.zero_and]
    decide +kernel
  have e2 : ∀ c f, c < n → RR F p c f = false := fun c f hc => by
    unfold RR bitS
    rw [h2 c hc]
    by_cases f1 : 1 ≤ f
    · rw [e0 f f1]; simp
    · simp [f1]
  refine ⟨fun c hc => ⟨Or.inl (h1 c hc), 0, by decide, h2 c hc⟩, ⟨fun c hc h => absurd (e1 c hc) h, fun c f hc h => ?_, fun c e hc he h => absurd (e1 c hc) h, fun c f hc h => ?_⟩, fun c hc h => absurd (e1 c hc) h, fun mu2 R2 _ c f hc h => ?_⟩
  · rw [e2 c f hc] at h; cases h
  · rw [e2 c f hc] at h; cases h
  · rw [e2 c f hc] at h; cases h
