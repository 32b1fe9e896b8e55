/-! Bargains: whoever asks first, the end is the same -/
section GS
variable {n F : Nat} {act : Nat → Prop} {bt : Nat → Nat → Nat → Prop} {pr : Nat → Nat → Nat → Prop}
/-- f is the best floor of c that is not in S; bt c f g: c likes f better than g -/
def isB (F : Nat) (bt : Nat → Nat → Nat → Prop) (c : Nat) (S : Nat → Bool) (f : Nat) : Prop := 1 ≤ f ∧ f ≤ F ∧ S f = false ∧ ∀ g, 1 ≤ g → g ≤ F → S g = false → g = f ∨ bt c f g
/-- pr f o c: the floor f likes o better than c -/
def gInv (n F : Nat) (act : Nat → Prop) (bt pr : Nat → Nat → Nat → Prop) (mu : Nat → Nat) (R : Nat → Nat → Bool) : Prop :=
  (∀ c, c < n → mu c ≠ 0 → act c ∧ isB F bt c (R c) (mu c)) ∧ (∀ c f, c < n → R c f = true → ∃ o, o < n ∧ o ≠ c ∧ mu o = f ∧ pr f o c) ∧ (∀ c e, c < n → e < n → mu c ≠ 0 → mu c = mu e → c = e) ∧ ∀ c f, c < n → R c f = true → f ≠ 0 ∧ act c
def gFin (n F : Nat) (act : Nat → Prop) (bt pr : Nat → Nat → Nat → Prop) (mu : Nat → Nat) (R : Nat → Nat → Bool) : Prop :=
  gInv n F act bt pr mu R ∧ ∀ c, c < n → act c → mu c = 0 → ∀ f, 1 ≤ f → f ≤ F → R c f = true
def gLe (n : Nat) (R R2 : Nat → Nat → Bool) : Prop := ∀ c f, c < n → R c f = true → R2 c f = true
def gStep (n F : Nat) (act : Nat → Prop) (bt pr : Nat → Nat → Nat → Prop) (mu : Nat → Nat) (R : Nat → Nat → Bool) (c f : Nat) (mu' : Nat → Nat) (R' : Nat → Nat → Bool) : Prop :=
  c < n ∧ act c ∧ mu c = 0 ∧ isB F bt c (R c) f ∧
  (((∀ o, o < n → mu o ≠ f) ∧ (∀ e, e < n → mu' e = if e = c then f else mu e) ∧ (∀ e g, e < n → R' e g = R e g)) ∨
   (∃ o, o < n ∧ mu o = f ∧ pr f o c ∧ (∀ e, e < n → mu' e = mu e) ∧ (∀ e g, e < n → R' e g = (R e g || (decide (e = c) && decide (g = f))))) ∨
   (∃ o, o < n ∧ mu o = f ∧ pr f c o ∧ (∀ e, e < n → mu' e = if e = c then f else if e = o then 0 else mu e) ∧ (∀ e g, e < n → R' e g = (R e g || (decide (e = o) && decide (g = f))))))
theorem isB_uniq (hirr : ∀ c f g, bt c f g → bt c g f → False) {c f g : Nat} {S : Nat → Bool} (h1 : isB F bt c S f) (h2 : isB F bt c S g) : f = g := by
  rcases h1.2.2.2 g h2.1 h2.2.1 h2.2.2.1 with e | e
  · exact e.symm
  · rcases h2.2.2.2 f h1.1 h1.2.1 h1.2.2.1 with e2 | e2
    · exact e2
    · exact (hirr _ _ _ e e2).elim
/-- x and y both would have f, f likes y better: in every end x is refused by f -/
theorem gs_key (hirr : ∀ c f g, bt c f g → bt c g f → False) (hpi : ∀ f c o, pr f c o → pr f o c → False) {mu2 : Nat → Nat} {R R2 : Nat → Nat → Bool} (hf2 : gFin n F act bt pr mu2 R2) (hle : gLe n R R2) {x y f : Nat} (hx : x < n) (hy : y < n) (ax : act x) (ay : act y) (hxy : x ≠ y) (bx : isB F bt x (R x) f) (by_ : isB F bt y (R y) f) (hp : pr f y x) : R2 x f = true := by
  obtain ⟨⟨i1, i2, i3, i4⟩, hfin⟩ := hf2
  have lift : ∀ z, z < n → isB F bt z (R z) f → R2 z f = false → isB F bt z (R2 z) f := fun z hz hb h0 =>
    ⟨hb.1, hb.2.1, h0, fun g g1 g2 g3 => hb.2.2.2 g g1 g2 (by
      cases e : R z g
      · rfl
      · rw [hle z g hz e] at g3; cases g3)⟩
  have mat : ∀ z, z < n → act z → isB F bt z (R z) f → R2 z f = false → mu2 z = f := fun z hz az hb h0 => by
    have hb2 := lift z hz hb h0
    by_cases e : mu2 z = 0
    · rw [hfin z hz az e f hb.1 hb.2.1] at h0; cases h0
    · exact isB_uniq hirr (i1 z hz e).2 hb2
  cases e : R2 x f
  · have mx := mat x hx ax bx e
    cases e2 : R2 y f
    · have my := mat y hy ay by_ e2
      exact (hxy (i3 x y hx hy (by rw [mx]; exact Nat.ne_of_gt bx.1) (by rw [mx, my]))).elim
    · obtain ⟨o, ho, hoy, mo, po⟩ := i2 y f hy e2
      have : o = x := i3 o x ho hx (by rw [mo]; exact Nat.ne_of_gt bx.1) (by rw [mo, mx])
      subst this
      exact (hpi _ _ _ hp po).elim
  · rfl
theorem gs_step (hirr : ∀ c f g, bt c f g → bt c g f → False) (hpi : ∀ f c o, pr f c o → pr f o c → False) (hpt : ∀ f a b c, pr f a b → pr f b c → pr f a c) {mu mu' : Nat → Nat} {R R' : Nat → Nat → Bool} {c f : Nat} (hi : gInv n F act bt pr mu R) (hs : gStep n F act bt pr mu R c f mu' R') : gInv n F act bt pr mu' R' ∧ ∀ (mu2 : Nat → Nat) (R2 : Nat → Nat → Bool), gFin n F act bt pr mu2 R2 → gLe n R R2 → gLe n R' R2 := by
  obtain ⟨i1, i2, i3, i4⟩ := hi
  obtain ⟨hc, ac, mc, bc, h | h | h⟩ := hs
  · obtain ⟨h1, h2, h3⟩ := h
    refine ⟨⟨fun e he hne => ?_, fun e g he hr => ?_, fun e e' he he' hne heq => ?_, fun e g he hr => i4 e g he (by rw [← h3 e g he]; exact hr)⟩, fun mu2 R2 _ hle e g he hr => hle e g he (by rw [← h3 e g he]; exact hr)⟩
    · have hR : R' e = R e := funext (fun g => h3 e g he)
      rw [h2 e he] at hne ⊢
      rw [hR]
      by_cases ec : e = c
      · subst ec; rw [if_pos rfl]; exact ⟨ac, bc⟩
      · rw [if_neg ec] at hne ⊢; exact i1 e he hne
    · rw [h3 e g he] at hr
      obtain ⟨o, ho, hoe, mo, po⟩ := i2 e g he hr
      refine ⟨o, ho, hoe, ?_, po⟩
      rw [h2 o ho, if_neg (fun q => ?_)]
      · exact mo
      · subst q; rw [mc] at mo; exact (i4 e g he hr).1 mo.symm
    · rw [h2 e he] at hne heq
      rw [h2 e' he'] at heq
      by_cases ec : e = c
      · subst ec
        rw [if_pos rfl] at heq
        by_cases ec' : e' = e
        · exact ec'.symm
        · rw [if_neg ec'] at heq; exact (h1 e' he' heq.symm).elim
      · rw [if_neg ec] at heq hne
        by_cases ec' : e' = c
        · subst ec'; rw [if_pos rfl] at heq; exact (h1 e he heq).elim
        · rw [if_neg ec'] at heq; exact i3 e e' he he' hne heq
  · obtain ⟨o, ho, mo, po, h2, h3⟩ := h
    have hoc : o ≠ c := fun q => by subst q; rw [mc] at mo; have := bc.1; omega
    have f0 : f ≠ 0 := Nat.ne_of_gt bc.1
    refine ⟨⟨fun e he hne => ?_, fun e g he hr => ?_, fun e e' he he' hne heq => ?_, fun e g he hr => ?_⟩, fun mu2 R2 hf2 hle e g he hr => ?_⟩
    · rw [h2 e he] at hne ⊢
      by_cases ec : e = c
      · subst ec; rw [mc] at hne; exact (hne rfl).elim
      · have hR : R' e = R e := funext (fun g => by rw [h3 e g he]; simp [ec])
        rw [hR]; exact i1 e he hne
    · rw [h3 e g he, Bool.or_eq_true] at hr
      rcases hr with hr | hr
      · obtain ⟨o', q1, q2, q3, q4⟩ := i2 e g he hr
        exact ⟨o', q1, q2, by rw [h2 o' q1]; exact q3, q4⟩
      · simp only [Bool.and_eq_true, decide_eq_true_eq] at hr
        obtain ⟨rfl, rfl⟩ := hr
        exact ⟨o, ho, hoc, by rw [h2 o ho]; exact mo, po⟩
    · rw [h2 e he] at hne heq
      rw [h2 e' he'] at heq
      exact i3 e e' he he' hne heq
    · rw [h3 e g he, Bool.or_eq_true] at hr
      rcases hr with hr | hr
      · exact i4 e g he hr
      · simp only [Bool.and_eq_true, decide_eq_true_eq] at hr
        obtain ⟨rfl, rfl⟩ := hr
        exact ⟨f0, ac⟩
    · rw [h3 e g he, Bool.or_eq_true] at hr
      rcases hr with hr | hr
      · exact hle e g he hr
      · simp only [Bool.and_eq_true, decide_eq_true_eq] at hr
        obtain ⟨rfl, rfl⟩ := hr
        have hmo := i1 o ho (by rw [mo]; exact f0)
        rw [mo] at hmo
        exact gs_key hirr hpi hf2 hle hc ho ac hmo.1 (Ne.symm hoc) bc hmo.2 po
  · obtain ⟨o, ho, mo, po, h2, h3⟩ := h
    have hoc : o ≠ c := fun q => by subst q; rw [mc] at mo; have := bc.1; omega
    have f0 : f ≠ 0 := Nat.ne_of_gt bc.1
    have hmo := i1 o ho (by rw [mo]; exact f0)
    rw [mo] at hmo
    refine ⟨⟨fun e he hne => ?_, fun e g he hr => ?_, fun e e' he he' hne heq => ?_, fun e g he hr => ?_⟩, fun mu2 R2 hf2 hle e g he hr => ?_⟩
    · rw [h2 e he] at hne ⊢
      by_cases eo : e = o
      · subst eo; rw [if_neg hoc, if_pos rfl] at hne; exact (hne rfl).elim
      · have hR : R' e = R e := funext (fun g => by rw [h3 e g he]; simp [eo])
        rw [hR]
        by_cases ec : e = c
        · subst ec; rw [if_pos rfl]; exact ⟨ac, bc⟩
        · rw [if_neg ec, if_neg eo] at hne ⊢; exact i1 e he hne
    · rw [h3 e g he, Bool.or_eq_true] at hr
      rcases hr with hr | hr
      · obtain ⟨o', q1, q2, q3, q4⟩ := i2 e g he hr
        by_cases oo : o' = o
        · subst oo
          have gf : g = f := by rw [← q3, mo]
          subst gf
          by_cases ec : e = c
          · subst ec; rw [bc.2.2.1] at hr; cases hr
          · exact ⟨c, hc, fun q => ec q.symm, by rw [h2 c hc, if_pos rfl], hpt _ _ _ _ po q4⟩
        · refine ⟨o', q1, q2, ?_, q4⟩
          have hoc' : o' ≠ c := fun q => by subst q; rw [mc] at q3; exact (i4 e g he hr).1 q3.symm
          rw [h2 o' q1, if_neg hoc', if_neg oo]
          exact q3
      · simp only [Bool.and_eq_true, decide_eq_true_eq] at hr
        obtain ⟨rfl, rfl⟩ := hr
        exact ⟨c, hc, Ne.symm hoc, by rw [h2 c hc, if_pos rfl], po⟩
    · rw [h2 e he] at hne heq
      rw [h2 e' he'] at heq
      by_cases ec : e = c
      · subst ec
        rw [if_pos rfl] at heq
        by_cases ec' : e' = e
        · exact ec'.symm
        · rw [if_neg ec'] at heq
          by_cases eo' : e' = o
          · rw [if_pos eo'] at heq; exact (f0 heq).elim
          · rw [if_neg eo'] at heq
            exact (eo' (i3 o e' ho he' (by rw [mo]; exact f0) (by rw [mo, heq])).symm).elim
      · rw [if_neg ec] at heq hne
        by_cases eo : e = o
        · rw [if_pos eo] at hne; exact (hne rfl).elim
        · rw [if_neg eo] at heq hne
          by_cases ec' : e' = c
          · subst ec'
            rw [if_pos rfl] at heq
            exact (eo (i3 o e ho he (by rw [mo]; exact f0) (by rw [mo, heq])).symm).elim
          · rw [if_neg ec'] at heq
            by_cases eo' : e' = o
            · rw [if_pos eo'] at heq; exact (hne heq).elim
            · rw [if_neg eo'] at heq; exact i3 e e' he he' hne heq
    · rw [h3 e g he, Bool.or_eq_true] at hr
      rcases hr with hr | hr
      · exact i4 e g he hr
      · simp only [Bool.and_eq_true, decide_eq_true_eq] at hr
        obtain ⟨rfl, rfl⟩ := hr
        exact ⟨f0, hmo.1⟩
    · rw [h3 e g he, Bool.or_eq_true] at hr
      rcases hr with hr | hr
      · exact hle e g he hr
      · simp only [Bool.and_eq_true, decide_eq_true_eq] at hr
        obtain ⟨rfl, rfl⟩ := hr
        exact gs_key hirr hpi hf2 hle ho hc hmo.1 ac hoc hmo.2 bc po
theorem gs_eq (hirr : ∀ c f g, bt c f g → bt c g f → False) {mu mu2 : Nat → Nat} {R R2 : Nat → Nat → Bool} (h1 : gFin n F act bt pr mu R) (h2 : gFin n F act bt pr mu2 R2) (l1 : gLe n R R2) (l2 : gLe n R2 R) : ∀ c, c < n → mu c = mu2 c := by
  intro c hc
  have hR : R c = R2 c := funext (fun f => by
    cases e : R c f
    · cases e2 : R2 c f
      · rfl
      · rw [l2 c f hc e2] at e; cases e
    · exact (l1 c f hc e).symm)
  by_cases m1 : mu c = 0
  · by_cases m2 : mu2 c = 0
    · rw [m1, m2]
    · obtain ⟨a, b⟩ := h2.1.1 c hc m2
      have := h1.2 c hc a m1 (mu2 c) b.1 b.2.1
      rw [hR, b.2.2.1] at this; cases this
  · obtain ⟨a, b⟩ := h1.1.1 c hc m1
    by_cases m2 : mu2 c = 0
    · have := h2.2 c hc a m2 (mu c) b.1 b.2.1
      rw [← hR, b.2.2.1] at this; cases this
    · rw [hR] at b
      exact isB_uniq hirr b (h2.1.1 c hc m2).2
theorem g_init : gInv n F act bt pr (fun _ => 0) (fun _ _ => false) := ⟨fun c _ h => (h rfl).elim, fun c f _ h => (by cases h), fun c e _ _ h => (h rfl).elim, fun c f _ h => (by cases h)⟩
end GS
