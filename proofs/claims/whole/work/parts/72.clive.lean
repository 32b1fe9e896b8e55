/-! The class: a book lived -/
theorem hang_or : ∀ v, v < 32 → ∀ k, k < 5 → bitF (nI v) (nI k) = false → nI v ||| shN k = nI v ^^^ shN k := by decide +kernel
theorem hang_and : ∀ v, v < 32 → ∀ k, k < 5 → bitF (nI v) (nI k) = true → nI v &&& (shN k ^^^ (-1)) = nI v ^^^ shN k := by decide +kernel
theorem hang_lt : ∀ v, v < 32 → ∀ k, k < 5 → ∃ x, x < 32 ∧ nI v ^^^ shN k = nI x := by
  intro v hv k hk
  refine ⟨v ^^^ 2 ^ k, Nat.xor_lt_two_pow (n := 5) hv (Nat.pow_lt_pow_right (by decide) hk), ?_⟩
  have : shN k = nI (2 ^ k) := sh_pow k (by omega)
  rw [this, nI_xor]
theorem goF_hours {n : Nat} : ∀ (k dn H : Nat) (s : Nat → Int32), s 85 = nI H → H + k ≤ 400 → goF n k s dn = (hoursF n k s, dn + k)
  | 0, dn, H, s, _, _ => rfl
  | k + 1, dn, H, s, h, hk => by
    rw [goF, h, if_pos (nI_lt (by omega) (by omega)), goF_hours k (dn + 1) (H + 1) _ (by rw [hourF, upd_self, h, nI_add]) (by omega), hoursF]
    congr 1
    omega
/-- what lines of a book rest on -/
def lWF (s : Nat → Int32) (F n U : Nat) : Prop := hWF s F n U ∧ (∃ v, v < 32 ∧ s 88 = nI v) ∧ ∃ H, H ≤ 400 ∧ s 85 = nI H
theorem bv_whySend {s : Nat → Int32} {n c : Nat} {f : Int32} : whySendF s n c f = nI 0 ∨ whySendF s n c f = nI 1 ∨ whySendF s n c f = nI 2 ∨ whySendF s n c f = nI 3 := by
  unfold whySendF
  repeat' split
  all_goals simp
theorem bv_whyServe {s : Nat → Int32} {c : Nat} : whyServeF s c = nI 0 ∨ whyServeF s c = nI 1 ∨ whyServeF s c = nI 2 := by
  unfold whyServeF
  repeat' split
  all_goals simp
theorem does_why {s : Nat → Int32} {F n U e k f : Nat} (hl : lWF s F n U) (hd : dOk F n U e k (nI f)) : (doesF s n U e k (nI f)).1 = (if whyF s n e k f = nI 0 then nI 0 else nI 10 * nI e + whyF s n e k f) ∧ (whyF s n e k f = nI 0 → (doesF s n U e k (nI f)).2 = actF s n U e k f) ∧ (¬ whyF s n e k f = nI 0 → (doesF s n U e k (nI f)).2 = s) ∧ ∃ x, x < 60 ∧ (doesF s n U e k (nI f)).1 = nI x := by
  obtain ⟨hw, ⟨v, hv, e88⟩, H, hH, e85⟩ := hl
  obtain ⟨d0, d1, d2, d3, d4⟩ := hd
  have hU := hw.1.2.2.2.2.2.1
  rcases (show e = 0 ∨ e = 1 ∨ e = 2 ∨ e = 3 ∨ e = 4 ∨ e = 5 by omega) with rfl | rfl | rfl | rfl | rfl | rfl
  · rw [whyF_0, actF_0]
    simp only [doesF, if_true]
    by_cases z : whySendF s n k (nI f) = nI 0
    · simp only [z, if_true]
      exact ⟨trivial, fun _ => trivial, fun q => absurd trivial q, 0, by decide, rfl⟩
    · simp only [z, if_false]
      refine ⟨?_, fun q => q.elim, fun _ => trivial, ?_⟩
      · have : nI 10 * nI 0 = 0 := by decide +kernel
        rw [this, Int32.zero_add]
      · rcases bv_whySend (s := s) (n := n) (c := k) (f := nI f) with q | q | q | q
        · exact absurd q z
        · exact ⟨1, by decide, q⟩
        · exact ⟨2, by decide, q⟩
        · exact ⟨3, by decide, q⟩
  · have hk := d2 (Or.inl rfl)
    rw [whyF_1, actF_1]
    simp only [doesF, Nat.reduceEqDiff, if_false, true_or, if_true, decide_true]
    cases hb : bitF (s 88) (nI k)
    · simp only [Bool.false_eq_true, if_false]
      have z : zI false = nI 0 := rfl
      rw [z]
      simp only [if_true]
      refine ⟨trivial, fun _ => ?_, fun q => absurd trivial q, 0, by decide, rfl⟩
      rw [e88] at hb ⊢
      rw [hang_or v hv k (by omega) hb]
      rfl
    · simp only [if_true]
      have z : zI true = nI 1 := rfl
      rw [z]
      simp only [n10, if_false]
      exact ⟨by decide +kernel, fun q => q.elim, fun _ => trivial, 11, by decide, rfl⟩
  · have hk := d2 (Or.inr rfl)
    rw [whyF_2, actF_2]
    simp only [doesF, Nat.reduceEqDiff, if_false, or_true, if_true, decide_false]
    cases hb : bitF (s 88) (nI k)
    · simp only [if_true]
      have z : zI (!false) = nI 1 := rfl
      rw [z]
      simp only [n10, if_false]
      exact ⟨by decide +kernel, fun q => q.elim, fun _ => trivial, 21, by decide, rfl⟩
    · simp only [Bool.true_eq_false, if_false]
      have z : zI (!true) = nI 0 := rfl
      rw [z]
      simp only [if_true]
      refine ⟨trivial, fun _ => ?_, fun q => absurd trivial q, 0, by decide, rfl⟩
      rw [e88] at hb ⊢
      rw [hang_and v hv k (by omega) hb]
      rfl
  · rw [whyF_3, actF_3]
    simp only [doesF, Nat.reduceEqDiff, if_false, or_self, if_true]
    rcases bv_whyServe (s := s) (c := k) with q | q | q
    · rw [q]
      simp only [if_true]
      rw [if_pos (nI_le (by omega) (by omega))]
      exact ⟨rfl, fun _ => rfl, fun q => absurd trivial q, 0, by decide, rfl⟩
    · rw [q]
      simp only [n10, if_false]
      rw [if_neg (nI_ge (by omega) (by omega))]
      exact ⟨(show nI 30 + nI 1 = nI 10 * nI 3 + nI 1 by decide +kernel), fun q => q.elim, fun _ => rfl, 31, by decide, (show nI 30 + nI 1 = nI 31 by decide +kernel)⟩
    · rw [q]
      have z : (nI 2 = nI 0) = False := by simp; decide +kernel
      simp only [z, if_false]
      rw [if_neg (nI_ge (by omega) (by omega))]
      exact ⟨(show nI 30 + nI 2 = nI 10 * nI 3 + nI 2 by decide +kernel), fun q => q.elim, fun _ => rfl, 32, by decide, (show nI 30 + nI 2 = nI 32 by decide +kernel)⟩
  · rw [whyF_4, actF_4]
    simp only [doesF, Nat.reduceEqDiff, if_false, or_self, if_true]
    by_cases z : s (90 + k) < nI 0
    · simp only [z, if_true]
      exact ⟨trivial, fun _ => trivial, fun q => absurd trivial q, 0, by decide, rfl⟩
    · simp only [z, if_false, n10]
      exact ⟨by decide +kernel, fun q => q.elim, fun _ => trivial, 41, by decide, rfl⟩
  · have hk := d4 rfl
    rw [whyF_5, actF_5]
    simp only [doesF, Nat.reduceEqDiff, if_false, or_self]
    rw [e85, nI_add, nI_sub hH]
    by_cases z : H + k ≤ 400
    · rw [if_pos (nI_le z (by omega)), if_neg (nI_nlt (by omega) (by omega))]
      simp only [if_true]
      refine ⟨trivial, fun _ => ?_, fun q => absurd trivial q, 0, by decide, rfl⟩
      rw [goF_hours k 0 H s e85 z]
    · rw [if_neg (nI_ge (by omega) (by omega)), if_pos (nI_lt (by omega) (by omega))]
      simp only [n10, if_false]
      exact ⟨by decide +kernel, fun q => q.elim, fun _ => trivial, 51, by decide, rfl⟩
theorem hours_85 {n : Nat} : ∀ (k H : Nat) (s : Nat → Int32), s 85 = nI H → hoursF n k s 85 = nI (H + k)
  | 0, H, s, h => h
  | k + 1, H, s, h => by
    rw [hoursF, hours_85 k (H + 1) _ (by rw [hourF, upd_self, h, nI_add])]
    congr 1; omega
theorem hours_88 {n : Nat} : ∀ (k : Nat) (s : Nat → Int32) (j : Nat), j < 96 → j ≠ 85 → hoursF n k s j = s j
  | 0, s, j, _, _ => rfl
  | k + 1, s, j, h1, h2 => by rw [hoursF, hours_88 k _ j h1 h2, hourF_lo h1 h2]
theorem hWF_hours {F n U : Nat} : ∀ (k : Nat) (s : Nat → Int32), hWF s F n U → hWF (hoursF n k s) F n U
  | 0, _, h => h
  | k + 1, s, h => hWF_hours k _ (hWF_hour h)
theorem retN_v {s : Nat → Int32} {c : Nat} (hc : c < 6) (h : vOk s) : ∀ g, g ≤ 4 → vOk (retN s c g)
  | 0, _ => by
    rw [retN]
    exact vOk_upd (vOk_upd h (v := 0) (by decide)) (v := 0) (by decide)
  | g + 1, hg => by
    rw [retN]
    exact vOk_upd (retN_v hc h g (by omega)) (v := 0) (by decide)
theorem hWF_ret {s : Nat → Int32} {F n U c : Nat} (h : hWF s F n U) (hc : c < 6) : hWF (retN s c 4) F n U :=
  hWF_mv h (mWF_at (c := c) h.1 (fun j h1 h2 h3 => retN_off h1 h2 4) (Or.inr ⟨0, Nat.zero_le _, retN_at hc 4 (Nat.le_refl _)⟩)) (fun j hj => retN_off (by omega) (by omega) 4) (retN_v hc h.2.2.1 4 (Nat.le_refl _))
theorem hWF_88 {s : Nat → Int32} {F n U : Nat} {x : Int32} (h : hWF s F n U) : hWF (upd s 88 x) F n U :=
  hWF_mv h (mWF_88 h.1) (fun j hj => upd_ne (by omega)) (vOk_of h.2.2.1 (fun j h1 h2 h3 => upd_ne (by omega)))
theorem send_88 {s : Nat → Int32} {U c : Nat} {f : Int32} {j : Nat} (hj : j = 85 ∨ j = 88) : sendF s U c f j = s j := by
  unfold sendF
  split <;> rcases hj with rfl | rfl <;> simp (disch := omega) only [upd_ne]
theorem lWF_act {s : Nat → Int32} {F n U e k f : Nat} (hl : lWF s F n U) (hd : dOk F n U e k (nI f)) (hf : f ≤ F) (hy : whyF s n e k f = nI 0) : lWF (actF s n U e k f) F n U := by
  obtain ⟨hw, ⟨v, hv, e88⟩, H, hH, e85⟩ := hl
  obtain ⟨d0, d1, d2, d3, d4⟩ := hd
  have hU := hw.1.2.2.2.2.2.1
  have hn := hw.1.2.2.2.1
  rcases (show e = 0 ∨ e = 1 ∨ e = 2 ∨ e = 3 ∨ e = 4 ∨ e = 5 by omega) with rfl | rfl | rfl | rfl | rfl | rfl
  · rw [actF_0]
    have := (d1 rfl).1
    exact ⟨hWF_send hw (by omega) hf, ⟨v, hv, by rw [send_88 (Or.inr rfl), e88]⟩, H, hH, by rw [send_88 (Or.inl rfl), e85]⟩
  · rw [actF_1]
    have hk := d2 (Or.inl rfl)
    rw [whyF_1] at hy
    have hb : bitF (s 88) (nI k) = false := by
      cases q : bitF (s 88) (nI k)
      · rfl
      · rw [q] at hy; exact (by rw [show zI true = nI 1 from rfl, n10] at hy; exact hy.elim)
    rw [e88] at hb ⊢
    rw [hang_or v hv k (by omega) hb]
    obtain ⟨x, hx, ex⟩ := hang_lt v hv k (by omega)
    exact ⟨hWF_88 hw, ⟨x, hx, by rw [upd_self, ex]⟩, H, hH, by rw [upd_ne (by omega), e85]⟩
  · rw [actF_2]
    have hk := d2 (Or.inr rfl)
    rw [whyF_2] at hy
    have hb : bitF (s 88) (nI k) = true := by
      cases q : bitF (s 88) (nI k)
      · rw [q] at hy; exact (by rw [show zI (!false) = nI 1 from rfl, n10] at hy; exact hy.elim)
      · rfl
    rw [e88] at hb ⊢
    rw [hang_and v hv k (by omega) hb]
    obtain ⟨x, hx, ex⟩ := hang_lt v hv k (by omega)
    exact ⟨hWF_88 hw, ⟨x, hx, by rw [upd_self, ex]⟩, H, hH, by rw [upd_ne (by omega), e85]⟩
  · rw [actF_3]
    have := d3 (Or.inl rfl)
    exact ⟨hWF_serve hw (by omega), ⟨v, hv, by rw [upd_ne (by omega), e88]⟩, H, hH, by rw [upd_ne (by omega), e85]⟩
  · rw [actF_4]
    have := d3 (Or.inr rfl)
    exact ⟨hWF_ret hw (by omega), ⟨v, hv, by rw [retN_off (by omega) (by omega), e88]⟩, H, hH, by rw [retN_off (by omega) (by omega), e85]⟩
  · rw [actF_5]
    rw [whyF_5, e85, nI_sub hH] at hy
    have hk := d4 rfl
    have hz : H + k ≤ 400 := by
      apply Classical.byContradiction
      intro q
      rw [if_pos (nI_lt (by omega) (by omega)), n10] at hy
      exact hy
    exact ⟨hWF_hours k s hw, ⟨v, hv, by rw [hours_88 k s 88 (by omega) (by omega), e88]⟩, H + k, hz, hours_85 k H s e85⟩
theorem act_lo {s : Nat → Int32} {n U e k f j : Nat} (hj : j < 85) : actF s n U e k f j = s j := by
  unfold actF
  repeat' split
  · exact sendF_lo (by omega) (by omega) (by omega)
  · exact upd_ne (by omega)
  · exact upd_ne (by omega)
  · exact upd_ne (by omega)
  · exact retN_off (by omega) (by omega) 4
  · exact hours_88 k s j (by omega) (by omega)
section CLv
variable {G : iG} {d : Nat} {h : iH} {a o t : Nat} {J : Nat → Int32} {B : Nat → Nat → Int32} {M : Nat → Nat → Int64} {F n U : Nat} {s w : Nat → Int32} {I : Nat → Int32} {A : Nat → Nat → Int32} {Q : Option Value → iH → Prop}
/-- the lines of the class's book are the reference's rows -/
def bkRl (A : Nat → Nat → Int32) (row : Nat → Int32) (F n U m : Nat) : Prop := ∀ i, i < m → ∃ e k f, A 1 i = nI e ∧ A 2 i = nI k ∧ A 3 i = nI f ∧ f ≤ F ∧ row (3 * i) = nI e ∧ row (3 * i + 1) = nI k ∧ k < 1000 ∧ dOk F n U e k (nI f) ∧ doesF = doesF ∧ (e = 0 → row (3 * i + 2) = nI f)
theorem does_f {s : Nat → Int32} {n U e k : Nat} {f g : Int32} (he : ¬ e = 0) : doesF s n U e k f = doesF s n U e k g := by
  simp only [doesF, he, if_false]
theorem dOk_k {F n U e k : Nat} {f : Int32} (h : dOk F n U e k f) : if e = 5 then k ≤ 60 else if e = 1 ∨ e = 2 then k < U else k < n := by
  obtain ⟨d0, d1, d2, d3, d4⟩ := h
  split
  · exact d4 ‹_›
  · split
    · exact d2 ‹_›
    · by_cases e0 : e = 0
      · exact (d1 e0).1
      · exact d3 (by omega)
theorem lv_up4 {I : Nat → Int32} {x y z : Int32} : va_up (va_up (va_up I 4 x) 5 y) 4 z = va_up (va_up I 4 z) 5 y := by
  funext j
  by_cases h4 : j = 4
  · subst h4; simp [va_up]
  · by_cases h5 : j = 5 <;> simp [va_up, h4, h5]
theorem l_live {m : Nat} {row : Nat → Int32} (hm : m ≤ 40) (hI3 : I 3 = nI m) (hb : bkRl A row F n U m) (hT : TW G h t J B M) (hd : a + 7 ≤ t ∨ t + 11 ≤ a) (ho : o + 4 ≤ t ∨ t + 11 ≤ o) (ho2 : o + 4 ≤ a ∨ a + 7 ≤ o) {r : (Nat → Int32) × (Nat → Int32) × Option Nat}
    (cont : ∀ i, lWF r.1 F n U → TS J B r.1 F n U → (r.2.2 = none → r.2.1 0 = nI 0) → (∀ q, r.2.2 = some q → ¬ r.2.1 0 = nI 0 ∧ r.2.1 1 = nI q) → K G (d + 5) 0 0 mX1_live 115 [some (.ref o), some (.ref t), some (.ref a), some (.int i), none] [] (boH G o (va_up (va_up I 4 (r.2.1 0)) 5 (r.2.1 1)) A (stH G a n r.1 w h)) Q)
    (cont2 : ∀ i q, lWF r.1 F n U → TS J B r.1 F n U → (r.2.2 = none → r.2.1 0 = nI 0) → (∀ q, r.2.2 = some q → ¬ r.2.1 0 = nI 0 ∧ r.2.1 1 = nI q) → K G (d + 5) 0 0 mX1_live 115 [some (.ref o), some (.ref t), some (.ref a), some (.int i), some (.int q)] [] (boH G o (va_up (va_up I 4 (r.2.1 0)) 5 (r.2.1 1)) A (stH G a n r.1 w h)) Q) : ∀ (k i : Nat) (s tt : Nat → Int32) (z : Option Value), i + k = m → lWF s F n U → TS J B s F n U → tt 0 = nI 0 → tt 1 = nI i → exN n U row k i s tt = r → (z = none ∨ ∃ q, z = some (.int q)) → K G (d + 5) 0 0 mX1_live 12 [some (.ref o), some (.ref t), some (.ref a), some (.int (nI i)), z] [] (boH G o (va_up (va_up I 4 (tt 0)) 5 (tt 1)) A (stH G a n s w h)) Q := by
  have hTb : ∀ s I, TW G (boH G o I A (stH G a n s w h)) t J B M := fun s I => Blk_ovl (TW_st hT hd) (by omega)
  have hAb : ∀ s I, Blk (boH G o I A (stH G a n s w h)) a 7 (stE G a n s w) := fun s I => Blk_ovl Blk_own (by omega)
  have eH : ∀ s s' I, stH G a n s' w (boH G o I A (stH G a n s w h)) = boH G o I A (stH G a n s' w h) := fun s s' I => by
    unfold stH boH
    rw [ovl_comm (by omega), ovl_ovl]
  have cont' : ∀ i z, (z = none ∨ ∃ q, z = some (.int q)) → lWF r.1 F n U → TS J B r.1 F n U → (r.2.2 = none → r.2.1 0 = nI 0) → (∀ q, r.2.2 = some q → ¬ r.2.1 0 = nI 0 ∧ r.2.1 1 = nI q) → K G (d + 5) 0 0 mX1_live 115 [some (.ref o), some (.ref t), some (.ref a), some (.int i), z] [] (boH G o (va_up (va_up I 4 (r.2.1 0)) 5 (r.2.1 1)) A (stH G a n r.1 w h)) Q := by
    intro i z hz
    rcases hz with rfl | ⟨q, rfl⟩
    · exact cont i
    · exact cont2 i q
  clear cont cont2
  intro k
  induction k with
  | zero =>
    intro i s tt z hi hl hS h0 h1 hr hz
    obtain rfl : i = m := by omega
    subst hr
    refine wp_ok (cuts := [115]) 30 _ _ _ _ ?_
    simp (config := { maxSteps := 2000000 }) (disch := omega) only [wp_su, wp_0, eX1_live_0, eX1_live_1, eX1_live_2, eX1_live_5, eX1_live_6, eX1_live_7, eX1_live_10, eX1_live_11, eX1_live_12, eX1_live_13, eX1_live_14, eX1_live_17, eX1_live_20, eX1_live_21, eX1_live_24, eX1_live_27, eX1_live_28, eX1_live_29, eX1_live_30, eX1_live_33, eX1_live_34, eX1_live_35, eX1_live_36, eX1_live_39, eX1_live_40, eX1_live_41, eX1_live_42, eX1_live_45, eX1_live_46, eX1_live_47, eX1_live_50, eX1_live_52, eX1_live_54, eX1_live_57, eX1_live_58, eX1_live_59, eX1_live_60, eX1_live_63, eX1_live_64, eX1_live_65, eX1_live_66, eX1_live_69, eX1_live_70, eX1_live_71, eX1_live_72, eX1_live_75, eX1_live_76, eX1_live_77, eX1_live_80, eX1_live_81, eX1_live_82, eX1_live_85, eX1_live_86, eX1_live_87, eX1_live_90, eX1_live_93, eX1_live_94, eX1_live_96, eX1_live_97, eX1_live_100, eX1_live_101, eX1_live_102, eX1_live_103, eX1_live_105, eX1_live_106, eX1_live_109, eX1_live_112, eX1_live_115, eX1_live_116, eX1_live_117, eX1_live_120, eX1_live_123, eX1_live_124, eX1_live_125, eX1_live_126, eX1_live_129, eX1_live_132, eX1_live_133, eX1_live_136, eX1_live_139, eX1_live_140, eX1_live_143, eX1_live_144, eX1_live_147, S_aload_n0, S_aload_n0N, S_aload_n1, S_aload_n1N, S_aload_n2, S_aload_n2N, S_bipush, S_callV, S_dupi, S_dupr, S_getf, S_goto, S_iadd, S_iald, S_icmp_ge, S_iconst, S_if_ne, S_iinc_3, S_iload_4, S_iload_n3, S_imul, S_ireturn, S_istore_3, S_istore_4, S_puti, S_putl, g_RX1_11, g_RX1_122, g_RX1_15, g_RX1_18, g_RX1_21, g_RX1_25, g_RX1_28, g_RX1_31, g_RX1_34, iCk_i, iCk_l, iCk_n, iCk_o, iCk_r, iS1_3, iS1_4, ic_m1, jb_10, jc_0, jc_1, aX1_live, bX1_live, rX1_live, nar_i, nar_n0, nar_n1, List.mem_cons, List.not_mem_nil, or_false, or_self, if_false, if_true, true_and, and_true, Nat.reduceEqDiff, Nat.reduceAdd, Nat.reduceLT, reduceIte, iSet_1, iEnt_e, iEn_n, iEn_i, iEn_r, iEn_u, iEn_l, List.cons_append, List.nil_append, List.length_cons, List.length_nil, Nat.reduceSub, List.replicate_succ, List.replicate_zero, Nat.zero_add, nI_lit0, va_up_app, nI_add, nI_mul, nI_sub, nI_clamp, vp_nI, nI_le_t, nI_le_f, nI_lt_t, nI_lt_f, imp_t, imp_f, Option.toList_some, Option.toList_none, not_true_eq_false, not_false_eq_true, iR_t, nar_zI, zI_f0, zI_t0, va_up_same, upd_ne, upd_self, bo_o, boFs_len, bof_3, hI3]
    exact cont' _ z hz hl hS (fun _ => h0) (fun q hq => by cases hq)
  | succ k ih =>
    intro i s tt z hi hl hS h0 h1 hr hz
    have hn := hl.1.1.2.2.2.1
    have hF := hl.1.1.2.1
    have hU := hl.1.1.2.2.2.2.2.1
    obtain ⟨e, kk, f, a1, a2, a3, hf, r1, r2, hk1, hdk, -, hr3⟩ := hb i (by omega)
    have hdo : doesF s n U e kk (row (3 * i + 2)) = doesF s n U e kk (nI f) := by
      by_cases e0 : e = 0
      · rw [hr3 e0]
      · exact does_f e0
    obtain ⟨w1, w2, w3, x, hx, w4⟩ := does_why hl hdk
    have he := hdk.1
    rw [exN, r1, r2, nI_clamp (by omega), nI_clamp (by omega), hdo] at hr
    have kw := fun I => c_whyNot (G := G) (d := d + 1) (h := boH G o I A (stH G a n s w h)) (a := a) (w := w) (f := f) (show e ≤ 5 by omega) (dOk_k hdk) hl.1 (hTb s I) hd hS
    simp only [eH] at kw
    rw [h0]
    refine wp_ok (cuts := []) 60 _ _ _ _ ?_
    simp (config := { maxSteps := 2000000 }) (disch := omega) only [wp_su, wp_0, eX1_live_0, eX1_live_1, eX1_live_2, eX1_live_5, eX1_live_6, eX1_live_7, eX1_live_10, eX1_live_11, eX1_live_12, eX1_live_13, eX1_live_14, eX1_live_17, eX1_live_20, eX1_live_21, eX1_live_24, eX1_live_27, eX1_live_28, eX1_live_29, eX1_live_30, eX1_live_33, eX1_live_34, eX1_live_35, eX1_live_36, eX1_live_39, eX1_live_40, eX1_live_41, eX1_live_42, eX1_live_45, eX1_live_46, eX1_live_47, eX1_live_50, eX1_live_52, eX1_live_54, eX1_live_57, eX1_live_58, eX1_live_59, eX1_live_60, eX1_live_63, eX1_live_64, eX1_live_65, eX1_live_66, eX1_live_69, eX1_live_70, eX1_live_71, eX1_live_72, eX1_live_75, eX1_live_76, eX1_live_77, eX1_live_80, eX1_live_81, eX1_live_82, eX1_live_85, eX1_live_86, eX1_live_87, eX1_live_90, eX1_live_93, eX1_live_94, eX1_live_96, eX1_live_97, eX1_live_100, eX1_live_101, eX1_live_102, eX1_live_103, eX1_live_105, eX1_live_106, eX1_live_109, eX1_live_112, eX1_live_115, eX1_live_116, eX1_live_117, eX1_live_120, eX1_live_123, eX1_live_124, eX1_live_125, eX1_live_126, eX1_live_129, eX1_live_132, eX1_live_133, eX1_live_136, eX1_live_139, eX1_live_140, eX1_live_143, eX1_live_144, eX1_live_147, S_aload_n0, S_aload_n0N, S_aload_n1, S_aload_n1N, S_aload_n2, S_aload_n2N, S_bipush, S_callV, S_dupi, S_dupr, S_getf, S_goto, S_iadd, S_iald, S_icmp_ge, S_iconst, S_if_ne, S_iinc_3, S_iload_4, S_iload_n3, S_imul, S_ireturn, S_istore_3, S_istore_4, S_puti, S_putl, g_RX1_11, g_RX1_122, g_RX1_15, g_RX1_18, g_RX1_21, g_RX1_25, g_RX1_28, g_RX1_31, g_RX1_34, iCk_i, iCk_l, iCk_n, iCk_o, iCk_r, iS1_3, iS1_4, ic_m1, jb_10, jc_0, jc_1, aX1_live, bX1_live, rX1_live, nar_i, nar_n0, nar_n1, List.mem_cons, List.not_mem_nil, or_false, or_self, if_false, if_true, true_and, and_true, Nat.reduceEqDiff, Nat.reduceAdd, Nat.reduceLT, reduceIte, iSet_1, iEnt_e, iEn_n, iEn_i, iEn_r, iEn_u, iEn_l, List.cons_append, List.nil_append, List.length_cons, List.length_nil, Nat.reduceSub, List.replicate_succ, List.replicate_zero, Nat.zero_add, nI_lit0, va_up_app, nI_add, nI_mul, nI_sub, nI_clamp, vp_nI, nI_le_t, nI_le_f, nI_lt_t, nI_lt_f, imp_t, imp_f, Option.toList_some, Option.toList_none, not_true_eq_false, not_false_eq_true, iR_t, nar_zI, zI_f0, zI_t0, va_up_same, upd_ne, upd_self, bo_o, boFs_len, bof_0, bo_1, bou_1, bof_1, bo_2, bou_2, bof_2, bo_3, bou_3, bof_3, bof_4, hI3, a1, a2, a3]
    refine dV4 (Y' := mX7_whyNot) eX1_live_47 l_RX1_112 kX7_whyNot iX7_whyNot nX7_whyNot (hAb s _ 0 (by decide)) rfl rfl (Nat.le_of_ble_eq_true rfl) (kw _) ?_
    by_cases hy : whyF s n e kk f = nI 0
    · rw [if_pos hy] at w1
      rw [w1, if_pos (nI_le (by omega) (by omega)), w2 hy] at hr
      have ka := fun I => c_act (G := G) (d := d) (h := boH G o I A (stH G a n s w h)) (a := a) (w := w) (f := f) (show e ≤ 5 by omega) (dOk_k hdk) hf hy hl.1 (hTb s I) hd hS
      simp only [eH] at ka
      refine wp_ok (cuts := [93]) 60 _ _ _ _ ?_
      simp (config := { maxSteps := 2000000 }) (disch := omega) only [wp_su, wp_0, eX1_live_0, eX1_live_1, eX1_live_2, eX1_live_5, eX1_live_6, eX1_live_7, eX1_live_10, eX1_live_11, eX1_live_12, eX1_live_13, eX1_live_14, eX1_live_17, eX1_live_20, eX1_live_21, eX1_live_24, eX1_live_27, eX1_live_28, eX1_live_29, eX1_live_30, eX1_live_33, eX1_live_34, eX1_live_35, eX1_live_36, eX1_live_39, eX1_live_40, eX1_live_41, eX1_live_42, eX1_live_45, eX1_live_46, eX1_live_47, eX1_live_50, eX1_live_52, eX1_live_54, eX1_live_57, eX1_live_58, eX1_live_59, eX1_live_60, eX1_live_63, eX1_live_64, eX1_live_65, eX1_live_66, eX1_live_69, eX1_live_70, eX1_live_71, eX1_live_72, eX1_live_75, eX1_live_76, eX1_live_77, eX1_live_80, eX1_live_81, eX1_live_82, eX1_live_85, eX1_live_86, eX1_live_87, eX1_live_90, eX1_live_93, eX1_live_94, eX1_live_96, eX1_live_97, eX1_live_100, eX1_live_101, eX1_live_102, eX1_live_103, eX1_live_105, eX1_live_106, eX1_live_109, eX1_live_112, eX1_live_115, eX1_live_116, eX1_live_117, eX1_live_120, eX1_live_123, eX1_live_124, eX1_live_125, eX1_live_126, eX1_live_129, eX1_live_132, eX1_live_133, eX1_live_136, eX1_live_139, eX1_live_140, eX1_live_143, eX1_live_144, eX1_live_147, S_aload_n0, S_aload_n0N, S_aload_n1, S_aload_n1N, S_aload_n2, S_aload_n2N, S_bipush, S_callV, S_dupi, S_dupr, S_getf, S_goto, S_iadd, S_iald, S_icmp_ge, S_iconst, S_if_ne, S_iinc_3, S_iload_4, S_iload_n3, S_imul, S_ireturn, S_istore_3, S_istore_4, S_puti, S_putl, g_RX1_11, g_RX1_122, g_RX1_15, g_RX1_18, g_RX1_21, g_RX1_25, g_RX1_28, g_RX1_31, g_RX1_34, iCk_i, iCk_l, iCk_n, iCk_o, iCk_r, iS1_3, iS1_4, ic_m1, jb_10, jc_0, jc_1, aX1_live, bX1_live, rX1_live, nar_i, nar_n0, nar_n1, List.mem_cons, List.not_mem_nil, or_false, or_self, if_false, if_true, true_and, and_true, Nat.reduceEqDiff, Nat.reduceAdd, Nat.reduceLT, reduceIte, iSet_1, iEnt_e, iEn_n, iEn_i, iEn_r, iEn_u, iEn_l, List.cons_append, List.nil_append, List.length_cons, List.length_nil, Nat.reduceSub, List.replicate_succ, List.replicate_zero, Nat.zero_add, nI_lit0, va_up_app, nI_add, nI_mul, nI_sub, nI_clamp, vp_nI, nI_le_t, nI_le_f, nI_lt_t, nI_lt_f, imp_t, imp_f, Option.toList_some, Option.toList_none, not_true_eq_false, not_false_eq_true, iR_t, nar_zI, zI_f0, zI_t0, va_up_same, upd_ne, upd_self, bo_o, boFs_len, bof_0, bo_1, bou_1, bof_1, bo_2, bou_2, bof_2, bo_3, bou_3, bof_3, bof_4, hy, a1, a2, a3]
      refine dVu4 (Y' := mX7_act) eX1_live_77 l_RX1_118 kX7_act iX7_act nX7_act (hAb s _ 0 (by decide)) rfl rfl (Nat.le_of_ble_eq_true rfl) (ka _) ?_
      have hl2 := lWF_act hl hdk hf hy
      have hS2 := TS_of hS hn hF hU (fun j hj => act_lo (n := n) (U := U) (e := e) (k := kk) (f := f) (s := s) hj)
      have k9 := ih (i + 1) (actF s n U e kk f) (upd (upd tt 0 (nI 0)) 1 (tt 1 + nI 1)) (some (.int (whyF s n e kk f))) (by omega) hl2 hS2 (by rw [upd_ne (by omega), upd_self]) (by rw [upd_self, h1, nI_add]) hr (Or.inr ⟨_, rfl⟩)
      rw [upd_self, upd_ne (show 0 ≠ 1 by omega), upd_self, hy] at k9
      refine wp_ok (cuts := [12]) 60 _ _ _ _ ?_
      simp (config := { maxSteps := 2000000 }) (disch := omega) only [wp_su, wp_0, eX1_live_0, eX1_live_1, eX1_live_2, eX1_live_5, eX1_live_6, eX1_live_7, eX1_live_10, eX1_live_11, eX1_live_12, eX1_live_13, eX1_live_14, eX1_live_17, eX1_live_20, eX1_live_21, eX1_live_24, eX1_live_27, eX1_live_28, eX1_live_29, eX1_live_30, eX1_live_33, eX1_live_34, eX1_live_35, eX1_live_36, eX1_live_39, eX1_live_40, eX1_live_41, eX1_live_42, eX1_live_45, eX1_live_46, eX1_live_47, eX1_live_50, eX1_live_52, eX1_live_54, eX1_live_57, eX1_live_58, eX1_live_59, eX1_live_60, eX1_live_63, eX1_live_64, eX1_live_65, eX1_live_66, eX1_live_69, eX1_live_70, eX1_live_71, eX1_live_72, eX1_live_75, eX1_live_76, eX1_live_77, eX1_live_80, eX1_live_81, eX1_live_82, eX1_live_85, eX1_live_86, eX1_live_87, eX1_live_90, eX1_live_93, eX1_live_94, eX1_live_96, eX1_live_97, eX1_live_100, eX1_live_101, eX1_live_102, eX1_live_103, eX1_live_105, eX1_live_106, eX1_live_109, eX1_live_112, eX1_live_115, eX1_live_116, eX1_live_117, eX1_live_120, eX1_live_123, eX1_live_124, eX1_live_125, eX1_live_126, eX1_live_129, eX1_live_132, eX1_live_133, eX1_live_136, eX1_live_139, eX1_live_140, eX1_live_143, eX1_live_144, eX1_live_147, S_aload_n0, S_aload_n0N, S_aload_n1, S_aload_n1N, S_aload_n2, S_aload_n2N, S_bipush, S_callV, S_dupi, S_dupr, S_getf, S_goto, S_iadd, S_iald, S_icmp_ge, S_iconst, S_if_ne, S_iinc_3, S_iload_4, S_iload_n3, S_imul, S_ireturn, S_istore_3, S_istore_4, S_puti, S_putl, g_RX1_11, g_RX1_122, g_RX1_15, g_RX1_18, g_RX1_21, g_RX1_25, g_RX1_28, g_RX1_31, g_RX1_34, iCk_i, iCk_l, iCk_n, iCk_o, iCk_r, iS1_3, iS1_4, ic_m1, jb_10, jc_0, jc_1, aX1_live, bX1_live, rX1_live, nar_i, nar_n0, nar_n1, List.mem_cons, List.not_mem_nil, or_false, or_self, if_false, if_true, true_and, and_true, Nat.reduceEqDiff, Nat.reduceAdd, Nat.reduceLT, reduceIte, iSet_1, iEnt_e, iEn_n, iEn_i, iEn_r, iEn_u, iEn_l, List.cons_append, List.nil_append, List.length_cons, List.length_nil, Nat.reduceSub, List.replicate_succ, List.replicate_zero, Nat.zero_add, nI_lit0, va_up_app, nI_add, nI_mul, nI_sub, nI_clamp, vp_nI, nI_le_t, nI_le_f, nI_lt_t, nI_lt_f, imp_t, imp_f, Option.toList_some, Option.toList_none, not_true_eq_false, not_false_eq_true, iR_t, nar_zI, zI_f0, zI_t0, va_up_same, upd_ne, upd_self, bo_o, boFs_len, bof_5, bok_5, bop_5, hy]
      exact k9
    · rw [if_neg hy] at w1
      have hgt : ¬ (doesF s n U e kk (nI f)).1 ≤ nI 0 := by
        rw [w4]
        apply nI_ge _ (by omega)
        apply Nat.pos_of_ne_zero
        intro hx0
        subst hx0
        rw [w1] at w4
        apply hy
        have hy3 : ∃ y, y < 4 ∧ whyF s n e kk f = nI y := by
          rcases (show e = 0 ∨ e = 1 ∨ e = 2 ∨ e = 3 ∨ e = 4 ∨ e = 5 by omega) with rfl | rfl | rfl | rfl | rfl | rfl
          · rw [whyF_0]; rcases bv_whySend (s := s) (n := n) (c := kk) (f := nI f) with q | q | q | q
            · exact ⟨0, by decide, q⟩
            · exact ⟨1, by decide, q⟩
            · exact ⟨2, by decide, q⟩
            · exact ⟨3, by decide, q⟩
          · rw [whyF_1]; cases bitF (s 88) (nI kk)
            · exact ⟨0, by decide, rfl⟩
            · exact ⟨1, by decide, rfl⟩
          · rw [whyF_2]; cases bitF (s 88) (nI kk)
            · exact ⟨1, by decide, rfl⟩
            · exact ⟨0, by decide, rfl⟩
          · rw [whyF_3]; rcases bv_whyServe (s := s) (c := kk) with q | q | q
            · exact ⟨0, by decide, q⟩
            · exact ⟨1, by decide, q⟩
            · exact ⟨2, by decide, q⟩
          · rw [whyF_4]; split
            · exact ⟨0, by decide, rfl⟩
            · exact ⟨1, by decide, rfl⟩
          · rw [whyF_5]; split
            · exact ⟨1, by decide, rfl⟩
            · exact ⟨0, by decide, rfl⟩
        obtain ⟨y, hy1, hy2⟩ := hy3
        rw [hy2, nI_mul, nI_add, nI_eq (by omega) (by omega)] at w4
        rw [hy2]
        congr 1
        omega
      rw [if_neg hgt, w1, w3 hy] at hr
      subst hr
      have hne : ¬ nI 10 * nI e + whyF s n e kk f = nI 0 := by
        rw [← w1]
        intro hz9
        rw [hz9] at hgt
        exact hgt (nI_le (by omega) (by omega))
      dsimp only at cont'
      have k9 := cont' (nI (i + 1)) (some (.int (whyF s n e kk f))) (Or.inr ⟨_, rfl⟩) hl hS (fun q => by cases q) (fun q hq => by
        cases hq
        exact ⟨by rw [upd_self]; exact hne, by rw [upd_ne (by omega), h1]⟩)
      rw [upd_self, upd_ne (show 1 ≠ 0 by omega)] at k9
      refine wp_ok (cuts := [93]) 60 _ _ _ _ ?_
      simp (config := { maxSteps := 2000000 }) (disch := omega) only [wp_su, wp_0, eX1_live_0, eX1_live_1, eX1_live_2, eX1_live_5, eX1_live_6, eX1_live_7, eX1_live_10, eX1_live_11, eX1_live_12, eX1_live_13, eX1_live_14, eX1_live_17, eX1_live_20, eX1_live_21, eX1_live_24, eX1_live_27, eX1_live_28, eX1_live_29, eX1_live_30, eX1_live_33, eX1_live_34, eX1_live_35, eX1_live_36, eX1_live_39, eX1_live_40, eX1_live_41, eX1_live_42, eX1_live_45, eX1_live_46, eX1_live_47, eX1_live_50, eX1_live_52, eX1_live_54, eX1_live_57, eX1_live_58, eX1_live_59, eX1_live_60, eX1_live_63, eX1_live_64, eX1_live_65, eX1_live_66, eX1_live_69, eX1_live_70, eX1_live_71, eX1_live_72, eX1_live_75, eX1_live_76, eX1_live_77, eX1_live_80, eX1_live_81, eX1_live_82, eX1_live_85, eX1_live_86, eX1_live_87, eX1_live_90, eX1_live_93, eX1_live_94, eX1_live_96, eX1_live_97, eX1_live_100, eX1_live_101, eX1_live_102, eX1_live_103, eX1_live_105, eX1_live_106, eX1_live_109, eX1_live_112, eX1_live_115, eX1_live_116, eX1_live_117, eX1_live_120, eX1_live_123, eX1_live_124, eX1_live_125, eX1_live_126, eX1_live_129, eX1_live_132, eX1_live_133, eX1_live_136, eX1_live_139, eX1_live_140, eX1_live_143, eX1_live_144, eX1_live_147, S_aload_n0, S_aload_n0N, S_aload_n1, S_aload_n1N, S_aload_n2, S_aload_n2N, S_bipush, S_callV, S_dupi, S_dupr, S_getf, S_goto, S_iadd, S_iald, S_icmp_ge, S_iconst, S_if_ne, S_iinc_3, S_iload_4, S_iload_n3, S_imul, S_ireturn, S_istore_3, S_istore_4, S_puti, S_putl, g_RX1_11, g_RX1_122, g_RX1_15, g_RX1_18, g_RX1_21, g_RX1_25, g_RX1_28, g_RX1_31, g_RX1_34, iCk_i, iCk_l, iCk_n, iCk_o, iCk_r, iS1_3, iS1_4, ic_m1, jb_10, jc_0, jc_1, aX1_live, bX1_live, rX1_live, nar_i, nar_n0, nar_n1, List.mem_cons, List.not_mem_nil, or_false, or_self, if_false, if_true, true_and, and_true, Nat.reduceEqDiff, Nat.reduceAdd, Nat.reduceLT, reduceIte, iSet_1, iEnt_e, iEn_n, iEn_i, iEn_r, iEn_u, iEn_l, List.cons_append, List.nil_append, List.length_cons, List.length_nil, Nat.reduceSub, List.replicate_succ, List.replicate_zero, Nat.zero_add, nI_lit0, va_up_app, nI_add, nI_mul, nI_sub, nI_clamp, vp_nI, nI_le_t, nI_le_f, nI_lt_t, nI_lt_f, imp_t, imp_f, Option.toList_some, Option.toList_none, not_true_eq_false, not_false_eq_true, iR_t, nar_zI, zI_f0, zI_t0, va_up_same, upd_ne, upd_self, bo_o, boFs_len, bof_0, bo_1, bou_1, bof_1, bo_2, bou_2, bof_2, bo_3, bou_3, bof_3, bof_4, hy]
      rw [nI_mul] at k9 hne
      by_cases hi2 : i + 1 < m
      · refine wp_ok (cuts := [12]) 60 _ _ _ _ ?_
        simp (config := { maxSteps := 2000000 }) (disch := omega) only [wp_su, wp_0, eX1_live_0, eX1_live_1, eX1_live_2, eX1_live_5, eX1_live_6, eX1_live_7, eX1_live_10, eX1_live_11, eX1_live_12, eX1_live_13, eX1_live_14, eX1_live_17, eX1_live_20, eX1_live_21, eX1_live_24, eX1_live_27, eX1_live_28, eX1_live_29, eX1_live_30, eX1_live_33, eX1_live_34, eX1_live_35, eX1_live_36, eX1_live_39, eX1_live_40, eX1_live_41, eX1_live_42, eX1_live_45, eX1_live_46, eX1_live_47, eX1_live_50, eX1_live_52, eX1_live_54, eX1_live_57, eX1_live_58, eX1_live_59, eX1_live_60, eX1_live_63, eX1_live_64, eX1_live_65, eX1_live_66, eX1_live_69, eX1_live_70, eX1_live_71, eX1_live_72, eX1_live_75, eX1_live_76, eX1_live_77, eX1_live_80, eX1_live_81, eX1_live_82, eX1_live_85, eX1_live_86, eX1_live_87, eX1_live_90, eX1_live_93, eX1_live_94, eX1_live_96, eX1_live_97, eX1_live_100, eX1_live_101, eX1_live_102, eX1_live_103, eX1_live_105, eX1_live_106, eX1_live_109, eX1_live_112, eX1_live_115, eX1_live_116, eX1_live_117, eX1_live_120, eX1_live_123, eX1_live_124, eX1_live_125, eX1_live_126, eX1_live_129, eX1_live_132, eX1_live_133, eX1_live_136, eX1_live_139, eX1_live_140, eX1_live_143, eX1_live_144, eX1_live_147, S_aload_n0, S_aload_n0N, S_aload_n1, S_aload_n1N, S_aload_n2, S_aload_n2N, S_bipush, S_callV, S_dupi, S_dupr, S_getf, S_goto, S_iadd, S_iald, S_icmp_ge, S_iconst, S_if_ne, S_iinc_3, S_iload_4, S_iload_n3, S_imul, S_ireturn, S_istore_3, S_istore_4, S_puti, S_putl, g_RX1_11, g_RX1_122, g_RX1_15, g_RX1_18, g_RX1_21, g_RX1_25, g_RX1_28, g_RX1_31, g_RX1_34, iCk_i, iCk_l, iCk_n, iCk_o, iCk_r, iS1_3, iS1_4, ic_m1, jb_10, jc_0, jc_1, aX1_live, bX1_live, rX1_live, nar_i, nar_n0, nar_n1, List.mem_cons, List.not_mem_nil, or_false, or_self, if_false, if_true, true_and, and_true, Nat.reduceEqDiff, Nat.reduceAdd, Nat.reduceLT, reduceIte, iSet_1, iEnt_e, iEn_n, iEn_i, iEn_r, iEn_u, iEn_l, List.cons_append, List.nil_append, List.length_cons, List.length_nil, Nat.reduceSub, List.replicate_succ, List.replicate_zero, Nat.zero_add, nI_lit0, va_up_app, nI_add, nI_mul, nI_sub, nI_clamp, vp_nI, nI_le_t, nI_le_f, nI_lt_t, nI_lt_f, imp_t, imp_f, Option.toList_some, Option.toList_none, not_true_eq_false, not_false_eq_true, iR_t, nar_zI, zI_f0, zI_t0, va_up_same, upd_ne, upd_self, bo_o, boFs_len, bof_0, bo_1, bou_1, bok_4, bop_4, a1]
        rw [lv_up4]
        refine wp_ok (cuts := [115]) 60 _ _ _ _ ?_
        simp (config := { maxSteps := 2000000 }) (disch := omega) only [wp_su, wp_0, eX1_live_0, eX1_live_1, eX1_live_2, eX1_live_5, eX1_live_6, eX1_live_7, eX1_live_10, eX1_live_11, eX1_live_12, eX1_live_13, eX1_live_14, eX1_live_17, eX1_live_20, eX1_live_21, eX1_live_24, eX1_live_27, eX1_live_28, eX1_live_29, eX1_live_30, eX1_live_33, eX1_live_34, eX1_live_35, eX1_live_36, eX1_live_39, eX1_live_40, eX1_live_41, eX1_live_42, eX1_live_45, eX1_live_46, eX1_live_47, eX1_live_50, eX1_live_52, eX1_live_54, eX1_live_57, eX1_live_58, eX1_live_59, eX1_live_60, eX1_live_63, eX1_live_64, eX1_live_65, eX1_live_66, eX1_live_69, eX1_live_70, eX1_live_71, eX1_live_72, eX1_live_75, eX1_live_76, eX1_live_77, eX1_live_80, eX1_live_81, eX1_live_82, eX1_live_85, eX1_live_86, eX1_live_87, eX1_live_90, eX1_live_93, eX1_live_94, eX1_live_96, eX1_live_97, eX1_live_100, eX1_live_101, eX1_live_102, eX1_live_103, eX1_live_105, eX1_live_106, eX1_live_109, eX1_live_112, eX1_live_115, eX1_live_116, eX1_live_117, eX1_live_120, eX1_live_123, eX1_live_124, eX1_live_125, eX1_live_126, eX1_live_129, eX1_live_132, eX1_live_133, eX1_live_136, eX1_live_139, eX1_live_140, eX1_live_143, eX1_live_144, eX1_live_147, S_aload_n0, S_aload_n0N, S_aload_n1, S_aload_n1N, S_aload_n2, S_aload_n2N, S_bipush, S_callV, S_dupi, S_dupr, S_getf, S_goto, S_iadd, S_iald, S_icmp_ge, S_iconst, S_if_ne, S_iinc_3, S_iload_4, S_iload_n3, S_imul, S_ireturn, S_istore_3, S_istore_4, S_puti, S_putl, g_RX1_11, g_RX1_122, g_RX1_15, g_RX1_18, g_RX1_21, g_RX1_25, g_RX1_28, g_RX1_31, g_RX1_34, iCk_i, iCk_l, iCk_n, iCk_o, iCk_r, iS1_3, iS1_4, ic_m1, jb_10, jc_0, jc_1, aX1_live, bX1_live, rX1_live, nar_i, nar_n0, nar_n1, List.mem_cons, List.not_mem_nil, or_false, or_self, if_false, if_true, true_and, and_true, Nat.reduceEqDiff, Nat.reduceAdd, Nat.reduceLT, reduceIte, iSet_1, iEnt_e, iEn_n, iEn_i, iEn_r, iEn_u, iEn_l, List.cons_append, List.nil_append, List.length_cons, List.length_nil, Nat.reduceSub, List.replicate_succ, List.replicate_zero, Nat.zero_add, nI_lit0, va_up_app, nI_add, nI_mul, nI_sub, nI_clamp, vp_nI, nI_le_t, nI_le_f, nI_lt_t, nI_lt_f, imp_t, imp_f, Option.toList_some, Option.toList_none, not_true_eq_false, not_false_eq_true, iR_t, nar_zI, zI_f0, zI_t0, va_up_same, upd_ne, upd_self, bo_o, boFs_len, bof_3, bof_4, hI3]
        exact ⟨fun _ => k9, fun q => absurd q hne⟩
      · refine wp_ok (cuts := [12]) 60 _ _ _ _ ?_
        simp (config := { maxSteps := 2000000 }) (disch := omega) only [wp_su, wp_0, eX1_live_0, eX1_live_1, eX1_live_2, eX1_live_5, eX1_live_6, eX1_live_7, eX1_live_10, eX1_live_11, eX1_live_12, eX1_live_13, eX1_live_14, eX1_live_17, eX1_live_20, eX1_live_21, eX1_live_24, eX1_live_27, eX1_live_28, eX1_live_29, eX1_live_30, eX1_live_33, eX1_live_34, eX1_live_35, eX1_live_36, eX1_live_39, eX1_live_40, eX1_live_41, eX1_live_42, eX1_live_45, eX1_live_46, eX1_live_47, eX1_live_50, eX1_live_52, eX1_live_54, eX1_live_57, eX1_live_58, eX1_live_59, eX1_live_60, eX1_live_63, eX1_live_64, eX1_live_65, eX1_live_66, eX1_live_69, eX1_live_70, eX1_live_71, eX1_live_72, eX1_live_75, eX1_live_76, eX1_live_77, eX1_live_80, eX1_live_81, eX1_live_82, eX1_live_85, eX1_live_86, eX1_live_87, eX1_live_90, eX1_live_93, eX1_live_94, eX1_live_96, eX1_live_97, eX1_live_100, eX1_live_101, eX1_live_102, eX1_live_103, eX1_live_105, eX1_live_106, eX1_live_109, eX1_live_112, eX1_live_115, eX1_live_116, eX1_live_117, eX1_live_120, eX1_live_123, eX1_live_124, eX1_live_125, eX1_live_126, eX1_live_129, eX1_live_132, eX1_live_133, eX1_live_136, eX1_live_139, eX1_live_140, eX1_live_143, eX1_live_144, eX1_live_147, S_aload_n0, S_aload_n0N, S_aload_n1, S_aload_n1N, S_aload_n2, S_aload_n2N, S_bipush, S_callV, S_dupi, S_dupr, S_getf, S_goto, S_iadd, S_iald, S_icmp_ge, S_iconst, S_if_ne, S_iinc_3, S_iload_4, S_iload_n3, S_imul, S_ireturn, S_istore_3, S_istore_4, S_puti, S_putl, g_RX1_11, g_RX1_122, g_RX1_15, g_RX1_18, g_RX1_21, g_RX1_25, g_RX1_28, g_RX1_31, g_RX1_34, iCk_i, iCk_l, iCk_n, iCk_o, iCk_r, iS1_3, iS1_4, ic_m1, jb_10, jc_0, jc_1, aX1_live, bX1_live, rX1_live, nar_i, nar_n0, nar_n1, List.mem_cons, List.not_mem_nil, or_false, or_self, if_false, if_true, true_and, and_true, Nat.reduceEqDiff, Nat.reduceAdd, Nat.reduceLT, reduceIte, iSet_1, iEnt_e, iEn_n, iEn_i, iEn_r, iEn_u, iEn_l, List.cons_append, List.nil_append, List.length_cons, List.length_nil, Nat.reduceSub, List.replicate_succ, List.replicate_zero, Nat.zero_add, nI_lit0, va_up_app, nI_add, nI_mul, nI_sub, nI_clamp, vp_nI, nI_le_t, nI_le_f, nI_lt_t, nI_lt_f, imp_t, imp_f, Option.toList_some, Option.toList_none, not_true_eq_false, not_false_eq_true, iR_t, nar_zI, zI_f0, zI_t0, va_up_same, upd_ne, upd_self, bo_o, boFs_len, bof_0, bo_1, bou_1, bok_4, bop_4, a1]
        rw [lv_up4]
        refine wp_ok (cuts := [115]) 60 _ _ _ _ ?_
        simp (config := { maxSteps := 2000000 }) (disch := omega) only [wp_su, wp_0, eX1_live_0, eX1_live_1, eX1_live_2, eX1_live_5, eX1_live_6, eX1_live_7, eX1_live_10, eX1_live_11, eX1_live_12, eX1_live_13, eX1_live_14, eX1_live_17, eX1_live_20, eX1_live_21, eX1_live_24, eX1_live_27, eX1_live_28, eX1_live_29, eX1_live_30, eX1_live_33, eX1_live_34, eX1_live_35, eX1_live_36, eX1_live_39, eX1_live_40, eX1_live_41, eX1_live_42, eX1_live_45, eX1_live_46, eX1_live_47, eX1_live_50, eX1_live_52, eX1_live_54, eX1_live_57, eX1_live_58, eX1_live_59, eX1_live_60, eX1_live_63, eX1_live_64, eX1_live_65, eX1_live_66, eX1_live_69, eX1_live_70, eX1_live_71, eX1_live_72, eX1_live_75, eX1_live_76, eX1_live_77, eX1_live_80, eX1_live_81, eX1_live_82, eX1_live_85, eX1_live_86, eX1_live_87, eX1_live_90, eX1_live_93, eX1_live_94, eX1_live_96, eX1_live_97, eX1_live_100, eX1_live_101, eX1_live_102, eX1_live_103, eX1_live_105, eX1_live_106, eX1_live_109, eX1_live_112, eX1_live_115, eX1_live_116, eX1_live_117, eX1_live_120, eX1_live_123, eX1_live_124, eX1_live_125, eX1_live_126, eX1_live_129, eX1_live_132, eX1_live_133, eX1_live_136, eX1_live_139, eX1_live_140, eX1_live_143, eX1_live_144, eX1_live_147, S_aload_n0, S_aload_n0N, S_aload_n1, S_aload_n1N, S_aload_n2, S_aload_n2N, S_bipush, S_callV, S_dupi, S_dupr, S_getf, S_goto, S_iadd, S_iald, S_icmp_ge, S_iconst, S_if_ne, S_iinc_3, S_iload_4, S_iload_n3, S_imul, S_ireturn, S_istore_3, S_istore_4, S_puti, S_putl, g_RX1_11, g_RX1_122, g_RX1_15, g_RX1_18, g_RX1_21, g_RX1_25, g_RX1_28, g_RX1_31, g_RX1_34, iCk_i, iCk_l, iCk_n, iCk_o, iCk_r, iS1_3, iS1_4, ic_m1, jb_10, jc_0, jc_1, aX1_live, bX1_live, rX1_live, nar_i, nar_n0, nar_n1, List.mem_cons, List.not_mem_nil, or_false, or_self, if_false, if_true, true_and, and_true, Nat.reduceEqDiff, Nat.reduceAdd, Nat.reduceLT, reduceIte, iSet_1, iEnt_e, iEn_n, iEn_i, iEn_r, iEn_u, iEn_l, List.cons_append, List.nil_append, List.length_cons, List.length_nil, Nat.reduceSub, List.replicate_succ, List.replicate_zero, Nat.zero_add, nI_lit0, va_up_app, nI_add, nI_mul, nI_sub, nI_clamp, vp_nI, nI_le_t, nI_le_f, nI_lt_t, nI_lt_f, imp_t, imp_f, Option.toList_some, Option.toList_none, not_true_eq_false, not_false_eq_true, iR_t, nar_zI, zI_f0, zI_t0, va_up_same, upd_ne, upd_self, bo_o, boFs_len, bof_3, bof_4, hI3]
        exact k9
/-- what live answers and leaves: told of what the reference's lines give -/
theorem c_live {m : Nat} {row s0 tt : Nat → Int32} (hm : m ≤ 40) (hI3 : I 3 = nI m) (hb : bkRl A row F n U m) (hl : lWF s F n U) (hS : TS J B s F n U) (hT : TW G h t J B M) (hd : a + 7 ≤ t ∨ t + 11 ≤ a) (ho : o + 4 ≤ t ∨ t + 11 ≤ o) (ho2 : o + 4 ≤ a ∨ a + 7 ≤ o) (h0 : tt 0 = nI 0) (h1 : tt 1 = nI 0) : C G (d + 5) 0 0 mX1_live [.ref o, .ref t, .ref a] (boH G o I A (stH G a n s w h)) (fun v g => lWF (exN n U row m 0 s tt).1 F n U ∧ TS J B (exN n U row m 0 s tt).1 F n U ∧ v = some (.int (wrI (exN n U row m 0 s tt).2.2)) ∧ g = boH G o (va_up (va_up (va_up (va_up I 4 ((exN n U row m 0 s tt).2.1 0)) 5 ((exN n U row m 0 s tt).2.1 1)) 6 ((exN n U row m 0 s tt).1 85)) 7 (bitsN (fun c => decide ((exN n U row m 0 s tt).1 (90 + c) < nI 0)) n)) A (stH G a n (exN n U row m 0 s tt).1 w h)) := by
  have hn := hl.1.1.2.2.2.1
  have hF := hl.1.1.2.1
  generalize hr : exN n U row m 0 s tt = r
  have hTb : ∀ s I, TW G (boH G o I A (stH G a n s w h)) t J B M := fun s I => Blk_ovl (TW_st hT hd) (by omega)
  have hAb : ∀ s I, Blk (boH G o I A (stH G a n s w h)) a 7 (stE G a n s w) := fun s I => Blk_ovl Blk_own (by omega)
  have key : ∀ (i : Int32) (z : Option Value), lWF r.1 F n U → TS J B r.1 F n U → (r.2.2 = none → r.2.1 0 = nI 0) → (∀ q, r.2.2 = some q → ¬ r.2.1 0 = nI 0 ∧ r.2.1 1 = nI q) → K G (d + 5) 0 0 mX1_live 115 [some (.ref o), some (.ref t), some (.ref a), some (.int i), z] [] (boH G o (va_up (va_up I 4 (r.2.1 0)) 5 (r.2.1 1)) A (stH G a n r.1 w h)) (fun v g => lWF r.1 F n U ∧ TS J B r.1 F n U ∧ v = some (.int (wrI r.2.2)) ∧ g = boH G o (va_up (va_up (va_up (va_up I 4 (r.2.1 0)) 5 (r.2.1 1)) 6 (r.1 85)) 7 (bitsN (fun c => decide (r.1 (90 + c) < nI 0)) n)) A (stH G a n r.1 w h)) := by
    intro i z hl9 hS9 hn9 hs9
    have ks := fun I => c_servedBits (G := G) (d := d + 4) (h := boH G o I A (stH G a n r.1 w h)) (a := a) (s := r.1) (w := w) (t := t) hn hF hl9.1.1.2.2.2.2.2.2.2.1 (hTb r.1 I) hd hS9.2.1
    have eS : ∀ I, stH G a n r.1 w (boH G o I A (stH G a n r.1 w h)) = boH G o I A (stH G a n r.1 w h) := fun I => ovl_self (hAb r.1 I)
    simp only [eS] at ks
    refine wp_ok (cuts := []) 60 _ _ _ _ ?_
    simp (config := { maxSteps := 2000000 }) (disch := omega) only [wp_su, wp_0, eX1_live_0, eX1_live_1, eX1_live_2, eX1_live_5, eX1_live_6, eX1_live_7, eX1_live_10, eX1_live_11, eX1_live_12, eX1_live_13, eX1_live_14, eX1_live_17, eX1_live_20, eX1_live_21, eX1_live_24, eX1_live_27, eX1_live_28, eX1_live_29, eX1_live_30, eX1_live_33, eX1_live_34, eX1_live_35, eX1_live_36, eX1_live_39, eX1_live_40, eX1_live_41, eX1_live_42, eX1_live_45, eX1_live_46, eX1_live_47, eX1_live_50, eX1_live_52, eX1_live_54, eX1_live_57, eX1_live_58, eX1_live_59, eX1_live_60, eX1_live_63, eX1_live_64, eX1_live_65, eX1_live_66, eX1_live_69, eX1_live_70, eX1_live_71, eX1_live_72, eX1_live_75, eX1_live_76, eX1_live_77, eX1_live_80, eX1_live_81, eX1_live_82, eX1_live_85, eX1_live_86, eX1_live_87, eX1_live_90, eX1_live_93, eX1_live_94, eX1_live_96, eX1_live_97, eX1_live_100, eX1_live_101, eX1_live_102, eX1_live_103, eX1_live_105, eX1_live_106, eX1_live_109, eX1_live_112, eX1_live_115, eX1_live_116, eX1_live_117, eX1_live_120, eX1_live_123, eX1_live_124, eX1_live_125, eX1_live_126, eX1_live_129, eX1_live_132, eX1_live_133, eX1_live_136, eX1_live_139, eX1_live_140, eX1_live_143, eX1_live_144, eX1_live_147, S_aload_n0, S_aload_n0N, S_aload_n1, S_aload_n1N, S_aload_n2, S_aload_n2N, S_bipush, S_callV, S_dupi, S_dupr, S_getf, S_goto, S_iadd, S_iald, S_icmp_ge, S_iconst, S_if_ne, S_iinc_3, S_iload_4, S_iload_n3, S_imul, S_ireturn, S_istore_3, S_istore_4, S_puti, S_putl, g_RX1_11, g_RX1_122, g_RX1_15, g_RX1_18, g_RX1_21, g_RX1_25, g_RX1_28, g_RX1_31, g_RX1_34, iCk_i, iCk_l, iCk_n, iCk_o, iCk_r, iS1_3, iS1_4, ic_m1, jb_10, jc_0, jc_1, aX1_live, bX1_live, rX1_live, nar_i, nar_n0, nar_n1, List.mem_cons, List.not_mem_nil, or_false, or_self, if_false, if_true, true_and, and_true, Nat.reduceEqDiff, Nat.reduceAdd, Nat.reduceLT, reduceIte, iSet_1, iEnt_e, iEn_n, iEn_i, iEn_r, iEn_u, iEn_l, List.cons_append, List.nil_append, List.length_cons, List.length_nil, Nat.reduceSub, List.replicate_succ, List.replicate_zero, Nat.zero_add, nI_lit0, va_up_app, nI_add, nI_mul, nI_sub, nI_clamp, vp_nI, nI_le_t, nI_le_f, nI_lt_t, nI_lt_f, imp_t, imp_f, Option.toList_some, Option.toList_none, not_true_eq_false, not_false_eq_true, iR_t, nar_zI, zI_f0, zI_t0, va_up_same, upd_ne, upd_self, bo_o, boFs_len, bok_6, bop_6, sb_o (hAb _ _), stf_10]
    refine dV1 (Y' := mX7_servedBits) eX1_live_126 l_RX1_125 kX7_servedBits iX7_servedBits nX7_servedBits (hAb r.1 _ 0 (by decide)) rfl rfl (Nat.le_of_ble_eq_true rfl) (ks _) ?_
    refine wp_ok (cuts := [143]) 60 _ _ _ _ ?_
    simp (config := { maxSteps := 2000000 }) (disch := omega) only [wp_su, wp_0, eX1_live_0, eX1_live_1, eX1_live_2, eX1_live_5, eX1_live_6, eX1_live_7, eX1_live_10, eX1_live_11, eX1_live_12, eX1_live_13, eX1_live_14, eX1_live_17, eX1_live_20, eX1_live_21, eX1_live_24, eX1_live_27, eX1_live_28, eX1_live_29, eX1_live_30, eX1_live_33, eX1_live_34, eX1_live_35, eX1_live_36, eX1_live_39, eX1_live_40, eX1_live_41, eX1_live_42, eX1_live_45, eX1_live_46, eX1_live_47, eX1_live_50, eX1_live_52, eX1_live_54, eX1_live_57, eX1_live_58, eX1_live_59, eX1_live_60, eX1_live_63, eX1_live_64, eX1_live_65, eX1_live_66, eX1_live_69, eX1_live_70, eX1_live_71, eX1_live_72, eX1_live_75, eX1_live_76, eX1_live_77, eX1_live_80, eX1_live_81, eX1_live_82, eX1_live_85, eX1_live_86, eX1_live_87, eX1_live_90, eX1_live_93, eX1_live_94, eX1_live_96, eX1_live_97, eX1_live_100, eX1_live_101, eX1_live_102, eX1_live_103, eX1_live_105, eX1_live_106, eX1_live_109, eX1_live_112, eX1_live_115, eX1_live_116, eX1_live_117, eX1_live_120, eX1_live_123, eX1_live_124, eX1_live_125, eX1_live_126, eX1_live_129, eX1_live_132, eX1_live_133, eX1_live_136, eX1_live_139, eX1_live_140, eX1_live_143, eX1_live_144, eX1_live_147, S_aload_n0, S_aload_n0N, S_aload_n1, S_aload_n1N, S_aload_n2, S_aload_n2N, S_bipush, S_callV, S_dupi, S_dupr, S_getf, S_goto, S_iadd, S_iald, S_icmp_ge, S_iconst, S_if_ne, S_iinc_3, S_iload_4, S_iload_n3, S_imul, S_ireturn, S_istore_3, S_istore_4, S_puti, S_putl, g_RX1_11, g_RX1_122, g_RX1_15, g_RX1_18, g_RX1_21, g_RX1_25, g_RX1_28, g_RX1_31, g_RX1_34, iCk_i, iCk_l, iCk_n, iCk_o, iCk_r, iS1_3, iS1_4, ic_m1, jb_10, jc_0, jc_1, aX1_live, bX1_live, rX1_live, nar_i, nar_n0, nar_n1, List.mem_cons, List.not_mem_nil, or_false, or_self, if_false, if_true, true_and, and_true, Nat.reduceEqDiff, Nat.reduceAdd, Nat.reduceLT, reduceIte, iSet_1, iEnt_e, iEn_n, iEn_i, iEn_r, iEn_u, iEn_l, List.cons_append, List.nil_append, List.length_cons, List.length_nil, Nat.reduceSub, List.replicate_succ, List.replicate_zero, Nat.zero_add, nI_lit0, va_up_app, nI_add, nI_mul, nI_sub, nI_clamp, vp_nI, nI_le_t, nI_le_f, nI_lt_t, nI_lt_f, imp_t, imp_f, Option.toList_some, Option.toList_none, not_true_eq_false, not_false_eq_true, iR_t, nar_zI, zI_f0, zI_t0, va_up_same, upd_ne, upd_self, bo_o, boFs_len, bof_4, bof_5, bok_7, bop_7]
    cases hq : r.2.2 with
    | none =>
      rw [hn9 hq]
      refine ⟨fun q => absurd rfl q, fun _ => ?_⟩
      exact ⟨hl9, hS9, rfl⟩
    | some q =>
      obtain ⟨q1, q2⟩ := hs9 q hq
      refine ⟨fun _ => ?_, fun z => absurd z q1⟩
      refine wp_ok (cuts := []) 60 _ _ _ _ ?_
      simp (config := { maxSteps := 2000000 }) (disch := omega) only [wp_su, wp_0, eX1_live_0, eX1_live_1, eX1_live_2, eX1_live_5, eX1_live_6, eX1_live_7, eX1_live_10, eX1_live_11, eX1_live_12, eX1_live_13, eX1_live_14, eX1_live_17, eX1_live_20, eX1_live_21, eX1_live_24, eX1_live_27, eX1_live_28, eX1_live_29, eX1_live_30, eX1_live_33, eX1_live_34, eX1_live_35, eX1_live_36, eX1_live_39, eX1_live_40, eX1_live_41, eX1_live_42, eX1_live_45, eX1_live_46, eX1_live_47, eX1_live_50, eX1_live_52, eX1_live_54, eX1_live_57, eX1_live_58, eX1_live_59, eX1_live_60, eX1_live_63, eX1_live_64, eX1_live_65, eX1_live_66, eX1_live_69, eX1_live_70, eX1_live_71, eX1_live_72, eX1_live_75, eX1_live_76, eX1_live_77, eX1_live_80, eX1_live_81, eX1_live_82, eX1_live_85, eX1_live_86, eX1_live_87, eX1_live_90, eX1_live_93, eX1_live_94, eX1_live_96, eX1_live_97, eX1_live_100, eX1_live_101, eX1_live_102, eX1_live_103, eX1_live_105, eX1_live_106, eX1_live_109, eX1_live_112, eX1_live_115, eX1_live_116, eX1_live_117, eX1_live_120, eX1_live_123, eX1_live_124, eX1_live_125, eX1_live_126, eX1_live_129, eX1_live_132, eX1_live_133, eX1_live_136, eX1_live_139, eX1_live_140, eX1_live_143, eX1_live_144, eX1_live_147, S_aload_n0, S_aload_n0N, S_aload_n1, S_aload_n1N, S_aload_n2, S_aload_n2N, S_bipush, S_callV, S_dupi, S_dupr, S_getf, S_goto, S_iadd, S_iald, S_icmp_ge, S_iconst, S_if_ne, S_iinc_3, S_iload_4, S_iload_n3, S_imul, S_ireturn, S_istore_3, S_istore_4, S_puti, S_putl, g_RX1_11, g_RX1_122, g_RX1_15, g_RX1_18, g_RX1_21, g_RX1_25, g_RX1_28, g_RX1_31, g_RX1_34, iCk_i, iCk_l, iCk_n, iCk_o, iCk_r, iS1_3, iS1_4, ic_m1, jb_10, jc_0, jc_1, aX1_live, bX1_live, rX1_live, nar_i, nar_n0, nar_n1, List.mem_cons, List.not_mem_nil, or_false, or_self, if_false, if_true, true_and, and_true, Nat.reduceEqDiff, Nat.reduceAdd, Nat.reduceLT, reduceIte, iSet_1, iEnt_e, iEn_n, iEn_i, iEn_r, iEn_u, iEn_l, List.cons_append, List.nil_append, List.length_cons, List.length_nil, Nat.reduceSub, List.replicate_succ, List.replicate_zero, Nat.zero_add, nI_lit0, va_up_app, nI_add, nI_mul, nI_sub, nI_clamp, vp_nI, nI_le_t, nI_le_f, nI_lt_t, nI_lt_f, imp_t, imp_f, Option.toList_some, Option.toList_none, not_true_eq_false, not_false_eq_true, iR_t, nar_zI, zI_f0, zI_t0, va_up_same, upd_ne, upd_self, bo_o, boFs_len, bof_5]
      rw [q2]
      exact ⟨hl9, hS9, rfl⟩
  refine C_in p_RX1 (Nat.le_of_ble_eq_true rfl) rfl ?_
  refine wp_ok (cuts := [12]) 60 _ _ _ _ ?_
  simp (config := { maxSteps := 2000000 }) (disch := omega) only [wp_su, wp_0, eX1_live_0, eX1_live_1, eX1_live_2, eX1_live_5, eX1_live_6, eX1_live_7, eX1_live_10, eX1_live_11, eX1_live_12, eX1_live_13, eX1_live_14, eX1_live_17, eX1_live_20, eX1_live_21, eX1_live_24, eX1_live_27, eX1_live_28, eX1_live_29, eX1_live_30, eX1_live_33, eX1_live_34, eX1_live_35, eX1_live_36, eX1_live_39, eX1_live_40, eX1_live_41, eX1_live_42, eX1_live_45, eX1_live_46, eX1_live_47, eX1_live_50, eX1_live_52, eX1_live_54, eX1_live_57, eX1_live_58, eX1_live_59, eX1_live_60, eX1_live_63, eX1_live_64, eX1_live_65, eX1_live_66, eX1_live_69, eX1_live_70, eX1_live_71, eX1_live_72, eX1_live_75, eX1_live_76, eX1_live_77, eX1_live_80, eX1_live_81, eX1_live_82, eX1_live_85, eX1_live_86, eX1_live_87, eX1_live_90, eX1_live_93, eX1_live_94, eX1_live_96, eX1_live_97, eX1_live_100, eX1_live_101, eX1_live_102, eX1_live_103, eX1_live_105, eX1_live_106, eX1_live_109, eX1_live_112, eX1_live_115, eX1_live_116, eX1_live_117, eX1_live_120, eX1_live_123, eX1_live_124, eX1_live_125, eX1_live_126, eX1_live_129, eX1_live_132, eX1_live_133, eX1_live_136, eX1_live_139, eX1_live_140, eX1_live_143, eX1_live_144, eX1_live_147, S_aload_n0, S_aload_n0N, S_aload_n1, S_aload_n1N, S_aload_n2, S_aload_n2N, S_bipush, S_callV, S_dupi, S_dupr, S_getf, S_goto, S_iadd, S_iald, S_icmp_ge, S_iconst, S_if_ne, S_iinc_3, S_iload_4, S_iload_n3, S_imul, S_ireturn, S_istore_3, S_istore_4, S_puti, S_putl, g_RX1_11, g_RX1_122, g_RX1_15, g_RX1_18, g_RX1_21, g_RX1_25, g_RX1_28, g_RX1_31, g_RX1_34, iCk_i, iCk_l, iCk_n, iCk_o, iCk_r, iS1_3, iS1_4, ic_m1, jb_10, jc_0, jc_1, aX1_live, bX1_live, rX1_live, nar_i, nar_n0, nar_n1, List.mem_cons, List.not_mem_nil, or_false, or_self, if_false, if_true, true_and, and_true, Nat.reduceEqDiff, Nat.reduceAdd, Nat.reduceLT, reduceIte, iSet_1, iEnt_e, iEn_n, iEn_i, iEn_r, iEn_u, iEn_l, List.cons_append, List.nil_append, List.length_cons, List.length_nil, Nat.reduceSub, List.replicate_succ, List.replicate_zero, Nat.zero_add, nI_lit0, va_up_app, nI_add, nI_mul, nI_sub, nI_clamp, vp_nI, nI_le_t, nI_le_f, nI_lt_t, nI_lt_f, imp_t, imp_f, Option.toList_some, Option.toList_none, not_true_eq_false, not_false_eq_true, iR_t, nar_zI, zI_f0, zI_t0, va_up_same, upd_ne, upd_self, bo_o, boFs_len, bok_4, bop_4, bok_5, bop_5]
  have k9 := l_live (d := d) (w := w) (I := I) (A := A) (a := a) (o := o) hm hI3 hb hT hd ho ho2 (r := r) (fun i => key i none) (fun i q => key i (some (.int q))) m 0 s tt none (by omega) hl hS h0 h1 hr (Or.inl rfl)
  rw [h0, h1] at k9
  exact k9
end CLv
