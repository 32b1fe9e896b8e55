/-! Rows in order: what acts keep -/
section WF
variable {s t : Nat → Int32} {F n U : Nat}
theorem wt_of (h : wtOk s n) (hn : n ≤ 6) (he : ∀ j, 96 ≤ j → j < 102 → t j = s j) : wtOk t n := fun c hc => by
  rw [he (96 + c) (by omega) (by omega)]; exact h c hc
theorem wt_up (h : wtOk s n) {c v : Nat} (hv : v ≤ 60) (he : ∀ j, 96 ≤ j → j < 102 → t j = upd s (96 + c) (nI v) j) (hn : n ≤ 6) : wtOk t n := fun k hk => by
  rw [he (96 + k) (by omega) (by omega)]
  by_cases z : k = c
  · subst z; rw [upd_self]; exact ⟨v, hv, rfl⟩
  · rw [upd_ne (by omega)]; exact h k hk
theorem min60 {v a : Nat} (hv : v ≤ 60) (ha : a ≤ 2) : ∃ u, u ≤ 60 ∧ minF (nI 60) (nI v + nI a) = nI u := by
  rw [nI_add, minF_n (by omega) (by omega)]
  exact ⟨_, by omega, rfl⟩
theorem wt_send (h : wtOk s n) (hn : n ≤ 6) {c : Nat} (hc : c < n) {f : Int32} : wtOk (sendF s U c f) n := by
  unfold sendF
  split
  · refine wt_of h hn (fun j h1 h2 => ?_)
    rw [upd_ne (by omega), upd_ne (by omega), upd_ne (by omega)]
  · obtain ⟨v, hv, ev⟩ := h c hc
    obtain ⟨u, hu, eu⟩ := min60 (a := 2) hv (by omega)
    refine wt_up (c := c) h hu (fun j h1 h2 => ?_) hn
    rw [upd_ne (by omega), upd_ne (by omega), ev, eu]
    by_cases z : j = 96 + c
    · subst z; rw [upd_self, upd_self]
    · rw [upd_ne z, upd_ne z, upd_ne (by omega), upd_ne (by omega), upd_ne (by omega), upd_ne (by omega), upd_ne (by omega)]
theorem wt_h3F (h : wtOk s n) (hn : n ≤ 6) {c : Nat} (hc : c < n) : wtOk (h3F s c) n := by
  unfold h3F
  split
  · exact h
  · split
    · obtain ⟨v, hv, ev⟩ := h c hc
      obtain ⟨u, hu, eu⟩ := min60 (a := 1) hv (by omega)
      refine wt_up (c := c) h hu (fun j h1 h2 => ?_) hn
      rw [ev, eu]
      by_cases z : j = 96 + c
      · subst z; rw [upd_self, upd_self]
      · rw [upd_ne z, upd_ne z, upd_ne (by omega)]
    · exact wt_of h hn (fun j h1 h2 => upd_ne (by omega))
theorem wt_h3N (h : wtOk s n) (hn : n ≤ 6) : ∀ c, c ≤ n → wtOk (h3N s c) n
  | 0, _ => h
  | c + 1, hc => wt_h3F (wt_h3N h hn c (by omega)) hn (by omega)
theorem wt_hour (h : wtOk s n) (hn : n ≤ 6) : wtOk (hourF s n) n := by
  have h1 : wtOk (h2O (h1N s n) n 0 n) n := wt_of h hn (fun j a b => by rw [h2O_lo (by omega), h1N_lo (by omega)])
  refine wt_of (wt_h3N h1 hn n (Nat.le_refl _)) hn (fun j a b => ?_)
  rw [hourF, upd_ne (by omega)]
theorem retN_hi {c j : Nat} (hj : 96 ≤ j) (h2 : j < 102) (hc : c < 6) : ∀ g, retN s c g j = s j
  | 0 => by rw [retN, upd_ne (by omega), upd_ne (by omega)]
  | g + 1 => by rw [retN, upd_ne (by omega)]; exact retN_hi hj h2 hc g
theorem wt_hours (hn : n ≤ 6) : ∀ (k : Nat) (s : Nat → Int32), wtOk s n → wtOk (hoursF n k s) n
  | 0, _, h => h
  | k + 1, s, h => wt_hours hn k _ (wt_hour h hn)
theorem rgT_of (h : rgT s F n U) (hF : F ≤ 8) (hn : n ≤ 6) (hU : U ≤ 5) (he : ∀ j, j < 85 → t j = s j) : rgT t F n U := by
  obtain ⟨h1, h2, h3, h4, h5⟩ := h
  refine ⟨fun f hf => ?_, fun f hf => ?_, fun f hf => ?_, fun j a b => ?_, ?_⟩
  · rw [he _ (by omega)]; exact h1 f hf
  · rw [he _ (by omega)]; exact h2 f hf
  · rw [he _ (by omega)]; exact h3 f hf
  · rw [he _ (by omega)]; exact h4 j a b
  · rw [he _ (by omega)]; exact h5
theorem gWF_mv (h : gWF s F n U) (hl : lWF t F n U) (hw : wtOk t n) (he : ∀ j, j < 85 → t j = s j) : gWF t F n U := by
  obtain ⟨e0, hF, e1, hn, e2, hU⟩ := gWF_n h
  exact ⟨hl, rgT_of h.2.1 hF hn hU he, hw⟩
theorem lWF_of (h : lWF s F n U) (he : ∀ j, j < 144 → t j = s j) : lWF t F n U := by
  obtain ⟨⟨m, hm, hv, h4⟩, ⟨v, hv2, e88⟩, H, hH, e85⟩ := h
  have hF := m.2.1
  exact ⟨⟨mWF_of m (fun j hj => he j (by omega)), fun f hf => by rw [he _ (by omega)]; exact hm f hf, vOk_of hv (fun j a b _ => he j b), by rw [he 4 (by omega)]; exact h4⟩, ⟨v, hv2, by rw [he 88 (by omega)]; exact e88⟩, H, hH, by rw [he 85 (by omega)]; exact e85⟩
theorem gWF_of (h : gWF s F n U) (he : ∀ j, j < 144 → t j = s j) : gWF t F n U :=
  gWF_mv h (lWF_of h.1 he) (wt_of h.2.2 (gWF_n h).2.2.2.1 (fun j a b => he j (by omega))) (fun j hj => he j (by omega))
theorem gWF_act {e k f : Nat} (h : gWF s F n U) (hd : dOk F n U e k (nI f)) (hf : f ≤ F) (hy : whyF s n e k f = nI 0) : gWF (actF s n U e k f) F n U := by
  obtain ⟨e0, hF, e1, hn, e2, hU⟩ := gWF_n h
  refine gWF_mv h (lWF_act h.1 hd hf hy) ?_ (fun j hj => act_lo hj)
  obtain ⟨d0, d1, d2, d3, d4⟩ := hd
  rcases (show e = 0 ∨ e = 1 ∨ e = 2 ∨ e = 3 ∨ e = 4 ∨ e = 5 by omega) with rfl | rfl | rfl | rfl | rfl | rfl
  · rw [actF_0]; exact wt_send h.2.2 hn (d1 rfl).1
  · rw [actF_1]; exact wt_of h.2.2 hn (fun j a b => upd_ne (by omega))
  · rw [actF_2]; exact wt_of h.2.2 hn (fun j a b => upd_ne (by omega))
  · rw [actF_3]; have := d3 (Or.inl rfl); exact wt_of h.2.2 hn (fun j a b => upd_ne (by omega))
  · rw [actF_4]; have := d3 (Or.inr rfl); exact wt_of h.2.2 hn (fun j a b => retN_hi a b (by omega) 4)
  · rw [actF_5]; exact wt_hours hn k s h.2.2
theorem gWF_hour (h : gWF s F n U) {H : Nat} (e85 : s 85 = nI H) (hH : H < 400) : gWF (hourF s n) F n U := by
  obtain ⟨e0, hF, e1, hn, e2, hU⟩ := gWF_n h
  obtain ⟨⟨hw, ⟨v, hv, e88⟩, -⟩, -, hwt⟩ := id h
  exact gWF_mv h ⟨hWF_hour hw, ⟨v, hv, by rw [hourF_lo (by omega) (by omega)]; exact e88⟩, H + 1, by omega, by rw [hourF, upd_self, e85, nI_add]⟩ (wt_hour hwt hn) (fun j hj => hourF_lo (by omega) (by omega))
theorem gWF_dd {p : (Nat → Int32) × Int32} {c : Nat} (h : gWF p.1 F n U) (hc : c < n) : gWF (ddF F n U p c).1 F n U ∧ (ddF F n U p c).1 85 = p.1 85 := by
  obtain ⟨e0, hF, e1, hn, e2, hU⟩ := gWF_n h
  obtain ⟨⟨hw, ⟨v, hv, e88⟩, H, hH, e85⟩, -, hwt⟩ := id h
  unfold ddF
  split
  · exact ⟨h, rfl⟩
  · split
    · dsimp only
      split
      · have hlt : dnF (nxF (nxF p.2)) % (F + 1) ≤ F := by have := Nat.mod_lt (dnF (nxF (nxF p.2))) (show F + 1 > 0 by omega); omega
        exact ⟨gWF_mv h ⟨hWF_send hw (by omega) hlt, ⟨v, hv, by rw [send_88 (Or.inr rfl), e88]⟩, H, hH, by rw [send_88 (Or.inl rfl), e85]⟩ (wt_send hwt hn hc) (fun j hj => sendF_lo (by omega) (by omega) (by omega)), send_88 (Or.inl rfl)⟩
      · exact ⟨h, rfl⟩
    · split
      · dsimp only
        split
        · exact ⟨gWF_mv h ⟨hWF_serve hw (by omega), ⟨v, hv, by rw [upd_ne (by omega), e88]⟩, H, hH, by rw [upd_ne (by omega), e85]⟩ (wt_of hwt hn (fun j a b => upd_ne (by omega))) (fun j hj => upd_ne (by omega)), upd_ne (by omega)⟩
        · exact ⟨h, rfl⟩
      · exact ⟨h, rfl⟩
theorem gWF_ddN {p : (Nat → Int32) × Int32} (h : gWF p.1 F n U) : ∀ c, c ≤ n → gWF (ddN F n U p c).1 F n U ∧ (ddN F n U p c).1 85 = p.1 85
  | 0, _ => ⟨h, rfl⟩
  | c + 1, hc => by
    have ih := gWF_ddN h c (by omega)
    have := gWF_dd (c := c) ih.1 (by omega)
    rw [ddN]
    exact ⟨this.1, this.2.trans ih.2⟩
theorem gWF_dr : ∀ (k : Nat) (p : (Nat → Int32) × Int32) (dn : Nat), gWF p.1 F n U → gWF (drF F n U k p dn).1.1 F n U
  | 0, p, dn, h => h
  | k + 1, p, dn, h => by
    rw [drF]
    split
    · rename_i z
      obtain ⟨H, hH, e85⟩ := h.1.2.2
      have hlt : H < 400 := by
        rw [e85] at z
        apply Classical.byContradiction
        intro q
        rw [nI_lt_f (by omega) (by omega)] at z; exact z
      have h1 := gWF_ddN h n (Nat.le_refl _)
      exact gWF_dr k _ _ (gWF_hour h1.1 (h1.2.trans e85) hlt)
    · exact h
theorem go_min : ∀ (k dn H : Nat) (s : Nat → Int32), s 85 = nI H → H ≤ 400 → goF n k s dn = (hoursF n (min k (400 - H)) s, dn + min k (400 - H))
  | 0, dn, H, s, _, _ => by simp [goF, hoursF]
  | k + 1, dn, H, s, h, hH => by
    rw [goF]
    by_cases z : H < 400
    · rw [h, if_pos (nI_lt (by omega) (by omega)), go_min k (dn + 1) (H + 1) _ (by rw [hourF, upd_self, h, nI_add]) (by omega), show min (k + 1) (400 - H) = min k (400 - (H + 1)) + 1 by omega, hoursF]
      congr 1
      omega
    · obtain rfl : H = 400 := by omega
      rw [h, if_neg (by rw [nI_lt_f (by omega) (by omega)]; exact id)]
      simp [hoursF]
theorem gWF_ex {A9 : Nat → Nat → Int32} {row : Nat → Int32} {m : Nat} (hb : bkRl A9 row F n U m) : ∀ (k i : Nat) (s t : Nat → Int32), i + k = m → gWF s F n U → gWF (exN n U row k i s t).1 F n U
  | 0, _, _, _, _, h => h
  | k + 1, i, s, t, hi, h => by
    obtain ⟨e, kk, f, a1, a2, a3, hf, r1, r2, hk, hd, -, r3⟩ := hb i (by omega)
    have e6 := hd.1
    rw [exN, r1, r2, nI_clamp (by omega), nI_clamp (by omega)]
    have hdo : doesF s n U e kk (row (3 * i + 2)) = doesF s n U e kk (nI f) := by
      by_cases e0 : e = 0
      · rw [r3 e0]
      · exact does_f e0
    rw [hdo]
    obtain ⟨w1, w2, w3, w4⟩ := does_why h.1 hd
    have hg : gWF (doesF s n U e kk (nI f)).2 F n U := by
      by_cases z : whyF s n e kk f = nI 0
      · rw [w2 z]; exact gWF_act h hd hf z
      · rw [w3 z]; exact h
    split
    · exact gWF_ex hb k (i + 1) _ _ (by omega) hg
    · exact hg
end WF
/-- states kept: what changes besides them doesn't matter -/
theorem hsR_out {s t u : Nat → Int32} {k : Nat} (h : mOut s t) : hsR t u k = hsR s u k := by
  funext j
  simp only [hsR, va_cpy]
  by_cases z : 85 ≤ j ∧ j < 85 + 59
  · rw [if_pos z, if_pos z]
  · rw [if_neg z, if_neg z]; exact h j (by omega)
theorem act_out {s : Nat → Int32} {F n U e k f : Nat} (hg : gWF s F n U) (hd : dOk F n U e k (nI f)) : mOut s (actF s n U e k f) := by
  obtain ⟨e0, hF, e1, hn, e2, hU⟩ := gWF_n hg
  obtain ⟨d0, d1, d2, d3, d4⟩ := hd
  rcases (show e = 0 ∨ e = 1 ∨ e = 2 ∨ e = 3 ∨ e = 4 ∨ e = 5 by omega) with rfl | rfl | rfl | rfl | rfl | rfl
  · rw [actF_0]
    intro j hj
    have := (d1 rfl).1
    unfold sendF
    split
    · rw [upd_ne (by omega), upd_ne (by omega), upd_ne (by omega)]
    · rw [upd_ne (by omega), upd_ne (by omega), upd_ne (by omega), upd_ne (by omega), upd_ne (by omega), upd_ne (by omega), upd_ne (by omega), upd_ne (by omega)]
  · rw [actF_1]; intro j hj; exact upd_ne (by omega)
  · rw [actF_2]; intro j hj; exact upd_ne (by omega)
  · rw [actF_3]; intro j hj; have := d3 (Or.inl rfl); exact upd_ne (by omega)
  · rw [actF_4]; intro j hj
    have := d3 (Or.inr rfl)
    have : ∀ g, g ≤ 4 → retN s k g j = s j := by
      intro g
      induction g with
      | zero => intro _; rw [retN, upd_ne (by omega), upd_ne (by omega)]
      | succ g ih => intro hg; rw [retN, upd_ne (by omega)]; exact ih (by omega)
    exact this 4 (Nat.le_refl _)
  · rw [actF_5]
    have : ∀ (k : Nat) (t : Nat → Int32), mWF t F n U → mOut s t → mOut s (hoursF n k t) := by
      intro k
      induction k with
      | zero => intro t _ h; exact h
      | succ k ih => intro t hw h; rw [hoursF]; exact ih _ (mWF_hour hw) (mOut_hour hw h)
    exact this k s hg.1.1.1 (fun _ _ => rfl)
theorem ex_out {A9 : Nat → Nat → Int32} {row : Nat → Int32} {F n U m : Nat} (hb : bkRl A9 row F n U m) : ∀ (k i : Nat) (s t : Nat → Int32), i + k = m → gWF s F n U → mOut s (exN n U row k i s t).1
  | 0, _, _, _, _, _ => fun _ _ => rfl
  | k + 1, i, s, t, hi, h => by
    obtain ⟨e, kk, f, a1, a2, a3, hf, r1, r2, hk, hd, -, r3⟩ := hb i (by omega)
    have e6 := hd.1
    rw [exN, r1, r2, nI_clamp (by omega), nI_clamp (by omega)]
    have hdo : doesF s n U e kk (row (3 * i + 2)) = doesF s n U e kk (nI f) := by
      by_cases e0 : e = 0
      · rw [r3 e0]
      · exact does_f e0
    rw [hdo]
    obtain ⟨w1, w2, w3, w4⟩ := does_why h.1 hd
    have hg : gWF (doesF s n U e kk (nI f)).2 F n U ∧ mOut s (doesF s n U e kk (nI f)).2 := by
      by_cases z : whyF s n e kk f = nI 0
      · rw [w2 z]; exact ⟨gWF_act h hd hf z, act_out h hd⟩
      · rw [w3 z]; exact ⟨h, fun _ _ => rfl⟩
    split
    · intro j hj
      rw [ex_out hb k (i + 1) _ _ (by omega) hg.1 j hj]
      exact hg.2 j hj
    · exact hg.2
/-- a Sentence is told by the row's codes alone -/
theorem seRel_of {s t Ic : Nat → Int32} {Ac : Nat → Nat → Int32} (h : seRel s Ic Ac) (he : ∀ j, 144 ≤ j → j < 325 → t j = s j) : seRel t Ic Ac := by
  obtain ⟨c, what, h1, h2, h3, h4, h5⟩ := h
  refine ⟨c, what, h1, by rw [he 144 (by omega) (by omega)]; exact h2, h3, fun i hi => ?_, h5⟩
  rw [he _ (by omega) (by omega), he (145 + 3 * i + 1) (by omega) (by omega), he (145 + 3 * i + 2) (by omega) (by omega)]
  exact h4 i hi
