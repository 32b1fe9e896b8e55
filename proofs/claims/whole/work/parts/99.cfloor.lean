/-! The class: the line of a floor -/
section CFl
variable {G : iG} {d : Nat} {h : iH} {r t : Nat} {e : rE} {I : Nat → Int32} {q : pS} {al : Nat} {J : Nat → Int32} {B : Nat → Nat → Int32} {M : Nat → Nat → Int64} {F n U : Nat} {nm : Nat → Int64} {s s' : Nat → Int32} {b b' : Int32}
theorem tD_floor (hD : tD F n U J B M b s nm) (hlt : F < 8) (eb : b' = b) {g v : Int32} {w : Int64} {c : Bool} (h0 : s' 0 = s 0 + nI 1) (h21 : s' 21 = if c = true then s 21 ||| shN F else s 21) (hg : s' (5 + F) = g) (hv : s' (13 + F) = v) (hs : ∀ j, j ≠ 0 → j ≠ 21 → j ≠ 5 + F → j ≠ 13 + F → s' j = s j) : tD (F + 1) n U (va_up J 0 (nI (F + 1))) (va_up (va_up (va_up B 1 (upd (B 1) (F + 1) g)) 2 (upd (B 2) (F + 1) v)) 3 (upd (B 3) (F + 1) (if c = true then nI 1 else nI 0))) (va_up M 4 (vp_updL (M 4) (F + 1) w)) b' s' (va_up nm (19 + F) w) := by
  obtain ⟨hf, hc, hu, hl, ho⟩ := hD
  refine ⟨?_, tDc_of hc ?_ rfl rfl rfl ?_ ?_, tDu_of hu ?_ rfl rfl rfl ?_ ?_, tDl_of hl rfl rfl ?_, tDo_of ho eb rfl rfl ?_ ?_⟩
  · obtain ⟨f1, f2, f3, f4, x, f5, f6, f7⟩ := hf
    have hb : ∀ k, k < 8 → bitF (s' 21) (nI k) = (bitF (nI x) (nI k) || (c && decide (F = k))) := by
      intro k hk
      rw [h21, f6]
      cases c
      · simp
      · simp only [if_true, Bool.true_and]
        exact bit_or f5 (by omega) (by omega)
    have hx : ∃ x', x' < 512 ∧ s' 21 = nI x' := by
      rw [h21, f6]
      cases c
      · exact ⟨x, f5, rfl⟩
      · refine ⟨x ||| 2 ^ F, Nat.or_lt_two_pow (n := 9) f5 (by rw [Nat.pow_lt_pow_iff_right (by decide)]; omega), ?_⟩
        simp only [if_true]
        rw [← nI_or]
        congr 1
        have : ∀ k, k < 8 → shN k = nI (2 ^ k) := by decide +kernel
        exact this F hlt
    obtain ⟨x', hx1, hx2⟩ := hx
    refine ⟨by omega, by rw [h0, f2, nI_add], va_sf, fun f hf' => ?_, x', hx1, hx2, fun j j1 j2 => ?_⟩
    · rw [va_sf, va_sf, va_ne (f := va_up (va_up B 1 _) 2 _) (k := 3) (j := 1) (by omega), va_ne (f := va_up (va_up B 1 _) 2 _) (k := 3) (j := 2) (by omega), va_sf, va_ne (f := va_up B 1 _) (k := 2) (j := 1) (by omega), va_sf, hb f (by omega)]
      by_cases z : f = F
      · subst z
        rw [upd_self, upd_self, upd_self, uL_self, va_sf, f7 f (by omega) hlt]
        refine ⟨hg.symm, hv.symm, ?_, rfl⟩
        cases c <;> simp
      · rw [upd_ne (by omega), upd_ne (by omega), upd_ne (by omega), uL_ne (by omega), va_ne (by omega), hs (5 + f) (by omega) (by omega) (by omega) (by omega), hs (13 + f) (by omega) (by omega) (by omega) (by omega)]
        obtain ⟨a1, a2, a3, a4⟩ := f4 f (by omega)
        refine ⟨a1, a2, ?_, a4⟩
        rw [a3, f6]
        have : decide (F = f) = false := decide_eq_false (by omega)
        rw [this, Bool.and_false, Bool.or_false]
    · rw [← hx2, hb j j2, f7 j (by omega) j2]
      have : decide (F = j) = false := decide_eq_false (by omega)
      rw [this, Bool.and_false, Bool.or_false]
  · exact hs _ (by omega) (by omega) (by omega) (by omega)
  · intro j h1 h2; exact hs _ (by omega) (by omega) (by omega) (by omega)
  · intro j h1 h2; rw [va_ne (by omega)]
  · exact hs _ (by omega) (by omega) (by omega) (by omega)
  · intro j h1 h2; exact hs _ (by omega) (by omega) (by omega) (by omega)
  · intro j h1 h2; rw [va_ne (by omega)]
  · intro j h1 h2; exact hs _ (by omega) (by omega) (by omega) (by omega)
  · exact hs _ (by omega) (by omega) (by omega) (by omega)
  · exact hs _ (by omega) (by omega) (by omega) (by omega)
end CFl
