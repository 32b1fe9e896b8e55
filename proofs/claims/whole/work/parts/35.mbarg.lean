/-! The reference: bargain -/
def fstO (p : Nat → Bool) : Nat → Nat → Option Nat
  | _, 0 => none
  | i, r + 1 => if p i = true then some i else fstO p (i + 1) r
theorem fstN_O (p : Nat → Bool) : ∀ (r i : Nat), fstN p i r = (match fstO p i r with | none => -1 | some k => nI k)
  | 0, _ => rfl
  | r + 1, i => by
    rw [fstN, fstO]
    split
    · rfl
    · exact fstN_O p r (i + 1)
theorem fstO_some {p : Nat → Bool} : ∀ (r i k : Nat), fstO p i r = some k → i ≤ k ∧ k < i + r ∧ p k = true
  | 0, _, _, h => by cases h
  | r + 1, i, k, h => by
    rw [fstO] at h
    split at h
    · cases h; exact ⟨Nat.le_refl _, by omega, by assumption⟩
    · have := fstO_some r (i + 1) k h
      exact ⟨by omega, by omega, this.2.2⟩
theorem fstO_none {p : Nat → Bool} : ∀ (r i : Nat), fstO p i r = none → ∀ k, i ≤ k → k < i + r → p k = false
  | 0, _, _, k, h1, h2 => by omega
  | r + 1, i, h, k, h1, h2 => by
    rw [fstO] at h
    split at h
    · cases h
    · rename_i hp
      by_cases hk : k = i
      · subst hk; simpa using hp
      · exact fstO_none r (i + 1) h k (by omega) (by omega)
def lfF (s : Nat → Int32) (c k : Nat) : Int32 := if bitF (mLack s c) (s (5 + k - 1)) = true then s (13 + k - 1) else nI 0
def lcF (s : Nat → Int32) (f c : Nat) : Int32 := s (37 + 6 * f - 6 + c)
def bestN (s : Nat → Int32) (ab : Int32) (c : Nat) : Nat → Nat → Nat → Nat
  | best, _, 0 => best
  | best, k, r + 1 => bestN s ab c (if bitF ab (nI k) = true then best else if best = 0 then k else if lfF s c k ≤ lfF s c best then best else k) (k + 1) r
theorem bestN_spec {s : Nat → Int32} {ab : Int32} {c : Nat} : ∀ (r best k : Nat), best < k → (best = 0 ∨ bitF ab (nI best) = false) → bestN s ab c best k r < k + r ∧ (bestN s ab c best k r = 0 ∨ bitF ab (nI (bestN s ab c best k r)) = false)
  | 0, best, k, h1, h2 => ⟨h1, h2⟩
  | r + 1, best, k, h1, h2 => by
    rw [bestN]
    have : ∀ x, x < k + 1 → (x = 0 ∨ bitF ab (nI x) = false) → bestN s ab c x (k + 1) r < k + (r + 1) ∧ (bestN s ab c x (k + 1) r = 0 ∨ bitF ab (nI (bestN s ab c x (k + 1) r)) = false) := fun x hx hy => by
      have := bestN_spec (s := s) (ab := ab) (c := c) r x (k + 1) hx hy
      exact ⟨by omega, this.2⟩
    cases hb : bitF ab (nI k)
    · simp only [Bool.false_eq_true, if_false]
      split
      · exact this k (by omega) (Or.inr hb)
      · split
        · exact this best (by omega) h2
        · exact this k (by omega) (Or.inr hb)
    · simp only [if_true]
      exact this best (by omega) h2
def askF (s : Nat → Int32) (F n c : Nat) (p : (Nat → Int32) × (Nat → Int32)) : Option ((Nat → Int32) × (Nat → Int32)) :=
  if bestN s (p.2 c) c 0 1 F = 0 then none else
  match fstO (fun e => decide (p.1 e = nI (bestN s (p.2 c) c 0 1 F))) 0 n with
  | none => some (upd p.1 c (nI (bestN s (p.2 c) c 0 1 F)), upd p.2 c (p.2 c ||| shN (bestN s (p.2 c) c 0 1 F)))
  | some o => if lcF s (bestN s (p.2 c) c 0 1 F) c < lcF s (bestN s (p.2 c) c 0 1 F) o ∨ (lcF s (bestN s (p.2 c) c 0 1 F) o = lcF s (bestN s (p.2 c) c 0 1 F) c ∧ o < c) then some (p.1, upd p.2 c (p.2 c ||| shN (bestN s (p.2 c) c 0 1 F))) else some (upd (upd p.1 o (-1)) c (nI (bestN s (p.2 c) c 0 1 F)), upd p.2 c (p.2 c ||| shN (bestN s (p.2 c) c 0 1 F)))
def passF (s : Nat → Int32) (F n : Nat) : Nat → Nat → (Nat → Int32) × (Nat → Int32) → Bool → ((Nat → Int32) × (Nat → Int32)) × Bool
  | _, 0, p, mo => (p, mo)
  | c, k + 1, p, mo => if nI 0 ≤ p.1 c then passF s F n (c + 1) k p mo else if s (90 + c) < nI 0 then passF s F n (c + 1) k p mo else (match askF s F n c p with | none => passF s F n (c + 1) k p mo | some p' => passF s F n (c + 1) k p' true)
def bargF (s : Nat → Int32) (F n : Nat) : Nat → (Nat → Int32) × (Nat → Int32) → (Nat → Int32) × (Nat → Int32)
  | 0, p => p
  | k + 1, p => if (passF s F n 0 n p false).2 = true then bargF s F n k (passF s F n 0 n p false).1 else (passF s F n 0 n p false).1
/-- rows and asked floors as they may be -/
def bOk (F n : Nat) (p : (Nat → Int32) × (Nat → Int32)) : Prop := ∀ c, c < n → (p.1 c = -1 ∨ ∃ f, 1 ≤ f ∧ f ≤ F ∧ p.1 c = nI f) ∧ ∃ x, x < 512 ∧ p.2 c = nI x
def cntU (x : Int32) : Nat → Nat → Nat
  | _, 0 => 0
  | f, k + 1 => (if bitF x (nI f) = true then 0 else 1) + cntU x (f + 1) k
def muB (F : Nat) (ab : Nat → Int32) : Nat → Nat
  | 0 => 0
  | c + 1 => muB F ab c + cntU (ab c) 1 F
theorem bit_test : ∀ x, x < 512 → ∀ k, k < 9 → bitF (nI x) (nI k) = x.testBit k := by decide +kernel
theorem bit_or {x f k : Nat} (hx : x < 512) (hf : f < 9) (hk : k < 9) : bitF (nI x ||| shN f) (nI k) = (bitF (nI x) (nI k) || decide (f = k)) := by
  rw [shN, sh_pow8 f (by omega), nI_or, bit_test _ (Nat.or_lt_two_pow (n := 9) hx (Nat.pow_lt_pow_right (by omega) hf)) k hk, bit_test x hx k hk, Nat.testBit_or, Nat.testBit_two_pow]
theorem cntU_or {x f : Nat} (hx : x < 512) (hf : f < 9) : ∀ (r k : Nat), k + r ≤ 9 → cntU (nI x ||| shN f) k r ≤ cntU (nI x) k r ∧ (k ≤ f → f < k + r → bitF (nI x) (nI f) = false → cntU (nI x ||| shN f) k r < cntU (nI x) k r)
  | 0, k, _ => ⟨Nat.le_refl _, fun h1 h2 => by omega⟩
  | r + 1, k, hk => by
    have ih := cntU_or hx hf r (k + 1) (by omega)
    rw [cntU, cntU, bit_or hx hf (by omega)]
    by_cases hkf : f = k
    · subst hkf
      have h1 := ih.1
      cases hb : bitF (nI x) (nI f)
      · refine ⟨?_, fun _ _ _ => ?_⟩ <;> simp [hb] <;> omega
      · refine ⟨?_, fun _ _ h => by cases h⟩
        simp [hb]
        omega
    · simp only [hkf, decide_false, Bool.or_false]
      refine ⟨by have := ih.1; omega, fun h1 h2 h3 => ?_⟩
      have := ih.2 (by omega) (by omega) h3
      omega
theorem muB_upd {F : Nat} {ab : Nat → Int32} {c : Nat} {v : Int32} : ∀ n, muB F (upd ab c v) n + (if c < n then cntU (ab c) 1 F else 0) = muB F ab n + (if c < n then cntU v 1 F else 0)
  | 0 => by simp [muB]
  | n + 1 => by
    rw [muB, muB]
    have ih := muB_upd (F := F) (ab := ab) (c := c) (v := v) n
    by_cases hc : c = n
    · subst hc
      rw [upd_self]
      simp at ih ⊢
      omega
    · rw [upd_ne (fun e => hc e.symm)]
      by_cases hlt : c < n
      · have h2 : c < n + 1 := by omega
        simp [hlt, h2] at ih ⊢
        omega
      · have h2 : ¬ c < n + 1 := by omega
        simp [hlt, h2] at ih ⊢
        omega
theorem askF_ok {s : Nat → Int32} {F n c : Nat} {p p' : (Nat → Int32) × (Nat → Int32)} (hF : F ≤ 8) (hc : c < n) (hp : bOk F n p) (h : askF s F n c p = some p') : bOk F n p' ∧ muB F p'.2 n < muB F p.2 n := by
  unfold askF at h
  have hb := bestN_spec (s := s) (ab := p.2 c) (c := c) F 0 1 (by omega) (Or.inl rfl)
  generalize bestN s (p.2 c) c 0 1 F = f at h hb
  by_cases hf0 : f = 0
  · rw [if_pos hf0] at h; cases h
  · rw [if_neg hf0] at h
    obtain ⟨x, hx, hxe⟩ := (hp c hc).2
    have hbit : bitF (nI x) (nI f) = false := by
      rcases hb.2 with h1 | h1
      · exact absurd h1 hf0
      · rw [hxe] at h1; exact h1
    have hab : ∀ br : Nat → Int32, (∀ e, e < n → br e = -1 ∨ ∃ f, 1 ≤ f ∧ f ≤ F ∧ br e = nI f) → bOk F n (br, upd p.2 c (p.2 c ||| shN f)) := by
      intro br hbr e he
      refine ⟨hbr e he, ?_⟩
      by_cases hec : e = c
      · subst hec
        refine ⟨x ||| 2 ^ f, Nat.or_lt_two_pow (n := 9) hx (Nat.pow_lt_pow_right (by omega) (by omega)), ?_⟩
        show upd p.2 e (p.2 e ||| shN f) e = _
        rw [upd_self, hxe, shN, sh_pow8 f (by omega), nI_or]
      · show ∃ x, x < 512 ∧ upd p.2 c (p.2 c ||| shN f) e = nI x
        rw [upd_ne hec]
        exact (hp e he).2
    have hmu : muB F (upd p.2 c (p.2 c ||| shN f)) n < muB F p.2 n := by
      have h1 := muB_upd (F := F) (ab := p.2) (c := c) (v := p.2 c ||| shN f) n
      rw [if_pos hc, if_pos hc] at h1
      have h2 := (cntU_or hx (show f < 9 by omega) F 1 (by omega)).2 (by omega) (by omega) hbit
      rw [← hxe] at h2
      omega
    have hset : ∀ br : Nat → Int32, (∀ e, e < n → br e = -1 ∨ ∃ f, 1 ≤ f ∧ f ≤ F ∧ br e = nI f) → ∀ e, e < n → upd br c (nI f) e = -1 ∨ ∃ g, 1 ≤ g ∧ g ≤ F ∧ upd br c (nI f) e = nI g := by
      intro br hbr e he
      by_cases hec : e = c
      · subst hec; rw [upd_self]; exact Or.inr ⟨f, by omega, by omega, rfl⟩
      · rw [upd_ne hec]; exact hbr e he
    split at h
    · cases h
      exact ⟨hab _ (hset _ (fun e he => (hp e he).1)), hmu⟩
    · rename_i o ho
      split at h
      · cases h
        exact ⟨hab _ (fun e he => (hp e he).1), hmu⟩
      · cases h
        refine ⟨hab _ (hset _ (fun e he => ?_)), hmu⟩
        by_cases heo : e = o
        · subst heo; rw [upd_self]; exact Or.inl rfl
        · rw [upd_ne heo]; exact (hp e he).1
theorem passF_ok {s : Nat → Int32} {F n : Nat} (hF : F ≤ 8) : ∀ (k c : Nat) (p : (Nat → Int32) × (Nat → Int32)) (mo : Bool), c + k = n → bOk F n p → bOk F n (passF s F n c k p mo).1 ∧ muB F (passF s F n c k p mo).1.2 n ≤ muB F p.2 n ∧ ((passF s F n c k p mo).2 = true → mo = true ∨ muB F (passF s F n c k p mo).1.2 n < muB F p.2 n)
  | 0, c, p, mo, _, hp => ⟨hp, Nat.le_refl _, fun h => Or.inl h⟩
  | k + 1, c, p, mo, hc, hp => by
    rw [passF]
    split
    · exact passF_ok hF k (c + 1) p mo (by omega) hp
    · split
      · exact passF_ok hF k (c + 1) p mo (by omega) hp
      · split
        · exact passF_ok hF k (c + 1) p mo (by omega) hp
        · rename_i p' hp'
          obtain ⟨h1, h2⟩ := askF_ok hF (show c < n by omega) hp hp'
          obtain ⟨g1, g2, g3⟩ := passF_ok (s := s) hF k (c + 1) p' true (by omega) h1
          exact ⟨g1, by omega, fun _ => Or.inr (by omega)⟩
section MBa
variable {G : iG} {d : Nat} {b : Nat} {I : Nat → Int32} {W : Int64} {A : Nat → Nat → Int32} {N : Nat → Nat → Int64} {h0 h : iH} {Q : Option Value → iH → Prop} {F n U m : Nat}
theorem t_likesFloor {c f : Nat} (hc : c < 6) (hf : 1 ≤ f) (hf8 : f ≤ 8) : C G (d + 2) 0 0 mX12_likesFloor [.ref b, .int (nI c), .int (nI f)] (mH G b I W A N h0) (iR (some (.int (lfF (A 2) c f))) (mH G b I W A N h0)) := by
  refine C_in p_RX12 (Nat.le_of_ble_eq_true rfl) rfl ?_
  refine wp_ok (cuts := []) 30 _ _ _ _ ?_
  simp (config := { maxSteps := 2000000 }) (disch := omega) only [wp_su, wp_0, eX12_likesFloor_0, eX12_likesFloor_1, eX12_likesFloor_2, eX12_likesFloor_5, eX12_likesFloor_6, eX12_likesFloor_9, eX12_likesFloor_10, eX12_likesFloor_11, eX12_likesFloor_12, eX12_likesFloor_13, eX12_likesFloor_14, eX12_likesFloor_15, eX12_likesFloor_18, eX12_likesFloor_21, eX12_likesFloor_22, eX12_likesFloor_25, eX12_likesFloor_27, eX12_likesFloor_28, eX12_likesFloor_29, eX12_likesFloor_30, eX12_likesFloor_31, eX12_likesFloor_32, eX12_likesFloor_35, eX12_likesFloor_36, S_aload_n0, S_aload_n0N, S_bipush, S_callS, S_callV, S_getf, S_goto, S_iadd, S_iald, S_iconst, S_if_eq, S_iload_n1, S_iload_n2, S_ireturn, S_isub, g_RX12_33, jb_13, jc_0, jc_1, jc_5, aX12_likesFloor, bX12_likesFloor, rX12_likesFloor, nar_i, nar_n0, nar_n1, List.mem_cons, List.not_mem_nil, or_false, or_self, if_false, if_true, true_and, and_true, Nat.reduceEqDiff, Nat.reduceAdd, Nat.reduceLT, reduceIte, iSet_1, iEnt_e, iEn_n, iEn_i, iEn_r, iEn_u, iEn_l, List.cons_append, List.nil_append, List.length_cons, List.length_nil, Nat.reduceSub, List.replicate_succ, List.replicate_zero, Nat.zero_add, nI_lit0, va_up_app, nI_add, nI_mul, nI_sub, nI_clamp, vp_nI, nI_le_t, nI_le_f, nI_lt_t, nI_lt_f, imp_t, imp_f, not_true_eq_false, not_false_eq_true, iR_t, nar_zI, zI_f0, zI_t0, va_up_same, upd_ne, upd_self, m_o, mFs_len, mf_6, m_2, mu_2]
  refine dV1 (Y' := mX12_lacksOf) eX12_likesFloor_2 l_RX12_313 kX12_lacksOf iX12_lacksOf nX12_lacksOf m_o rfl rfl (Nat.le_of_ble_eq_true rfl) (t_lacksOf hc) ?_
  refine wp_ok (cuts := []) 30 _ _ _ _ ?_
  simp (config := { maxSteps := 2000000 }) (disch := omega) only [wp_su, wp_0, eX12_likesFloor_0, eX12_likesFloor_1, eX12_likesFloor_2, eX12_likesFloor_5, eX12_likesFloor_6, eX12_likesFloor_9, eX12_likesFloor_10, eX12_likesFloor_11, eX12_likesFloor_12, eX12_likesFloor_13, eX12_likesFloor_14, eX12_likesFloor_15, eX12_likesFloor_18, eX12_likesFloor_21, eX12_likesFloor_22, eX12_likesFloor_25, eX12_likesFloor_27, eX12_likesFloor_28, eX12_likesFloor_29, eX12_likesFloor_30, eX12_likesFloor_31, eX12_likesFloor_32, eX12_likesFloor_35, eX12_likesFloor_36, S_aload_n0, S_aload_n0N, S_bipush, S_callS, S_callV, S_getf, S_goto, S_iadd, S_iald, S_iconst, S_if_eq, S_iload_n1, S_iload_n2, S_ireturn, S_isub, g_RX12_33, jb_13, jc_0, jc_1, jc_5, aX12_likesFloor, bX12_likesFloor, rX12_likesFloor, nar_i, nar_n0, nar_n1, List.mem_cons, List.not_mem_nil, or_false, or_self, if_false, if_true, true_and, and_true, Nat.reduceEqDiff, Nat.reduceAdd, Nat.reduceLT, reduceIte, iSet_1, iEnt_e, iEn_n, iEn_i, iEn_r, iEn_u, iEn_l, List.cons_append, List.nil_append, List.length_cons, List.length_nil, Nat.reduceSub, List.replicate_succ, List.replicate_zero, Nat.zero_add, nI_lit0, va_up_app, nI_add, nI_mul, nI_sub, nI_clamp, vp_nI, nI_le_t, nI_le_f, nI_lt_t, nI_lt_f, imp_t, imp_f, not_true_eq_false, not_false_eq_true, iR_t, nar_zI, zI_f0, zI_t0, va_up_same, upd_ne, upd_self, m_o, mFs_len, mf_6, m_2, mu_2]
  refine dS2 (Y' := mX12_bitOf) eX12_likesFloor_15 l_RX12_256 kX12_bitOf sX12_bitOf nX12_bitOf (Nat.le_of_ble_eq_true rfl) t_bitOf ?_
  unfold lfF
  cases hb : bitF (mLack (A 2) c) (A 2 (5 + f - 1))
  · refine wp_ok (cuts := []) 30 _ _ _ _ ?_
    simp (config := { maxSteps := 2000000 }) (disch := omega) only [wp_su, wp_0, eX12_likesFloor_0, eX12_likesFloor_1, eX12_likesFloor_2, eX12_likesFloor_5, eX12_likesFloor_6, eX12_likesFloor_9, eX12_likesFloor_10, eX12_likesFloor_11, eX12_likesFloor_12, eX12_likesFloor_13, eX12_likesFloor_14, eX12_likesFloor_15, eX12_likesFloor_18, eX12_likesFloor_21, eX12_likesFloor_22, eX12_likesFloor_25, eX12_likesFloor_27, eX12_likesFloor_28, eX12_likesFloor_29, eX12_likesFloor_30, eX12_likesFloor_31, eX12_likesFloor_32, eX12_likesFloor_35, eX12_likesFloor_36, S_aload_n0, S_aload_n0N, S_bipush, S_callS, S_callV, S_getf, S_goto, S_iadd, S_iald, S_iconst, S_if_eq, S_iload_n1, S_iload_n2, S_ireturn, S_isub, g_RX12_33, jb_13, jc_0, jc_1, jc_5, aX12_likesFloor, bX12_likesFloor, rX12_likesFloor, nar_i, nar_n0, nar_n1, List.mem_cons, List.not_mem_nil, or_false, or_self, if_false, if_true, true_and, and_true, Nat.reduceEqDiff, Nat.reduceAdd, Nat.reduceLT, reduceIte, iSet_1, iEnt_e, iEn_n, iEn_i, iEn_r, iEn_u, iEn_l, List.cons_append, List.nil_append, List.length_cons, List.length_nil, Nat.reduceSub, List.replicate_succ, List.replicate_zero, Nat.zero_add, nI_lit0, va_up_app, nI_add, nI_mul, nI_sub, nI_clamp, vp_nI, nI_le_t, nI_le_f, nI_lt_t, nI_lt_f, imp_t, imp_f, not_true_eq_false, not_false_eq_true, iR_t, nar_zI, zI_f0, zI_t0, va_up_same, upd_ne, upd_self, m_o, mFs_len, mf_6, m_2, mu_2, Bool.false_eq_true]
  · refine wp_ok (cuts := []) 30 _ _ _ _ ?_
    simp (config := { maxSteps := 2000000 }) (disch := omega) only [wp_su, wp_0, eX12_likesFloor_0, eX12_likesFloor_1, eX12_likesFloor_2, eX12_likesFloor_5, eX12_likesFloor_6, eX12_likesFloor_9, eX12_likesFloor_10, eX12_likesFloor_11, eX12_likesFloor_12, eX12_likesFloor_13, eX12_likesFloor_14, eX12_likesFloor_15, eX12_likesFloor_18, eX12_likesFloor_21, eX12_likesFloor_22, eX12_likesFloor_25, eX12_likesFloor_27, eX12_likesFloor_28, eX12_likesFloor_29, eX12_likesFloor_30, eX12_likesFloor_31, eX12_likesFloor_32, eX12_likesFloor_35, eX12_likesFloor_36, S_aload_n0, S_aload_n0N, S_bipush, S_callS, S_callV, S_getf, S_goto, S_iadd, S_iald, S_iconst, S_if_eq, S_iload_n1, S_iload_n2, S_ireturn, S_isub, g_RX12_33, jb_13, jc_0, jc_1, jc_5, aX12_likesFloor, bX12_likesFloor, rX12_likesFloor, nar_i, nar_n0, nar_n1, List.mem_cons, List.not_mem_nil, or_false, or_self, if_false, if_true, true_and, and_true, Nat.reduceEqDiff, Nat.reduceAdd, Nat.reduceLT, reduceIte, iSet_1, iEnt_e, iEn_n, iEn_i, iEn_r, iEn_u, iEn_l, List.cons_append, List.nil_append, List.length_cons, List.length_nil, Nat.reduceSub, List.replicate_succ, List.replicate_zero, Nat.zero_add, nI_lit0, va_up_app, nI_add, nI_mul, nI_sub, nI_clamp, vp_nI, nI_le_t, nI_le_f, nI_lt_t, nI_lt_f, imp_t, imp_f, not_true_eq_false, not_false_eq_true, iR_t, nar_zI, zI_f0, zI_t0, va_up_same, upd_ne, upd_self, m_o, mFs_len, mf_6, m_2, mu_2]
theorem t_likesChild {c f : Nat} (hc : c < 6) (hf : 1 ≤ f) (hf8 : f ≤ 8) : C G d 0 0 mX12_likesChild [.ref b, .int (nI f), .int (nI c)] (mH G b I W A N h0) (iR (some (.int (lcF (A 2) f c))) (mH G b I W A N h0)) := by
  unfold lcF
  refine C_in p_RX12 (Nat.le_of_ble_eq_true rfl) rfl ?_
  refine wp_ok (cuts := []) 30 _ _ _ _ ?_
  simp (config := { maxSteps := 2000000 }) (disch := omega) only [wp_su, wp_0, eX12_likesChild_0, eX12_likesChild_1, eX12_likesChild_4, eX12_likesChild_6, eX12_likesChild_8, eX12_likesChild_9, eX12_likesChild_10, eX12_likesChild_11, eX12_likesChild_13, eX12_likesChild_14, eX12_likesChild_15, eX12_likesChild_16, eX12_likesChild_17, S_aload_n0, S_aload_n0N, S_bipush, S_getf, S_iadd, S_iald, S_iload_n1, S_iload_n2, S_imul, S_ireturn, S_isub, g_RX12_33, jb_37, jb_6, aX12_likesChild, bX12_likesChild, rX12_likesChild, nar_i, nar_n0, nar_n1, List.mem_cons, List.not_mem_nil, or_false, or_self, if_false, if_true, true_and, and_true, Nat.reduceEqDiff, Nat.reduceAdd, Nat.reduceLT, reduceIte, iSet_1, iEnt_e, iEn_n, iEn_i, iEn_r, iEn_u, iEn_l, List.cons_append, List.nil_append, List.length_cons, List.length_nil, Nat.reduceSub, List.replicate_succ, List.replicate_zero, Nat.zero_add, nI_lit0, va_up_app, nI_add, nI_mul, nI_sub, nI_clamp, vp_nI, nI_le_t, nI_le_f, nI_lt_t, nI_lt_f, imp_t, imp_f, not_true_eq_false, not_false_eq_true, iR_t, nar_zI, zI_f0, zI_t0, va_up_same, upd_ne, upd_self, m_o, mFs_len, mf_6, m_2, mu_2]
theorem L_holderOf {f : Nat} (hn : A 2 1 = nI n) (hn6 : n ≤ 6) : ∀ (k g : Nat), g + k = n → K G d 0 0 mX12_holderOf 2 [some (.ref b), some (.int (nI f)), some (.int (nI g))] [] (mH G b I W A N h0) (iR (some (.int (fstN (fun c => decide (A 14 c = nI f)) g k))) (mH G b I W A N h0)) := by
  intro k
  induction k with
  | zero =>
    intro g hg
    obtain rfl : g = n := by omega
    refine wp_ok (cuts := []) 30 _ _ _ _ ?_
    simp (config := { maxSteps := 2000000 }) (disch := omega) only [wp_su, wp_0, eX12_holderOf_0, eX12_holderOf_1, eX12_holderOf_2, eX12_holderOf_3, eX12_holderOf_4, eX12_holderOf_7, eX12_holderOf_8, eX12_holderOf_9, eX12_holderOf_12, eX12_holderOf_13, eX12_holderOf_16, eX12_holderOf_17, eX12_holderOf_18, eX12_holderOf_19, eX12_holderOf_22, eX12_holderOf_23, eX12_holderOf_24, eX12_holderOf_27, eX12_holderOf_30, eX12_holderOf_31, S_aload_n0, S_aload_n0N, S_getf, S_goto, S_iald, S_icmp_ge, S_icmp_ne, S_iconst, S_iinc_2, S_iload_n1, S_iload_n2, S_ireturn, S_istore_2, g_RX12_33, g_RX12_83, iCk_i, iCk_l, iCk_n, iCk_o, iCk_r, iS1_2, ic_m1, jc_0, jc_1, aX12_holderOf, bX12_holderOf, rX12_holderOf, nar_i, nar_n0, nar_n1, List.mem_cons, List.not_mem_nil, or_false, or_self, if_false, if_true, true_and, and_true, Nat.reduceEqDiff, Nat.reduceAdd, Nat.reduceLT, reduceIte, iSet_1, iEnt_e, iEn_n, iEn_i, iEn_r, iEn_u, iEn_l, List.cons_append, List.nil_append, List.length_cons, List.length_nil, Nat.reduceSub, List.replicate_succ, List.replicate_zero, Nat.zero_add, nI_lit0, va_up_app, nI_add, nI_mul, nI_sub, nI_clamp, vp_nI, nI_le_t, nI_le_f, nI_lt_t, nI_lt_f, imp_t, imp_f, not_true_eq_false, not_false_eq_true, iR_t, nar_zI, zI_f0, zI_t0, va_up_same, upd_ne, upd_self, m_o, mFs_len, mf_6, m_2, mu_2, mf_35, m_14, mu_14, hn, fstN, ic_m1]
  | succ k ih =>
    intro g hg
    refine wp_ok (cuts := []) 1 _ _ _ _ ?_
    simp only [wp_su, wp_0, eX12_holderOf_2, S_iload_n2, List.not_mem_nil, if_false]
    refine wp_ok (cuts := [2]) 30 _ _ _ _ ?_
    simp (config := { maxSteps := 2000000 }) (disch := omega) only [wp_su, wp_0, eX12_holderOf_0, eX12_holderOf_1, eX12_holderOf_2, eX12_holderOf_3, eX12_holderOf_4, eX12_holderOf_7, eX12_holderOf_8, eX12_holderOf_9, eX12_holderOf_12, eX12_holderOf_13, eX12_holderOf_16, eX12_holderOf_17, eX12_holderOf_18, eX12_holderOf_19, eX12_holderOf_22, eX12_holderOf_23, eX12_holderOf_24, eX12_holderOf_27, eX12_holderOf_30, eX12_holderOf_31, S_aload_n0, S_aload_n0N, S_getf, S_goto, S_iald, S_icmp_ge, S_icmp_ne, S_iconst, S_iinc_2, S_iload_n1, S_iload_n2, S_ireturn, S_istore_2, g_RX12_33, g_RX12_83, iCk_i, iCk_l, iCk_n, iCk_o, iCk_r, iS1_2, ic_m1, jc_0, jc_1, aX12_holderOf, bX12_holderOf, rX12_holderOf, nar_i, nar_n0, nar_n1, List.mem_cons, List.not_mem_nil, or_false, or_self, if_false, if_true, true_and, and_true, Nat.reduceEqDiff, Nat.reduceAdd, Nat.reduceLT, reduceIte, iSet_1, iEnt_e, iEn_n, iEn_i, iEn_r, iEn_u, iEn_l, List.cons_append, List.nil_append, List.length_cons, List.length_nil, Nat.reduceSub, List.replicate_succ, List.replicate_zero, Nat.zero_add, nI_lit0, va_up_app, nI_add, nI_mul, nI_sub, nI_clamp, vp_nI, nI_le_t, nI_le_f, nI_lt_t, nI_lt_f, imp_t, imp_f, not_true_eq_false, not_false_eq_true, iR_t, nar_zI, zI_f0, zI_t0, va_up_same, upd_ne, upd_self, m_o, mFs_len, mf_6, m_2, mu_2, mf_35, m_14, mu_14, hn, fstN]
    have e := ih (g + 1) (by omega)
    refine ⟨fun h1 => ?_, fun h1 => ?_⟩
    · simp only [h1, decide_false, Bool.false_eq_true, if_false]
      exact e
    · simp [h1, iR]
theorem t_holderOf {f : Nat} (hn : A 2 1 = nI n) (hn6 : n ≤ 6) : C G d 0 0 mX12_holderOf [.ref b, .int (nI f)] (mH G b I W A N h0) (iR (some (.int (fstN (fun c => decide (A 14 c = nI f)) 0 n))) (mH G b I W A N h0)) := by
  refine C_in p_RX12 (Nat.le_of_ble_eq_true rfl) rfl ?_
  refine wp_ok (cuts := [2]) 30 _ _ _ _ ?_
  simp (config := { maxSteps := 2000000 }) (disch := omega) only [wp_su, wp_0, eX12_holderOf_0, eX12_holderOf_1, eX12_holderOf_2, eX12_holderOf_3, eX12_holderOf_4, eX12_holderOf_7, eX12_holderOf_8, eX12_holderOf_9, eX12_holderOf_12, eX12_holderOf_13, eX12_holderOf_16, eX12_holderOf_17, eX12_holderOf_18, eX12_holderOf_19, eX12_holderOf_22, eX12_holderOf_23, eX12_holderOf_24, eX12_holderOf_27, eX12_holderOf_30, eX12_holderOf_31, S_aload_n0, S_aload_n0N, S_getf, S_goto, S_iald, S_icmp_ge, S_icmp_ne, S_iconst, S_iinc_2, S_iload_n1, S_iload_n2, S_ireturn, S_istore_2, g_RX12_33, g_RX12_83, iCk_i, iCk_l, iCk_n, iCk_o, iCk_r, iS1_2, ic_m1, jc_0, jc_1, aX12_holderOf, bX12_holderOf, rX12_holderOf, nar_i, nar_n0, nar_n1, List.mem_cons, List.not_mem_nil, or_false, or_self, if_false, if_true, true_and, and_true, Nat.reduceEqDiff, Nat.reduceAdd, Nat.reduceLT, reduceIte, iSet_1, iEnt_e, iEn_n, iEn_i, iEn_r, iEn_u, iEn_l, List.cons_append, List.nil_append, List.length_cons, List.length_nil, Nat.reduceSub, List.replicate_succ, List.replicate_zero, Nat.zero_add, nI_lit0, va_up_app, nI_add, nI_mul, nI_sub, nI_clamp, vp_nI, nI_le_t, nI_le_f, nI_lt_t, nI_lt_f, imp_t, imp_f, not_true_eq_false, not_false_eq_true, iR_t, nar_zI, zI_f0, zI_t0, va_up_same, upd_ne, upd_self, m_o, mFs_len, mf_6, m_2, mu_2, mf_35, m_14, mu_14]
  exact L_holderOf hn hn6 n 0 (by omega)
set_option maxRecDepth 20000 in
theorem L_asks1 {c : Nat} (hc : c < 6) (e0 : A 2 0 = nI F) (hF : F ≤ 8) {r : Nat} (cont : ∀ o, K G (d + 3) 0 0 mX12_asks 54 [some (.ref b), some (.int (nI c)), some (.int (nI r)), o] [] (mH G b I W A N h0) Q) : ∀ (k f best : Nat), f + k = F + 1 → 0 < f → best < f → bestN (A 2) (A 15 c) c best f k = r → K G (d + 3) 0 0 mX12_asks 4 [some (.ref b), some (.int (nI c)), some (.int (nI best)), some (.int (nI f))] [] (mH G b I W A N h0) Q := by
  intro k
  induction k with
  | zero =>
    intro f best hf hf0 hb hr
    obtain rfl : f = F + 1 := by omega
    rw [bestN] at hr
    subst hr
    refine wp_ok (cuts := [54]) 30 _ _ _ _ ?_
    simp (config := { maxSteps := 2000000 }) (disch := omega) only [wp_su, wp_0, eX12_asks_0, eX12_asks_1, eX12_asks_2, eX12_asks_3, eX12_asks_4, eX12_asks_5, eX12_asks_6, eX12_asks_9, eX12_asks_10, eX12_asks_11, eX12_asks_14, eX12_asks_15, eX12_asks_18, eX12_asks_19, eX12_asks_20, eX12_asks_21, eX12_asks_24, eX12_asks_27, eX12_asks_28, eX12_asks_31, eX12_asks_32, eX12_asks_33, eX12_asks_34, eX12_asks_37, eX12_asks_38, eX12_asks_39, eX12_asks_40, eX12_asks_43, eX12_asks_46, eX12_asks_47, eX12_asks_48, eX12_asks_51, eX12_asks_54, eX12_asks_55, eX12_asks_58, eX12_asks_59, eX12_asks_60, eX12_asks_61, eX12_asks_64, eX12_asks_65, eX12_asks_66, eX12_asks_67, eX12_asks_68, eX12_asks_69, eX12_asks_70, eX12_asks_71, eX12_asks_72, eX12_asks_73, eX12_asks_74, eX12_asks_77, eX12_asks_78, eX12_asks_79, eX12_asks_82, eX12_asks_83, eX12_asks_84, eX12_asks_85, eX12_asks_88, eX12_asks_89, eX12_asks_90, eX12_asks_91, eX12_asks_94, eX12_asks_97, eX12_asks_98, eX12_asks_99, eX12_asks_100, eX12_asks_103, eX12_asks_104, eX12_asks_105, eX12_asks_106, eX12_asks_109, eX12_asks_112, eX12_asks_113, eX12_asks_114, eX12_asks_117, eX12_asks_118, eX12_asks_119, eX12_asks_120, eX12_asks_123, eX12_asks_124, eX12_asks_127, eX12_asks_128, eX12_asks_129, eX12_asks_130, eX12_asks_131, eX12_asks_134, eX12_asks_135, eX12_asks_136, eX12_asks_137, eX12_asks_138, S_aload_n0, S_aload_n0N, S_callS, S_callV, S_dup2, S_getf, S_goto, S_iald, S_iast, S_icmp_ge, S_icmp_gt, S_icmp_le, S_icmp_ne, S_iconst, S_if_eq, S_if_lt, S_if_ne, S_iinc_3, S_iload_n1, S_iload_n2, S_iload_n3, S_ior, S_ireturn, S_ishl, S_istore_2, S_istore_3, g_RX12_33, g_RX12_83, g_RX12_86, iCk_i, iCk_l, iCk_n, iCk_o, iCk_r, iS1_2, iS1_3, ic_m1, jc_0, jc_1, aX12_asks, bX12_asks, rX12_asks, nar_i, nar_n0, nar_n1, List.mem_cons, List.not_mem_nil, or_false, or_self, if_false, if_true, true_and, and_true, Nat.reduceEqDiff, Nat.reduceAdd, Nat.reduceLT, reduceIte, iSet_1, iEnt_e, iEn_n, iEn_i, iEn_r, iEn_u, iEn_l, List.cons_append, List.nil_append, List.length_cons, List.length_nil, Nat.reduceSub, List.replicate_succ, List.replicate_zero, Nat.zero_add, nI_lit0, va_up_app, nI_add, nI_mul, nI_sub, nI_clamp, vp_nI, nI_le_t, nI_le_f, nI_lt_t, nI_lt_f, imp_t, imp_f, not_true_eq_false, not_false_eq_true, iR_t, nar_zI, zI_f0, zI_t0, va_up_same, upd_ne, upd_self, m_o, mFs_len, mf_6, m_2, mu_2, mf_36, m_15, mu_15, mf_35, m_14, mu_14, e0]
    exact cont _
  | succ k ih =>
    intro f best hf hf0 hb hr
    rw [bestN] at hr
    refine wp_ok (cuts := []) 30 _ _ _ _ ?_
    simp (config := { maxSteps := 2000000 }) (disch := omega) only [wp_su, wp_0, eX12_asks_0, eX12_asks_1, eX12_asks_2, eX12_asks_3, eX12_asks_4, eX12_asks_5, eX12_asks_6, eX12_asks_9, eX12_asks_10, eX12_asks_11, eX12_asks_14, eX12_asks_15, eX12_asks_18, eX12_asks_19, eX12_asks_20, eX12_asks_21, eX12_asks_24, eX12_asks_27, eX12_asks_28, eX12_asks_31, eX12_asks_32, eX12_asks_33, eX12_asks_34, eX12_asks_37, eX12_asks_38, eX12_asks_39, eX12_asks_40, eX12_asks_43, eX12_asks_46, eX12_asks_47, eX12_asks_48, eX12_asks_51, eX12_asks_54, eX12_asks_55, eX12_asks_58, eX12_asks_59, eX12_asks_60, eX12_asks_61, eX12_asks_64, eX12_asks_65, eX12_asks_66, eX12_asks_67, eX12_asks_68, eX12_asks_69, eX12_asks_70, eX12_asks_71, eX12_asks_72, eX12_asks_73, eX12_asks_74, eX12_asks_77, eX12_asks_78, eX12_asks_79, eX12_asks_82, eX12_asks_83, eX12_asks_84, eX12_asks_85, eX12_asks_88, eX12_asks_89, eX12_asks_90, eX12_asks_91, eX12_asks_94, eX12_asks_97, eX12_asks_98, eX12_asks_99, eX12_asks_100, eX12_asks_103, eX12_asks_104, eX12_asks_105, eX12_asks_106, eX12_asks_109, eX12_asks_112, eX12_asks_113, eX12_asks_114, eX12_asks_117, eX12_asks_118, eX12_asks_119, eX12_asks_120, eX12_asks_123, eX12_asks_124, eX12_asks_127, eX12_asks_128, eX12_asks_129, eX12_asks_130, eX12_asks_131, eX12_asks_134, eX12_asks_135, eX12_asks_136, eX12_asks_137, eX12_asks_138, S_aload_n0, S_aload_n0N, S_callS, S_callV, S_dup2, S_getf, S_goto, S_iald, S_iast, S_icmp_ge, S_icmp_gt, S_icmp_le, S_icmp_ne, S_iconst, S_if_eq, S_if_lt, S_if_ne, S_iinc_3, S_iload_n1, S_iload_n2, S_iload_n3, S_ior, S_ireturn, S_ishl, S_istore_2, S_istore_3, g_RX12_33, g_RX12_83, g_RX12_86, iCk_i, iCk_l, iCk_n, iCk_o, iCk_r, iS1_2, iS1_3, ic_m1, jc_0, jc_1, aX12_asks, bX12_asks, rX12_asks, nar_i, nar_n0, nar_n1, List.mem_cons, List.not_mem_nil, or_false, or_self, if_false, if_true, true_and, and_true, Nat.reduceEqDiff, Nat.reduceAdd, Nat.reduceLT, reduceIte, iSet_1, iEnt_e, iEn_n, iEn_i, iEn_r, iEn_u, iEn_l, List.cons_append, List.nil_append, List.length_cons, List.length_nil, Nat.reduceSub, List.replicate_succ, List.replicate_zero, Nat.zero_add, nI_lit0, va_up_app, nI_add, nI_mul, nI_sub, nI_clamp, vp_nI, nI_le_t, nI_le_f, nI_lt_t, nI_lt_f, imp_t, imp_f, not_true_eq_false, not_false_eq_true, iR_t, nar_zI, zI_f0, zI_t0, va_up_same, upd_ne, upd_self, m_o, mFs_len, mf_6, m_2, mu_2, mf_36, m_15, mu_15, mf_35, m_14, mu_14, e0]
    refine dS2 (Y' := mX12_bitOf) eX12_asks_21 l_RX12_256 kX12_bitOf sX12_bitOf nX12_bitOf (Nat.le_of_ble_eq_true rfl) t_bitOf ?_
    cases hbit : bitF (A 15 c) (nI f)
    · simp only [hbit, Bool.false_eq_true, if_false] at hr
      by_cases hb0 : best = 0
      · subst hb0
        simp only [if_true] at hr
        refine wp_ok (cuts := [4]) 30 _ _ _ _ ?_
        simp (config := { maxSteps := 2000000 }) (disch := omega) only [wp_su, wp_0, eX12_asks_0, eX12_asks_1, eX12_asks_2, eX12_asks_3, eX12_asks_4, eX12_asks_5, eX12_asks_6, eX12_asks_9, eX12_asks_10, eX12_asks_11, eX12_asks_14, eX12_asks_15, eX12_asks_18, eX12_asks_19, eX12_asks_20, eX12_asks_21, eX12_asks_24, eX12_asks_27, eX12_asks_28, eX12_asks_31, eX12_asks_32, eX12_asks_33, eX12_asks_34, eX12_asks_37, eX12_asks_38, eX12_asks_39, eX12_asks_40, eX12_asks_43, eX12_asks_46, eX12_asks_47, eX12_asks_48, eX12_asks_51, eX12_asks_54, eX12_asks_55, eX12_asks_58, eX12_asks_59, eX12_asks_60, eX12_asks_61, eX12_asks_64, eX12_asks_65, eX12_asks_66, eX12_asks_67, eX12_asks_68, eX12_asks_69, eX12_asks_70, eX12_asks_71, eX12_asks_72, eX12_asks_73, eX12_asks_74, eX12_asks_77, eX12_asks_78, eX12_asks_79, eX12_asks_82, eX12_asks_83, eX12_asks_84, eX12_asks_85, eX12_asks_88, eX12_asks_89, eX12_asks_90, eX12_asks_91, eX12_asks_94, eX12_asks_97, eX12_asks_98, eX12_asks_99, eX12_asks_100, eX12_asks_103, eX12_asks_104, eX12_asks_105, eX12_asks_106, eX12_asks_109, eX12_asks_112, eX12_asks_113, eX12_asks_114, eX12_asks_117, eX12_asks_118, eX12_asks_119, eX12_asks_120, eX12_asks_123, eX12_asks_124, eX12_asks_127, eX12_asks_128, eX12_asks_129, eX12_asks_130, eX12_asks_131, eX12_asks_134, eX12_asks_135, eX12_asks_136, eX12_asks_137, eX12_asks_138, S_aload_n0, S_aload_n0N, S_callS, S_callV, S_dup2, S_getf, S_goto, S_iald, S_iast, S_icmp_ge, S_icmp_gt, S_icmp_le, S_icmp_ne, S_iconst, S_if_eq, S_if_lt, S_if_ne, S_iinc_3, S_iload_n1, S_iload_n2, S_iload_n3, S_ior, S_ireturn, S_ishl, S_istore_2, S_istore_3, g_RX12_33, g_RX12_83, g_RX12_86, iCk_i, iCk_l, iCk_n, iCk_o, iCk_r, iS1_2, iS1_3, ic_m1, jc_0, jc_1, aX12_asks, bX12_asks, rX12_asks, nar_i, nar_n0, nar_n1, List.mem_cons, List.not_mem_nil, or_false, or_self, if_false, if_true, true_and, and_true, Nat.reduceEqDiff, Nat.reduceAdd, Nat.reduceLT, reduceIte, iSet_1, iEnt_e, iEn_n, iEn_i, iEn_r, iEn_u, iEn_l, List.cons_append, List.nil_append, List.length_cons, List.length_nil, Nat.reduceSub, List.replicate_succ, List.replicate_zero, Nat.zero_add, nI_lit0, va_up_app, nI_add, nI_mul, nI_sub, nI_clamp, vp_nI, nI_le_t, nI_le_f, nI_lt_t, nI_lt_f, imp_t, imp_f, not_true_eq_false, not_false_eq_true, iR_t, nar_zI, zI_f0, zI_t0, va_up_same, upd_ne, upd_self, m_o, mFs_len, mf_6, m_2, mu_2, mf_36, m_15, mu_15, mf_35, m_14, mu_14, nI_eq_t]
        exact ih (f + 1) f (by omega) (by omega) (by omega) hr
      · simp only [hb0, if_false] at hr
        refine wp_ok (cuts := []) 30 _ _ _ _ ?_
        simp (config := { maxSteps := 2000000 }) (disch := omega) only [wp_su, wp_0, eX12_asks_0, eX12_asks_1, eX12_asks_2, eX12_asks_3, eX12_asks_4, eX12_asks_5, eX12_asks_6, eX12_asks_9, eX12_asks_10, eX12_asks_11, eX12_asks_14, eX12_asks_15, eX12_asks_18, eX12_asks_19, eX12_asks_20, eX12_asks_21, eX12_asks_24, eX12_asks_27, eX12_asks_28, eX12_asks_31, eX12_asks_32, eX12_asks_33, eX12_asks_34, eX12_asks_37, eX12_asks_38, eX12_asks_39, eX12_asks_40, eX12_asks_43, eX12_asks_46, eX12_asks_47, eX12_asks_48, eX12_asks_51, eX12_asks_54, eX12_asks_55, eX12_asks_58, eX12_asks_59, eX12_asks_60, eX12_asks_61, eX12_asks_64, eX12_asks_65, eX12_asks_66, eX12_asks_67, eX12_asks_68, eX12_asks_69, eX12_asks_70, eX12_asks_71, eX12_asks_72, eX12_asks_73, eX12_asks_74, eX12_asks_77, eX12_asks_78, eX12_asks_79, eX12_asks_82, eX12_asks_83, eX12_asks_84, eX12_asks_85, eX12_asks_88, eX12_asks_89, eX12_asks_90, eX12_asks_91, eX12_asks_94, eX12_asks_97, eX12_asks_98, eX12_asks_99, eX12_asks_100, eX12_asks_103, eX12_asks_104, eX12_asks_105, eX12_asks_106, eX12_asks_109, eX12_asks_112, eX12_asks_113, eX12_asks_114, eX12_asks_117, eX12_asks_118, eX12_asks_119, eX12_asks_120, eX12_asks_123, eX12_asks_124, eX12_asks_127, eX12_asks_128, eX12_asks_129, eX12_asks_130, eX12_asks_131, eX12_asks_134, eX12_asks_135, eX12_asks_136, eX12_asks_137, eX12_asks_138, S_aload_n0, S_aload_n0N, S_callS, S_callV, S_dup2, S_getf, S_goto, S_iald, S_iast, S_icmp_ge, S_icmp_gt, S_icmp_le, S_icmp_ne, S_iconst, S_if_eq, S_if_lt, S_if_ne, S_iinc_3, S_iload_n1, S_iload_n2, S_iload_n3, S_ior, S_ireturn, S_ishl, S_istore_2, S_istore_3, g_RX12_33, g_RX12_83, g_RX12_86, iCk_i, iCk_l, iCk_n, iCk_o, iCk_r, iS1_2, iS1_3, ic_m1, jc_0, jc_1, aX12_asks, bX12_asks, rX12_asks, nar_i, nar_n0, nar_n1, List.mem_cons, List.not_mem_nil, or_false, or_self, if_false, if_true, true_and, and_true, Nat.reduceEqDiff, Nat.reduceAdd, Nat.reduceLT, reduceIte, iSet_1, iEnt_e, iEn_n, iEn_i, iEn_r, iEn_u, iEn_l, List.cons_append, List.nil_append, List.length_cons, List.length_nil, Nat.reduceSub, List.replicate_succ, List.replicate_zero, Nat.zero_add, nI_lit0, va_up_app, nI_add, nI_mul, nI_sub, nI_clamp, vp_nI, nI_le_t, nI_le_f, nI_lt_t, nI_lt_f, imp_t, imp_f, not_true_eq_false, not_false_eq_true, iR_t, nar_zI, zI_f0, zI_t0, va_up_same, upd_ne, upd_self, m_o, mFs_len, mf_6, m_2, mu_2, mf_36, m_15, mu_15, mf_35, m_14, mu_14, nI_eq_f]
        refine dV2 (Y' := mX12_likesFloor) eX12_asks_34 l_RX12_415 kX12_likesFloor iX12_likesFloor nX12_likesFloor m_o rfl rfl (Nat.le_of_ble_eq_true rfl) (t_likesFloor hc (by omega) (by omega)) ?_
        refine wp_ok (cuts := []) 30 _ _ _ _ ?_
        simp (config := { maxSteps := 2000000 }) (disch := omega) only [wp_su, wp_0, eX12_asks_0, eX12_asks_1, eX12_asks_2, eX12_asks_3, eX12_asks_4, eX12_asks_5, eX12_asks_6, eX12_asks_9, eX12_asks_10, eX12_asks_11, eX12_asks_14, eX12_asks_15, eX12_asks_18, eX12_asks_19, eX12_asks_20, eX12_asks_21, eX12_asks_24, eX12_asks_27, eX12_asks_28, eX12_asks_31, eX12_asks_32, eX12_asks_33, eX12_asks_34, eX12_asks_37, eX12_asks_38, eX12_asks_39, eX12_asks_40, eX12_asks_43, eX12_asks_46, eX12_asks_47, eX12_asks_48, eX12_asks_51, eX12_asks_54, eX12_asks_55, eX12_asks_58, eX12_asks_59, eX12_asks_60, eX12_asks_61, eX12_asks_64, eX12_asks_65, eX12_asks_66, eX12_asks_67, eX12_asks_68, eX12_asks_69, eX12_asks_70, eX12_asks_71, eX12_asks_72, eX12_asks_73, eX12_asks_74, eX12_asks_77, eX12_asks_78, eX12_asks_79, eX12_asks_82, eX12_asks_83, eX12_asks_84, eX12_asks_85, eX12_asks_88, eX12_asks_89, eX12_asks_90, eX12_asks_91, eX12_asks_94, eX12_asks_97, eX12_asks_98, eX12_asks_99, eX12_asks_100, eX12_asks_103, eX12_asks_104, eX12_asks_105, eX12_asks_106, eX12_asks_109, eX12_asks_112, eX12_asks_113, eX12_asks_114, eX12_asks_117, eX12_asks_118, eX12_asks_119, eX12_asks_120, eX12_asks_123, eX12_asks_124, eX12_asks_127, eX12_asks_128, eX12_asks_129, eX12_asks_130, eX12_asks_131, eX12_asks_134, eX12_asks_135, eX12_asks_136, eX12_asks_137, eX12_asks_138, S_aload_n0, S_aload_n0N, S_callS, S_callV, S_dup2, S_getf, S_goto, S_iald, S_iast, S_icmp_ge, S_icmp_gt, S_icmp_le, S_icmp_ne, S_iconst, S_if_eq, S_if_lt, S_if_ne, S_iinc_3, S_iload_n1, S_iload_n2, S_iload_n3, S_ior, S_ireturn, S_ishl, S_istore_2, S_istore_3, g_RX12_33, g_RX12_83, g_RX12_86, iCk_i, iCk_l, iCk_n, iCk_o, iCk_r, iS1_2, iS1_3, ic_m1, jc_0, jc_1, aX12_asks, bX12_asks, rX12_asks, nar_i, nar_n0, nar_n1, List.mem_cons, List.not_mem_nil, or_false, or_self, if_false, if_true, true_and, and_true, Nat.reduceEqDiff, Nat.reduceAdd, Nat.reduceLT, reduceIte, iSet_1, iEnt_e, iEn_n, iEn_i, iEn_r, iEn_u, iEn_l, List.cons_append, List.nil_append, List.length_cons, List.length_nil, Nat.reduceSub, List.replicate_succ, List.replicate_zero, Nat.zero_add, nI_lit0, va_up_app, nI_add, nI_mul, nI_sub, nI_clamp, vp_nI, nI_le_t, nI_le_f, nI_lt_t, nI_lt_f, imp_t, imp_f, not_true_eq_false, not_false_eq_true, iR_t, nar_zI, zI_f0, zI_t0, va_up_same, upd_ne, upd_self, m_o, mFs_len, mf_6, m_2, mu_2, mf_36, m_15, mu_15, mf_35, m_14, mu_14]
        refine dV2 (Y' := mX12_likesFloor) eX12_asks_40 l_RX12_415 kX12_likesFloor iX12_likesFloor nX12_likesFloor m_o rfl rfl (Nat.le_of_ble_eq_true rfl) (t_likesFloor hc (by omega) (by omega)) ?_
        refine wp_ok (cuts := [4]) 30 _ _ _ _ ?_
        simp (config := { maxSteps := 2000000 }) (disch := omega) only [wp_su, wp_0, eX12_asks_0, eX12_asks_1, eX12_asks_2, eX12_asks_3, eX12_asks_4, eX12_asks_5, eX12_asks_6, eX12_asks_9, eX12_asks_10, eX12_asks_11, eX12_asks_14, eX12_asks_15, eX12_asks_18, eX12_asks_19, eX12_asks_20, eX12_asks_21, eX12_asks_24, eX12_asks_27, eX12_asks_28, eX12_asks_31, eX12_asks_32, eX12_asks_33, eX12_asks_34, eX12_asks_37, eX12_asks_38, eX12_asks_39, eX12_asks_40, eX12_asks_43, eX12_asks_46, eX12_asks_47, eX12_asks_48, eX12_asks_51, eX12_asks_54, eX12_asks_55, eX12_asks_58, eX12_asks_59, eX12_asks_60, eX12_asks_61, eX12_asks_64, eX12_asks_65, eX12_asks_66, eX12_asks_67, eX12_asks_68, eX12_asks_69, eX12_asks_70, eX12_asks_71, eX12_asks_72, eX12_asks_73, eX12_asks_74, eX12_asks_77, eX12_asks_78, eX12_asks_79, eX12_asks_82, eX12_asks_83, eX12_asks_84, eX12_asks_85, eX12_asks_88, eX12_asks_89, eX12_asks_90, eX12_asks_91, eX12_asks_94, eX12_asks_97, eX12_asks_98, eX12_asks_99, eX12_asks_100, eX12_asks_103, eX12_asks_104, eX12_asks_105, eX12_asks_106, eX12_asks_109, eX12_asks_112, eX12_asks_113, eX12_asks_114, eX12_asks_117, eX12_asks_118, eX12_asks_119, eX12_asks_120, eX12_asks_123, eX12_asks_124, eX12_asks_127, eX12_asks_128, eX12_asks_129, eX12_asks_130, eX12_asks_131, eX12_asks_134, eX12_asks_135, eX12_asks_136, eX12_asks_137, eX12_asks_138, S_aload_n0, S_aload_n0N, S_callS, S_callV, S_dup2, S_getf, S_goto, S_iald, S_iast, S_icmp_ge, S_icmp_gt, S_icmp_le, S_icmp_ne, S_iconst, S_if_eq, S_if_lt, S_if_ne, S_iinc_3, S_iload_n1, S_iload_n2, S_iload_n3, S_ior, S_ireturn, S_ishl, S_istore_2, S_istore_3, g_RX12_33, g_RX12_83, g_RX12_86, iCk_i, iCk_l, iCk_n, iCk_o, iCk_r, iS1_2, iS1_3, ic_m1, jc_0, jc_1, aX12_asks, bX12_asks, rX12_asks, nar_i, nar_n0, nar_n1, List.mem_cons, List.not_mem_nil, or_false, or_self, if_false, if_true, true_and, and_true, Nat.reduceEqDiff, Nat.reduceAdd, Nat.reduceLT, reduceIte, iSet_1, iEnt_e, iEn_n, iEn_i, iEn_r, iEn_u, iEn_l, List.cons_append, List.nil_append, List.length_cons, List.length_nil, Nat.reduceSub, List.replicate_succ, List.replicate_zero, Nat.zero_add, nI_lit0, va_up_app, nI_add, nI_mul, nI_sub, nI_clamp, vp_nI, nI_le_t, nI_le_f, nI_lt_t, nI_lt_f, imp_t, imp_f, not_true_eq_false, not_false_eq_true, iR_t, nar_zI, zI_f0, zI_t0, va_up_same, upd_ne, upd_self, m_o, mFs_len, mf_6, m_2, mu_2, mf_36, m_15, mu_15, mf_35, m_14, mu_14]
        refine ⟨fun h1 => ?_, fun h1 => ?_⟩
        · rw [if_pos h1] at hr
          exact ih (f + 1) best (by omega) (by omega) (by omega) hr
        · rw [if_neg h1] at hr
          exact ih (f + 1) f (by omega) (by omega) (by omega) hr
    · simp only [hbit, if_true] at hr
      refine wp_ok (cuts := [4]) 30 _ _ _ _ ?_
      simp (config := { maxSteps := 2000000 }) (disch := omega) only [wp_su, wp_0, eX12_asks_0, eX12_asks_1, eX12_asks_2, eX12_asks_3, eX12_asks_4, eX12_asks_5, eX12_asks_6, eX12_asks_9, eX12_asks_10, eX12_asks_11, eX12_asks_14, eX12_asks_15, eX12_asks_18, eX12_asks_19, eX12_asks_20, eX12_asks_21, eX12_asks_24, eX12_asks_27, eX12_asks_28, eX12_asks_31, eX12_asks_32, eX12_asks_33, eX12_asks_34, eX12_asks_37, eX12_asks_38, eX12_asks_39, eX12_asks_40, eX12_asks_43, eX12_asks_46, eX12_asks_47, eX12_asks_48, eX12_asks_51, eX12_asks_54, eX12_asks_55, eX12_asks_58, eX12_asks_59, eX12_asks_60, eX12_asks_61, eX12_asks_64, eX12_asks_65, eX12_asks_66, eX12_asks_67, eX12_asks_68, eX12_asks_69, eX12_asks_70, eX12_asks_71, eX12_asks_72, eX12_asks_73, eX12_asks_74, eX12_asks_77, eX12_asks_78, eX12_asks_79, eX12_asks_82, eX12_asks_83, eX12_asks_84, eX12_asks_85, eX12_asks_88, eX12_asks_89, eX12_asks_90, eX12_asks_91, eX12_asks_94, eX12_asks_97, eX12_asks_98, eX12_asks_99, eX12_asks_100, eX12_asks_103, eX12_asks_104, eX12_asks_105, eX12_asks_106, eX12_asks_109, eX12_asks_112, eX12_asks_113, eX12_asks_114, eX12_asks_117, eX12_asks_118, eX12_asks_119, eX12_asks_120, eX12_asks_123, eX12_asks_124, eX12_asks_127, eX12_asks_128, eX12_asks_129, eX12_asks_130, eX12_asks_131, eX12_asks_134, eX12_asks_135, eX12_asks_136, eX12_asks_137, eX12_asks_138, S_aload_n0, S_aload_n0N, S_callS, S_callV, S_dup2, S_getf, S_goto, S_iald, S_iast, S_icmp_ge, S_icmp_gt, S_icmp_le, S_icmp_ne, S_iconst, S_if_eq, S_if_lt, S_if_ne, S_iinc_3, S_iload_n1, S_iload_n2, S_iload_n3, S_ior, S_ireturn, S_ishl, S_istore_2, S_istore_3, g_RX12_33, g_RX12_83, g_RX12_86, iCk_i, iCk_l, iCk_n, iCk_o, iCk_r, iS1_2, iS1_3, ic_m1, jc_0, jc_1, aX12_asks, bX12_asks, rX12_asks, nar_i, nar_n0, nar_n1, List.mem_cons, List.not_mem_nil, or_false, or_self, if_false, if_true, true_and, and_true, Nat.reduceEqDiff, Nat.reduceAdd, Nat.reduceLT, reduceIte, iSet_1, iEnt_e, iEn_n, iEn_i, iEn_r, iEn_u, iEn_l, List.cons_append, List.nil_append, List.length_cons, List.length_nil, Nat.reduceSub, List.replicate_succ, List.replicate_zero, Nat.zero_add, nI_lit0, va_up_app, nI_add, nI_mul, nI_sub, nI_clamp, vp_nI, nI_le_t, nI_le_f, nI_lt_t, nI_lt_f, imp_t, imp_f, not_true_eq_false, not_false_eq_true, iR_t, nar_zI, zI_f0, zI_t0, va_up_same, upd_ne, upd_self, m_o, mFs_len, mf_6, m_2, mu_2, mf_36, m_15, mu_15, mf_35, m_14, mu_14]
      exact ih (f + 1) best (by omega) (by omega) (by omega) hr
end MBa
