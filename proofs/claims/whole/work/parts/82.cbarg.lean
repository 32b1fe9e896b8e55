/-! The class: bargains -/
def unR (a : Nat → Bool) : Nat → Nat → Nat
  | _, 0 => 0
  | f, k + 1 => (if a f = true then 0 else 1) + unR a (f + 1) k
def unA (a : Nat → Nat → Bool) (F : Nat) : Nat → Nat
  | 0 => 0
  | c + 1 => unA a F c + unR (a c) 1 F
theorem unR_le {a : Nat → Bool} : ∀ (k f : Nat), unR a f k ≤ k
  | 0, _ => Nat.le_refl _
  | k + 1, f => by
    rw [unR]
    have := unR_le (a := a) k (f + 1)
    split <;> omega
theorem unA_le {a : Nat → Nat → Bool} {F : Nat} : ∀ n, unA a F n ≤ n * F
  | 0 => Nat.zero_le _
  | n + 1 => by
    rw [unA, Nat.add_mul, Nat.one_mul]
    have := unA_le (a := a) (F := F) n
    have := unR_le (a := a n) F 1
    omega
theorem unR_congr {a b : Nat → Bool} : ∀ (k f : Nat), (∀ g, f ≤ g → g < f + k → a g = b g) → unR a f k = unR b f k
  | 0, _, _ => rfl
  | k + 1, f, h => by rw [unR, unR, h f (Nat.le_refl _) (by omega), unR_congr k (f + 1) (fun g h1 h2 => h g (by omega) (by omega))]
theorem unR_dec {a b : Nat → Bool} {x : Nat} : ∀ (k f : Nat), (∀ g, f ≤ g → g < f + k → b g = (a g || decide (g = x))) → f ≤ x → x < f + k → a x = false → unR b f k + 1 = unR a f k
  | 0, f, _, h1, h2, _ => by omega
  | k + 1, f, h, h1, h2, hx => by
    rw [unR, unR, h f (Nat.le_refl _) (by omega)]
    by_cases e : f = x
    · subst e
      rw [hx, unR_congr (b := a) k (f + 1) (fun g g1 g2 => by rw [h g (by omega) (by omega)]; simp; omega)]
      simp
      omega
    · have := unR_dec (a := a) (b := b) (x := x) k (f + 1) (fun g g1 g2 => h g (by omega) (by omega)) (by omega) (by omega) hx
      simp only [e, decide_false, Bool.or_false]
      omega
theorem unA_dec {a b : Nat → Nat → Bool} {F c x : Nat} (h1 : 1 ≤ x) (h2 : x ≤ F) (hx : a c x = false) : ∀ n, (∀ e g, e < n → 1 ≤ g → g ≤ F → b e g = (a e g || (decide (e = c) && decide (g = x)))) → unA b F n + (if c < n then 1 else 0) = unA a F n
  | 0, _ => by simp [unA]
  | n + 1, h => by
    have ih := unA_dec (a := a) (b := b) h1 h2 hx n (fun e g he => h e g (by omega))
    rw [unA, unA]
    by_cases e : n = c
    · subst e
      have k := unR_dec (a := a n) (b := b n) (x := x) F 1 (fun g g1 g2 => by rw [h n g (by omega) (by omega) (by omega)]; simp) (by omega) (by omega) hx
      have z : ¬ n < n := by omega
      have z2 : n < n + 1 := by omega
      simp only [z, if_false] at ih
      simp only [z2, if_true]
      omega
    · rw [unR_congr (b := a n) F 1 (fun g g1 g2 => by rw [h n g (by omega) (by omega) (by omega)]; simp [e])]
      by_cases z : c < n
      · have z2 : c < n + 1 := by omega
        simp only [z, z2, if_true] at ih ⊢
        omega
      · have z2 : ¬ c < n + 1 := by omega
        simp only [z, z2, if_false] at ih ⊢
        omega
theorem unR_0 {a : Nat → Bool} : ∀ (k f : Nat), unR a f k = 0 → ∀ g, f ≤ g → g < f + k → a g = true
  | 0, f, _, g, h1, h2 => by omega
  | k + 1, f, h, g, h1, h2 => by
    rw [unR] at h
    by_cases e : g = f
    · subst e
      cases q : a g
      · simp [q] at h
      · rfl
    · exact unR_0 k (f + 1) (by omega) g (by omega) (by omega)
theorem unA_0 {a : Nat → Nat → Bool} {F : Nat} : ∀ n, unA a F n = 0 → ∀ c, c < n → ∀ g, 1 ≤ g → g ≤ F → a c g = true
  | 0, _, c, hc => by omega
  | n + 1, h, c, hc => by
    rw [unA] at h
    by_cases e : c = n
    · subst e
      intro g g1 g2
      exact unR_0 F 1 (by omega) g g1 (by omega)
    · exact unA_0 n (by omega) c (by omega)
def RC (F : Nat) (rf : Nat → Int32) (c f : Nat) : Bool := bitS F (rf c) f
def aC (F : Nat) (rf : Nat → Int32) (mu : Nat → Nat) (c f : Nat) : Bool := RC F rf c f || decide (mu c = f)
/-- the class's bargain: who holds what, who was refused -/
def gC (s : Nat → Int32) (n F : Nat) (co rf fo : Nat → Int32) (mu : Nat → Nat) : Prop :=
  (∀ c, c < n → fo c = rfI (mu c) ∧ mu c ≤ F) ∧ (∀ c, c < n → ∃ x, x < 512 ∧ rf c = nI x) ∧ (∀ f, 1 ≤ f → f ≤ F → (co f = -1 ∧ ∀ o, o < n → mu o ≠ f) ∨ ∃ o, o < n ∧ co f = nI o ∧ mu o = f) ∧ gInv n F (gAct s) (gBt s) (gPr s) mu (RC F rf) ∧ (∀ (mu2 : Nat → Nat) (R2 : Nat → Nat → Bool), gFin n F (gAct s) (gBt s) (gPr s) mu2 R2 → gLe n (RC F rf) R2) ∧ ∀ c, n ≤ c → c < 6 → fo c = -1
theorem m1_n {o : Nat} (h : o < 1000) : (-1 : Int32) ≠ nI o := fun q => by
  have := nI_m1 (b := o) (by omega)
  rw [← q] at this
  exact (this ▸ rfl : False)
theorem rfI_inj {x y : Nat} (hx : x ≤ 8) (hy : y ≤ 8) (h : rfI x = rfI y) : x = y := by
  unfold rfI at h
  split at h
  · split at h
    · omega
    · exact (m1_n (by omega) h).elim
  · split at h
    · exact (m1_n (by omega) h.symm).elim
    · rwa [nI_eq (by omega) (by omega)] at h
section CBg
variable {G : iG} {d : Nat} {h : iH} {a o t : Nat} {J : Nat → Int32} {B : Nat → Nat → Int32} {M : Nat → Nat → Int64} {F n U : Nat} {s w : Nat → Int32} {I : Nat → Int32} {A : Nat → Nat → Int32} {Q : Option Value → iH → Prop}
def moI (s : Nat → Int32) (c best : Nat) : Int32 := if best = 0 then -1 else lfF s c best
theorem lf_v {c f : Nat} (hm : ∀ f, f < F → ∃ v, v < 1000 ∧ s (13 + f) = nI v) (h1 : 1 ≤ f) (h2 : f ≤ F) : ∃ v, v < 1000 ∧ lfF s c f = nI v := by
  unfold lfF
  split
  · have := hm (f - 1) (by omega)
    rwa [show 13 + (f - 1) = 13 + f - 1 by omega] at this
  · exact ⟨0, by decide, rfl⟩
theorem l_dearest {c : Nat} {ab : Int32} (hF : F ≤ 8) (hm : ∀ f, f < F → ∃ v, v < 1000 ∧ s (13 + f) = nI v) (hT : TW G h t J B M) (hS : TS J B s F n U) : ∀ (k f best : Nat) (o6 : Option Value), f + k = F + 1 → 1 ≤ f → best < f → K G d 0 0 mX0_dearestFloor 8 [some (.ref t), some (.int (mLack s c)), some (.int ab), some (.int (rfI best)), some (.int (moI s c best)), some (.int (nI f)), o6] [] h (iR (some (.int (rfI (bestN s ab c best f k)))) h) := by
  obtain ⟨h0, h1, h2, h3, h4, h5, h6, h7, h8, h9, h10, h11⟩ := hS
  intro k
  induction k with
  | zero =>
    intro f best o6 hf hf1 hb
    obtain rfl : f = F + 1 := by omega
    refine wp_ok (cuts := []) 30 _ _ _ _ ?_
    simp (config := { maxSteps := 2000000 }) (disch := omega) only [wp_su, wp_0, eX0_dearestFloor_0, eX0_dearestFloor_1, eX0_dearestFloor_2, eX0_dearestFloor_3, eX0_dearestFloor_5, eX0_dearestFloor_6, eX0_dearestFloor_8, eX0_dearestFloor_10, eX0_dearestFloor_11, eX0_dearestFloor_14, eX0_dearestFloor_17, eX0_dearestFloor_18, eX0_dearestFloor_19, eX0_dearestFloor_22, eX0_dearestFloor_24, eX0_dearestFloor_25, eX0_dearestFloor_26, eX0_dearestFloor_27, eX0_dearestFloor_28, eX0_dearestFloor_31, eX0_dearestFloor_32, eX0_dearestFloor_35, eX0_dearestFloor_37, eX0_dearestFloor_38, eX0_dearestFloor_41, eX0_dearestFloor_42, eX0_dearestFloor_44, eX0_dearestFloor_45, eX0_dearestFloor_47, eX0_dearestFloor_48, eX0_dearestFloor_49, eX0_dearestFloor_50, eX0_dearestFloor_53, eX0_dearestFloor_55, eX0_dearestFloor_57, eX0_dearestFloor_60, eX0_dearestFloor_62, eX0_dearestFloor_63, eX0_dearestFloor_65, eX0_dearestFloor_67, eX0_dearestFloor_70, eX0_dearestFloor_73, eX0_dearestFloor_74, S_aload_n0, S_aload_n0N, S_getf, S_goto, S_iald, S_iand, S_icmp_gt, S_icmp_le, S_iconst, S_if_eq, S_if_ne, S_iinc_5, S_iload_4, S_iload_5, S_iload_6, S_iload_n1, S_iload_n2, S_iload_n3, S_ireturn, S_ishr, S_istore_3, S_istore_4, S_istore_5, S_istore_6, g_RX0_54, g_RX0_57, g_RX0_60, iCk_i, iCk_l, iCk_n, iCk_o, iCk_r, iS1_3, iS1_4, iS1_5, iS1_6, ic_m1, jc_0, jc_1, aX0_dearestFloor, bX0_dearestFloor, rX0_dearestFloor, nar_i, nar_n0, nar_n1, List.mem_cons, List.not_mem_nil, or_false, or_self, or_true, true_or, false_or, if_false, if_true, true_and, and_true, Nat.reduceEqDiff, Nat.reduceAdd, Nat.reduceLT, reduceIte, iSet_1, iEnt_e, iEn_n, iEn_i, iEn_r, iEn_u, iEn_l, List.cons_append, List.nil_append, List.length_cons, List.length_nil, Nat.reduceSub, List.replicate_succ, List.replicate_zero, Nat.zero_add, nI_lit0, va_up_app, nI_add, nI_mul, nI_sub, nI_clamp, vp_nI, nI_le_t, nI_le_f, nI_lt_t, nI_lt_f, imp_t, imp_f, Option.toList_some, Option.toList_none, not_true_eq_false, not_false_eq_true, iR_t, nar_zI, zI_f0, zI_t0, va_up_same, upd_ne, upd_self, txb_o hT, txFs_len, txf_0, h0]
    all_goals exact iR_i
  | succ k ih =>
    intro f best o6 hf hf1 hb
    have k5 := h5 f hf1 (by omega)
    have k6 := h6 f hf1 (by omega)
    have e := ih (f + 1)
    rw [bestN]
    have key : K G d 0 0 mX0_dearestFloor 42 [some (.ref t), some (.int (mLack s c)), some (.int ab), some (.int (rfI best)), some (.int (moI s c best)), some (.int (nI f)), o6] [.int (lfF s c f)] h (iR (some (.int (rfI (bestN s ab c (if bitF ab (nI f) = true then best else if best = 0 then f else if lfF s c f ≤ lfF s c best then best else f) (f + 1) k)))) h) := by
      cases hb2 : bitF ab (nI f)
      · simp only [Bool.false_eq_true, if_false]
        refine wp_ok (cuts := [67]) 30 _ _ _ _ ?_
        simp (config := { maxSteps := 2000000 }) (disch := omega) only [wp_su, wp_0, eX0_dearestFloor_0, eX0_dearestFloor_1, eX0_dearestFloor_2, eX0_dearestFloor_3, eX0_dearestFloor_5, eX0_dearestFloor_6, eX0_dearestFloor_8, eX0_dearestFloor_10, eX0_dearestFloor_11, eX0_dearestFloor_14, eX0_dearestFloor_17, eX0_dearestFloor_18, eX0_dearestFloor_19, eX0_dearestFloor_22, eX0_dearestFloor_24, eX0_dearestFloor_25, eX0_dearestFloor_26, eX0_dearestFloor_27, eX0_dearestFloor_28, eX0_dearestFloor_31, eX0_dearestFloor_32, eX0_dearestFloor_35, eX0_dearestFloor_37, eX0_dearestFloor_38, eX0_dearestFloor_41, eX0_dearestFloor_42, eX0_dearestFloor_44, eX0_dearestFloor_45, eX0_dearestFloor_47, eX0_dearestFloor_48, eX0_dearestFloor_49, eX0_dearestFloor_50, eX0_dearestFloor_53, eX0_dearestFloor_55, eX0_dearestFloor_57, eX0_dearestFloor_60, eX0_dearestFloor_62, eX0_dearestFloor_63, eX0_dearestFloor_65, eX0_dearestFloor_67, eX0_dearestFloor_70, eX0_dearestFloor_73, eX0_dearestFloor_74, S_aload_n0, S_aload_n0N, S_getf, S_goto, S_iald, S_iand, S_icmp_gt, S_icmp_le, S_iconst, S_if_eq, S_if_ne, S_iinc_5, S_iload_4, S_iload_5, S_iload_6, S_iload_n1, S_iload_n2, S_iload_n3, S_ireturn, S_ishr, S_istore_3, S_istore_4, S_istore_5, S_istore_6, g_RX0_54, g_RX0_57, g_RX0_60, iCk_i, iCk_l, iCk_n, iCk_o, iCk_r, iS1_3, iS1_4, iS1_5, iS1_6, ic_m1, jc_0, jc_1, aX0_dearestFloor, bX0_dearestFloor, rX0_dearestFloor, nar_i, nar_n0, nar_n1, List.mem_cons, List.not_mem_nil, or_false, or_self, or_true, true_or, false_or, if_false, if_true, true_and, and_true, Nat.reduceEqDiff, Nat.reduceAdd, Nat.reduceLT, reduceIte, iSet_1, iEnt_e, iEn_n, iEn_i, iEn_r, iEn_u, iEn_l, List.cons_append, List.nil_append, List.length_cons, List.length_nil, Nat.reduceSub, List.replicate_succ, List.replicate_zero, Nat.zero_add, nI_lit0, va_up_app, nI_add, nI_mul, nI_sub, nI_clamp, vp_nI, nI_le_t, nI_le_f, nI_lt_t, nI_lt_f, imp_t, imp_f, Option.toList_some, Option.toList_none, not_true_eq_false, not_false_eq_true, iR_t, nar_zI, zI_f0, zI_t0, va_up_same, upd_ne, upd_self, bitF_f hb2]
        by_cases b0 : best = 0
        · subst b0
          rw [if_pos rfl]
          obtain ⟨v, hv, ev⟩ := lf_v (c := c) hm hf1 (show f ≤ F by omega)
          refine ⟨fun q => ?_, fun _ => ?_⟩
          · rw [ev, show moI s c 0 = -1 from rfl] at q
            have := Int32.le_trans (nI_le (a := 0) (b := v) (by omega) (by omega)) q
            rw [m1_ge0] at this; exact this.elim
          · refine wp_ok (cuts := [8]) 30 _ _ _ _ ?_
            simp (config := { maxSteps := 2000000 }) (disch := omega) only [wp_su, wp_0, eX0_dearestFloor_0, eX0_dearestFloor_1, eX0_dearestFloor_2, eX0_dearestFloor_3, eX0_dearestFloor_5, eX0_dearestFloor_6, eX0_dearestFloor_8, eX0_dearestFloor_10, eX0_dearestFloor_11, eX0_dearestFloor_14, eX0_dearestFloor_17, eX0_dearestFloor_18, eX0_dearestFloor_19, eX0_dearestFloor_22, eX0_dearestFloor_24, eX0_dearestFloor_25, eX0_dearestFloor_26, eX0_dearestFloor_27, eX0_dearestFloor_28, eX0_dearestFloor_31, eX0_dearestFloor_32, eX0_dearestFloor_35, eX0_dearestFloor_37, eX0_dearestFloor_38, eX0_dearestFloor_41, eX0_dearestFloor_42, eX0_dearestFloor_44, eX0_dearestFloor_45, eX0_dearestFloor_47, eX0_dearestFloor_48, eX0_dearestFloor_49, eX0_dearestFloor_50, eX0_dearestFloor_53, eX0_dearestFloor_55, eX0_dearestFloor_57, eX0_dearestFloor_60, eX0_dearestFloor_62, eX0_dearestFloor_63, eX0_dearestFloor_65, eX0_dearestFloor_67, eX0_dearestFloor_70, eX0_dearestFloor_73, eX0_dearestFloor_74, S_aload_n0, S_aload_n0N, S_getf, S_goto, S_iald, S_iand, S_icmp_gt, S_icmp_le, S_iconst, S_if_eq, S_if_ne, S_iinc_5, S_iload_4, S_iload_5, S_iload_6, S_iload_n1, S_iload_n2, S_iload_n3, S_ireturn, S_ishr, S_istore_3, S_istore_4, S_istore_5, S_istore_6, g_RX0_54, g_RX0_57, g_RX0_60, iCk_i, iCk_l, iCk_n, iCk_o, iCk_r, iS1_3, iS1_4, iS1_5, iS1_6, ic_m1, jc_0, jc_1, aX0_dearestFloor, bX0_dearestFloor, rX0_dearestFloor, nar_i, nar_n0, nar_n1, List.mem_cons, List.not_mem_nil, or_false, or_self, or_true, true_or, false_or, if_false, if_true, true_and, and_true, Nat.reduceEqDiff, Nat.reduceAdd, Nat.reduceLT, reduceIte, iSet_1, iEnt_e, iEn_n, iEn_i, iEn_r, iEn_u, iEn_l, List.cons_append, List.nil_append, List.length_cons, List.length_nil, Nat.reduceSub, List.replicate_succ, List.replicate_zero, Nat.zero_add, nI_lit0, va_up_app, nI_add, nI_mul, nI_sub, nI_clamp, vp_nI, nI_le_t, nI_le_f, nI_lt_t, nI_lt_f, imp_t, imp_f, Option.toList_some, Option.toList_none, not_true_eq_false, not_false_eq_true, iR_t, nar_zI, zI_f0, zI_t0, va_up_same, upd_ne, upd_self]
            have k9 := e f (some (.int (lfF s c f))) (by omega) (by omega) (by omega)
            rw [rfI_p (show ¬ f = 0 by omega), show moI s c f = lfF s c f from if_neg (by omega)] at k9
            exact k9
        · rw [if_neg b0, show moI s c best = lfF s c best from if_neg b0]
          refine ⟨fun q => ?_, fun q => ?_⟩
          · rw [if_pos q]
            refine wp_ok (cuts := [8]) 30 _ _ _ _ ?_
            simp (config := { maxSteps := 2000000 }) (disch := omega) only [wp_su, wp_0, eX0_dearestFloor_0, eX0_dearestFloor_1, eX0_dearestFloor_2, eX0_dearestFloor_3, eX0_dearestFloor_5, eX0_dearestFloor_6, eX0_dearestFloor_8, eX0_dearestFloor_10, eX0_dearestFloor_11, eX0_dearestFloor_14, eX0_dearestFloor_17, eX0_dearestFloor_18, eX0_dearestFloor_19, eX0_dearestFloor_22, eX0_dearestFloor_24, eX0_dearestFloor_25, eX0_dearestFloor_26, eX0_dearestFloor_27, eX0_dearestFloor_28, eX0_dearestFloor_31, eX0_dearestFloor_32, eX0_dearestFloor_35, eX0_dearestFloor_37, eX0_dearestFloor_38, eX0_dearestFloor_41, eX0_dearestFloor_42, eX0_dearestFloor_44, eX0_dearestFloor_45, eX0_dearestFloor_47, eX0_dearestFloor_48, eX0_dearestFloor_49, eX0_dearestFloor_50, eX0_dearestFloor_53, eX0_dearestFloor_55, eX0_dearestFloor_57, eX0_dearestFloor_60, eX0_dearestFloor_62, eX0_dearestFloor_63, eX0_dearestFloor_65, eX0_dearestFloor_67, eX0_dearestFloor_70, eX0_dearestFloor_73, eX0_dearestFloor_74, S_aload_n0, S_aload_n0N, S_getf, S_goto, S_iald, S_iand, S_icmp_gt, S_icmp_le, S_iconst, S_if_eq, S_if_ne, S_iinc_5, S_iload_4, S_iload_5, S_iload_6, S_iload_n1, S_iload_n2, S_iload_n3, S_ireturn, S_ishr, S_istore_3, S_istore_4, S_istore_5, S_istore_6, g_RX0_54, g_RX0_57, g_RX0_60, iCk_i, iCk_l, iCk_n, iCk_o, iCk_r, iS1_3, iS1_4, iS1_5, iS1_6, ic_m1, jc_0, jc_1, aX0_dearestFloor, bX0_dearestFloor, rX0_dearestFloor, nar_i, nar_n0, nar_n1, List.mem_cons, List.not_mem_nil, or_false, or_self, or_true, true_or, false_or, if_false, if_true, true_and, and_true, Nat.reduceEqDiff, Nat.reduceAdd, Nat.reduceLT, reduceIte, iSet_1, iEnt_e, iEn_n, iEn_i, iEn_r, iEn_u, iEn_l, List.cons_append, List.nil_append, List.length_cons, List.length_nil, Nat.reduceSub, List.replicate_succ, List.replicate_zero, Nat.zero_add, nI_lit0, va_up_app, nI_add, nI_mul, nI_sub, nI_clamp, vp_nI, nI_le_t, nI_le_f, nI_lt_t, nI_lt_f, imp_t, imp_f, Option.toList_some, Option.toList_none, not_true_eq_false, not_false_eq_true, iR_t, nar_zI, zI_f0, zI_t0, va_up_same, upd_ne, upd_self]
            have k9 := e best (some (.int (lfF s c f))) (by omega) (by omega) (by omega)
            rw [show moI s c best = lfF s c best from if_neg b0] at k9
            exact k9
          · rw [if_neg q]
            refine wp_ok (cuts := [8]) 30 _ _ _ _ ?_
            simp (config := { maxSteps := 2000000 }) (disch := omega) only [wp_su, wp_0, eX0_dearestFloor_0, eX0_dearestFloor_1, eX0_dearestFloor_2, eX0_dearestFloor_3, eX0_dearestFloor_5, eX0_dearestFloor_6, eX0_dearestFloor_8, eX0_dearestFloor_10, eX0_dearestFloor_11, eX0_dearestFloor_14, eX0_dearestFloor_17, eX0_dearestFloor_18, eX0_dearestFloor_19, eX0_dearestFloor_22, eX0_dearestFloor_24, eX0_dearestFloor_25, eX0_dearestFloor_26, eX0_dearestFloor_27, eX0_dearestFloor_28, eX0_dearestFloor_31, eX0_dearestFloor_32, eX0_dearestFloor_35, eX0_dearestFloor_37, eX0_dearestFloor_38, eX0_dearestFloor_41, eX0_dearestFloor_42, eX0_dearestFloor_44, eX0_dearestFloor_45, eX0_dearestFloor_47, eX0_dearestFloor_48, eX0_dearestFloor_49, eX0_dearestFloor_50, eX0_dearestFloor_53, eX0_dearestFloor_55, eX0_dearestFloor_57, eX0_dearestFloor_60, eX0_dearestFloor_62, eX0_dearestFloor_63, eX0_dearestFloor_65, eX0_dearestFloor_67, eX0_dearestFloor_70, eX0_dearestFloor_73, eX0_dearestFloor_74, S_aload_n0, S_aload_n0N, S_getf, S_goto, S_iald, S_iand, S_icmp_gt, S_icmp_le, S_iconst, S_if_eq, S_if_ne, S_iinc_5, S_iload_4, S_iload_5, S_iload_6, S_iload_n1, S_iload_n2, S_iload_n3, S_ireturn, S_ishr, S_istore_3, S_istore_4, S_istore_5, S_istore_6, g_RX0_54, g_RX0_57, g_RX0_60, iCk_i, iCk_l, iCk_n, iCk_o, iCk_r, iS1_3, iS1_4, iS1_5, iS1_6, ic_m1, jc_0, jc_1, aX0_dearestFloor, bX0_dearestFloor, rX0_dearestFloor, nar_i, nar_n0, nar_n1, List.mem_cons, List.not_mem_nil, or_false, or_self, or_true, true_or, false_or, if_false, if_true, true_and, and_true, Nat.reduceEqDiff, Nat.reduceAdd, Nat.reduceLT, reduceIte, iSet_1, iEnt_e, iEn_n, iEn_i, iEn_r, iEn_u, iEn_l, List.cons_append, List.nil_append, List.length_cons, List.length_nil, Nat.reduceSub, List.replicate_succ, List.replicate_zero, Nat.zero_add, nI_lit0, va_up_app, nI_add, nI_mul, nI_sub, nI_clamp, vp_nI, nI_le_t, nI_le_f, nI_lt_t, nI_lt_f, imp_t, imp_f, Option.toList_some, Option.toList_none, not_true_eq_false, not_false_eq_true, iR_t, nar_zI, zI_f0, zI_t0, va_up_same, upd_ne, upd_self]
            have k9 := e f (some (.int (lfF s c f))) (by omega) (by omega) (by omega)
            rw [rfI_p (show ¬ f = 0 by omega), show moI s c f = lfF s c f from if_neg (by omega)] at k9
            exact k9
      · simp only [if_true]
        refine wp_ok (cuts := [67]) 30 _ _ _ _ ?_
        simp (config := { maxSteps := 2000000 }) (disch := omega) only [wp_su, wp_0, eX0_dearestFloor_0, eX0_dearestFloor_1, eX0_dearestFloor_2, eX0_dearestFloor_3, eX0_dearestFloor_5, eX0_dearestFloor_6, eX0_dearestFloor_8, eX0_dearestFloor_10, eX0_dearestFloor_11, eX0_dearestFloor_14, eX0_dearestFloor_17, eX0_dearestFloor_18, eX0_dearestFloor_19, eX0_dearestFloor_22, eX0_dearestFloor_24, eX0_dearestFloor_25, eX0_dearestFloor_26, eX0_dearestFloor_27, eX0_dearestFloor_28, eX0_dearestFloor_31, eX0_dearestFloor_32, eX0_dearestFloor_35, eX0_dearestFloor_37, eX0_dearestFloor_38, eX0_dearestFloor_41, eX0_dearestFloor_42, eX0_dearestFloor_44, eX0_dearestFloor_45, eX0_dearestFloor_47, eX0_dearestFloor_48, eX0_dearestFloor_49, eX0_dearestFloor_50, eX0_dearestFloor_53, eX0_dearestFloor_55, eX0_dearestFloor_57, eX0_dearestFloor_60, eX0_dearestFloor_62, eX0_dearestFloor_63, eX0_dearestFloor_65, eX0_dearestFloor_67, eX0_dearestFloor_70, eX0_dearestFloor_73, eX0_dearestFloor_74, S_aload_n0, S_aload_n0N, S_getf, S_goto, S_iald, S_iand, S_icmp_gt, S_icmp_le, S_iconst, S_if_eq, S_if_ne, S_iinc_5, S_iload_4, S_iload_5, S_iload_6, S_iload_n1, S_iload_n2, S_iload_n3, S_ireturn, S_ishr, S_istore_3, S_istore_4, S_istore_5, S_istore_6, g_RX0_54, g_RX0_57, g_RX0_60, iCk_i, iCk_l, iCk_n, iCk_o, iCk_r, iS1_3, iS1_4, iS1_5, iS1_6, ic_m1, jc_0, jc_1, aX0_dearestFloor, bX0_dearestFloor, rX0_dearestFloor, nar_i, nar_n0, nar_n1, List.mem_cons, List.not_mem_nil, or_false, or_self, or_true, true_or, false_or, if_false, if_true, true_and, and_true, Nat.reduceEqDiff, Nat.reduceAdd, Nat.reduceLT, reduceIte, iSet_1, iEnt_e, iEn_n, iEn_i, iEn_r, iEn_u, iEn_l, List.cons_append, List.nil_append, List.length_cons, List.length_nil, Nat.reduceSub, List.replicate_succ, List.replicate_zero, Nat.zero_add, nI_lit0, va_up_app, nI_add, nI_mul, nI_sub, nI_clamp, vp_nI, nI_le_t, nI_le_f, nI_lt_t, nI_lt_f, imp_t, imp_f, Option.toList_some, Option.toList_none, not_true_eq_false, not_false_eq_true, iR_t, nar_zI, zI_f0, zI_t0, va_up_same, upd_ne, upd_self, bitF_t hb2, n10]
        refine wp_ok (cuts := [8]) 30 _ _ _ _ ?_
        simp (config := { maxSteps := 2000000 }) (disch := omega) only [wp_su, wp_0, eX0_dearestFloor_0, eX0_dearestFloor_1, eX0_dearestFloor_2, eX0_dearestFloor_3, eX0_dearestFloor_5, eX0_dearestFloor_6, eX0_dearestFloor_8, eX0_dearestFloor_10, eX0_dearestFloor_11, eX0_dearestFloor_14, eX0_dearestFloor_17, eX0_dearestFloor_18, eX0_dearestFloor_19, eX0_dearestFloor_22, eX0_dearestFloor_24, eX0_dearestFloor_25, eX0_dearestFloor_26, eX0_dearestFloor_27, eX0_dearestFloor_28, eX0_dearestFloor_31, eX0_dearestFloor_32, eX0_dearestFloor_35, eX0_dearestFloor_37, eX0_dearestFloor_38, eX0_dearestFloor_41, eX0_dearestFloor_42, eX0_dearestFloor_44, eX0_dearestFloor_45, eX0_dearestFloor_47, eX0_dearestFloor_48, eX0_dearestFloor_49, eX0_dearestFloor_50, eX0_dearestFloor_53, eX0_dearestFloor_55, eX0_dearestFloor_57, eX0_dearestFloor_60, eX0_dearestFloor_62, eX0_dearestFloor_63, eX0_dearestFloor_65, eX0_dearestFloor_67, eX0_dearestFloor_70, eX0_dearestFloor_73, eX0_dearestFloor_74, S_aload_n0, S_aload_n0N, S_getf, S_goto, S_iald, S_iand, S_icmp_gt, S_icmp_le, S_iconst, S_if_eq, S_if_ne, S_iinc_5, S_iload_4, S_iload_5, S_iload_6, S_iload_n1, S_iload_n2, S_iload_n3, S_ireturn, S_ishr, S_istore_3, S_istore_4, S_istore_5, S_istore_6, g_RX0_54, g_RX0_57, g_RX0_60, iCk_i, iCk_l, iCk_n, iCk_o, iCk_r, iS1_3, iS1_4, iS1_5, iS1_6, ic_m1, jc_0, jc_1, aX0_dearestFloor, bX0_dearestFloor, rX0_dearestFloor, nar_i, nar_n0, nar_n1, List.mem_cons, List.not_mem_nil, or_false, or_self, or_true, true_or, false_or, if_false, if_true, true_and, and_true, Nat.reduceEqDiff, Nat.reduceAdd, Nat.reduceLT, reduceIte, iSet_1, iEnt_e, iEn_n, iEn_i, iEn_r, iEn_u, iEn_l, List.cons_append, List.nil_append, List.length_cons, List.length_nil, Nat.reduceSub, List.replicate_succ, List.replicate_zero, Nat.zero_add, nI_lit0, va_up_app, nI_add, nI_mul, nI_sub, nI_clamp, vp_nI, nI_le_t, nI_le_f, nI_lt_t, nI_lt_f, imp_t, imp_f, Option.toList_some, Option.toList_none, not_true_eq_false, not_false_eq_true, iR_t, nar_zI, zI_f0, zI_t0, va_up_same, upd_ne, upd_self]
        exact e best (some (.int (lfF s c f))) (by omega) (by omega) (by omega)
    cases hg : bitF (mLack s c) (s (5 + f - 1))
    · have el : lfF s c f = nI 0 := by rw [lfF, hg]; rfl
      rw [el] at key
      refine wp_ok (cuts := [42]) 30 _ _ _ _ ?_
      simp (config := { maxSteps := 2000000 }) (disch := omega) only [wp_su, wp_0, eX0_dearestFloor_0, eX0_dearestFloor_1, eX0_dearestFloor_2, eX0_dearestFloor_3, eX0_dearestFloor_5, eX0_dearestFloor_6, eX0_dearestFloor_8, eX0_dearestFloor_10, eX0_dearestFloor_11, eX0_dearestFloor_14, eX0_dearestFloor_17, eX0_dearestFloor_18, eX0_dearestFloor_19, eX0_dearestFloor_22, eX0_dearestFloor_24, eX0_dearestFloor_25, eX0_dearestFloor_26, eX0_dearestFloor_27, eX0_dearestFloor_28, eX0_dearestFloor_31, eX0_dearestFloor_32, eX0_dearestFloor_35, eX0_dearestFloor_37, eX0_dearestFloor_38, eX0_dearestFloor_41, eX0_dearestFloor_42, eX0_dearestFloor_44, eX0_dearestFloor_45, eX0_dearestFloor_47, eX0_dearestFloor_48, eX0_dearestFloor_49, eX0_dearestFloor_50, eX0_dearestFloor_53, eX0_dearestFloor_55, eX0_dearestFloor_57, eX0_dearestFloor_60, eX0_dearestFloor_62, eX0_dearestFloor_63, eX0_dearestFloor_65, eX0_dearestFloor_67, eX0_dearestFloor_70, eX0_dearestFloor_73, eX0_dearestFloor_74, S_aload_n0, S_aload_n0N, S_getf, S_goto, S_iald, S_iand, S_icmp_gt, S_icmp_le, S_iconst, S_if_eq, S_if_ne, S_iinc_5, S_iload_4, S_iload_5, S_iload_6, S_iload_n1, S_iload_n2, S_iload_n3, S_ireturn, S_ishr, S_istore_3, S_istore_4, S_istore_5, S_istore_6, g_RX0_54, g_RX0_57, g_RX0_60, iCk_i, iCk_l, iCk_n, iCk_o, iCk_r, iS1_3, iS1_4, iS1_5, iS1_6, ic_m1, jc_0, jc_1, aX0_dearestFloor, bX0_dearestFloor, rX0_dearestFloor, nar_i, nar_n0, nar_n1, List.mem_cons, List.not_mem_nil, or_false, or_self, or_true, true_or, false_or, if_false, if_true, true_and, and_true, Nat.reduceEqDiff, Nat.reduceAdd, Nat.reduceLT, reduceIte, iSet_1, iEnt_e, iEn_n, iEn_i, iEn_r, iEn_u, iEn_l, List.cons_append, List.nil_append, List.length_cons, List.length_nil, Nat.reduceSub, List.replicate_succ, List.replicate_zero, Nat.zero_add, nI_lit0, va_up_app, nI_add, nI_mul, nI_sub, nI_clamp, vp_nI, nI_le_t, nI_le_f, nI_lt_t, nI_lt_f, imp_t, imp_f, Option.toList_some, Option.toList_none, not_true_eq_false, not_false_eq_true, iR_t, nar_zI, zI_f0, zI_t0, va_up_same, upd_ne, upd_self, txb_o hT, txFs_len, txf_0, txf_1, txb_1 hT, txf_2, txb_2 hT, h0, k5, k6, bitF_f hg]
      rw [el]
      exact key
    · have el : lfF s c f = s (13 + f - 1) := by rw [lfF, hg]; rfl
      rw [el] at key
      refine wp_ok (cuts := [42]) 30 _ _ _ _ ?_
      simp (config := { maxSteps := 2000000 }) (disch := omega) only [wp_su, wp_0, eX0_dearestFloor_0, eX0_dearestFloor_1, eX0_dearestFloor_2, eX0_dearestFloor_3, eX0_dearestFloor_5, eX0_dearestFloor_6, eX0_dearestFloor_8, eX0_dearestFloor_10, eX0_dearestFloor_11, eX0_dearestFloor_14, eX0_dearestFloor_17, eX0_dearestFloor_18, eX0_dearestFloor_19, eX0_dearestFloor_22, eX0_dearestFloor_24, eX0_dearestFloor_25, eX0_dearestFloor_26, eX0_dearestFloor_27, eX0_dearestFloor_28, eX0_dearestFloor_31, eX0_dearestFloor_32, eX0_dearestFloor_35, eX0_dearestFloor_37, eX0_dearestFloor_38, eX0_dearestFloor_41, eX0_dearestFloor_42, eX0_dearestFloor_44, eX0_dearestFloor_45, eX0_dearestFloor_47, eX0_dearestFloor_48, eX0_dearestFloor_49, eX0_dearestFloor_50, eX0_dearestFloor_53, eX0_dearestFloor_55, eX0_dearestFloor_57, eX0_dearestFloor_60, eX0_dearestFloor_62, eX0_dearestFloor_63, eX0_dearestFloor_65, eX0_dearestFloor_67, eX0_dearestFloor_70, eX0_dearestFloor_73, eX0_dearestFloor_74, S_aload_n0, S_aload_n0N, S_getf, S_goto, S_iald, S_iand, S_icmp_gt, S_icmp_le, S_iconst, S_if_eq, S_if_ne, S_iinc_5, S_iload_4, S_iload_5, S_iload_6, S_iload_n1, S_iload_n2, S_iload_n3, S_ireturn, S_ishr, S_istore_3, S_istore_4, S_istore_5, S_istore_6, g_RX0_54, g_RX0_57, g_RX0_60, iCk_i, iCk_l, iCk_n, iCk_o, iCk_r, iS1_3, iS1_4, iS1_5, iS1_6, ic_m1, jc_0, jc_1, aX0_dearestFloor, bX0_dearestFloor, rX0_dearestFloor, nar_i, nar_n0, nar_n1, List.mem_cons, List.not_mem_nil, or_false, or_self, or_true, true_or, false_or, if_false, if_true, true_and, and_true, Nat.reduceEqDiff, Nat.reduceAdd, Nat.reduceLT, reduceIte, iSet_1, iEnt_e, iEn_n, iEn_i, iEn_r, iEn_u, iEn_l, List.cons_append, List.nil_append, List.length_cons, List.length_nil, Nat.reduceSub, List.replicate_succ, List.replicate_zero, Nat.zero_add, nI_lit0, va_up_app, nI_add, nI_mul, nI_sub, nI_clamp, vp_nI, nI_le_t, nI_le_f, nI_lt_t, nI_lt_f, imp_t, imp_f, Option.toList_some, Option.toList_none, not_true_eq_false, not_false_eq_true, iR_t, nar_zI, zI_f0, zI_t0, va_up_same, upd_ne, upd_self, txb_o hT, txFs_len, txf_0, txf_1, txb_1 hT, txf_2, txb_2 hT, h0, k5, k6, bitF_t hg, n10]
      rw [el]
      exact key
theorem c_dearest {c : Nat} {ab : Int32} (hF : F ≤ 8) (hm : ∀ f, f < F → ∃ v, v < 1000 ∧ s (13 + f) = nI v) (hT : TW G h t J B M) (hS : TS J B s F n U) : C G d 0 0 mX0_dearestFloor [.ref t, .int (mLack s c), .int ab] h (iR (some (.int (rfI (bestN s ab c 0 1 F)))) h) := by
  refine C_in p_RX0 (Nat.le_of_ble_eq_true rfl) rfl ?_
  refine wp_ok (cuts := [8]) 30 _ _ _ _ ?_
  simp (config := { maxSteps := 2000000 }) (disch := omega) only [wp_su, wp_0, eX0_dearestFloor_0, eX0_dearestFloor_1, eX0_dearestFloor_2, eX0_dearestFloor_3, eX0_dearestFloor_5, eX0_dearestFloor_6, eX0_dearestFloor_8, eX0_dearestFloor_10, eX0_dearestFloor_11, eX0_dearestFloor_14, eX0_dearestFloor_17, eX0_dearestFloor_18, eX0_dearestFloor_19, eX0_dearestFloor_22, eX0_dearestFloor_24, eX0_dearestFloor_25, eX0_dearestFloor_26, eX0_dearestFloor_27, eX0_dearestFloor_28, eX0_dearestFloor_31, eX0_dearestFloor_32, eX0_dearestFloor_35, eX0_dearestFloor_37, eX0_dearestFloor_38, eX0_dearestFloor_41, eX0_dearestFloor_42, eX0_dearestFloor_44, eX0_dearestFloor_45, eX0_dearestFloor_47, eX0_dearestFloor_48, eX0_dearestFloor_49, eX0_dearestFloor_50, eX0_dearestFloor_53, eX0_dearestFloor_55, eX0_dearestFloor_57, eX0_dearestFloor_60, eX0_dearestFloor_62, eX0_dearestFloor_63, eX0_dearestFloor_65, eX0_dearestFloor_67, eX0_dearestFloor_70, eX0_dearestFloor_73, eX0_dearestFloor_74, S_aload_n0, S_aload_n0N, S_getf, S_goto, S_iald, S_iand, S_icmp_gt, S_icmp_le, S_iconst, S_if_eq, S_if_ne, S_iinc_5, S_iload_4, S_iload_5, S_iload_6, S_iload_n1, S_iload_n2, S_iload_n3, S_ireturn, S_ishr, S_istore_3, S_istore_4, S_istore_5, S_istore_6, g_RX0_54, g_RX0_57, g_RX0_60, iCk_i, iCk_l, iCk_n, iCk_o, iCk_r, iS1_3, iS1_4, iS1_5, iS1_6, ic_m1, jc_0, jc_1, aX0_dearestFloor, bX0_dearestFloor, rX0_dearestFloor, nar_i, nar_n0, nar_n1, List.mem_cons, List.not_mem_nil, or_false, or_self, or_true, true_or, false_or, if_false, if_true, true_and, and_true, Nat.reduceEqDiff, Nat.reduceAdd, Nat.reduceLT, reduceIte, iSet_1, iEnt_e, iEn_n, iEn_i, iEn_r, iEn_u, iEn_l, List.cons_append, List.nil_append, List.length_cons, List.length_nil, Nat.reduceSub, List.replicate_succ, List.replicate_zero, Nat.zero_add, nI_lit0, va_up_app, nI_add, nI_mul, nI_sub, nI_clamp, vp_nI, nI_le_t, nI_le_f, nI_lt_t, nI_lt_f, imp_t, imp_f, Option.toList_some, Option.toList_none, not_true_eq_false, not_false_eq_true, iR_t, nar_zI, zI_f0, zI_t0, va_up_same, upd_ne, upd_self]
  exact l_dearest hF hm hT hS F 1 0 _ (by omega) (by omega) (by omega)
end CBg
