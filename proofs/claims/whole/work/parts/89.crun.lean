/-! The class: a run of letters and digits -/
/-- the class's run: place, letters, digits, letters packed, number -/
def crN (t : Nat → Int32) (sz : Nat) : Nat → Nat × Nat × Nat × Int64 × Int32 → Nat × Nat × Nat × Int64 × Int32
  | 0, x => x
  | k + 1, x => if smF (pkF t sz x.1) = true then crN t sz k (x.1 + 1, x.2.1 + 1, x.2.2.1, (x.2.2.2.1 <<< ((nI 8).toInt64 &&& 63)) ||| (pkF t sz x.1).toInt64, x.2.2.2.2)
    else if dgF (pkF t sz x.1) = true then crN t sz k (x.1 + 1, x.2.1, x.2.2.1 + 1, x.2.2.2.1, x.2.2.2.2 * nI 10 + (pkF t sz x.1 - nI 48)) else x
theorem sm_dg {c : Int32} (h : smF c = true) : dgF c = false := by
  unfold smF at h
  unfold dgF
  simp only [Bool.and_eq_true, decide_eq_true_eq] at h
  have : ¬ c ≤ nI 57 := fun q => by
    have := Int32.le_trans h.1 q
    exact nI_ge (a := 57) (b := 97) (by omega) (by omega) this
  simp [this]
/-- the class's run x is the reference's run r -/
def rRel (sm : Bool) (x : Nat × Nat × Nat × Int64 × Int32) (r : Nat × Nat × Int64 × Int32 × Bool) : Prop :=
  x.1 = r.1 ∧ x.2.1 + x.2.2.1 = r.2.1 ∧
  (r.2.2.2.2 = true → sm = true → x.2.2.1 = 0 ∧ (r.2.1 ≤ 7 → x.2.2.2.1 = r.2.2.1 ∧ (0 < r.2.1 → ¬ r.2.2.1 = 0))) ∧
  (r.2.2.2.2 = true → sm = false → x.2.1 = 0 ∧ (r.2.1 ≤ 3 → x.2.2.2.2 = r.2.2.2.1 ∧ ∃ v, v < 10 ^ r.2.1 ∧ r.2.2.2.1 = nI v)) ∧
  (r.2.2.2.2 = false → 0 < x.2.1 ∧ 0 < x.2.2.1) ∧
  (0 < r.2.1 → (sm = true → 0 < x.2.1) ∧ (sm = false → 0 < x.2.2.1))
theorem or64_0 {x y : Int64} (h : x ||| y = 0) : y = 0 := by
  apply Int64.toBitVec_inj.mp
  have h1 : x.toBitVec ||| y.toBitVec = 0#64 := congrArg Int64.toBitVec h
  have : ∀ i : Nat, y.toBitVec.getLsbD i = false := fun i => by
    have h2 := congrArg (fun b => b.getLsbD i) h1
    simp only [BitVec.getLsbD_or, BitVec.getLsbD_zero, Bool.or_eq_false_iff] at h2
    exact h2.2
  apply BitVec.eq_of_getLsbD_eq
  intro i _
  rw [this i]
  show false = (0#64).getLsbD i
  rw [BitVec.getLsbD_zero]
theorem dg_n {c : Int32} (h : dgF c = true) : ∃ e, e ≤ 9 ∧ c = nI (48 + e) := by
  unfold dgF at h
  simp only [Bool.and_eq_true, decide_eq_true_eq] at h
  have h0 : ¬ c < 0 := fun q => by
    have := Int32.lt_of_le_of_lt h.1 q
    exact nI_pos (by omega) this
  obtain ⟨j, hj, rfl⟩ := nI_of h0
  rw [nI_leI (by omega) hj, nI_leI hj (by omega)] at h
  exact ⟨j - 48, by omega, by congr 1; omega⟩
theorem sm_n {c : Int32} (h : smF c = true) : ∃ e, 97 ≤ e ∧ e ≤ 122 ∧ c = nI e := by
  unfold smF at h
  simp only [Bool.and_eq_true, decide_eq_true_eq] at h
  have h0 : ¬ c < 0 := fun q => by
    have := Int32.lt_of_le_of_lt h.1 q
    exact nI_pos (by omega) this
  obtain ⟨j, hj, rfl⟩ := nI_of h0
  rw [nI_leI (by omega) hj, nI_leI hj (by omega)] at h
  exact ⟨j, h.1, h.2, rfl⟩
theorem run_rel {t : Nat → Int32} {sz : Nat} {sm : Bool} : ∀ (k : Nat) (x : Nat × Nat × Nat × Int64 × Int32) (r : Nat × Nat × Int64 × Int32 × Bool), rRel sm x r → (r.2.1 = 0 → smF (pkF t sz r.1) = sm) → rRel sm (crN t sz k x) (rnN t sz sm k r)
  | 0, _, _, h, _ => h
  | k + 1, x, r, h, h0 => by
    obtain ⟨h1, h2, h3, h4, h5, h6⟩ := h
    rw [crN, rnN]
    rw [← h1] at h0 ⊢
    generalize pkF t sz x.1 = c at h0 ⊢
    by_cases c1 : smF c = true
    · have c2 := sm_dg c1
      rw [c1] at h0
      simp only [c1, Bool.true_or, if_true]
      obtain ⟨e, e1, e2, e3⟩ := sm_n c1
      have hc0 : ¬ c.toInt64 = 0 := fun q => by
        have : c = 0 := (i64_inj (y := 0)).mp q
        rw [e3, ← nI_0, nI_eq (by omega) (by omega)] at this
        omega
      refine run_rel k _ _ ⟨rfl, ?_, ?_, ?_, ?_, ?_⟩ (fun q => ?_)
      · show x.2.1 + 1 + x.2.2.1 = r.2.1 + 1; omega
      · show (r.2.2.2.2 && decide (true = sm)) = true → sm = true → x.2.2.1 = 0 ∧ (r.2.1 + 1 ≤ 7 → _ = (if r.2.1 < 7 then _ else _) ∧ (0 < r.2.1 + 1 → ¬ (if r.2.1 < 7 then _ else _) = (0 : Int64)))
        intro a b
        rw [Bool.and_eq_true] at a
        obtain ⟨w1, w2⟩ := h3 a.1 b
        refine ⟨w1, fun w => ?_⟩
        rw [if_pos (by omega)]
        obtain ⟨w3, w4⟩ := w2 (by omega)
        rw [w3]
        exact ⟨rfl, fun _ q => hc0 (or64_0 q)⟩
      · show (r.2.2.2.2 && decide (true = sm)) = true → sm = false → _
        intro a b
        rw [b] at a; simp at a
      · show (r.2.2.2.2 && decide (true = sm)) = false → 0 < x.2.1 + 1 ∧ 0 < x.2.2.1
        intro a
        refine ⟨by omega, ?_⟩
        cases hall : r.2.2.2.2
        · exact (h5 hall).2
        · rw [hall] at a
          cases sm
          · by_cases z : 0 < r.2.1
            · exact (h6 z).2 rfl
            · have := h0 (by omega); cases this
          · simp at a
      · show 0 < r.2.1 + 1 → (sm = true → 0 < x.2.1 + 1) ∧ (sm = false → 0 < x.2.2.1)
        intro _
        refine ⟨fun _ => by omega, fun b => ?_⟩
        by_cases z : 0 < r.2.1
        · exact (h6 z).2 b
        · rw [b] at h0; have := h0 (by omega); cases this
      · exact absurd q (Nat.succ_ne_zero r.2.1)
    · by_cases c2 : dgF c = true
      · have c1' : smF c = false := by cases e : smF c; rfl; exact absurd e c1
        rw [c1'] at h0
        simp only [c1', c2, Bool.false_or, Bool.false_eq_true, if_false, if_true]
        obtain ⟨e, e1, e2⟩ := dg_n c2
        refine run_rel k _ _ ⟨rfl, ?_, ?_, ?_, ?_, ?_⟩ (fun q => ?_)
        · show x.2.1 + (x.2.2.1 + 1) = r.2.1 + 1; omega
        · show (r.2.2.2.2 && decide (false = sm)) = true → sm = true → _
          intro a b
          rw [b] at a; simp at a
        · show (r.2.2.2.2 && decide (false = sm)) = true → sm = false → x.2.1 = 0 ∧ (r.2.1 + 1 ≤ 3 → _ = (if r.2.1 < 3 then _ else _) ∧ ∃ v, v < 10 ^ (r.2.1 + 1) ∧ (if r.2.1 < 3 then _ else _) = nI v)
          intro a b
          rw [Bool.and_eq_true] at a
          obtain ⟨w1, w2⟩ := h4 a.1 b
          refine ⟨w1, fun w => ?_⟩
          rw [if_pos (by omega)]
          obtain ⟨w3, v, hv, ev⟩ := w2 (by omega)
          rw [w3, ev, e2]
          have hv4 : v < 10 ^ 2 := Nat.lt_of_lt_of_le hv (Nat.pow_le_pow_right (by decide) (by omega))
          have e5 : nI v * nI 10 + (nI (48 + e) - nI 48) = nI (10 * v + e) := by
            rw [nI_mul, nI_sub (by omega), nI_add]; congr 1; omega
          have e6 : nI 10 * nI v + nI (48 + e) - nI 48 = nI (10 * v + e) := by
            rw [nI_mul, nI_add, nI_sub (by omega)]; congr 1; omega
          rw [e5, e6]
          refine ⟨rfl, 10 * v + e, ?_, rfl⟩
          rw [Nat.pow_succ]; omega
        · show (r.2.2.2.2 && decide (false = sm)) = false → 0 < x.2.1 ∧ 0 < x.2.2.1 + 1
          intro a
          refine ⟨?_, by omega⟩
          cases hall : r.2.2.2.2
          · exact (h5 hall).1
          · rw [hall] at a
            cases sm
            · simp at a
            · by_cases z : 0 < r.2.1
              · exact (h6 z).1 rfl
              · have := h0 (by omega); cases this
        · show 0 < r.2.1 + 1 → (sm = true → 0 < x.2.1) ∧ (sm = false → 0 < x.2.2.1 + 1)
          intro _
          refine ⟨fun b => ?_, fun _ => by omega⟩
          by_cases z : 0 < r.2.1
          · exact (h6 z).1 b
          · rw [b] at h0; have := h0 (by omega); cases this
        · exact absurd q (Nat.succ_ne_zero r.2.1)
      · have c1' : smF c = false := by cases e : smF c; rfl; exact absurd e c1
        have c2' : dgF c = false := by cases e : dgF c; rfl; exact absurd e c2
        simp only [c1', c2', Bool.or_self, Bool.false_eq_true, if_false]
        exact ⟨h1, h2, h3, h4, h5, h6⟩
theorem rRel_0 {sm : Bool} {p : Nat} : rRel sm (p, 0, 0, 0, nI 0) (p, 0, 0, nI 0, true) := ⟨rfl, rfl, fun _ _ => ⟨rfl, fun _ => ⟨rfl, fun h => absurd h (Nat.lt_irrefl 0)⟩⟩, fun _ _ => ⟨rfl, fun _ => ⟨rfl, 0, (show (0 : Nat) < 10 ^ 0 by decide), rfl⟩⟩, fun h => (by cases h), fun h => absurd h (Nat.lt_irrefl 0)⟩
