/-! THE MACHINE AS A JUDGEMENT OF ITS OWN: K says of a method Y at pc, with locals ls, stack st and heap h (a function of the addresses), that it comes to its end with Q of answer and heap; C is the contract out of it. All rows below are of these two. -/
abbrev iM : Type := MethodName × ByteArray × Nat × Option FieldType
abbrev iH : Type := (Nat → Option va_E) × Nat
abbrev iL : Type := List (Option Value)
/-- launch, class and slot numbers, the cells that may change, array classes, what is said of statics -/
abbrev iG : Type := Launch × va_G × (Nat → Prop) × (Nat → ClassId) × (State → Prop)
def itys (G : iG) : List (ClassId × FieldType) := [(G.2.2.2.1 0, .int), (G.2.2.2.1 1, .byte), (G.2.2.2.1 2, .long), (G.2.2.2.1 3, .boolean), (G.2.2.2.1 4, .object RX10), (G.2.2.2.1 5, .object RX7), (G.2.2.2.1 6, .object RX3)]
def igt : List Cond := lw_tbl.filter goodWord
def iws (Y : iM) : List Cond := .code Y.1 Y.2.1 Y.2.2.1 Y.2.2.2 :: igt
def iE (h : iH) (a : Nat) : va_E := (h.1 a).getD (.inr (0, []))
def iHR (G : iG) (h : iH) (H : Heap) : Prop := ∃ L : List Nat, (∀ a, (h.1 a).isSome = true ↔ a ∈ L) ∧ va_P G.2.1 vwCl (va_pl L (iE h)) H ∧ va_D G.2.2.1 (va_pl L (iE h)) ∧ H.size = h.2 ∧ ∀ q, h.2 ≤ q → G.2.2.1 q
def iLR (x : Array Slot) (n : Nat) (ls : iL) : Prop := x.size = n ∧ lv_wf x ∧ ∀ (i : Nat) (v : Value), ls[i]? = some (some v) → x[i]? = some (.val v)
/-- what is said of statics stays so -/
def iStb (G : iG) : Prop := ∀ s U : State, G.2.2.2.2 s → s.WarmedH U.vm → s.heap.size ≤ U.heap.size → (∀ q : Nat, q < s.heap.size → ¬ G.2.2.1 q → U.heap[q]? = s.heap[q]?) → G.2.2.2.2 U
def iCX (G : iG) (Y : iM) (p : Program) (s : State) (m : MethodId) (args : Array Value) (meth : Method) (c : Code) : Prop :=
  p.tables.exec = Jvm.exec ∧ c.code = Y.2.1 ∧ c.maxLocals = Y.2.2.1 ∧ meth.sig.returnType = Y.2.2.2 ∧ meth.locks = false ∧ s.vm.findClass Y.1.cls = some m.cls ∧ (∀ w ∈ iws Y, w.before args s = true) ∧ va_K G.2.1 vwCl (itys G) s ∧ G.2.2.2.2 s ∧ iStb G ∧ meth.name = Y.1.name ∧ ∀ q, s.heap.size ≤ q → G.2.2.1 q
def iQ (G : iG) (Q : Option Value → iH → Prop) : Array Value → State → Outcome → State → Prop := fun _ st o t => (∃ (r : Option Value) (h' : iH), o = .returned r ∧ Q r h' ∧ iHR G h' t.heap) ∧ va_F G.2.2.1 st t
def K (G : iG) (d kc ks : Nat) (Y : iM) (pc : Nat) (ls : iL) (st : List Value) (h : iH) (Q : Option Value → iH → Prop) : Prop :=
  ∀ (p : Program) (e : Env) (R : Room) (s : State) (m : MethodId) (args : Array Value) (below : List Frame) (meth : Method) (c : Code) (H : Heap) (locs : List Loc) (z : Array Slot) (cells slots : Nat),
    iCX G Y p s m args meth c → d ≤ R.frames → 64 * d ≤ R.locals → cells + kc ≤ R.cells → slots + ks ≤ R.slots → iLR z Y.2.2.1 ls → iHR G h H → va_S G.2.2.1 s.heap H locs →
    W p G.1 e R s m args below meth c H locs cells slots (MQ below (iQ G Q) args s R.cells R.slots G.2.2.1) (F0 m pc z st)
def iRm (d mc ms : Nat) : Room := { frames := d, cells := mc, slots := ms, locals := 64 * d }
def iPc (G : iG) (av : List Value) (h : iH) : Array Value → State → Prop := va_Pc av (fun U => iHR G h U.heap ∧ va_K G.2.1 vwCl (itys G) U ∧ G.2.2.2.2 U ∧ iStb G)
def C (G : iG) (d mc ms : Nat) (Y : iM) (av : List Value) (h : iH) (Q : Option Value → iH → Prop) : Prop :=
  Met G.1 Y.1 (iws Y) (iRm d mc ms) (iPc G av h) (iQ G Q) mc ms G.2.2.1
-- locals
def iClr (ls : iL) (i : Nat) : iL := match i with
  | 0 => ls
  | j + 1 => match ls[j]? with
    | some (some v) => if v.category = 2 then ls.set j none else ls
    | _ => ls
def iS1 (ls : iL) (i : Nat) (v : Value) : iL := (iClr ls i).set i (some v)
def iS2 (ls : iL) (i : Nat) (v : Value) : iL := ((iClr ls i).set i (some v)).set (i + 1) none
def iLv (ls : iL) : List (Nat × Value) := ls.zipIdx.filterMap (fun q => q.1.map (fun v => (q.2, v)))
theorem iLv_mem {ls : iL} {i : Nat} {v : Value} : (i, v) ∈ iLv ls ↔ ls[i]? = some (some v) := by
  unfold iLv
  rw [List.mem_filterMap]
  constructor
  · rintro ⟨⟨o, k⟩, hm, hq⟩
    have h1 := List.mem_zipIdx_iff_getElem?.mp hm
    cases o with
    | none => simp at hq
    | some w =>
      simp at hq
      obtain ⟨rfl, rfl⟩ := hq
      simpa using h1
  · intro h
    refine ⟨(some v, i), List.mem_zipIdx_iff_getElem?.mpr (by simpa using h), by simp⟩
theorem iLR.has {x : Array Slot} {n : Nat} {ls : iL} (h : iLR x n ls) : lv_has x n (iLv ls) := ⟨h.1, h.2.1, fun q hq => h.2.2 q.1 q.2 (iLv_mem.mp hq)⟩
theorem iClr_get {ls : iL} {i j : Nat} {v : Value} (h : (iClr ls i)[j]? = some (some v)) : ls[j]? = some (some v) ∧ ¬ (j + 1 = i ∧ v.category = 2) := by
  cases i with
  | zero => exact ⟨h, fun q => by omega⟩
  | succ k =>
    unfold iClr at h
    dsimp only at h
    split at h
    · rename_i w hw
      by_cases hc : w.category = 2
      · rw [if_pos hc] at h
        by_cases hj : k = j
        · subst hj
          have hl := (List.getElem?_eq_some_iff.mp hw).1
          rw [List.getElem?_set_self hl] at h
          cases h
        · rw [List.getElem?_set_ne hj] at h
          exact ⟨h, fun q => by omega⟩
      · rw [if_neg hc] at h
        refine ⟨h, fun q => ?_⟩
        have : k = j := by omega
        subst this
        rw [hw] at h
        cases h
        exact hc q.2
    · rename_i hw
      refine ⟨h, fun q => ?_⟩
      have : k = j := by omega
      subst this
      exact hw v h
theorem iS1_ok {x : Array Slot} {n i : Nat} {ls : iL} {v : Value} (h : lv_has x n ((i, v) :: (iLv ls).filter (fun q => !(q.1 == i) && !(q.1 + 1 == i && q.2.category == 2)))) : iLR x n (iS1 ls i v) := by
  refine ⟨h.1, h.2.1, fun j w hj => ?_⟩
  unfold iS1 at hj
  by_cases hij : i = j
  · subst hij
    by_cases hl : i < (iClr ls i).length
    · rw [List.getElem?_set_self hl] at hj
      cases hj
      exact h.2.2 (i, v) List.mem_cons_self
    · rw [List.getElem?_eq_none (by rw [List.length_set]; omega)] at hj
      cases hj
  · rw [List.getElem?_set_ne hij] at hj
    obtain ⟨h1, h2⟩ := iClr_get hj
    refine h.2.2 (j, w) (List.mem_cons_of_mem _ (List.mem_filter.mpr ⟨iLv_mem.mpr h1, ?_⟩))
    simp only [Bool.and_eq_true, Bool.not_eq_true', Bool.and_eq_false_iff, beq_eq_false_iff_ne, ne_eq]
    refine ⟨fun q => hij q.symm, ?_⟩
    by_cases h3 : j + 1 = i
    · exact Or.inr (fun q => h2 ⟨h3, q⟩)
    · exact Or.inl h3
theorem iS2_ok {x : Array Slot} {n i : Nat} {ls : iL} {v : Value} (h : lv_has x n ((i, v) :: (iLv ls).filter (fun q => !(q.1 == i) && (!(q.1 == i + 1) && !(q.1 + 1 == i && q.2.category == 2))))) : iLR x n (iS2 ls i v) := by
  refine ⟨h.1, h.2.1, fun j w hj => ?_⟩
  unfold iS2 at hj
  by_cases hi1 : i + 1 = j
  · subst hi1
    by_cases hl : i + 1 < ((iClr ls i).set i (some v)).length
    · rw [List.getElem?_set_self hl] at hj
      cases hj
    · rw [List.getElem?_eq_none (by rw [List.length_set]; omega)] at hj
      cases hj
  · rw [List.getElem?_set_ne hi1] at hj
    by_cases hij : i = j
    · subst hij
      by_cases hl : i < (iClr ls i).length
      · rw [List.getElem?_set_self hl] at hj
        cases hj
        exact h.2.2 (i, v) List.mem_cons_self
      · rw [List.getElem?_eq_none (by rw [List.length_set]; omega)] at hj
        cases hj
    · rw [List.getElem?_set_ne hij] at hj
      obtain ⟨h1, h2⟩ := iClr_get hj
      refine h.2.2 (j, w) (List.mem_cons_of_mem _ (List.mem_filter.mpr ⟨iLv_mem.mpr h1, ?_⟩))
      simp only [Bool.and_eq_true, Bool.not_eq_true', Bool.and_eq_false_iff, beq_eq_false_iff_ne, ne_eq]
      refine ⟨fun q => hij q.symm, fun q => hi1 q.symm, ?_⟩
      by_cases h3 : j + 1 = i
      · exact Or.inr (fun q => h2 ⟨h3, q⟩)
      · exact Or.inl h3
-- instructions
def ilen (i : Instr) : Nat := match i with
  | .bipush _ | .iload _ | .istore _ | .lload _ | .lstore _ | .aload _ | .astore _ | .newarray _ | .ldc _ => 2
  | .sipush _ | .iinc _ _ | .goto _ | .ifCond _ _ | .if_icmp _ _ | .if_acmp _ _ | .ifnull _ | .ifnonnull _ | .getfield _ | .putfield _ | .getstatic _ | .invokevirtual _ | .invokespecial _ | .invokestatic _ | .new _ | .anewarray _ | .ldc_w _ | .ldc2_w _ => 3
  | _ => 1
def ioff (i : Instr) : Option Int := match i with
  | .goto o | .ifCond _ o | .if_icmp _ o | .if_acmp _ o | .ifnull o | .ifnonnull o => some o
  | _ => none
/-- the instruction at pc, and where it goes: a jump's target, else the next one -/
def ino (Y : iM) (pc : Nat) : Option (Instr × Nat) := match decode Y.2.1 pc with
  | .ok (i, n) => if n = ilen i then (match ioff i with
      | some o => if 0 ≤ (pc : Int) + o then some (i, ((pc : Int) + o).toNat) else none
      | none => some (i, pc + n)) else none
  | .error _ => none
theorem ino_d {Y : iM} {pc t : Nat} {i : Instr} (h : ino Y pc = some (i, t)) : decode Y.2.1 pc = .ok (i, ilen i) := by
  unfold ino at h
  split at h
  · rename_i j n hd
    by_cases hn : n = ilen j
    · rw [if_pos hn] at h
      subst hn
      split at h
      · split at h
        · cases h; exact hd
        · cases h
      · cases h; exact hd
    · rw [if_neg hn] at h
      cases h
  · cases h
theorem ino_n {Y : iM} {pc t : Nat} {i : Instr} (h : ino Y pc = some (i, t)) (ho : ioff i = none) : t = pc + ilen i := by
  unfold ino at h
  split at h
  · rename_i j n hd
    by_cases hn : n = ilen j
    · rw [if_pos hn] at h
      subst hn
      split at h
      · rename_i o hj
        split at h
        · cases h; rw [ho] at hj; cases hj
        · cases h
      · cases h; rfl
    · rw [if_neg hn] at h
      cases h
  · cases h
theorem ino_j {Y : iM} {pc t : Nat} {i : Instr} {o : Int} (h : ino Y pc = some (i, t)) (ho : ioff i = some o) : (pc : Int) + o = (t : Int) := by
  unfold ino at h
  split at h
  · rename_i j n hd
    by_cases hn : n = ilen j
    · rw [if_pos hn] at h
      subst hn
      split at h
      · rename_i o' hj
        split at h
        · rename_i hz
          cases h
          rw [ho] at hj
          cases hj
          exact (Int.toNat_of_nonneg hz).symm
        · cases h
      · rename_i hj
        cases h
        rw [ho] at hj; cases hj
    · rw [if_neg hn] at h
      cases h
  · cases h
