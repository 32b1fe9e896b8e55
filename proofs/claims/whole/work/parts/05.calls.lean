/-! K and C: a method's start, and calls -/
def iEn : List Value → iL
  | [] => []
  | v :: r => if v.category = 2 then some v :: none :: iEn r else some v :: iEn r
def iEnt (n : Nat) (av : List Value) : iL := iEn av ++ List.replicate (n - (iEn av).length) none
theorem iEn_mem : ∀ (av : List Value) (o i : Nat) (v : Value), (iEn av)[i]? = some (some v) → (o + i, v) ∈ lv_args o av := by
  intro av
  induction av with
  | nil => intro o i v h; simp [iEn] at h
  | cons w r ih =>
    intro o i v h
    unfold iEn at h
    unfold lv_args
    by_cases hc : w.category = 2
    · rw [if_pos hc] at h ⊢
      match i, h with
      | 0, h => cases h; exact List.mem_cons_self
      | 1, h => cases h
      | j + 2, h =>
        have := ih (o + 2) j v h
        rw [show o + 2 + j = o + (j + 2) by omega] at this
        exact List.mem_cons_of_mem _ this
    · rw [if_neg hc] at h ⊢
      match i, h with
      | 0, h => cases h; exact List.mem_cons_self
      | j + 1, h =>
        have := ih (o + 1) j v h
        rw [show o + 1 + j = o + (j + 1) by omega] at this
        exact List.mem_cons_of_mem _ this
theorem iEnt_mem {n : Nat} {av : List Value} {i : Nat} {v : Value} (h : (iEnt n av)[i]? = some (some v)) : (i, v) ∈ lv_args 0 av := by
  unfold iEnt at h
  by_cases hi : i < (iEn av).length
  · rw [List.getElem?_append_left hi] at h
    have := iEn_mem av 0 i v h
    rwa [Nat.zero_add] at this
  · rw [List.getElem?_append_right (by omega), List.getElem?_replicate] at h
    split at h <;> cases h
theorem C_intro {G : iG} {d mc ms : Nat} {Y : iM} {av : List Value} {h : iH} {Q : Option Value → iH → Prop} (hY : plainName Y.1.cls = true) (hlen : (lg_sl av).length ≤ Y.2.2.1) (k : K G d mc ms Y 0 (iEnt Y.2.2.1 av) [] h Q) : C G d mc ms Y av h Q := by
  refine Met.ofW (cc := Y.2.1) (maxL := Y.2.2.1) (ret := Y.2.2.2) hY rfl ?_
  intro p e s m args below meth c s₁ B hml hv
  obtain ⟨rfl, hH, hK, hSF, hStb⟩ := hv
  have hts := atoms_spec (ws := iws Y) B.pre
  have hA : ∀ q, s.heap.size ≤ q → G.2.2.1 q := fun q hq => by
    obtain ⟨-, -, -, -, hz, hA⟩ := hH
    exact hA q (by omega)
  have X : iCX G Y p s m av.toArray meth c := ⟨B.exec, B.bytes, hml, B.returns, B.notSynchronized, findClass_of_methodNamed B.named, hts, hK, hSF, hStb, (name_of_methodNamed B.named B.method).1, hA⟩
  have hl := lv_entry av (n := Y.2.2.1) hlen
  rw [lg_entry_eq]
  exact k p e (iRm d mc ms) s m av.toArray below meth c s.heap [] _ 0 0 X (Nat.le_refl _) (Nat.le_refl _) (by simp [iRm]) (by simp [iRm]) ⟨hl.1, hl.2.1, fun i v hi => hl.2.2 (i, v) (iEnt_mem hi)⟩ hH va_S.rf
theorem iPc_blind {G : iG} {av : List Value} {h : iH} : FrameBlind (iPc G av h) := by
  intro a U g mk hp
  obtain ⟨h1, hH, hK, hSF, hStb⟩ := hp
  exact ⟨h1, hH, va_K.moved (u := U) (U := U.calling g mk a) (Vm.Alike.refl U.vm) hK, hStb U _ hSF (State.WarmedH.refl U) (Nat.le_refl _) (fun _ _ _ => rfl), hStb⟩
theorem iPc_at {G : iG} {Y : iM} {p : Program} {s : State} {m : MethodId} {args : Array Value} {meth : Method} {c : Code} {H : Heap} {locs : List Loc} {av : List Value} {h : iH} (X : iCX G Y p s m args meth c) (hH : iHR G h H) (hS : va_S G.2.2.1 s.heap H locs) : ∀ U : State, U.heap = H → s.WarmedH U.vm → iPc G av h av.toArray U := by
  intro U hU hW
  obtain ⟨-, -, -, -, -, -, -, hK, hSF, hStb, -, -⟩ := X
  refine ⟨rfl, by rw [hU]; exact hH, va_K.moved hW.alike hK, hStb s U hSF hW (by rw [hU]; exact hS.1) (fun q h1 h2 => by rw [hU]; exact hS.2.1 q h1 h2), hStb⟩
theorem iRun {G : iG} {p : Program} {e : Env} {R : Room} {s : State} {m : MethodId} {args : Array Value} {below : List Frame} {meth : Method} {c : Code} {H : Heap} {locs : List Loc} {cells slots mc ms pc : Nat} {z : Array Slot} {st0 rest : List Value} {a : Array Value} {Q' : Option Value → iH → Prop} {Qm : State → Prop}
    (hr : va_Run p G.1 e R s m args below meth c H locs cells slots mc ms (F0 m pc z st0) rest (iQ G Q' a) G.2.2.1) (hS : va_S G.2.2.1 s.heap H locs)
    (kk : ∀ (r : Option Value) (h' : iH) (H1 : Heap) (locs1 : List Loc), Q' r h' → iHR G h' H1 → va_S G.2.2.1 s.heap H1 locs1 → W p G.1 e R s m args below meth c H1 locs1 (cells + mc) (slots + ms) Qm (F0 m (pc + 3) z (r.toList ++ rest))) :
    W p G.1 e R s m args below meth c H locs cells slots Qm (F0 m pc z st0) := by
  intro T hT X
  obtain ⟨v, st₀, t, T', L, h0, X', hL, e1, e2, ⟨⟨r, h', hv, hq, hh⟩, hz, hk⟩, st⟩ := hr T hT X
  cases hv
  rw [h0] at hz hk
  obtain ⟨t2, a1, b1⟩ := kk v h' T'.heap (locs ++ L) hq (by rw [e1]; exact hh)
    ⟨Nat.le_trans hS.1 (by rw [e1]; exact hz), fun q h1 h2 => by rw [e1, hk q (Nat.lt_of_lt_of_le h1 hS.1) h2]; exact hS.2.1 q h1 h2, fun q hq => by
      rcases List.mem_append.mp hq with h | h
      · exact hS.2.2 q h
      · exact hL q h⟩ T' rfl X'
  exact ⟨t2, st t2 a1, b1⟩
/-- a callee that the tables know -/
def iMk (Y : iM) : Prop := Cond.code Y.1 Y.2.1 Y.2.2.1 Y.2.2.2 ∈ igt ∧ Cond.initialized Y.1.cls ∈ igt ∧ Y.2.2.1 ≤ 45 ∧ Y.1.cls ≠ "java/lang/invoke/MethodHandle" ∧ Y.1.cls ≠ "java/lang/invoke/VarHandle"
def iMi (Y : iM) : Prop := Cond.instanceMethod Y.1 ∈ igt ∧ Cond.selects Y.1.cls Y.1 Y.1 ∈ igt
def iNp (Y : iM) (n : Nat) : Prop := (parseMethodDescriptor Y.1.desc).map (fun d => d.parameters.length) = some n
theorem igood {w : Cond} (h : w ∈ igt) : (w.onTables && w.keeps) = true ∨ ∃ ty, w = .arrayClass ty := good_of_word (List.mem_filter.mp h).2
theorem iGood {Y Y' : iM} (h : iMk Y') : GoodIn (iws Y) (iws Y') := by
  intro w hw
  rcases List.mem_cons.mp hw with rfl | hw
  · exact ⟨List.mem_cons_of_mem _ h.1, igood h.1⟩
  · exact ⟨List.mem_cons_of_mem _ hw, igood hw⟩
section KC
variable {G : iG} {d kc ks mc ms : Nat} {Y Y' : iM} {pc t : Nat} {ls : iL} {st : List Value} {h : iH} {Q Q' : Option Value → iH → Prop} {idx b : Nat} {As : List Value}
theorem iB {p : Program} {R : Room} {s : State} {m : MethodId} {args : Array Value} {meth : Method} {c : Code} (X : iCX G Y p s m args meth c) (hM : iMk Y') {n : Nat} (hn : iNp Y' n) (hl : Cond.methodLink Y.1.cls idx Y'.1 ∈ igt) (hf : d + 1 ≤ R.frames) (hlo : 64 * (d + 1) ≤ R.locals) : CallB R s args Y.1.cls idx Y'.1 Y'.2.1 Y'.2.2.1 Y'.2.2.2 (iws Y') (iRm d mc ms) mc ms n := by
  refine callB_of n X.2.2.2.2.2.2.1 (iGood hM) rfl rfl rfl (X.w hM.2.1) (X.w hl) ⟨hM.2.2.2.1, hM.2.2.2.2, hn⟩ ⟨hf, ?_⟩
  have := hM.2.2.1
  show 8 + (Y'.2.2.1 + 11) + 64 * d ≤ R.locals
  omega
theorem iFx {p : Program} {s : State} {m : MethodId} {args : Array Value} {meth : Method} {c : Code} (X : iCX G Y p s m args meth c) : CallFix p m c Y.2.1 Y.2.2.1 s args (iws Y) Y.1.cls := ⟨X.1, X.2.1, X.2.2.1, X.2.2.2.2.2.1, X.2.2.2.2.2.2.1⟩
theorem ks_callV {ci : Nat} {fs : List Value} {r0 : vw_C} (hi : ino Y pc = some (.invokevirtual idx, t)) (hl : Cond.methodLink Y.1.cls idx Y'.1 ∈ igt) (hM : iMk Y') (hI : iMi Y') (hn : iNp Y' As.length) (hb : h.1 b = some (.inr (ci, fs))) (hr : vwCl[ci]? = some r0) (hc : r0.1 = Y'.1.cls) (hcat : (st.map fun v => v.category).sum ≤ 8)
    (hC : C G d mc ms Y' (.ref b :: As) h Q') (hmc : mc ≤ kc) (hms : ms ≤ ks) (k : ∀ (r : Option Value) (h' : iH), Q' r h' → K G (d + 1) (kc - mc) (ks - ms) Y t ls (r.toList ++ st) h' Q) : K G (d + 1) kc ks Y pc ls (As.reverse ++ .ref b :: st) h Q := by
  intro p e R s m args below meth c H locs z cells slots X hf hlo hc1 hc2 hL hH hS
  obtain rfl : t = pc + 3 := ino_n hi rfl
  obtain ⟨L, q0, hq, hP, -⟩ := hH.ex hb
  refine iRun (mc := mc) (ms := ms) (rest := st) (a := (Value.ref b :: As).toArray) (Q' := Q') (va_runV (iFx X) hC ⟨iB X hM hn hl hf hlo, X.w hI.1, X.w hI.2⟩ ⟨iPc_blind, ?_, iPc_at X hH hS⟩ rfl rfl hL.1 rfl ?_ (ino_d hi) ⟨by omega, by omega⟩) hS (fun r h' H1 locs1 hq1 hh1 hs1 => k r h' hq1 p e R s m args below meth c H1 locs1 z (cells + mc) (slots + ms) X hf hlo (by omega) (by omega) hL hh1 hs1)
  · rw [← hc]
    exact va_recv X.2.2.2.2.2.2.2.1 hP hr hq
  · simpa [JFrame.monitorRoom] using hcat
theorem ks_callS (hi : ino Y pc = some (.invokestatic idx, t)) (hl : Cond.methodLink Y.1.cls idx Y'.1 ∈ igt) (hM : iMk Y') (hI : Cond.static Y'.1 ∈ igt) (hn : iNp Y' As.length) (hcat : (st.map fun v => v.category).sum ≤ 8)
    (hC : C G d mc ms Y' As h Q') (hmc : mc ≤ kc) (hms : ms ≤ ks) (k : ∀ (r : Option Value) (h' : iH), Q' r h' → K G (d + 1) (kc - mc) (ks - ms) Y t ls (r.toList ++ st) h' Q) : K G (d + 1) kc ks Y pc ls (As.reverse ++ st) h Q := by
  intro p e R s m args below meth c H locs z cells slots X hf hlo hc1 hc2 hL hH hS
  obtain rfl : t = pc + 3 := ino_n hi rfl
  refine iRun (mc := mc) (ms := ms) (rest := st) (a := As.toArray) (Q' := Q') (va_runS (iFx X) hC ⟨iB X hM hn hl hf hlo, X.w hI⟩ ⟨iPc_blind, iPc_at X hH hS⟩ rfl rfl hL.1 rfl ?_ (ino_d hi) ⟨by omega, by omega⟩) hS (fun r h' H1 locs1 hq1 hh1 hs1 => k r h' hq1 p e R s m args below meth c H1 locs1 z (cells + mc) (slots + ms) X hf hlo (by omega) (by omega) hL hh1 hs1)
  simpa [JFrame.monitorRoom] using hcat
theorem ks_callI (hi : ino Y pc = some (.invokespecial idx, t)) (hl : Cond.methodLink Y.1.cls idx Y'.1 ∈ igt) (hM : iMk Y') (hI : Cond.instanceMethod Y'.1 ∈ igt) (hnm : Y'.1.name = "<init>") (hrt : Y'.2.2.2 = none) (hn : iNp Y' As.length) (hcat : (st.map fun v => v.category).sum ≤ 8)
    (hC : C G d mc ms Y' (.ref b :: As) h Q') (hmc : mc ≤ kc) (hms : ms ≤ ks) (k : ∀ (r : Option Value) (h' : iH), Q' r h' → K G (d + 1) (kc - mc) (ks - ms) Y t ls (r.toList ++ st) h' Q) : K G (d + 1) kc ks Y pc ls (As.reverse ++ .ref b :: st) h Q := by
  intro p e R s m args below meth c H locs z cells slots X hf hlo hc1 hc2 hL hH hS
  obtain rfl : t = pc + 3 := ino_n hi rfl
  have hB := iB (mc := mc) (ms := ms) X hM hn hl hf hlo
  rw [hrt] at hB
  refine iRun (mc := mc) (ms := ms) (rest := st) (a := (Value.ref b :: As).toArray) (Q' := Q') (va_runI (iFx X) hC ⟨hB, hnm, X.w hI⟩ ⟨iPc_blind, iPc_at X hH hS⟩ rfl rfl hL.1 rfl ?_ (ino_d hi) ⟨by omega, by omega⟩) hS (fun r h' H1 locs1 hq1 hh1 hs1 => k r h' hq1 p e R s m args below meth c H1 locs1 z (cells + mc) (slots + ms) X hf hlo (by omega) (by omega) hL hh1 hs1)
  simpa [JFrame.monitorRoom] using hcat
end KC
