/-! The class: child, where it throws; the law's own child, which catches -/
def nseN : String := "java/util/NoSuchElementException"
def nseL : List String := ["java/lang/RuntimeException", "java/lang/Exception"]
/-- what is said for throws -/
def nseB : List Cond := [.castable nseN nseN, .declares ⟨"java/lang/RuntimeException", "<init>", "()V"⟩, .declares ⟨"java/lang/Exception", "<init>", "()V"⟩, .declares ⟨"java/lang/Throwable", "<init>", "()V"⟩]
def TG (G : iG) : Prop := G.1.stackTraces = false ∧ ∀ s : State, G.2.2.2.2 s → (∀ w ∈ nseB, va_Nw w s) ∧ vx_Zq Bundle.tN "UNASSIGNED_STACK" Bundle.steD G.2.2.1 s s.heap ∧ vx_Zq Bundle.tN "SUPPRESSED_SENTINEL" Bundle.listD G.2.2.1 s s.heap
theorem nse_x0 : ∀ w ∈ (vx_at0 RX11 157 nseN nseL).filter goodWord, w ∈ lw_tbl := by decide +kernel
theorem nse_x1 : ∀ w ∈ (vx_at0 RX11 157 nseN nseL).filter (fun w => !goodWord w), w ∈ nseB := by decide +kernel
theorem nse_on : ∀ w ∈ nseB, w.onTables = true := by decide +kernel
theorem nse_x2 : ∀ w ∈ Cond.classLink RX11 155 nseN :: Cond.initialized nseN :: vx_at0 RX11 157 nseN nseL, vx_ot w = true := by decide +kernel
theorem nse_k : Cond.classLink RX11 155 nseN ∈ igt := List.mem_filter.mpr ⟨by decide +kernel, by decide +kernel⟩
theorem nse_i : Cond.initialized nseN ∈ igt := List.mem_filter.mpr ⟨by decide +kernel, by decide +kernel⟩
theorem nse_l : Cond.classLink RL 13 nseN ∈ igt := List.mem_filter.mpr ⟨by decide +kernel, by decide +kernel⟩
/-- the heap has grown: what was said of it stands -/
theorem iHR.more {G : iG} {h : iH} {H H1 : Heap} (hH : iHR G h H) (hz : H.size ≤ H1.size) (ho : ∀ q : Nat, q < H.size → H1[q]? = H[q]?) : iHR G (h.1, H1.size) H1 := by
  obtain ⟨L, hL, hP, hD, hs, hA⟩ := hH
  refine ⟨L, hL, ?_, hD, rfl, fun q hq => hA q ?_⟩
  · exact hP.kept (fun k x hx => ho x.1 (hP k x hx).lt)
  · have : H1.size ≤ q := hq
    omega
section TH
variable {G : iG} {d mc ms : Nat} {Y : iM} {av : List Value} {h : iH} {Qc : Array Value → State → Outcome → State → Prop} {XC : String → State → State → Prop}
theorem vx_in (hY : plainName Y.1.cls = true) (hlen : (lg_sl av).length ≤ Y.2.2.1)
    (k : ∀ (p : Program) (e : Env) (s : State) (m : MethodId) (below : List Frame) (meth : Method) (c : Code) (z : Array Slot), iCX G Y p s m av.toArray meth c → (∀ x ∈ c.exceptionTable.toList, False) → iLR z Y.2.2.1 (iEnt Y.2.2.1 av) → iHR G h s.heap →
      W p G.1 e (iRm d mc ms) s m av.toArray below meth c s.heap [] 0 0 (vx_MQ below Qc XC av.toArray s mc ms G.2.2.1) (F0 m 0 z [])) : vx_Met G.1 Y.1 (iws Y) (iRm d mc ms) (iPc G av h) Qc XC mc ms G.2.2.1 := by
  refine vx_ofW (cc := Y.2.1) (maxL := Y.2.2.1) (ret := Y.2.2.2) hY rfl ?_
  intro p e s m args below meth c s₁ B hml htab hv
  obtain ⟨rfl, hH, hK, hSF, hStb⟩ := hv
  have hts := atoms_spec (ws := iws Y) B.pre
  have hA : ∀ q, s.heap.size ≤ q → G.2.2.1 q := fun q hq => by
    obtain ⟨-, -, -, -, hz, hA⟩ := hH
    exact hA q (by omega)
  have X : iCX G Y p s m av.toArray meth c := ⟨B.exec, B.bytes, hml, B.returns, B.notSynchronized, findClass_of_methodNamed B.named, hts, hK, hSF, hStb, (name_of_methodNamed B.named B.method).1, hA⟩
  have hl := lv_entry av (n := Y.2.2.1) hlen
  rw [lg_entry_eq]
  exact k p e s m below meth c _ X htab ⟨hl.1, hl.2.1, fun i v hi => hl.2.2 (i, v) (iEnt_mem hi)⟩ hH
end TH
section XCx
variable {G : iG} {d b : Nat} {g : iH} {I : Nat → Int32} {W9 : Int64} {A : Nat → Nat → Int32} {N : Nat → Nat → Int64} {F n U : Nat}
/-- where it has thrown: the cells as they were, and more -/
def thQ (G : iG) (g : iH) : String → State → State → Prop := fun E st t => E = nseN ∧ (∃ z, iHR G (g.1, z) t.heap) ∧ va_F G.2.2.1 st t
theorem x_childX (hT : TG G) (hX : XR G b g I W9 A N F n U) {c w : Int32} (hbad : ¬ (inF c (nI 0) (A 2 1 - nI 1) = true ∧ ¬ w < 0 ∧ w ≤ 6)) :
    vx_Met G.1 mX11_child.1 (iws mX11_child) (iRm (d + 8) 1 6) (iPc G [.ref b, .int c, .int w] g) (fun _ _ _ _ => False) (thQ G g) 1 6 G.2.2.1 := by
  have hx := hX.2.1
  obtain ⟨X0, hx, -⟩ := hx
  refine vx_in p_RX11 (Nat.le_of_ble_eq_true rfl) ?_
  intro p e s m below meth c9 z X htab hL hH
  have hth : ∀ (H : Heap) (locs : List Loc), iHR G g H → va_S G.2.2.1 s.heap H locs → W p G.1 e (iRm (d + 8) 1 6) s m [Value.ref b, .int c, .int w].toArray below meth c9 H locs 0 0 (vx_MQ below (fun _ _ _ _ => False) (thQ G g) [Value.ref b, .int c, .int w].toArray s 1 6 G.2.2.1) (F0 m 18 z []) := by
    intro H locs hh hs
    have hg5 := X.2.2.2.2.2.2.2.2.1
    refine vx_throw0 (own := RX11) (cls := nseN) (names := nseL) (ik := 155) (ic := 157) (A := G.2.2.1) (cc := mX11_child.2.1) X.1 X.2.1 hT.1 X.2.2.2.2.2.1 (by decide +kernel) (by decide +kernel) (X.w nse_k) (X.w nse_i) ?_ nse_x2 (hT.2 s hg5).2.1 (hT.2 s hg5).2.2 hs (by rw [X.2.2.1]; exact hL.1) (ino_d eX11_child_18) (ino_d eX11_child_21) (ino_d eX11_child_22) (ino_d eX11_child_25) (fun x hx => (htab x hx).elim) ?_ ?_ (Nat.le_refl _) (Nat.le_refl _) X.2.2.2.2.1 ?_ hs.2.2 (Nat.le_refl _) (Nat.le_refl _)
    · exact vx_hat (fun w hw => X.w (List.mem_filter.mpr ⟨nse_x0 w hw, (List.mem_filter.mp hw).2⟩)) nse_x1 (fun w hw => va_Nw.use (nse_on w hw) ((hT.2 s hg5).1 w hw))
    · show 2 + 3 < d + 8
      omega
    · show 0 + (13 * (2 + 1) + 42) ≤ 64 * (d + 8)
      omega
    · intro t _ h1 h2
      exact ⟨rfl, ⟨t.heap.size, hh.more h1 h2⟩, Nat.le_trans hs.1 h1, fun q q1 q2 => by rw [h2 q (Nat.lt_of_lt_of_le q1 hs.1)]; exact hs.2.1 q q1 q2⟩
  refine lv_aload_n X.1 X.2.1 (ino_d eX11_child_0) rfl (hL.2.2 0 (.ref b) rfl) ?_
  refine lv_iload_n X.1 X.2.1 (ino_d eX11_child_1) rfl (hL.2.2 1 (.int c) rfl) ?_
  obtain ⟨L, q0, hq, hP, -⟩ := hH.ex (xb_o hx)
  refine iRun (mc := 0) (ms := 0) (rest := []) (a := (Value.ref b :: [.int c]).toArray) (Q' := iR (some (.int (zI (inF c (nI 0) (A 2 1 - nI 1))))) g) (va_runV (As := [.int c]) (iFx X) (x_isChild (d := d + 7) hX) ⟨iB X kX11_isChild nX11_isChild l_RX11_151 (Nat.le_refl _) (Nat.le_refl _), X.w iX11_isChild.1, X.w iX11_isChild.2⟩ ⟨iPc_blind, va_recv X.2.2.2.2.2.2.2.1 hP rfl hq, iPc_at X hH va_S.rf⟩ rfl rfl hL.1 rfl (lv_room (Nat.zero_le _)) (ino_d eX11_child_2) ⟨Nat.zero_le _, Nat.zero_le _⟩) va_S.rf ?_
  intro r h' H1 locs1 hq1 hh1 hs1
  obtain ⟨rfl, rfl⟩ := hq1
  show W _ _ _ _ _ _ _ _ _ _ _ _ _ _ _ (F0 m 5 z [.int _])
  refine lv_if_eq X.1 X.2.1 (ino_d eX11_child_5) (ino_j eX11_child_5 rfl) (fun _ => hth H1 locs1 hh1 hs1) (fun h1 => ?_)
  refine lv_iload_n X.1 X.2.1 (ino_d eX11_child_8) rfl (hL.2.2 2 (.int w) rfl) ?_
  refine lv_if_lt X.1 X.2.1 (ino_d eX11_child_9) (ino_j eX11_child_9 rfl) (fun _ => hth H1 locs1 hh1 hs1) (fun h2 => ?_)
  refine lv_iload_n X.1 X.2.1 (ino_d eX11_child_12) rfl (hL.2.2 2 (.int w) rfl) ?_
  refine lv_bipush X.1 X.2.1 (ino_d eX11_child_13) (v := 6) (by decide) ?_
  refine lv_icmp_le X.1 X.2.1 (ino_d eX11_child_15) (ino_j eX11_child_15 rfl) (fun h3 => absurd ⟨?_, h2, h3⟩ hbad) (fun _ => hth H1 locs1 hh1 hs1)
  cases hi : inF c (nI 0) (A 2 1 - nI 1)
  · rw [hi] at h1
    exact absurd rfl h1
  · rfl
def mL_child : iM := (yL_child, cL_child, 5, some .int)
theorem dL_child_0 : decode cL_child 0 = .ok (.aload_n 3, 1) := by decide +kernel
theorem dL_child_1 : decode cL_child 1 = .ok (.iconst 0, 1) := by decide +kernel
theorem dL_child_2 : decode cL_child 2 = .ok (.aload_n 0, 1) := by decide +kernel
theorem dL_child_3 : decode cL_child 3 = .ok (.iload_n 1, 1) := by decide +kernel
theorem dL_child_4 : decode cL_child 4 = .ok (.iload_n 2, 1) := by decide +kernel
theorem dL_child_5 : decode cL_child 5 = .ok (.invokevirtual 7, 3) := by decide +kernel
theorem dL_child_8 : decode cL_child 8 = .ok (.i2l, 1) := by decide +kernel
theorem dL_child_9 : decode cL_child 9 = .ok (.lastore, 1) := by decide +kernel
theorem dL_child_10 : decode cL_child 10 = .ok (.goto 7, 3) := by decide +kernel
theorem dL_child_13 : decode cL_child 13 = .ok (.astore 4, 2) := by decide +kernel
theorem dL_child_15 : decode cL_child 15 = .ok (.iconst 1, 1) := by decide +kernel
theorem dL_child_16 : decode cL_child 16 = .ok (.ireturn, 1) := by decide +kernel
theorem dL_child_17 : decode cL_child 17 = .ok (.iconst 0, 1) := by decide +kernel
theorem dL_child_18 : decode cL_child 18 = .ok (.ireturn, 1) := by decide +kernel
def wsC : List Cond := .codeWith yL_child cL_child 5 (some .int) [(0, 10, 13, 13)] :: igt
theorem wsC_in : Cond.codeWith yL_child cL_child 5 (some .int) [(0, 10, 13, 13)] ∈ igt := List.mem_filter.mpr ⟨by decide +kernel, by decide +kernel⟩
theorem wsC_good {Y' : iM} (h : iMk Y') : GoodIn wsC (iws Y') := by
  intro w hw
  rcases List.mem_cons.mp hw with rfl | hw
  · exact ⟨List.mem_cons_of_mem _ h.1, igood h.1⟩
  · exact ⟨List.mem_cons_of_mem _ hw, igood hw⟩
theorem p_RL : plainName RL = true := by decide +kernel
/-- what the law's child answers, and what it leaves -/
def lchQ (G : iG) (g : iH) (o : Nat) (f : Nat → Int64) (ok : Bool) (v : Int32) : Option Value → iH → Prop := fun r g' => if ok = true then r = some (.int 0) ∧ g' = iSet g o (.inl (G.2.2.2.1 2, 1, .inr (.inl (vp_updL f 0 v.toInt64)))) else r = some (.int 1) ∧ g'.1 = g.1
def lcP (ok : Bool) : Nat := if ok = true then 0 else 1
theorem l_child (hT : TG G) (hX : XR G b g I W9 A N F n U) {o : Nat} {f : Nat → Int64} (ho : g.1 o = some (.inl (G.2.2.2.1 2, 1, .inr (.inl f)))) {c w v : Int32} {ok : Bool}
    (hok : ok = true → C G (d + 8) 0 0 mX11_child [.ref b, .int c, .int w] g (iR (some (.int v)) g)) (hno : ok = false → ¬ (inF c (nI 0) (A 2 1 - nI 1) = true ∧ ¬ w < 0 ∧ w ≤ 6)) :
    Met G.1 yL_child wsC (iRm (d + 9) 1 6) (iPc G [.ref b, .int c, .int w, .ref o] g) (iQ G (lchQ G g o f ok v)) 1 6 G.2.2.1 := by
  have hx := hX.2.1
  obtain ⟨X0, hx, -⟩ := hx
  refine va_MetW (cc := cL_child) (maxL := 5) (ret := some .int) (hh := [(0, 10, 13, 13)]) p_RL rfl ?_
  intro p e s m args below meth c9 s₁ B hml hv
  obtain ⟨rfl, hH, hK, hSF, hStb⟩ := hv
  have hts := atoms_spec (ws := wsC) B.pre
  have hw : ∀ {ww : Cond}, ww ∈ igt → ww.before [Value.ref b, .int c, .int w, .ref o].toArray s = true := fun h => hts _ (List.mem_cons_of_mem _ h)
  have htab : c9.exceptionTable.toList = tableOf [(0, 10, 13, 13)] := vx_table (x := yL_child) B (hts _ List.mem_cons_self)
  have hown : s.vm.findClass RL = some m.cls := findClass_of_methodNamed B.named
  have hl := lv_entry [Value.ref b, .int c, .int w, .ref o] (n := 5) (Nat.le_of_ble_eq_true rfl)
  rw [lg_entry_eq]
  have hL : iLR _ 5 (iEnt 5 [Value.ref b, .int c, .int w, .ref o]) := ⟨hl.1, hl.2.1, fun i v hi => hl.2.2 (i, v) (iEnt_mem hi)⟩
  generalize (lg_sl [Value.ref b, .int c, .int w, .ref o] ++ List.replicate (5 - (lg_sl [Value.ref b, .int c, .int w, .ref o]).length) Slot.unset).toArray = z at hL ⊢
  have hexec := B.exec
  have hb := B.bytes
  obtain ⟨L, q0, hq, hP, -⟩ := hH.ex (xb_o hx)
  have hpc : ∀ U : State, U.heap = s.heap → s.WarmedH U.vm → iPc G [Value.ref b, .int c, .int w] g [Value.ref b, .int c, .int w].toArray U := fun U hU hW =>
    ⟨rfl, by rw [hU]; exact hH, va_K.moved hW.alike hK, hStb s U hSF hW (by rw [hU]; exact Nat.le_refl _) (fun q _ _ => by rw [hU]), hStb⟩
  refine lv_aload_n hexec hb dL_child_0 rfl (hL.2.2 3 (.ref o) rfl) ?_
  refine lv_iconst hexec hb dL_child_1 (v := 0) (by decide) ?_
  refine lv_aload_n hexec hb dL_child_2 rfl (hL.2.2 0 (.ref b) rfl) ?_
  refine lv_iload_n hexec hb dL_child_3 rfl (hL.2.2 1 (.int c) rfl) ?_
  refine lv_iload_n hexec hb dL_child_4 rfl (hL.2.2 2 (.int w) rfl) ?_
  cases hk : ok with
  | true =>
    refine iRun (G := G) (mc := 0) (ms := 0) (rest := [.int 0, .ref o]) (a := (Value.ref b :: [.int c, .int w]).toArray) (Q' := iR (some (.int v)) g) (va_runV (As := [.int c, .int w]) (cc := cL_child) (nL := 5) (Ts := wsC) ⟨hexec, hb, hml, hown, hts⟩ (hok hk) ⟨callB_of 2 hts (wsC_good kX11_child) rfl rfl rfl (hw kX11_child.2.1) (hw l_RL_7) ⟨kX11_child.2.2.2.1, kX11_child.2.2.2.2, nX11_child⟩ ⟨Nat.le_refl _, ?_⟩, hw iX11_child.1, hw iX11_child.2⟩ ⟨iPc_blind, va_recv hK hP rfl hq, hpc⟩ rfl rfl hL.1 rfl (lv_room (Nat.le_of_ble_eq_true rfl)) dL_child_5 ⟨Nat.zero_le _, Nat.zero_le _⟩) va_S.rf ?_
    · show 8 + (3 + 11) + 64 * (d + 8) ≤ 64 * (d + 9)
      omega
    intro r h' H1 locs1 hq1 hh1 hs1
    obtain ⟨rfl, hg9⟩ := hq1
    rw [hg9] at hh1
    show W _ _ _ _ _ _ _ _ _ _ _ _ _ _ _ (F0 m 8 z [.int v, .int 0, .ref o])
    refine lv_i2l hexec hb dL_child_8 rfl ?_
    refine W.last hexec hb (hh1.at ho) ((hK.2 2 _ rfl).1 1 (fun j => .long (f j))) (fun q => by cases q) (by show ¬ ((0 : Int32) < 0 ∨ (arrV _ _ _).slots.size ≤ _); rw [arrV_size]; exact (by decide : ¬ ((0 : Int32) < 0 ∨ 1 ≤ (0 : Int32).toNatClampNeg))) rfl rfl dL_child_9 fun H2 e1 e2 e3 => ?_
    have hh2 : iHR G (iSet g o (.inl (G.2.2.2.1 2, 1, .inr (.inl (vp_updL f 0 v.toInt64))))) H2 := hh1.put ho (by
      show H2[o]? = some (vp_cell _ _)
      rw [e1]
      rw [vp_cell_l, vp_cell_l, arrV_store]
      congr 2
      funext q
      by_cases hq : q = 0
      · subst hq
        simp [updV, vp_updL]
      · simp [updV, vp_updL, hq]) e2 e3
    have hs2 := hs1.put (k := (0 : Int32).toNatClampNeg) e2 e3 (hh1.in ho)
    refine lv_goto hexec hb dL_child_10 (tgt := 17) (show ((10 : Nat) : Int) + 7 = ((17 : Nat) : Int) from rfl) ?_
    refine lv_iconst hexec hb dL_child_17 (v := 0) (by decide) ?_
    refine W.widen (k := 1) (n := 6) (Nat.zero_le _) (Nat.zero_le _) ?_
    exact W.zret hexec hb B.returns (of_eq_true nar_i) (fun t ht hW => ⟨⟨_, _, rfl, ⟨rfl, rfl⟩, by rw [ht]; exact hh2⟩, hs2.F ht⟩) hs2.2.2 dL_child_18
  | false =>
    have hr := vx_runV (As := [.int c, .int w]) (g := F0 m 5 z [.int w, .int c, .ref b, .int 0, .ref o]) (rest := [.int 0, .ref o]) (below := below) (e := e) (meth := meth) (locs := []) (cells := 0) (slots := 0) (R := iRm (d + 9) 1 6) (H := s.heap) (cc := cL_child) (nL := 5) (Ts := wsC) (own := RL) ⟨hexec, hb, hml, hown, hts⟩ (x_childX (d := d) hT hX (hno hk)) ⟨callB_of 2 hts (wsC_good kX11_child) rfl rfl rfl (hw kX11_child.2.1) (hw l_RL_7) ⟨kX11_child.2.2.2.1, kX11_child.2.2.2.2, nX11_child⟩ ⟨Nat.le_refl _, by show 8 + (3 + 11) + 64 * (d + 8) ≤ 64 * (d + 9); omega⟩, hw iX11_child.1, hw iX11_child.2⟩ ⟨iPc_blind, va_recv hK hP rfl hq, hpc⟩ rfl rfl hL.1 rfl (lv_room (Nat.le_of_ble_eq_true rfl)) dL_child_5 ⟨Nat.le_refl _, Nat.le_refl _⟩
    intro T hT0 XT
    rcases hr T hT0 XT with ⟨v9, st₀, t, T', L9, h0, X', hL9, e1, e2, hq9, st⟩ | ⟨q, st₀, t, T', L9, E, ce, h0, X', hL9, e1, e2, hxc, hce, hcv, hcl, st⟩
    · exact hq9.elim
    · obtain ⟨rfl, ⟨z9, hh9⟩, hF⟩ := hxc
      obtain ⟨-, -, k3⟩ := vx_keep (A0 := G.2.2.1) (A1 := G.2.2.1) (H0 := s.heap) (locs := []) (free := G.2.2.1) h0 e1 va_S.rf (fun q _ h => h) (fun q h => h) hL9 hF
      have hc := vx_catch (l := G.1) (p := p) (e := e) (R := iRm (d + 9) 1 6) (below := below) (meth := meth) (Q := MQ below (iQ G (lchQ G g o f false v)) [Value.ref b, .int c, .int w, .ref o].toArray s 1 6 G.2.2.1) (cells := 0 + 1) (slots := 0 + 6) (pc := 5) (ls := z) (rest := [.int 0, .ref o]) (H := T'.heap) (locs := [] ++ L9) (own := RL) (name := nseN) (E := nseN) (ce := ce) (q := q) (args := [Value.ref b, .int c, .int w, .ref o].toArray) hown [] { startPc := 0, endPc := 10, handlerPc := 13, catchType := 13 } [] htab (fun z hz => nomatch hz) (by decide) (by decide) (hw nse_l) (va_Nw.use rfl ((hT.2 s hSF).1 _ List.mem_cons_self)) (by rw [e1]; exact hce) hcv hcl ?_
      · obtain ⟨t2, a1, b1⟩ := hc T' rfl X'
        exact ⟨t2, st.trans a1, b1⟩
      · refine lv_astore hexec hb dL_child_13 hL.has (Nat.le_of_ble_eq_true rfl) rfl (fun z' hz' => ?_)
        refine lv_iconst hexec hb dL_child_15 (v := 1) (by decide) ?_
        exact W.zret hexec hb B.returns (of_eq_true nar_i) (fun t9 ht hW => ⟨⟨_, (g.1, z9), rfl, ⟨rfl, rfl⟩, by rw [ht, e1]; exact hh9⟩, k3.F ht⟩) k3.2.2 dL_child_16
end XCx
