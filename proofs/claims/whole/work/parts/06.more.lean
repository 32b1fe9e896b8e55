/-! K: copies of rows, new things, switches, constants, statics, calls of nest mates -/
section KM
variable {G : iG} {d kc ks mc ms : Nat} {Y Y' : iM} {pc t : Nat} {ls : iL} {st : List Value} {h : iH} {Q Q' : Option Value → iH → Prop} {idx b : Nat} {As : List Value}
theorem iX.nn (z : Int32) (hz : ¬ z < 0) : z.toInt = (z.toNatClampNeg : Int) := by
  have hz0 : (0 : Int) ≤ z.toInt := by
    have := Int32.not_lt.mp hz
    simpa using Int32.le_iff_toInt_le.mp this
  show z.toInt = ((z.toInt.toNat : Nat) : Int)
  omega
theorem ks_copyi {a0 a n0 n1 : Nat} {f g : Nat → Int32} {sp dp n : Int32} (hi : ino Y pc = some (.invokestatic idx, t)) (hl : Cond.methodLink Y.1.cls idx arraycopyName ∈ igt) (hw : Cond.native arraycopyName ∈ igt ∧ Cond.static arraycopyName ∈ igt ∧ Cond.initialized "java/lang/System" ∈ igt) (ha0 : h.1 a0 = some (.inl (G.2.2.2.1 0, n0, .inl f))) (ha1 : h.1 a = some (.inl (G.2.2.2.1 0, n1, .inl g))) (h1 : ¬ sp < 0) (h2 : ¬ dp < 0) (h3 : ¬ n < 0) (h4 : sp.toNatClampNeg + n.toNatClampNeg ≤ n0) (h5 : dp.toNatClampNeg + n.toNatClampNeg ≤ n1) (hcat : (st.map fun v => v.category).sum ≤ 8)
    (k : K G (d + 1) kc ks Y t ls st (iSet h a (.inl (G.2.2.2.1 0, n1, .inl (va_cpy f g sp.toNatClampNeg dp.toNatClampNeg n.toNatClampNeg)))) Q) : K G (d + 1) kc ks Y pc ls (.int n :: .int dp :: .ref a :: .int sp :: .ref a0 :: st) h Q := by
  intro p e R s m args below meth c H locs z cells slots X hf1 hlo hc1 hc2 hL hH hS
  obtain rfl : t = pc + 3 := ino_n hi rfl
  have hK := X.2.2.2.2.2.2.2.1
  have e9 : nativeFrameWords "java/lang/System" "arraycopy" 5 + 11 ≤ 56 := by decide +kernel
  intro T hT XX
  have q0 : H[a0]? = some (vp_cell (G.2.2.2.1 0) (n0, .inl f)) := hH.at ha0
  have q1 : H[a]? = some (vp_cell (G.2.2.2.1 0) (n1, .inl g)) := hH.at ha1
  obtain ⟨-, k0, hk0, cm0, hkk0⟩ := (hK.2 0 _ rfl).1 n0 (fun j => .int (f j))
  obtain ⟨-, k1, hk1, cm1, hkk1⟩ := (hK.2 0 _ rfl).1 n1 (fun j => .int (g j))
  obtain ⟨vm', X', step⟩ := XX.arraycopy X.1 X.2.2.2.2.2.1 (X.w hl) (X.w hw.1) (X.w hw.2.1) (X.w hw.2.2) (src := a0) (dst := a) (cs := vp_cell (G.2.2.2.1 0) (n0, .inl f)) (cd := vp_cell (G.2.2.2.1 0) (n1, .inl g)) (srcPos := sp) (destPos := dp) (n := n) (by rw [hT]; exact q0) (by rw [hT]; exact q1)
    (fun _ h => by cases h) (fun _ h => by cases h) (fun h => by cases h) (fun h => by cases h) hk0 hk1 hkk0 hkk1 (by simp [refKind]) h1 h2 h3
    (by rw [iX.nn sp h1, iX.nn n h3]; show ¬ _ > ((arrV (G.2.2.2.1 0) n0 (fun j => .int (f j))).slots.size : Int); rw [arrV_size]; omega)
    (by rw [iX.nn dp h2, iX.nn n h3]; show ¬ _ > ((arrV (G.2.2.2.1 0) n1 (fun j => .int (g j))).slots.size : Int); rw [arrV_size]; omega)
    (fun vm₁ _ i hi9 => by
      have e : (vp_cell (G.2.2.2.1 0) (n0, .inl f)).slots.getD (sp.toNatClampNeg + i) .null = .int (f (sp.toNatClampNeg + i)) := by
        show (arrV (G.2.2.2.1 0) n0 (fun j => .int (f j))).slots.getD _ _ = _
        rw [Array.getD_eq_getD_getElem?, arrV_read _ _ (by omega)]
        rfl
      refine ⟨?_, ?_⟩
      · rw [e]
        rfl
      · rw [e]
        exact trivial)
    (g := F0 m pc z (.int n :: .int dp :: .ref a :: .int sp :: .ref a0 :: st)) rfl (by rw [X.2.2.1]; exact hL.1) (rest := st) rfl (by rw [X.2.1]; exact ino_d hi) (by omega) (by show 2 * 0 + _ + _ ≤ _; omega)
  have e1 : copied (vp_cell (G.2.2.2.1 0) (n0, .inl f)) (vp_cell (G.2.2.2.1 0) (n1, .inl g)) sp dp n = vp_cell (G.2.2.2.1 0) (n1, .inl (va_cpy f g sp.toNatClampNeg dp.toNatClampNeg n.toNatClampNeg)) := va_copied (fun z => .int z) (G.2.2.2.1 0) (G.2.2.2.1 0) f g h4
  rw [e1] at X' step
  have hl9 : a < H.size := (Array.getElem?_eq_some_iff.mp q1).1
  generalize hV : vp_cell (G.2.2.2.1 0) (n1, .inl (va_cpy f g sp.toNatClampNeg dp.toNatClampNeg n.toNatClampNeg)) = V at X' step
  have hheap : ((T.setVm vm').setCell a V).heap = H.setIfInBounds a V := by rw [← hT]; rfl
  have oq : ∀ q : Nat, q ≠ a → (H.setIfInBounds a V)[q]? = H[q]? := fun q hq => by simp [Array.getElem?_setIfInBounds, Ne.symm hq]
  have hz : (H.setIfInBounds a V).size = H.size := by simp
  obtain ⟨tt, a1, b1⟩ := k p e R s m args below meth c (H.setIfInBounds a V) _ z cells slots X hf1 hlo hc1 hc2 hL (hH.put ha1 (by show (H.setIfInBounds a V)[a]? = some _; rw [hV]; simp [Array.getElem?_setIfInBounds, hl9]) hz oq) ⟨by rw [hz]; exact hS.1, fun q g1 g2 => by rw [oq q (fun e => g2 (by rw [e]; exact hH.in ha1))]; exact hS.2.1 q g1 g2, fun q hq => by
    rcases List.mem_append.mp hq with h9 | h9
    · exact hS.2.2 q h9
    · obtain ⟨z9, -, hz9⟩ := List.mem_map.mp h9
      rw [← hz9]
      exact hH.in ha1⟩ _ hheap X'
  exact ⟨tt, step _ a1, b1⟩
theorem ks_copyl {a0 a n0 n1 : Nat} {f g : Nat → Int64} {sp dp n : Int32} (hi : ino Y pc = some (.invokestatic idx, t)) (hl : Cond.methodLink Y.1.cls idx arraycopyName ∈ igt) (hw : Cond.native arraycopyName ∈ igt ∧ Cond.static arraycopyName ∈ igt ∧ Cond.initialized "java/lang/System" ∈ igt) (ha0 : h.1 a0 = some (.inl (G.2.2.2.1 2, n0, .inr (.inl f)))) (ha1 : h.1 a = some (.inl (G.2.2.2.1 2, n1, .inr (.inl g)))) (h1 : ¬ sp < 0) (h2 : ¬ dp < 0) (h3 : ¬ n < 0) (h4 : sp.toNatClampNeg + n.toNatClampNeg ≤ n0) (h5 : dp.toNatClampNeg + n.toNatClampNeg ≤ n1) (hcat : (st.map fun v => v.category).sum ≤ 8)
    (k : K G (d + 1) kc ks Y t ls st (iSet h a (.inl (G.2.2.2.1 2, n1, .inr (.inl (va_cpy f g sp.toNatClampNeg dp.toNatClampNeg n.toNatClampNeg))))) Q) : K G (d + 1) kc ks Y pc ls (.int n :: .int dp :: .ref a :: .int sp :: .ref a0 :: st) h Q := by
  intro p e R s m args below meth c H locs z cells slots X hf1 hlo hc1 hc2 hL hH hS
  obtain rfl : t = pc + 3 := ino_n hi rfl
  have hK := X.2.2.2.2.2.2.2.1
  have e9 : nativeFrameWords "java/lang/System" "arraycopy" 5 + 11 ≤ 56 := by decide +kernel
  intro T hT XX
  have q0 : H[a0]? = some (vp_cell (G.2.2.2.1 2) (n0, .inr (.inl f))) := hH.at ha0
  have q1 : H[a]? = some (vp_cell (G.2.2.2.1 2) (n1, .inr (.inl g))) := hH.at ha1
  obtain ⟨-, k0, hk0, cm0, hkk0⟩ := (hK.2 2 _ rfl).1 n0 (fun j => .long (f j))
  obtain ⟨-, k1, hk1, cm1, hkk1⟩ := (hK.2 2 _ rfl).1 n1 (fun j => .long (g j))
  obtain ⟨vm', X', step⟩ := XX.arraycopy X.1 X.2.2.2.2.2.1 (X.w hl) (X.w hw.1) (X.w hw.2.1) (X.w hw.2.2) (src := a0) (dst := a) (cs := vp_cell (G.2.2.2.1 2) (n0, .inr (.inl f))) (cd := vp_cell (G.2.2.2.1 2) (n1, .inr (.inl g))) (srcPos := sp) (destPos := dp) (n := n) (by rw [hT]; exact q0) (by rw [hT]; exact q1)
    (fun _ h => by cases h) (fun _ h => by cases h) (fun h => by cases h) (fun h => by cases h) hk0 hk1 hkk0 hkk1 (by simp [refKind]) h1 h2 h3
    (by rw [iX.nn sp h1, iX.nn n h3]; show ¬ _ > ((arrV (G.2.2.2.1 2) n0 (fun j => .long (f j))).slots.size : Int); rw [arrV_size]; omega)
    (by rw [iX.nn dp h2, iX.nn n h3]; show ¬ _ > ((arrV (G.2.2.2.1 2) n1 (fun j => .long (g j))).slots.size : Int); rw [arrV_size]; omega)
    (fun vm₁ _ i hi9 => by
      have e : (vp_cell (G.2.2.2.1 2) (n0, .inr (.inl f))).slots.getD (sp.toNatClampNeg + i) .null = .long (f (sp.toNatClampNeg + i)) := by
        show (arrV (G.2.2.2.1 2) n0 (fun j => .long (f j))).slots.getD _ _ = _
        rw [Array.getD_eq_getD_getElem?, arrV_read _ _ (by omega)]
        rfl
      refine ⟨?_, ?_⟩
      · rw [e]
        rfl
      · rw [e]
        exact trivial)
    (g := F0 m pc z (.int n :: .int dp :: .ref a :: .int sp :: .ref a0 :: st)) rfl (by rw [X.2.2.1]; exact hL.1) (rest := st) rfl (by rw [X.2.1]; exact ino_d hi) (by omega) (by show 2 * 0 + _ + _ ≤ _; omega)
  have e1 : copied (vp_cell (G.2.2.2.1 2) (n0, .inr (.inl f))) (vp_cell (G.2.2.2.1 2) (n1, .inr (.inl g))) sp dp n = vp_cell (G.2.2.2.1 2) (n1, .inr (.inl (va_cpy f g sp.toNatClampNeg dp.toNatClampNeg n.toNatClampNeg))) := va_copied (fun z => .long z) (G.2.2.2.1 2) (G.2.2.2.1 2) f g h4
  rw [e1] at X' step
  have hl9 : a < H.size := (Array.getElem?_eq_some_iff.mp q1).1
  generalize hV : vp_cell (G.2.2.2.1 2) (n1, .inr (.inl (va_cpy f g sp.toNatClampNeg dp.toNatClampNeg n.toNatClampNeg))) = V at X' step
  have hheap : ((T.setVm vm').setCell a V).heap = H.setIfInBounds a V := by rw [← hT]; rfl
  have oq : ∀ q : Nat, q ≠ a → (H.setIfInBounds a V)[q]? = H[q]? := fun q hq => by simp [Array.getElem?_setIfInBounds, Ne.symm hq]
  have hz : (H.setIfInBounds a V).size = H.size := by simp
  obtain ⟨tt, a1, b1⟩ := k p e R s m args below meth c (H.setIfInBounds a V) _ z cells slots X hf1 hlo hc1 hc2 hL (hH.put ha1 (by show (H.setIfInBounds a V)[a]? = some _; rw [hV]; simp [Array.getElem?_setIfInBounds, hl9]) hz oq) ⟨by rw [hz]; exact hS.1, fun q g1 g2 => by rw [oq q (fun e => g2 (by rw [e]; exact hH.in ha1))]; exact hS.2.1 q g1 g2, fun q hq => by
    rcases List.mem_append.mp hq with h9 | h9
    · exact hS.2.2 q h9
    · obtain ⟨z9, -, hz9⟩ := List.mem_map.mp h9
      rw [← hz9]
      exact hH.in ha1⟩ _ hheap X'
  exact ⟨tt, step _ a1, b1⟩
theorem ks_tsw {dflt lo hi : Int} {offs : Array Int} {len : Nat} {x : Int32} (hd : decode Y.2.1 pc = .ok (.tableswitch dflt lo hi offs, len)) (ts : List Nat) (td : Nat) (hts : offs.toList.map (fun q => (pc : Int) + q) = ts.map (fun q : Nat => (q : Int))) (htd : (pc : Int) + dflt = (td : Int)) (hsz : hi - lo + 1 = (ts.length : Int)) (kd : x.toInt < lo ∨ hi < x.toInt → K G d kc ks Y td ls st h Q) (kt : ∀ (j tj : Nat), ts[j]? = some tj → x.toInt = lo + (j : Int) → K G d kc ks Y tj ls st h Q) : K G d kc ks Y pc ls (.int x :: st) h Q := by
  intro p e R s m args below meth c H locs z cells slots X hf1 hlo hc1 hc2 hL hH hS
  by_cases hx : x.toInt < lo ∨ hi < x.toInt
  · exact lv_tableOut X.1 X.2.1 hd hx htd (kd hx p e R s m args below meth c H locs z cells slots X hf1 hlo hc1 hc2 hL hH hS)
  · have h1 : ¬ x.toInt < lo := fun q => hx (Or.inl q)
    have h2 : ¬ hi < x.toInt := fun q => hx (Or.inr q)
    have hj : (x.toInt - lo).toNat < ts.length := by omega
    obtain ⟨tj, htj⟩ : ∃ tj, ts[(x.toInt - lo).toNat]? = some tj := ⟨_, List.getElem?_eq_getElem hj⟩
    have e1 : (offs.toList.map (fun q => (pc : Int) + q))[(x.toInt - lo).toNat]? = some (tj : Int) := by rw [hts, List.getElem?_map, htj]; rfl
    rw [List.getElem?_map, Array.getElem?_toList] at e1
    cases ho : offs[(x.toInt - lo).toNat]? with
    | none => rw [ho] at e1; cases e1
    | some off =>
      rw [ho] at e1
      exact lv_tableIn X.1 X.2.1 hd h1 h2 ho (Option.some.inj e1) (kt _ tj htj (by omega) p e R s m args below meth c H locs z cells slots X hf1 hlo hc1 hc2 hL hH hS)
theorem ks_ldc {v : Int32} (hi : ino Y pc = some (.ldc idx, t)) (hw : Cond.constant Y.1.cls idx v ∈ igt) (k : K G d kc ks Y t ls (.int v :: st) h Q) : K G d kc ks Y pc ls st h Q := by
  intro p e R s m args below meth c H locs z cells slots X hf1 hlo hc1 hc2 hL hH hS
  obtain rfl : t = pc + 2 := ino_n hi rfl
  exact lv_ldc X.1 X.2.1 X.2.2.2.2.2.1 (X.w hw) (ino_d hi) (k p e R s m args below meth c H locs z cells slots X hf1 hlo hc1 hc2 hL hH hS)
theorem ks_ldcw {v : Int32} (hi : ino Y pc = some (.ldc_w idx, t)) (hw : Cond.constant Y.1.cls idx v ∈ igt) (k : K G d kc ks Y t ls (.int v :: st) h Q) : K G d kc ks Y pc ls st h Q := by
  intro p e R s m args below meth c H locs z cells slots X hf1 hlo hc1 hc2 hL hH hS
  obtain rfl : t = pc + 3 := ino_n hi rfl
  exact lv_ldcw X.1 X.2.1 X.2.2.2.2.2.1 (X.w hw) (ino_d hi) (k p e R s m args below meth c H locs z cells slots X hf1 hlo hc1 hc2 hL hH hS)
theorem ks_ldc2 {v : Int64} (hi : ino Y pc = some (.ldc2_w idx, t)) (hw : Cond.constantLong Y.1.cls idx v ∈ igt) (k : K G d kc ks Y t ls (.long v :: st) h Q) : K G d kc ks Y pc ls st h Q := by
  intro p e R s m args below meth c H locs z cells slots X hf1 hlo hc1 hc2 hL hH hS
  obtain rfl : t = pc + 3 := ino_n hi rfl
  exact lv_ldc2 X.1 X.2.1 X.2.2.2.2.2.1 (X.w hw) (ino_d hi) (k p e R s m args below meth c H locs z cells slots X hf1 hlo hc1 hc2 hL hH hS)
theorem ks_gets {C9 n9 d9 : String} {v : Value} (hi : ino Y pc = some (.getstatic idx, t)) (hZ : ∀ s : State, G.2.2.2.2 s → va_Z C9 n9 d9 v G.2.2.1 s s.heap) (hw : Cond.fieldLink Y.1.cls idx C9 n9 d9 ∈ igt) (k : K G d kc ks Y t ls (v :: st) h Q) : K G d kc ks Y pc ls st h Q := by
  intro p e R s m args below meth c H locs z cells slots X hf1 hlo hc1 hc2 hL hH hS
  obtain rfl : t = pc + 3 := ino_n hi rfl
  exact va_gets X.1 X.2.1 (hZ s X.2.2.2.2.2.2.2.2.1) hS X.2.2.2.2.2.1 (X.w hw) (fun _ h9 => h9) (ino_d hi) (k p e R s m args below meth c H locs z cells slots X hf1 hlo hc1 hc2 hL hH hS)
theorem ks_getO {C9 n9 d9 : String} {v : Value} {a : Nat} (hi : ino Y pc = some (.getfield idx, t)) (hZ : ∀ s : State, G.2.2.2.2 s → va_OF C9 n9 d9 v a G.2.2.1 s s.heap) (hw : Cond.fieldLink Y.1.cls idx C9 n9 d9 ∈ igt) (k : K G d kc ks Y t ls (v :: st) h Q) : K G d kc ks Y pc ls (.ref a :: st) h Q := by
  intro p e R s m args below meth c H locs z cells slots X hf1 hlo hc1 hc2 hL hH hS
  obtain rfl : t = pc + 3 := ino_n hi rfl
  obtain ⟨cf, k9, fi, f, cell, h1, h2, h3, h4, h5, h6⟩ := (hZ s X.2.2.2.2.2.2.2.2.1).kept hS.2.1
  exact W.getf X.1 X.2.1 X.2.2.2.2.2.1 (X.w hw) h1 h2 h3 h4 (v := v) h5 rfl rfl (ino_d hi) (k p e R s m args below meth c H locs z cells slots X hf1 hlo hc1 hc2 hL hH hS)
theorem ks_objInit {a : Nat} (hi : ino Y pc = some (.invokespecial idx, t)) (hl : Cond.methodLink Y.1.cls idx objectInit ∈ igt) (hw : Cond.instanceMethod objectInit ∈ igt ∧ Cond.code objectInit ⟨#[0xb1]⟩ 1 none ∈ igt) (hcat : (st.map fun v => v.category).sum ≤ 8) (k : K G (d + 1) kc ks Y t ls st h Q) : K G (d + 1) kc ks Y pc ls (.ref a :: st) h Q := by
  intro p e R s m args below meth c H locs z cells slots X hf1 hlo hc1 hc2 hL hH hS
  obtain rfl : t = pc + 3 := ino_n hi rfl
  exact W.objInit X.1 X.2.1 X.2.2.2.2.2.1 (X.w hl) (X.w hw.1) (X.w hw.2) rfl (by rw [X.2.2.1]; exact hL.1) rfl (ino_d hi) (by omega) (by simp only [JFrame.monitorRoom]; simp; omega) (k p e R s m args below meth c H locs z cells slots X hf1 hlo hc1 hc2 hL hH hS)
theorem iBN {p : Program} {R : Room} {s : State} {m : MethodId} {args : Array Value} {meth : Method} {c : Code} {host : String} (X : iCX G Y p s m args meth c) (hM : iMk Y') {n : Nat} (hn : iNp Y' n) (hl : va_Nw (.methodLinkNest Y.1.cls idx Y'.1 host) s) (hf : d + 1 ≤ R.frames) (hlo : 64 * (d + 1) ≤ R.locals) : va_CN R s args Y.1.cls idx Y'.1 host Y'.2.1 Y'.2.2.1 Y'.2.2.2 (iws Y') (iRm d mc ms) mc ms n := by
  refine va_cnB n X.2.2.2.2.2.2.1 (iGood hM) rfl rfl rfl hl (X.w hM.2.1) ⟨hM.2.2.2.1, hM.2.2.2.2, hn⟩ ⟨hf, ?_⟩
  have := hM.2.2.1
  show 8 + (Y'.2.2.1 + 11) + 64 * d ≤ R.locals
  omega
theorem ks_callVN {ci : Nat} {fs : List Value} {r0 : vw_C} {host : String} (hi : ino Y pc = some (.invokevirtual idx, t)) (hl : ∀ s : State, G.2.2.2.2 s → va_Nw (.methodLinkNest Y.1.cls idx Y'.1 host) s) (hM : iMk Y') (hI : iMi Y') (hn : iNp Y' As.length) (hb : h.1 b = some (.inr (ci, fs))) (hr : vwCl[ci]? = some r0) (hc : r0.1 = Y'.1.cls) (hcat : (st.map fun v => v.category).sum ≤ 8)
    (hC : C G d mc ms Y' (.ref b :: As) h Q') (hmc : mc ≤ kc) (hms : ms ≤ ks) (k : ∀ (r : Option Value) (h' : iH), Q' r h' → K G (d + 1) (kc - mc) (ks - ms) Y t ls (r.toList ++ st) h' Q) : K G (d + 1) kc ks Y pc ls (As.reverse ++ .ref b :: st) h Q := by
  intro p e R s m args below meth c H locs z cells slots X hf1 hlo hc1 hc2 hL hH hS
  obtain rfl : t = pc + 3 := ino_n hi rfl
  obtain ⟨L, q0, hq, hP, -⟩ := hH.ex hb
  refine iRun (mc := mc) (ms := ms) (rest := st) (a := (Value.ref b :: As).toArray) (Q' := Q') (va_runVN (iFx X) hC ⟨iBN X hM hn (hl s X.2.2.2.2.2.2.2.2.1) hf1 hlo, X.w hI.1, X.w hI.2⟩ ⟨iPc_blind, ?_, iPc_at X hH hS⟩ rfl rfl hL.1 rfl ?_ (ino_d hi) ⟨by omega, by omega⟩) hS (fun r h' H1 locs1 hq1 hh1 hs1 => k r h' hq1 p e R s m args below meth c H1 locs1 z (cells + mc) (slots + ms) X hf1 hlo (by omega) (by omega) hL hh1 hs1)
  · rw [← hc]
    exact va_recv X.2.2.2.2.2.2.2.1 hP hr hq
  · simpa [JFrame.monitorRoom] using hcat
theorem ks_callIN {host : String} (hi : ino Y pc = some (.invokespecial idx, t)) (hl : ∀ s : State, G.2.2.2.2 s → va_Nw (.methodLinkNest Y.1.cls idx Y'.1 host) s) (hM : iMk Y') (hI : Cond.instanceMethod Y'.1 ∈ igt) (hnm : Y'.1.name = "<init>") (hrt : Y'.2.2.2 = none) (hn : iNp Y' As.length) (hcat : (st.map fun v => v.category).sum ≤ 8)
    (hC : C G d mc ms Y' (.ref b :: As) h Q') (hmc : mc ≤ kc) (hms : ms ≤ ks) (k : ∀ (r : Option Value) (h' : iH), Q' r h' → K G (d + 1) (kc - mc) (ks - ms) Y t ls (r.toList ++ st) h' Q) : K G (d + 1) kc ks Y pc ls (As.reverse ++ .ref b :: st) h Q := by
  intro p e R s m args below meth c H locs z cells slots X hf1 hlo hc1 hc2 hL hH hS
  obtain rfl : t = pc + 3 := ino_n hi rfl
  have hB := iBN (mc := mc) (ms := ms) X hM hn (hl s X.2.2.2.2.2.2.2.2.1) hf1 hlo
  rw [hrt] at hB
  refine iRun (mc := mc) (ms := ms) (rest := st) (a := (Value.ref b :: As).toArray) (Q' := Q') (va_runIN (iFx X) hC ⟨hB, hnm, X.w hI⟩ ⟨iPc_blind, iPc_at X hH hS⟩ rfl rfl hL.1 rfl ?_ (ino_d hi) ⟨by omega, by omega⟩) hS (fun r h' H1 locs1 hq1 hh1 hs1 => k r h' hq1 p e R s m args below meth c H1 locs1 z (cells + mc) (slots + ms) X hf1 hlo (by omega) (by omega) hL hh1 hs1)
  simpa [JFrame.monitorRoom] using hcat
theorem ks_new (hCl : ∀ r ∈ vwCl, iCl r) {ci : Nat} {r : vw_C} {fs : List Value} (hi : ino Y pc = some (.new idx, t)) (hr : vwCl[ci]? = some r) (hw : Cond.classLink Y.1.cls idx r.1 ∈ igt ∧ Cond.instantiable r.1 r.2.2 ∈ igt ∧ Cond.initialized r.1 ∈ igt) (hfs : ∀ j ty, j < r.2.2 → parseFieldDescriptor (r.2.1 j).2.2.1 = some ty → defaultValue ty = vp_V fs j) (hk1 : 1 ≤ kc) (hk2 : r.2.2 ≤ ks) (k : K G d (kc - 1) (ks - r.2.2) Y t ls (.ref h.2 :: st) (iNew h (.inr (ci, fs))) Q) : K G d kc ks Y pc ls st h Q := by
  intro p e R s m args below meth c H locs z cells slots X hf1 hlo hc1 hc2 hL hH hS
  obtain rfl : t = pc + 3 := ino_n hi rfl
  have hcl := hCl _ (List.mem_of_getElem? hr)
  obtain ⟨ty0, hty⟩ := hcl.2.1
  have hKn := X.2.2.2.2.2.2.2.1.1 ci _ hr
  have hz : H.size = h.2 := by obtain ⟨-, -, -, -, hz, -⟩ := hH; exact hz
  refine W.newcK X.1 X.2.1 X.2.2.2.2.2.1 (X.w hw.1) (X.w hw.2.1) (X.w hw.2.2) rfl (ino_d hi) (by omega) (by omega) hKn.2.1 hz fun H1 kC hkC e1 z1 o1 => ?_
  refine k p e R s m args below meth c H1 locs z (cells + 1) (slots + r.2.2) X hf1 hlo (by omega) (by omega) hL (hH.new ?_ z1 o1) ⟨Nat.le_trans hS.1 (by omega), fun x h1 h2 => (o1 x (by have := hS.1; omega)).trans (hS.2.1 x h1 h2), hS.2.2⟩
  exact ⟨_, hr, (u_born ty0 X.2.2.2.2.2.2.1 (fun w h9 => List.mem_cons_of_mem _ (hcl.1 w h9)) hKn hkC e1 hty).to (fun j hj => hfs j _ hj (hty j hj))⟩
theorem ks_newI {n : Int32} {N : Nat} (hi : ino Y pc = some (.newarray .int, t)) (hw : Cond.arrayClass .int ∈ igt) (hn : ¬ n < 0) (hN : n.toNatClampNeg = N) (hbig : N ≤ 4096) (hk1 : 1 ≤ kc) (hk2 : N ≤ ks) (k : K G d (kc - 1) (ks - N) Y t ls (.ref h.2 :: st) (iNew h (.inl (G.2.2.2.1 0, N, .inl (fun _ => 0)))) Q) : K G d kc ks Y pc ls (.int n :: st) h Q := by
  intro p e R s m args below meth c H locs z cells slots X hf1 hlo hc1 hc2 hL hH hS
  obtain rfl : t = pc + 2 := ino_n hi rfl
  have hz : H.size = h.2 := by obtain ⟨-, -, -, -, hz, -⟩ := hH; exact hz
  refine va_newaK (atype := .int) X.1 X.2.1 (X.w (show Cond.arrayClass (newarray.typeOf .int) ∈ igt from hw)) rfl (ino_d hi) rfl hn hN (by simp only [newarray.typeOf, componentBytes]; omega) (by omega) (by omega) hz fun H1 cA e1 z1 o1 hAr hNm => ?_
  have hcA : cA = G.2.2.2.1 0 := Option.some.inj (hNm.symm.trans (X.2.2.2.2.2.2.2.1.2 0 _ rfl).2)
  subst hcA
  exact k p e R s m args below meth c H1 locs z (cells + 1) (slots + N) X hf1 hlo (by omega) (by omega) hL (hH.new e1 z1 o1) ⟨Nat.le_trans hS.1 (by omega), fun x h1 h2 => (o1 x (by have := hS.1; omega)).trans (hS.2.1 x h1 h2), hS.2.2⟩
theorem ks_newB {n : Int32} {N : Nat} (hi : ino Y pc = some (.newarray .byte, t)) (hw : Cond.arrayClass .byte ∈ igt) (hn : ¬ n < 0) (hN : n.toNatClampNeg = N) (hbig : N ≤ 4096) (hk1 : 1 ≤ kc) (hk2 : N ≤ ks) (k : K G d (kc - 1) (ks - N) Y t ls (.ref h.2 :: st) (iNew h (.inl (G.2.2.2.1 1, N, .inl (fun _ => 0)))) Q) : K G d kc ks Y pc ls (.int n :: st) h Q := by
  intro p e R s m args below meth c H locs z cells slots X hf1 hlo hc1 hc2 hL hH hS
  obtain rfl : t = pc + 2 := ino_n hi rfl
  have hz : H.size = h.2 := by obtain ⟨-, -, -, -, hz, -⟩ := hH; exact hz
  refine va_newaK (atype := .byte) X.1 X.2.1 (X.w (show Cond.arrayClass (newarray.typeOf .byte) ∈ igt from hw)) rfl (ino_d hi) rfl hn hN (by simp only [newarray.typeOf, componentBytes]; omega) (by omega) (by omega) hz fun H1 cA e1 z1 o1 hAr hNm => ?_
  have hcA : cA = G.2.2.2.1 1 := Option.some.inj (hNm.symm.trans (X.2.2.2.2.2.2.2.1.2 1 _ rfl).2)
  subst hcA
  exact k p e R s m args below meth c H1 locs z (cells + 1) (slots + N) X hf1 hlo (by omega) (by omega) hL (hH.new e1 z1 o1) ⟨Nat.le_trans hS.1 (by omega), fun x h1 h2 => (o1 x (by have := hS.1; omega)).trans (hS.2.1 x h1 h2), hS.2.2⟩
theorem ks_newJ {n : Int32} {N : Nat} (hi : ino Y pc = some (.newarray .long, t)) (hw : Cond.arrayClass .long ∈ igt) (hn : ¬ n < 0) (hN : n.toNatClampNeg = N) (hbig : N ≤ 4096) (hk1 : 1 ≤ kc) (hk2 : N ≤ ks) (k : K G d (kc - 1) (ks - N) Y t ls (.ref h.2 :: st) (iNew h (.inl (G.2.2.2.1 2, N, .inr (.inl (fun _ => 0))))) Q) : K G d kc ks Y pc ls (.int n :: st) h Q := by
  intro p e R s m args below meth c H locs z cells slots X hf1 hlo hc1 hc2 hL hH hS
  obtain rfl : t = pc + 2 := ino_n hi rfl
  have hz : H.size = h.2 := by obtain ⟨-, -, -, -, hz, -⟩ := hH; exact hz
  refine va_newaK (atype := .long) X.1 X.2.1 (X.w (show Cond.arrayClass (newarray.typeOf .long) ∈ igt from hw)) rfl (ino_d hi) rfl hn hN (by simp only [newarray.typeOf, componentBytes]; omega) (by omega) (by omega) hz fun H1 cA e1 z1 o1 hAr hNm => ?_
  have hcA : cA = G.2.2.2.1 2 := Option.some.inj (hNm.symm.trans (X.2.2.2.2.2.2.2.1.2 2 _ rfl).2)
  subst hcA
  exact k p e R s m args below meth c H1 locs z (cells + 1) (slots + N) X hf1 hlo (by omega) (by omega) hL (hH.new e1 z1 o1) ⟨Nat.le_trans hS.1 (by omega), fun x h1 h2 => (o1 x (by have := hS.1; omega)).trans (hS.2.1 x h1 h2), hS.2.2⟩
theorem ks_newZ {n : Int32} {N : Nat} (hi : ino Y pc = some (.newarray .boolean, t)) (hw : Cond.arrayClass .boolean ∈ igt) (hn : ¬ n < 0) (hN : n.toNatClampNeg = N) (hbig : N ≤ 4096) (hk1 : 1 ≤ kc) (hk2 : N ≤ ks) (k : K G d (kc - 1) (ks - N) Y t ls (.ref h.2 :: st) (iNew h (.inl (G.2.2.2.1 3, N, .inl (fun _ => 0)))) Q) : K G d kc ks Y pc ls (.int n :: st) h Q := by
  intro p e R s m args below meth c H locs z cells slots X hf1 hlo hc1 hc2 hL hH hS
  obtain rfl : t = pc + 2 := ino_n hi rfl
  have hz : H.size = h.2 := by obtain ⟨-, -, -, -, hz, -⟩ := hH; exact hz
  refine va_newaK (atype := .boolean) X.1 X.2.1 (X.w (show Cond.arrayClass (newarray.typeOf .boolean) ∈ igt from hw)) rfl (ino_d hi) rfl hn hN (by simp only [newarray.typeOf, componentBytes]; omega) (by omega) (by omega) hz fun H1 cA e1 z1 o1 hAr hNm => ?_
  have hcA : cA = G.2.2.2.1 3 := Option.some.inj (hNm.symm.trans (X.2.2.2.2.2.2.2.1.2 3 _ rfl).2)
  subst hcA
  exact k p e R s m args below meth c H1 locs z (cells + 1) (slots + N) X hf1 hlo (by omega) (by omega) hL (hH.new e1 z1 o1) ⟨Nat.le_trans hS.1 (by omega), fun x h1 h2 => (o1 x (by have := hS.1; omega)).trans (hS.2.1 x h1 h2), hS.2.2⟩
theorem ks_newq {n : Int32} {N tag : Nat} {C9 : String} (htag : (itys G)[tag]? = some (G.2.2.2.1 tag, .object C9)) (hi : ino Y pc = some (.anewarray idx, t)) (hw : Cond.classLink Y.1.cls idx C9 ∈ igt) (hO : ∀ s : State, G.2.2.2.2 s → va_AO C9 s) (hn : ¬ n < 0) (hN : n.toNatClampNeg = N) (hbig : N ≤ 4096) (hk1 : 1 ≤ kc) (hk2 : N ≤ ks) (k : K G d (kc - 1) (ks - N) Y t ls (.ref h.2 :: st) (iNew h (.inl (G.2.2.2.1 tag, N, .inr (.inr (.inr (.inr (fun _ => none))))))) Q) : K G d kc ks Y pc ls (.int n :: st) h Q := by
  intro p e R s m args below meth c H locs z cells slots X hf1 hlo hc1 hc2 hL hH hS
  obtain rfl : t = pc + 3 := ino_n hi rfl
  have hz : H.size = h.2 := by obtain ⟨-, -, -, -, hz, -⟩ := hH; exact hz
  subst hN
  refine W.anew X.1 X.2.1 X.2.2.2.2.2.1 (X.w hw) (va_AO.use (hO s X.2.2.2.2.2.2.2.2.1)) rfl (ino_d hi) rfl hn (by omega) (by omega) (by omega) fun cA kA comp f1 f2 f3 f4 => ?_
  generalize hH1 : H.push ({ cls := cA, slots := Array.replicate n.toNatClampNeg .null, vm := .none } : Cell) = H1
  have z1 : H1.size = h.2 + 1 := by rw [← hH1, Array.size_push, hz]
  have e1 : H1[h.2]? = some (arrV cA n.toNatClampNeg (fun _ => .null)) := by rw [← hz, ← hH1, Array.getElem?_push_size, ← arrV_new]
  have o1 : ∀ q : Nat, q < h.2 → H1[q]? = H[q]? := fun q hq => by rw [← hH1, Array.getElem?_push, if_neg (by omega)]
  have hcA : cA = G.2.2.2.1 tag := by
    obtain ⟨_, _, _, _, _, h9⟩ := (X.2.2.2.2.2.2.2.1.2 tag _ htag).2
    exact Option.some.inj (f1.symm.trans h9)
  subst hcA
  show W p G.1 e R s m args below meth c H1 locs _ _ _ (F0 m (pc + 3) z (.ref H.size :: st))
  rw [hz]
  refine k p e R s m args below meth c H1 locs z (cells + 1) (slots + n.toNatClampNeg) X hf1 hlo (by omega) (by omega) hL (hH.new ?_ z1 o1) ⟨Nat.le_trans hS.1 (by omega), fun x h1 h2 => (o1 x (by have := hS.1; omega)).trans (hS.2.1 x h1 h2), hS.2.2⟩
  show H1[h.2]? = some (vp_cell _ _)
  rw [vp_cell_q]
  exact e1
theorem ks_astN {a n tag : Nat} {C9 : String} {f : Nat → Option Nat} {i : Int32} (htag : (itys G)[tag]? = some (G.2.2.2.1 tag, .object C9)) (hi : ino Y pc = some (.aastore, t)) (ha : h.1 a = some (.inl (G.2.2.2.1 tag, n, .inr (.inr (.inr (.inr f)))))) (hin : vp_in i n) (k : K G d kc ks Y t ls st (iSet h a (.inl (G.2.2.2.1 tag, n, .inr (.inr (.inr (.inr (va_up f i.toNatClampNeg none))))))) Q) : K G d kc ks Y pc ls (.null :: .int i :: .ref a :: st) h Q := by
  intro p e R s m args below meth c H locs z cells slots X hf1 hlo hc1 hc2 hL hH hS
  obtain rfl : t = pc + 1 := ino_n hi rfl
  have hK := X.2.2.2.2.2.2.2.1
  refine va_WaastN (C := C9) X.1 X.2.1 (hH.at ha) ((hK.2 tag _ htag).1 n (fun j => va_rf (f j))) (fun h => by cases h) (by show ¬ (i < 0 ∨ (arrV _ _ _).slots.size ≤ _); rw [arrV_size]; exact hin) rfl rfl (ino_d hi) fun H1 e1 e2 e3 => ?_
  refine k p e R s m args below meth c H1 _ z cells slots X hf1 hlo hc1 hc2 hL (hH.put ha ?_ e2 e3) (hS.put e2 e3 (hH.in ha))
  show H1[a]? = some (vp_cell _ _)
  rw [e1]
  rw [vp_cell_q, vp_cell_q, arrV_store]
  congr 2
  funext q
  by_cases hq : q = i.toNatClampNeg
  · subst hq
    simp [updV, va_up, va_rf]
  · simp [updV, va_up, hq]
theorem ks_astq {a n tag v ci : Nat} {r : vw_C} {vs : List Value} {f : Nat → Option Nat} {i : Int32} (htag : (itys G)[tag]? = some (G.2.2.2.1 tag, .object r.1)) (hi : ino Y pc = some (.aastore, t)) (ha : h.1 a = some (.inl (G.2.2.2.1 tag, n, .inr (.inr (.inr (.inr f)))))) (hv : h.1 v = some (.inr (ci, vs))) (hr : vwCl[ci]? = some r) (hin : vp_in i n) (k : K G d kc ks Y t ls st (iSet h a (.inl (G.2.2.2.1 tag, n, .inr (.inr (.inr (.inr (va_up f i.toNatClampNeg (some v)))))))) Q) : K G d kc ks Y pc ls (.ref v :: .int i :: .ref a :: st) h Q := by
  intro p e R s m args below meth c H locs z cells slots X hf1 hlo hc1 hc2 hL hH hS
  obtain rfl : t = pc + 1 := ino_n hi rfl
  have hK := X.2.2.2.2.2.2.2.1
  have hlt : i.toNatClampNeg < n := Nat.not_le.mp fun q => hin (Or.inr q)
  have h0 : ¬ i < 0 := fun q => hin (Or.inl q)
  obtain ⟨r', hr', cellV, g1, g2, g3, -⟩ := hH.at hv
  have hcls := (hK.1 ci r hr).2
  obtain ⟨kA, comp, k1, k2, k3, -⟩ := (hK.2 tag _ htag).2
  have hcomp : comp = G.2.1.1 ci := Option.some.inj (k3.symm.trans hcls.1)
  subst hcomp
  obtain ⟨kC, hkC, -⟩ := hcls.2
  refine W.aast X.1 X.2.1 (hH.at ha) (fun q h => by cases h) (fun h => by cases h) k1 k2 rfl hkC ⟨h0, by show _ < (arrV _ _ _).slots.size; rw [arrV_size]; exact hlt⟩ g1 (fun q h => by rw [g3] at h; cases h) (by rw [g2]; exact hkC) (by rw [g2]; exact va_assign hcls) rfl rfl (ino_d hi) fun H1 e1 e2 e3 => ?_
  refine k p e R s m args below meth c H1 _ z cells slots X hf1 hlo hc1 hc2 hL (hH.put ha ?_ e2 e3) (hS.put e2 e3 (hH.in ha))
  show H1[a]? = some (vp_cell _ _)
  rw [e1]
  rw [vp_cell_q, vp_cell_q, arrV_store]
  congr 2
  funext q
  by_cases hq : q = i.toNatClampNeg
  · subst hq
    simp [updV, va_up, va_rf]
  · simp [updV, va_up, hq]
end KM
