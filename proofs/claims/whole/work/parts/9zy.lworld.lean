/-! The world at the law's start -/
def lwF : List Cond := flatC (Jvm.Cond.and given_1 narrow_1)
def wD : String := "LDumbwaiterYoung$Word;"
def aD : String := "[LDumbwaiterYoung$Word;"
theorem wf_lay : ∀ i, i < 31 → lw_tbl[([649, 714, 716, 722, 728, 735, 749, 754, 2157, 2158, 2159, 2160, 1221, 1252, 1224, 1226, 1228, 1230, 1232, 1324, 1322, 1289, 1292, 1294, 1296, 1298, 1300, 2161, 2162, 2163, 2164] : List Nat).getD i 0]? = some (Cond.laysStatic RX10 (wNm.getD i "") wD) := by decide +kernel
theorem wf_ex : ∀ i, i < 31 → lwF[([40, 44, 48, 52, 56, 60, 64, 68, 139, 143, 147, 151, 77, 101, 81, 85, 89, 93, 97, 133, 129, 105, 109, 113, 117, 121, 125, 155, 159, 163, 167] : List Nat).getD i 0]? = some (Cond.exactly (.static RX10 (wNm.getD i "") wD) RX10) := by decide +kernel
theorem wf_pk : ∀ i, i < 31 → lwF[([42, 46, 50, 54, 58, 62, 66, 70, 141, 145, 149, 153, 79, 103, 83, 87, 91, 95, 99, 135, 131, 107, 111, 115, 119, 123, 127, 157, 161, 165, 169] : List Nat).getD i 0]? = some (Cond.eq (.field (.static RX10 (wNm.getD i "") wD) RX10 "packed" "J") (.long (rsW i))) := by decide +kernel
theorem wf_sb : ∀ i, i < 31 → lwF[([43, 47, 51, 55, 59, 63, 67, 71, 142, 146, 150, 154, 80, 104, 84, 88, 92, 96, 100, 136, 132, 108, 112, 116, 120, 124, 128, 158, 162, 166, 170] : List Nat).getD i 0]? = some (Cond.eq (.field (.static RX10 (wNm.getD i "") wD) RX10 "subject" "I") (.int (sbW i))) := by decide +kernel
theorem wf_el : ∀ i, i < 31 → lwF[([9, 10, 11, 12, 13, 14, 15, 16, 17, 18, 19, 20, 21, 22, 23, 24, 25, 26, 27, 28, 29, 30, 31, 32, 33, 34, 35, 36, 37, 38, 39] : List Nat).getD i 0]? = some (Cond.eq (.elem (.static RX10 "ALL" aD) (.int (Int32.ofNat i))) (.static RX10 (wNm.getD i "") wD)) := by decide +kernel
theorem wf_al : lw_tbl[623]? = some (Cond.laysStatic RX10 "ALL" aD) := by decide +kernel
theorem wf_ala : lwF[6]? = some (Cond.arrayOf (.static RX10 "ALL" aD) (.object RX10)) := by decide +kernel
theorem wf_all : lwF[7]? = some (Cond.eq (.length (.static RX10 "ALL" aD)) (.int (Int32.ofNat 31))) := by decide +kernel
theorem wf_wi : lw_tbl[137]? = some (Cond.initialized RX10) := by decide +kernel
theorem sf_ex : ∀ i, i < 6 → lwF[([229, 240, 248, 262, 272, 282] : List Nat).getD i 0]? = some (Cond.exactly (.string RX11 (sIx i)) RJ0) := by decide +kernel
theorem sf_co : ∀ i, i < 6 → lwF[([230, 241, 249, 263, 273, 283] : List Nat).getD i 0]? = some (Cond.eq (.field (.string RX11 (sIx i)) RJ0 "coder" "B") (.int (nI 0))) := by decide +kernel
theorem sf_ar : ∀ i, i < 6 → lwF[([231, 242, 250, 264, 274, 284] : List Nat).getD i 0]? = some (Cond.arrayOf (.field (.string RX11 (sIx i)) RJ0 "value" "[B") .byte) := by decide +kernel
theorem sf_le : ∀ i, i < 6 → lwF[([232, 243, 251, 265, 275, 285] : List Nat).getD i 0]? = some (Cond.eq (.length (.field (.string RX11 (sIx i)) RJ0 "value" "[B")) (.int (Int32.ofNat (sBs i).length))) := by decide +kernel
theorem sf_el : ∀ i, i < 6 → ∀ j, j < (sBs i).length → lwF[([233, 244, 252, 266, 276, 286] : List Nat).getD i 0 + j]? = some (Cond.eq (.elem (.field (.string RX11 (sIx i)) RJ0 "value" "[B") (.int (Int32.ofNat j))) (.int (nI ((sBs i).getD j 0)))) := by decide +kernel
theorem sf_rf : ∀ i, i < 6 → lw_tbl[([1110, 1163, 1164, 1169, 1170, 1171] : List Nat).getD i 0]? = some (Cond.stringRef RX11 (sIx i) (sTx i)) := by decide +kernel
theorem sf_cl : lw_tbl[1124]? = some (Cond.laysStatic RJ0 "COMPACT_STRINGS" "Z") := by decide +kernel
theorem sf_ci : lw_tbl[144]? = some (Cond.initialized RJ0) := by decide +kernel
theorem sf_cv : lwF[72]? = some (Cond.eq (.static RJ0 "COMPACT_STRINGS" "Z") (.int (nI 1))) := by decide +kernel
theorem sf_pl : lw_tbl[1140]? = some (Cond.laysStatic RJ3 "SIOOBE_FORMATTER" "Ljava/util/function/BiFunction;") := by decide +kernel
theorem sf_pi : lw_tbl[146]? = some (Cond.initialized RJ3) := by decide +kernel
theorem sf_pv : lwF[73]? = some (Cond.isRef (.static RJ3 "SIOOBE_FORMATTER" "Ljava/util/function/BiFunction;")) := by decide +kernel
theorem tf_ul : lw_tbl[1410]? = some (Cond.laysStatic Bundle.tN "UNASSIGNED_STACK" Bundle.steD) := by decide +kernel
theorem tf_sl : lw_tbl[1412]? = some (Cond.laysStatic Bundle.tN "SUPPRESSED_SENTINEL" Bundle.listD) := by decide +kernel
theorem tf_i : lw_tbl[139]? = some (Cond.initialized Bundle.tN) := by decide +kernel
theorem tf_uv : lwF[137]? = some (Cond.isRef (.static Bundle.tN "UNASSIGNED_STACK" Bundle.steD)) := by decide +kernel
theorem tf_sv : lwF[138]? = some (Cond.isRef (.static Bundle.tN "SUPPRESSED_SENTINEL" Bundle.listD)) := by decide +kernel
theorem tf_c : ∀ i, i < 4 → lw_tbl[([1385, 1386, 1388, 1390] : List Nat).getD i 0]? = nseB[i]? := by decide +kernel
theorem ng_i : ∀ i, i < 14 → lw_tbl[([1234, 1315, 158, 198, 282, 338, 371, 386, 391, 393, 395, 412, 437, 488] : List Nat).getD i 0]? = ngs[i]? := by decide +kernel
theorem ao_w : lw_tbl[163]? = some (Cond.arrayOver (.object RX10)) := by decide +kernel
theorem ao_s : lw_tbl[370]? = some (Cond.arrayOver (.object RX7)) := by decide +kernel
theorem ao_i : lw_tbl[384]? = some (Cond.arrayOver (.object RX3)) := by decide +kernel
def gA (s : State) : Nat → Prop := fun q => s.heap.size ≤ q
def gP (s : State) : State → Prop := fun U => s.WarmedH U.vm ∧ s.heap.size ≤ U.heap.size ∧ ∀ q : Nat, q < s.heap.size → U.heap[q]? = s.heap[q]?
def gG (l : Launch) (dD : va_G) (s : State) (tC : Nat → ClassId) : iG := (l, dD, gA s, tC, gP s)
section WG
variable {l : Launch} {dD : va_G} {s : State} {tC : Nat → ClassId} {args : Array Value}
theorem g_stb : iStb (gG l dD s tC) := by
  intro s1 U h1 hW hz hk
  obtain ⟨a1, a2, a3⟩ := h1
  exact ⟨State.WarmedH.trans a1 hW, Nat.le_trans a2 hz, fun q hq => by rw [hk q (Nat.lt_of_lt_of_le hq a2) (Nat.not_le.mpr hq)]; exact a3 q hq⟩
theorem g_self : gP s s := ⟨State.WarmedH.refl s, Nat.le_refl _, fun _ _ => rfl⟩
theorem g_kp {U : State} (h : gP s U) : ∀ a : Nat, a < s.heap.size → ¬ gA s a → U.heap[a]? = s.heap[a]? := fun a ha _ => h.2.2 a ha
theorem g_Z {C n d : String} {v : Value} (h : va_Z C n d v (gA s) s s.heap) (U : State) (hU : gP s U) : va_Z C n d v (gA s) U U.heap := va_Z.moved hU.1.alike (h.kept (g_kp hU))
theorem g_T {ty : FieldType} {t N : Nat} {f : Nat → Value} (h : va_T ty t N f (gA s) s s.heap) (U : State) (hU : gP s U) : va_T ty t N f (gA s) U U.heap := va_T.moved hU.1.alike (h.kept (g_kp hU))
theorem g_O {E : String} {t : Nat} (h : va_O E t (gA s) s s.heap) (U : State) (hU : gP s U) : va_O E t (gA s) U U.heap := va_O.moved hU.1.alike (h.kept (g_kp hU))
theorem g_OF {o n d : String} {v : Value} {t : Nat} (h : va_OF o n d v t (gA s) s s.heap) (U : State) (hU : gP s U) : va_OF o n d v t (gA s) U U.heap := va_OF.moved hU.1.alike (h.kept (g_kp hU))
theorem g_Zx {C n d : String} (h : vx_Zq C n d (gA s) s s.heap) (U : State) (hU : gP s U) : vx_Zq C n d (gA s) U U.heap := vx_Zq.moved hU.1.alike (h.kept (g_kp hU))
theorem g_A : ∀ a : Nat, a < s.heap.size → ¬ gA s a := fun a ha => Nat.not_le.mpr ha
theorem any_O {E : String} {t : Nat} {U : State} (h : va_O E t (gA s) U U.heap) : va_Any E U U.heap t ∧ t < U.heap.size ∧ ¬ gA s t := by
  obtain ⟨cell, h1, h2, h3, h4⟩ := h
  obtain ⟨kC, hkC, -⟩ := Vm.findClass_spec h3
  refine ⟨⟨cell, h1, h2, ⟨kC, hkC⟩, fun comp hc => ?_⟩, (Array.getElem?_eq_some_iff.mp h1).1, h4⟩
  cases Option.some.inj (hc.symm.trans h3)
  exact va_asg _ _
theorem g_SG (ht : ∀ w ∈ lw_tbl, w.before args s = true) (hf : ∀ w ∈ lwF, w.before args s = true) : ∃ wa al, SG (gG l dD s tC) wa al := by
  have hini : (Cond.initialized RX10).before args s = true := ht _ (List.mem_of_getElem? wf_wi)
  have h0 : ∀ i : Nat, ∃ t : Nat, i < 31 → (Term.static RX10 (wNm.getD i "") wD).eval args s none [] s = some (.ref t) ∧ va_O RX10 t (gA s) s s.heap := by
    intro i
    by_cases hi : i < 31
    · obtain ⟨a, c, cell, k, q1, q2, q3, q4, q5, q6, -⟩ := Cond.exactly_spec (hf _ (List.mem_of_getElem? (wf_ex i hi)))
      exact ⟨a, fun _ => ⟨q1, cell, q3, q5, by rw [q6]; exact q2, g_A a (Array.getElem?_eq_some_iff.mp q3).1⟩⟩
    · exact ⟨0, fun h => absurd h hi⟩
  obtain ⟨wa, hwa⟩ := Classical.axiomOfChoice h0
  have hpk : ∀ i, i < 31 → va_OF RX10 "packed" "J" (.long (rsW i)) (wa i) (gA s) s s.heap := fun i hi => vk_OFof (hwa i hi).1 (va_eqtl (hf _ (List.mem_of_getElem? (wf_pk i hi)))) g_A
  have hsb : ∀ i, i < 31 → va_OF RX10 "subject" "I" (.int (sbW i)) (wa i) (gA s) s s.heap := fun i hi => vk_OFof (hwa i hi).1 (va_eqt (hf _ (List.mem_of_getElem? (wf_sb i hi)))) g_A
  obtain ⟨al, hal, hT⟩ := va_Tof (tm := .static RX10 "ALL" aD) (ty := .object RX10) (N := 31) (f := fun j => va_rf (some (wa j))) (A := gA s) (by decide) (hf _ (List.mem_of_getElem? wf_ala)) (va_eqt (hf _ (List.mem_of_getElem? wf_all))) (fun j hj => va_eqv (hf _ (List.mem_of_getElem? (wf_el j hj))) (hwa j hj).1) g_A
  refine ⟨wa, al, fun i hi U hU => g_Z (va_Zref (ht _ (List.mem_of_getElem? (wf_lay i hi))) hini (hwa i hi).1 g_A) U hU, fun U hU => g_Z (va_Zref (ht _ (List.mem_of_getElem? wf_al)) hini hal g_A) U hU, fun U hU => g_T hT U hU, fun i hi U hU => g_OF (hpk i hi) U hU, fun i hi U hU => g_OF (hsb i hi) U hU, fun i j hi hj e => ?_, fun i hi U hU => any_O (g_O (hwa i hi).2 U hU)⟩
  obtain ⟨cf, k, fi, f, cell, h1, h2, h3, h4, h5, h6⟩ := hpk i hi
  obtain ⟨cf2, k2, fi2, f2, cell2, g1, g2, g3, g4, g5, g6⟩ := hpk j hj
  cases Option.some.inj (h1.symm.trans g1)
  rw [e] at h3
  cases Option.some.inj (h3.symm.trans g3)
  have h9 := Option.some.inj (h5.symm.trans g5)
  exact rsW_inj i hi j hj (by injection h9)
theorem g_NG (ht : ∀ w ∈ lw_tbl, w.before args s = true) : NG (gG l dD s tC) := by
  intro w hw U hU
  have hin : w ∈ lw_tbl := by
    obtain ⟨i, hi⟩ := List.getElem?_of_mem hw
    have hl : i < 14 := (List.getElem?_eq_some_iff.mp hi).1
    exact List.mem_of_getElem? ((ng_i i hl).trans hi)
  have hb := ht w hin
  have hW : s.WarmedH U.vm := hU.1
  simp only [ngs, List.mem_cons, List.not_mem_nil, or_false] at hw
  rcases hw with rfl | rfl | rfl | rfl | rfl | rfl | rfl | rfl | rfl | rfl | rfl | rfl | rfl | rfl <;> exact va_Nw.warmM hW (va_Nw.of rfl hb)
theorem g_AO (ht : ∀ w ∈ lw_tbl, w.before args s = true) : AO (gG l dD s tC) := by
  intro U hU
  have hW : s.WarmedH U.vm := hU.1
  exact ⟨va_AO.moved hW.alike (va_AO.of (ht _ (List.mem_of_getElem? ao_w))), va_AO.moved hW.alike (va_AO.of (ht _ (List.mem_of_getElem? ao_s))), va_AO.moved hW.alike (va_AO.of (ht _ (List.mem_of_getElem? ao_i)))⟩
theorem g_StG (ht : ∀ w ∈ lw_tbl, w.before args s = true) (hf : ∀ w ∈ lwF, w.before args s = true) : ∃ sa sv o9, StG (gG l dD s tC) sa sv o9 := by
  have h0 : ∀ i : Nat, ∃ q : Nat × Nat, i < 6 → (Term.string RX11 (sIx i)).eval args s none [] s = some (.ref q.1) ∧ va_O RJ0 q.1 (gA s) s s.heap ∧ va_OF RJ0 "coder" "B" (.int (nI 0)) q.1 (gA s) s s.heap ∧ va_OF RJ0 "value" "[B" (.ref q.2) q.1 (gA s) s s.heap ∧ va_T .byte q.2 (sBs i).length (fun j => .int (nI ((sBs i).getD j 0))) (gA s) s s.heap := by
    intro i
    by_cases hi : i < 6
    · obtain ⟨a, c, cA, kA, q1, q2, q3, q4, q5, q6, -⟩ := Cond.exactly_spec (args := args) (first := s) (o := none) (s := s) (idx := []) (t := .string RX11 (sIx i)) (cls := RJ0) (hf _ (List.mem_of_getElem? (sf_ex i hi)))
      obtain ⟨t, ht9, hT⟩ := va_Tof (f := fun j => .int (nI ((sBs i).getD j 0))) (A := gA s) (Nat.lt_of_le_of_lt (sBs_l i hi) (by decide)) (hf _ (List.mem_of_getElem? (sf_ar i hi))) (va_eqt (hf _ (List.mem_of_getElem? (sf_le i hi)))) (fun j hj => va_eqt (hf _ (List.mem_of_getElem? (sf_el i hi j hj)))) g_A
      exact ⟨(a, t), fun _ => ⟨q1, ⟨cA, q3, q5, by rw [q6]; exact q2, g_A a (Array.getElem?_eq_some_iff.mp q3).1⟩, vk_OFof q1 (va_eqt (hf _ (List.mem_of_getElem? (sf_co i hi)))) g_A, vk_OFof q1 ht9 g_A, hT⟩⟩
    · exact ⟨(0, 0), fun h => absurd h hi⟩
  obtain ⟨ad, had⟩ := Classical.axiomOfChoice h0
  obtain ⟨o9, h9⟩ : ∃ o9 : Option Nat, va_Z RJ3 "SIOOBE_FORMATTER" "Ljava/util/function/BiFunction;" (va_rf o9) (gA s) s s.heap := by
    rcases va_Zqof (A := gA s) (ht _ (List.mem_of_getElem? sf_pl)) (ht _ (List.mem_of_getElem? sf_pi)) (hf _ (List.mem_of_getElem? sf_pv)) g_A with h | ⟨t, h⟩
    · exact ⟨none, h⟩
    · exact ⟨some t, h⟩
  refine ⟨fun i => (ad i).1, fun i => (ad i).2, o9, fun U hU => g_Z (va_Zof (ht _ (List.mem_of_getElem? sf_cl)) (ht _ (List.mem_of_getElem? sf_ci)) (va_eqt (hf _ (List.mem_of_getElem? sf_cv))) g_A) U hU, fun U hU => g_Z h9 U hU, fun i hi U hU => ?_⟩
  obtain ⟨h1, h2, h3, h4, h5⟩ := had i hi
  have hW : s.WarmedH U.vm := hU.1
  exact ⟨vk_R.warm hW (vk_R.of (A := args) (ht _ (List.mem_of_getElem? (sf_rf i hi))) h1), g_O h2 U hU, g_OF h3 U hU, g_OF h4 U hU, g_T h5 U hU⟩
theorem g_TG (hl : l.stackTraces = false) (ht : ∀ w ∈ lw_tbl, w.before args s = true) (hf : ∀ w ∈ lwF, w.before args s = true) : TG (gG l dD s tC) := by
  refine ⟨hl, fun U hU => ?_⟩
  have hW : s.WarmedH U.vm := hU.1
  refine ⟨fun w hw => ?_, g_Zx (vx_Zqof (ht _ (List.mem_of_getElem? tf_ul)) (ht _ (List.mem_of_getElem? tf_i)) (hf _ (List.mem_of_getElem? tf_uv)) g_A) U hU, g_Zx (vx_Zqof (ht _ (List.mem_of_getElem? tf_sl)) (ht _ (List.mem_of_getElem? tf_i)) (hf _ (List.mem_of_getElem? tf_sv)) g_A) U hU⟩
  have hin : w ∈ lw_tbl := by
    obtain ⟨i, hi⟩ := List.getElem?_of_mem hw
    have hl4 : i < 4 := (List.getElem?_eq_some_iff.mp hi).1
    exact List.mem_of_getElem? ((tf_c i hl4).trans hi)
  have hb := ht w hin
  simp only [nseB, List.mem_cons, List.not_mem_nil, or_false] at hw
  rcases hw with rfl | rfl | rfl | rfl
  · exact va_Nw.warmC hW (va_Nw.of rfl hb)
  · exact va_Nw.warmD hW (va_Nw.of rfl hb)
  · exact va_Nw.warmD hW (va_Nw.of rfl hb)
  · exact va_Nw.warmD hW (va_Nw.of rfl hb)
theorem g_ScG {sb L : Nat} {xs : Nat → Int32} (hX : va_X sb L xs s s.heap) (hb : sb < s.heap.size) : ScG (gG l dD s tC) sb L xs := by
  intro U hU
  have hU : gP s U := hU
  exact ⟨va_X.moved hU.1.alike (hX.kept (hU.2.2 sb hb)), Nat.lt_of_lt_of_le hb hU.2.1, Nat.not_le.mpr hb⟩
theorem inst_in : ∀ r ∈ vwCl, Cond.instantiable r.1 r.2.2 ∈ igt := by
  intro r hr
  simp only [vwCl, List.mem_cons, List.not_mem_nil, or_false] at hr
  rcases hr with rfl | rfl | rfl | rfl | rfl | rfl | rfl | rfl | rfl | rfl | rfl | rfl
  · exact v_RX0
  · exact v_RX1
  · exact v_RX2
  · exact v_RX3
  · exact v_RX4
  · exact v_RX5
  · exact v_RX6
  · exact v_RX7
  · exact v_RX8
  · exact v_RX9
  · exact v_RX11
  · exact v_RX12
theorem g_kn (hts : ∀ w ∈ igt, w.before args s = true) : ∃ dD : va_G, ∀ (k : Nat) (q : vw_C), vwCl[k]? = some q → u_Kn s q.1 q.2.1 q.2.2 (dD.1 k) (dD.2 k) := by
  have h0 : ∀ k : Nat, ∃ z : ClassId × (Nat → Nat), ∀ q : vw_C, vwCl[k]? = some q → u_Kn s q.1 q.2.1 q.2.2 z.1 z.2 := by
    intro k
    cases hq : vwCl[k]? with
    | none => exact ⟨(0, fun _ => 0), fun q h => by cases h⟩
    | some r =>
      have hm := List.mem_of_getElem? hq
      obtain ⟨c, i, h⟩ := u_known (n := r.2.2) hts (uCl r hm).1 (hts _ (inst_in r hm))
      exact ⟨(c, i), fun q h2 => by cases h2; exact h⟩
  obtain ⟨ad, had⟩ := Classical.axiomOfChoice h0
  exact ⟨(fun k => (ad k).1, fun k => (ad k).2), fun k q h => had k q h⟩
theorem g_arp {ty : FieldType} (h : (Cond.arrayClass ty).before args s = true) : ∃ c, ArrOfT s c ty ∧ s.vm.findClass ("[" ++ ty.toString) = some c := by
  obtain ⟨c, k, comp, h1, h2, h3⟩ := Cond.arrayClass_spec (args := args) (first := s) (o := none) (s := s) (idx := []) h
  exact ⟨c, fun n z => ⟨fun k h => (by cases h), k, h2, comp, h3⟩, h1⟩
theorem g_aro {C : String} (h : (Cond.arrayOver (.object C)).before args s = true) : ∃ c, ArrOfT s c (.object C) ∧ va_RA s c (.object C) := by
  obtain ⟨comp, c, k, h1, -, h2, h3, h4⟩ := Cond.arrayOver_spec (args := args) (first := s) (o := none) (s := s) (idx := []) h
  exact ⟨c, fun n z => ⟨fun k h => (by cases h), k, h2, comp, h3⟩, k, comp, h2, h3, h1, h4⟩
theorem g_K (ht : ∀ w ∈ lw_tbl, w.before args s = true) (hts : ∀ w ∈ igt, w.before args s = true) : ∃ (dD : va_G) (tC : Nat → ClassId), ∀ l : Launch, va_K (gG l dD s tC).2.1 vwCl (itys (gG l dD s tC)) s := by
  obtain ⟨dD, hD⟩ := g_kn hts
  obtain ⟨c0, a0, b0⟩ := g_arp (ty := .int) (hts _ ac_int)
  obtain ⟨c1, a1, b1⟩ := g_arp (ty := .byte) (hts _ ac_byte)
  obtain ⟨c2, a2, b2⟩ := g_arp (ty := .long) (hts _ ac_long)
  obtain ⟨c3, a3, b3⟩ := g_arp (ty := .boolean) (hts _ ac_boolean)
  obtain ⟨c4, a4, b4⟩ := g_aro (ht _ (List.mem_of_getElem? ao_w))
  obtain ⟨c5, a5, b5⟩ := g_aro (ht _ (List.mem_of_getElem? ao_s))
  obtain ⟨c6, a6, b6⟩ := g_aro (ht _ (List.mem_of_getElem? ao_i))
  refine ⟨dD, fun i => [c0, c1, c2, c3, c4, c5, c6].getD i 0, fun l => ⟨hD, fun k q hq => ?_⟩⟩
  match k, hq with
  | 0, hq => cases hq; exact ⟨a0, b0⟩
  | 1, hq => cases hq; exact ⟨a1, b1⟩
  | 2, hq => cases hq; exact ⟨a2, b2⟩
  | 3, hq => cases hq; exact ⟨a3, b3⟩
  | 4, hq => cases hq; exact ⟨a4, b4⟩
  | 5, hq => cases hq; exact ⟨a5, b5⟩
  | 6, hq => cases hq; exact ⟨a6, b6⟩
  | k + 7, hq => simp [itys] at hq
end WG
theorem same_forget {s t : State} {L : List Loc} {k n : Nat} (h : s.sameButNew t L k n) (hL : ∀ q ∈ L, s.heap.size ≤ q.base) : s.sameButNew t [] k n := by
  obtain ⟨h1, h2, h3, h4, h5, h6⟩ := h
  refine ⟨h1, h2, h3, h4, h5, fun a c hc => ?_⟩
  obtain ⟨c', e1, e2, e3, e4⟩ := h6 a c hc
  refine ⟨c', e1, e2, e3, fun i _ => e4 i (fun hm => ?_)⟩
  have h7 : s.heap.size ≤ a := hL _ hm
  have h8 := (Array.getElem?_eq_some_iff.mp hc).1
  omega
