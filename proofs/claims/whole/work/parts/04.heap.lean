/-! K over the heap: fields, rows, new things -/
def iSet (h : iH) (a : Nat) (e : va_E) : iH := (fun b => if b = a then some e else h.1 b, h.2)
def iNew (h : iH) (e : va_E) : iH := (fun b => if b = h.2 then some e else h.1 b, h.2 + 1)
theorem iHR.ex {G : iG} {h : iH} {H : Heap} (hH : iHR G h H) {a : Nat} {e : va_E} (ha : h.1 a = some e) : ∃ (L : List Nat) (k : Nat), (va_pl L (iE h))[k]? = some (a, e) ∧ va_P G.2.1 vwCl (va_pl L (iE h)) H ∧ va_D G.2.2.1 (va_pl L (iE h)) := by
  obtain ⟨L, hL, hP, hD, -, -⟩ := hH
  have hm : a ∈ L := (hL a).mp (by rw [ha]; rfl)
  obtain ⟨k, hk⟩ := va_pl_get (X := []) (f := iE h) hm
  have he : iE h a = e := by simp [iE, ha]
  rw [he] at hk
  exact ⟨L, k, hk, hP, hD⟩
theorem iHR.at {G : iG} {h : iH} {H : Heap} (hH : iHR G h H) {a : Nat} {e : va_E} (ha : h.1 a = some e) : va_at G.2.1 vwCl (a, e) H := by
  obtain ⟨L, k, hk, hP, -⟩ := hH.ex ha
  exact hP k _ hk
theorem iHR.in {G : iG} {h : iH} {H : Heap} (hH : iHR G h H) {a : Nat} {e : va_E} (ha : h.1 a = some e) : G.2.2.1 a := by
  obtain ⟨L, k, hk, -, hD⟩ := hH.ex ha
  exact hD.2 k _ hk
theorem iHR.put {G : iG} {h : iH} {H H1 : Heap} (hH : iHR G h H) {a : Nat} {e e' : va_E} (ha : h.1 a = some e) (hat : va_at G.2.1 vwCl (a, e') H1) (hz : H1.size = H.size) (ho : ∀ q, q ≠ a → H1[q]? = H[q]?) : iHR G (iSet h a e') H1 := by
  obtain ⟨L, hL, hP, hD, hs, hA⟩ := hH
  have hget : ∀ (f : Nat → va_E) (k : Nat) (q : Nat × va_E), (va_pl L f)[k]? = some q → L[k]? = some q.1 ∧ q.2 = f q.1 := by
    intro f k q hk
    simp only [va_pl, List.getElem?_map] at hk
    cases hb : L[k]? with
    | none => rw [hb] at hk; cases hk
    | some b => rw [hb] at hk; cases hk; exact ⟨rfl, rfl⟩
  have hmk : ∀ (f : Nat → va_E) (k b : Nat), L[k]? = some b → (va_pl L f)[k]? = some (b, f b) := by
    intro f k b hk
    simp [va_pl, hk]
  refine ⟨L, fun b => ?_, fun k q hk => ?_, ⟨fun i j x y hx hy hxy => ?_, fun k q hk => ?_⟩, by rw [hz]; exact hs, hA⟩
  · by_cases hb : b = a
    · subst hb
      simp [iSet]
      exact (hL b).mp (by rw [ha]; rfl)
    · simp [iSet, hb]
      exact hL b
  · obtain ⟨h1, h2⟩ := hget _ k q hk
    obtain ⟨b, e9⟩ := q
    dsimp only at h1 h2
    subst h2
    by_cases hb : b = a
    · subst hb
      have : iE (iSet h b e') b = e' := by simp [iE, iSet]
      rw [this]
      exact hat
    · have : iE (iSet h a e') b = iE h b := by simp [iE, iSet, hb]
      rw [this]
      exact (hP k _ (hmk _ k b h1)).kept (ho b hb)
  · obtain ⟨h1, -⟩ := hget _ i x hx
    obtain ⟨h2, -⟩ := hget _ j y hy
    exact hD.1 i j _ _ (hmk _ i _ h1) (hmk _ j _ h2) hxy
  · obtain ⟨h1, -⟩ := hget _ k q hk
    exact hD.2 k (q.1, iE h q.1) (hmk (iE h) k q.1 h1)
theorem iHR.new {G : iG} {h : iH} {H H1 : Heap} (hH : iHR G h H) {e' : va_E} (hat : va_at G.2.1 vwCl (h.2, e') H1) (hz : H1.size = h.2 + 1) (ho : ∀ q, q < h.2 → H1[q]? = H[q]?) : iHR G (iNew h e') H1 := by
  obtain ⟨L, hL, hP, hD, hs, hA⟩ := hH
  have hnew : h.2 ∉ L := by
    intro hm
    have := va_pl_lt (X := []) (f := iE h) hP hm
    omega
  have hlt : ∀ b ∈ L, b < h.2 := fun b hm => by
    have := va_pl_lt (X := []) (f := iE h) hP hm
    omega
  have hpl : va_pl (L ++ [h.2]) (iE (iNew h e')) = va_pl L (iE h) ++ [(h.2, e')] := by
    rw [va_pl_push hnew]
    apply va_pl_congr
    intro b
    by_cases hb : b = h.2
    · subst hb
      rw [va_up_self]
      simp [iE, iNew]
    · rw [va_up_ne _ _ hb]
      simp [iE, iNew, hb]
  refine ⟨L ++ [h.2], fun b => ?_, ?_, ?_, hz, fun q hq => hA q (by have : (iNew h e').2 = h.2 + 1 := rfl; omega)⟩
  · by_cases hb : b = h.2
    · subst hb
      simp [iNew]
    · simp only [iNew, if_neg hb, List.mem_append, List.mem_singleton, hb, or_false]
      exact hL b
  · rw [hpl]
    refine va_P.app (hP.kept (fun k x hx => ?_)) (fun k x hx => ?_)
    · exact ho x.1 (by have := (hP k x hx).lt; omega)
    · have hk : k < 1 := (List.getElem?_eq_some_iff.mp hx).1
      rw [show k = 0 by omega] at hx
      cases hx
      exact hat
  · rw [hpl]
    exact hD.push hP hs.symm (hA _ (Nat.le_refl _))
-- fields
def iFd (o : String) (idx ci n : Nat) : Prop := ∃ r : vw_C, vwCl[ci]? = some r ∧ n < r.2.2 ∧ Cond.fieldLink o idx (r.2.1 n).1 (r.2.1 n).2.1 (r.2.1 n).2.2.1 ∈ igt
def iCl (r : vw_C) : Prop := (∀ w ∈ u_ws r.1 r.2.1 r.2.2, w ∈ igt) ∧ (∃ ty : Nat → FieldType, ∀ k, k < r.2.2 → parseFieldDescriptor (r.2.1 k).2.2.1 = some (ty k)) ∧ ∀ a, a < r.2.2 → ∀ b, b < r.2.2 → a ≠ b → (r.2.1 a).2.1 ≠ (r.2.1 b).2.1
section KH
variable {G : iG} {d kc ks : Nat} {Y : iM} {pc t : Nat} {ls : iL} {st : List Value} {h : iH} {Q : Option Value → iH → Prop}
theorem iCX.w {p : Program} {s : State} {m : MethodId} {args : Array Value} {meth : Method} {c : Code} (X : iCX G Y p s m args meth c) {w : Cond} (hw : w ∈ igt) : w.before args s = true := X.2.2.2.2.2.2.1 w (List.mem_cons_of_mem _ hw)
theorem ks_getfield (hCl : ∀ r ∈ vwCl, iCl r) {idx ci n a : Nat} {fs : List Value} {v : Value} (hi : ino Y pc = some (.getfield idx, t)) (hf : iFd Y.1.cls idx ci n) (ha : h.1 a = some (.inr (ci, fs))) (hv : fs[n]? = some v) (k : K G d kc ks Y t ls (v :: st) h Q) : K G d kc ks Y pc ls (.ref a :: st) h Q := by
  intro p e R s m args below meth c H locs z cells slots X hf1 hlo hc1 hc2 hL hH hS
  obtain rfl : t = pc + 3 := ino_n hi rfl
  obtain ⟨⟨C9, T9, N9⟩, hr, hn, hw⟩ := hf
  have hcl := hCl _ (List.mem_of_getElem? hr)
  obtain ⟨L, q0, hq, hP, -⟩ := hH.ex ha
  have hts := X.2.2.2.2.2.2.1
  exact va_get X.1 X.2.1 hts (fun w h9 => List.mem_cons_of_mem _ (hcl.1 w h9)) X.2.2.2.2.2.1 X.2.2.2.2.2.2.2.1 hP q0 hq hr n hn (X.w hw) (fun _ h9 => h9) hv (ino_d hi) (k p e R s m args below meth c H locs z cells slots X hf1 hlo hc1 hc2 hL hH hS)
theorem ks_putfield (hCl : ∀ r ∈ vwCl, iCl r) {idx ci n a : Nat} {fs : List Value} {v : Value} {ty : FieldType} {r : vw_C} (hi : ino Y pc = some (.putfield idx, t)) (hf : iFd Y.1.cls idx ci n) (hr : vwCl[ci]? = some r) (hfin : (r.2.1 n).2.2.2 = false ∨ ((r.2.1 n).2.2.2 = true ∧ Y.1.name = "<init>" ∧ (r.2.1 n).1 = Y.1.cls)) (hd : parseFieldDescriptor (r.2.1 n).2.2.1 = some ty) (hnr : narrow ty v = v) (hfit : fits ty v = true) (ha : h.1 a = some (.inr (ci, fs))) (hl : n < fs.length) (k : K G d kc ks Y t ls st (iSet h a (.inr (ci, fs.set n v))) Q) : K G d kc ks Y pc ls (v :: .ref a :: st) h Q := by
  intro p e R s m args below meth c H locs z cells slots X hf1 hlo hc1 hc2 hL hH hS
  obtain rfl : t = pc + 3 := ino_n hi rfl
  obtain ⟨r', hr', hn, hw⟩ := hf
  cases hr.symm.trans hr'
  obtain ⟨C9, T9, N9⟩ := r
  have hcl := hCl _ (List.mem_of_getElem? hr)
  obtain ⟨ty0, hty⟩ := hcl.2.1
  have hts := X.2.2.2.2.2.2.1
  have hin : ∀ w ∈ u_ws C9 T9 N9, w ∈ iws Y := fun w h9 => List.mem_cons_of_mem _ (hcl.1 w h9)
  have hK := X.2.2.2.2.2.2.2.1
  have hap := va_apart (own := Y.1.cls) hts hin ty0 hty hcl.2.2 hK hr
  obtain ⟨r2, h1, cell, q1, q2, q3, q4⟩ := hH.at ha
  cases hr.symm.trans h1
  obtain ⟨hSl, hfc, kC, hkC, hkind⟩ := hK.1 ci _ hr
  obtain ⟨cf, kf, fi, f, hi9, hsl⟩ := hSl n hn
  have hlay := hts _ (hin _ (u_in_lay hn))
  have hst := (u_facts hfc hkC (u_lays hts hin hn) hi9).1
  have main : ∀ (H' : Heap), H'[a]? = some (cell.setSlot f.slot v) → H'.size = H.size → (∀ q, q ≠ a → H'[q]? = H[q]?) → W p G.1 e R s m args below meth c H' (locs ++ [⟨a, f.slot⟩]) cells slots (MQ below (iQ G Q) args s R.cells R.slots G.2.2.1) (F0 m (pc + 3) z st) := by
    intro H' e1 e2 e3
    rw [hsl] at e1 ⊢
    refine k p e R s m args below meth c H' _ z cells slots X hf1 hlo hc1 hc2 hL ?_ (hS.put e2 e3 (hH.in ha))
    exact hH.put ha ⟨_, hr, t_OB.to (V := updV (vp_V fs) n v) ⟨_, e1, q2, q3, t_set q4 hap hn v⟩ (fun j _ => vp_updV_set hl v j)⟩ e2 e3
  rcases hfin with hfin | ⟨hfin, hin2, hdecl⟩
  · unfold u_lay at hlay
    rw [if_neg (by rw [hfin]; decide)] at hlay
    have h6 := u_store hfc hkC hkind hlay hi9 hd hnr hfit
    exact W.putK X.1 X.2.1 (f := f) ⟨X.2.2.2.2.2.1, X.w hw, ⟨_, _, _, hi9⟩, hst⟩ (by rw [q2]; exact h6) q1 q3 (by rw [hsl]; exact k2_hasslot (q4 n hn)) rfl rfl (ino_d hi) main
  · unfold u_lay at hlay
    rw [if_pos hfin] at hlay
    have hcf : m.cls = cf := by
      obtain ⟨_, _, c', _, _, _, -, -, hf', -, -, -, hown2, -⟩ := Cond.laysFinal_spec hlay
      have e1 : c' = cf := by have := hi9.symm.trans hf'; simp at this; exact this.1.symm
      rw [hdecl] at hown2
      rw [← e1]; exact Option.some.inj (X.2.2.2.2.2.1.symm.trans hown2)
    have h6 := u_fits hfc hkC hkind (Or.inr hlay) hi9 hd hnr hfit
    exact W.putFinK X.1 X.2.1 X.2.2.2.2.2.1 (X.w hw) hi9 hst hcf (X.2.2.2.2.2.2.2.2.2.2.1.trans hin2) (by rw [q2]; exact h6) q1 q3 (by rw [hsl]; exact k2_hasslot (q4 n hn)) rfl rfl (ino_d hi) main
theorem ks_iald {a n : Nat} {f : Nat → Int32} {i : Int32} (hi : ino Y pc = some (.iaload, t)) (ha : h.1 a = some (.inl (G.2.2.2.1 0, n, .inl f))) (hin : vp_in i n) (k : K G d kc ks Y t ls (.int (f i.toNatClampNeg) :: st) h Q) : K G d kc ks Y pc ls (.int i :: .ref a :: st) h Q := by
  intro p e R s m args below meth c H locs z cells slots X hf1 hlo hc1 hc2 hL hH hS
  obtain rfl : t = pc + 1 := ino_n hi rfl
  obtain ⟨L, q0, hq, hP, -⟩ := hH.ex ha
  exact va_iald X.1 X.2.1 X.2.2.2.2.2.2.2.1 hP q0 0 hq rfl hin (ino_d hi) (k p e R s m args below meth c H locs z cells slots X hf1 hlo hc1 hc2 hL hH hS)
theorem ks_bald {a n : Nat} {f : Nat → Int32} {i : Int32} (hi : ino Y pc = some (.baload, t)) (ha : h.1 a = some (.inl (G.2.2.2.1 1, n, .inl f))) (hin : vp_in i n) (k : K G d kc ks Y t ls (.int (f i.toNatClampNeg) :: st) h Q) : K G d kc ks Y pc ls (.int i :: .ref a :: st) h Q := by
  intro p e R s m args below meth c H locs z cells slots X hf1 hlo hc1 hc2 hL hH hS
  obtain rfl : t = pc + 1 := ino_n hi rfl
  obtain ⟨L, q0, hq, hP, -⟩ := hH.ex ha
  exact va_bald X.1 X.2.1 X.2.2.2.2.2.2.2.1 hP q0 1 hq rfl hin (ino_d hi) (k p e R s m args below meth c H locs z cells slots X hf1 hlo hc1 hc2 hL hH hS)
theorem ks_lald {a n : Nat} {f : Nat → Int64} {i : Int32} (hi : ino Y pc = some (.laload, t)) (ha : h.1 a = some (.inl (G.2.2.2.1 2, n, .inr (.inl f)))) (hin : vp_in i n) (k : K G d kc ks Y t ls (.long (f i.toNatClampNeg) :: st) h Q) : K G d kc ks Y pc ls (.int i :: .ref a :: st) h Q := by
  intro p e R s m args below meth c H locs z cells slots X hf1 hlo hc1 hc2 hL hH hS
  obtain rfl : t = pc + 1 := ino_n hi rfl
  obtain ⟨L, q0, hq, hP, -⟩ := hH.ex ha
  exact va_lald X.1 X.2.1 X.2.2.2.2.2.2.2.1 hP q0 2 hq rfl hin (ino_d hi) (k p e R s m args below meth c H locs z cells slots X hf1 hlo hc1 hc2 hL hH hS)
theorem ks_zald {a n : Nat} {f : Nat → Int32} {i : Int32} (hi : ino Y pc = some (.baload, t)) (ha : h.1 a = some (.inl (G.2.2.2.1 3, n, .inl f))) (hin : vp_in i n) (k : K G d kc ks Y t ls (.int (f i.toNatClampNeg) :: st) h Q) : K G d kc ks Y pc ls (.int i :: .ref a :: st) h Q := by
  intro p e R s m args below meth c H locs z cells slots X hf1 hlo hc1 hc2 hL hH hS
  obtain rfl : t = pc + 1 := ino_n hi rfl
  obtain ⟨L, q0, hq, hP, -⟩ := hH.ex ha
  exact va_zald X.1 X.2.1 X.2.2.2.2.2.2.2.1 hP q0 3 hq rfl hin (ino_d hi) (k p e R s m args below meth c H locs z cells slots X hf1 hlo hc1 hc2 hL hH hS)
theorem ks_aald {a n g : Nat} {f : Nat → Option Nat} {i : Int32} (hg : g = 4 ∨ g = 5 ∨ g = 6) (hi : ino Y pc = some (.aaload, t)) (ha : h.1 a = some (.inl (G.2.2.2.1 g, n, .inr (.inr (.inr (.inr f)))))) (hin : vp_in i n) (k : K G d kc ks Y t ls (va_rf (f i.toNatClampNeg) :: st) h Q) : K G d kc ks Y pc ls (.int i :: .ref a :: st) h Q := by
  intro p e R s m args below meth c H locs z cells slots X hf1 hlo hc1 hc2 hL hH hS
  obtain rfl : t = pc + 1 := ino_n hi rfl
  obtain ⟨L, q0, hq, hP, -⟩ := hH.ex ha
  rcases hg with rfl | rfl | rfl
  · exact va_aldq X.1 X.2.1 X.2.2.2.2.2.2.2.1 hP q0 4 hq rfl hin (ino_d hi) (k p e R s m args below meth c H locs z cells slots X hf1 hlo hc1 hc2 hL hH hS)
  · exact va_aldq X.1 X.2.1 X.2.2.2.2.2.2.2.1 hP q0 5 hq rfl hin (ino_d hi) (k p e R s m args below meth c H locs z cells slots X hf1 hlo hc1 hc2 hL hH hS)
  · exact va_aldq X.1 X.2.1 X.2.2.2.2.2.2.2.1 hP q0 6 hq rfl hin (ino_d hi) (k p e R s m args below meth c H locs z cells slots X hf1 hlo hc1 hc2 hL hH hS)
theorem ks_alen {a g : Nat} {x : vp_A} (hg : g < 7) (hi : ino Y pc = some (.arraylength, t)) (ha : h.1 a = some (.inl (G.2.2.2.1 g, x))) (k : K G d kc ks Y t ls (.int (Int32.ofNat x.1) :: st) h Q) : K G d kc ks Y pc ls (.ref a :: st) h Q := by
  intro p e R s m args below meth c H locs z cells slots X hf1 hlo hc1 hc2 hL hH hS
  obtain rfl : t = pc + 1 := ino_n hi rfl
  obtain ⟨L, q0, hq, hP, -⟩ := hH.ex ha
  have hlen : g < (itys G).length := hg
  obtain ⟨ty, hty⟩ : ∃ ty, (itys G)[g]? = some (G.2.2.2.1 g, ty) := by
    rcases (show g = 0 ∨ g = 1 ∨ g = 2 ∨ g = 3 ∨ g = 4 ∨ g = 5 ∨ g = 6 by omega) with rfl | rfl | rfl | rfl | rfl | rfl | rfl <;> exact ⟨_, rfl⟩
  exact va_alen X.1 X.2.1 X.2.2.2.2.2.2.2.1 hP q0 g hq hty rfl (ino_d hi) (k p e R s m args below meth c H locs z cells slots X hf1 hlo hc1 hc2 hL hH hS)
theorem ks_iast {a n : Nat} {f : Nat → Int32} {i : Int32} {x : Int32} (hi : ino Y pc = some (.iastore, t)) (ha : h.1 a = some (.inl (G.2.2.2.1 0, n, .inl f))) (hin : vp_in i n) (k : K G d kc ks Y t ls st (iSet h a (.inl (G.2.2.2.1 0, n, .inl (upd f i.toNatClampNeg x)))) Q) : K G d kc ks Y pc ls (.int x :: .int i :: .ref a :: st) h Q := by
  intro p e R s m args below meth c H locs z cells slots X hf1 hlo hc1 hc2 hL hH hS
  obtain rfl : t = pc + 1 := ino_n hi rfl
  have hK := X.2.2.2.2.2.2.2.1
  refine W.iast X.1 X.2.1 (hH.at ha) ((hK.2 0 _ rfl).1 n (fun j => .int (f j))) (fun q => by cases q) (by show ¬ (i < 0 ∨ (arrV _ _ _).slots.size ≤ _); rw [arrV_size]; exact hin) rfl rfl (ino_d hi) fun H1 e1 e2 e3 => ?_
  refine k p e R s m args below meth c H1 _ z cells slots X hf1 hlo hc1 hc2 hL (hH.put ha ?_ e2 e3) (hS.put e2 e3 (hH.in ha))
  show H1[a]? = some (vp_cell _ _)
  rw [e1]
  rw [vp_cell_i, vp_cell_i, arrV_store]
  congr 2
  funext q
  by_cases hq : q = i.toNatClampNeg
  · subst hq
    simp [updV, upd]
    try rfl
  · simp [updV, upd, hq]
theorem ks_bast {a n : Nat} {f : Nat → Int32} {i : Int32} {x : Int32} (hi : ino Y pc = some (.bastore, t)) (ha : h.1 a = some (.inl (G.2.2.2.1 1, n, .inl f))) (hin : vp_in i n) (k : K G d kc ks Y t ls st (iSet h a (.inl (G.2.2.2.1 1, n, .inl (upd f i.toNatClampNeg (vp_nar .byte x))))) Q) : K G d kc ks Y pc ls (.int x :: .int i :: .ref a :: st) h Q := by
  intro p e R s m args below meth c H locs z cells slots X hf1 hlo hc1 hc2 hL hH hS
  obtain rfl : t = pc + 1 := ino_n hi rfl
  have hK := X.2.2.2.2.2.2.2.1
  refine W.bast X.1 X.2.1 (hH.at ha) ((hK.2 1 _ rfl).1 n (fun j => .int (f j))) (fun q => by cases q) (by show ¬ (i < 0 ∨ (arrV _ _ _).slots.size ≤ _); rw [arrV_size]; exact hin) rfl rfl (ino_d hi) fun H1 e1 e2 e3 => ?_
  refine k p e R s m args below meth c H1 _ z cells slots X hf1 hlo hc1 hc2 hL (hH.put ha ?_ e2 e3) (hS.put e2 e3 (hH.in ha))
  show H1[a]? = some (vp_cell _ _)
  rw [e1]
  rw [vp_cell_i, vp_cell_i, arrV_store]
  congr 2
  funext q
  by_cases hq : q = i.toNatClampNeg
  · subst hq
    simp [updV, upd, vp_nar]
    try rfl
  · simp [updV, upd, vp_nar, hq]
theorem ks_last {a n : Nat} {f : Nat → Int64} {i : Int32} {x : Int64} (hi : ino Y pc = some (.lastore, t)) (ha : h.1 a = some (.inl (G.2.2.2.1 2, n, .inr (.inl f)))) (hin : vp_in i n) (k : K G d kc ks Y t ls st (iSet h a (.inl (G.2.2.2.1 2, n, .inr (.inl (vp_updL f i.toNatClampNeg x))))) Q) : K G d kc ks Y pc ls (.long x :: .int i :: .ref a :: st) h Q := by
  intro p e R s m args below meth c H locs z cells slots X hf1 hlo hc1 hc2 hL hH hS
  obtain rfl : t = pc + 1 := ino_n hi rfl
  have hK := X.2.2.2.2.2.2.2.1
  refine W.last X.1 X.2.1 (hH.at ha) ((hK.2 2 _ rfl).1 n (fun j => .long (f j))) (fun q => by cases q) (by show ¬ (i < 0 ∨ (arrV _ _ _).slots.size ≤ _); rw [arrV_size]; exact hin) rfl rfl (ino_d hi) fun H1 e1 e2 e3 => ?_
  refine k p e R s m args below meth c H1 _ z cells slots X hf1 hlo hc1 hc2 hL (hH.put ha ?_ e2 e3) (hS.put e2 e3 (hH.in ha))
  show H1[a]? = some (vp_cell _ _)
  rw [e1]
  rw [vp_cell_l, vp_cell_l, arrV_store]
  congr 2
  funext q
  by_cases hq : q = i.toNatClampNeg
  · subst hq
    simp [updV, vp_updL]
    try rfl
  · simp [updV, vp_updL, hq]
theorem ks_zast {a n : Nat} {f : Nat → Int32} {i : Int32} {x : Int32} (hi : ino Y pc = some (.bastore, t)) (ha : h.1 a = some (.inl (G.2.2.2.1 3, n, .inl f))) (hin : vp_in i n) (k : K G d kc ks Y t ls st (iSet h a (.inl (G.2.2.2.1 3, n, .inl (upd f i.toNatClampNeg (vp_nar .boolean x))))) Q) : K G d kc ks Y pc ls (.int x :: .int i :: .ref a :: st) h Q := by
  intro p e R s m args below meth c H locs z cells slots X hf1 hlo hc1 hc2 hL hH hS
  obtain rfl : t = pc + 1 := ino_n hi rfl
  have hK := X.2.2.2.2.2.2.2.1
  refine W.zast X.1 X.2.1 (hH.at ha) ((hK.2 3 _ rfl).1 n (fun j => .int (f j))) (fun q => by cases q) (by show ¬ (i < 0 ∨ (arrV _ _ _).slots.size ≤ _); rw [arrV_size]; exact hin) rfl rfl (ino_d hi) fun H1 e1 e2 e3 => ?_
  refine k p e R s m args below meth c H1 _ z cells slots X hf1 hlo hc1 hc2 hL (hH.put ha ?_ e2 e3) (hS.put e2 e3 (hH.in ha))
  show H1[a]? = some (vp_cell _ _)
  rw [e1]
  rw [vp_cell_i, vp_cell_i, arrV_store]
  congr 2
  funext q
  by_cases hq : q = i.toNatClampNeg
  · subst hq
    simp [updV, upd, vp_nar]
    try rfl
  · simp [updV, upd, vp_nar, hq]
end KH
