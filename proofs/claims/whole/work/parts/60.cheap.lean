/-! Blocks of cells laid over a heap -/
def ovl (h : iH) (a n : Nat) (f : Nat → va_E) : iH := (fun q => if a ≤ q ∧ q < a + n then some (f (q - a)) else h.1 q, h.2)
def Blk (h : iH) (a n : Nat) (f : Nat → va_E) : Prop := ∀ j, j < n → h.1 (a + j) = some (f j)
theorem iH_ext {h g : iH} (h1 : ∀ q, h.1 q = g.1 q) (h2 : h.2 = g.2) : h = g := Prod.ext (funext h1) h2
section OV
variable {h : iH} {a n b m j q : Nat} {f g : Nat → va_E} {e : va_E}
theorem ovl_in (hj : j < n) : (ovl h a n f).1 (a + j) = some (f j) := by
  have e1 : a ≤ a + j ∧ a + j < a + n := by omega
  simp only [ovl, e1, and_self, if_true, Nat.add_sub_cancel_left]
theorem ovl_i0 (hj : 0 < n) : (ovl h a n f).1 a = some (f 0) := ovl_in (j := 0) hj
theorem ovl_out (hq : q < a ∨ a + n ≤ q) : (ovl h a n f).1 q = h.1 q := by
  have e1 : ¬ (a ≤ q ∧ q < a + n) := by omega
  simp only [ovl, e1, if_false]
theorem ovl_congr (hf : ∀ j, j < n → f j = g j) : ovl h a n f = ovl h a n g := by
  refine iH_ext (fun q => ?_) rfl
  by_cases hq : a ≤ q ∧ q < a + n
  · simp only [ovl, hq, and_self, if_true, hf (q - a) (by omega)]
  · simp only [ovl, hq, if_false]
theorem ovl_set (hj : j < n) : iSet (ovl h a n f) (a + j) e = ovl h a n (va_up f j e) := by
  refine iH_ext (fun q => ?_) rfl
  by_cases hq : a ≤ q ∧ q < a + n
  · by_cases hj' : q = a + j
    · subst hj'
      simp [iSet, ovl, va_up, hq]
    · have : ¬ (q - a = j) := by omega
      simp [iSet, ovl, va_up, hq, hj', this]
  · have : ¬ (q = a + j) := by omega
    simp only [iSet, ovl, hq, if_false, this]
theorem ovl_set0 (hj : 0 < n) : iSet (ovl h a n f) a e = ovl h a n (va_up f 0 e) := ovl_set (j := 0) hj
theorem ovl_self (hb : Blk h a n f) : ovl h a n f = h := by
  refine iH_ext (fun q => ?_) rfl
  by_cases hq : a ≤ q ∧ q < a + n
  · have := hb (q - a) (by omega)
    rw [show a + (q - a) = q by omega] at this
    simp only [ovl, hq, and_self, if_true, this]
  · simp only [ovl, hq, if_false]
theorem ovl_ovl : ovl (ovl h a n f) a n g = ovl h a n g := by
  refine iH_ext (fun q => ?_) rfl
  by_cases hq : a ≤ q ∧ q < a + n <;> simp [ovl, hq]
theorem ovl_comm (hd : a + n ≤ b ∨ b + m ≤ a) : ovl (ovl h a n f) b m g = ovl (ovl h b m g) a n f := by
  refine iH_ext (fun q => ?_) rfl
  by_cases hq : a ≤ q ∧ q < a + n
  · have : ¬ (b ≤ q ∧ q < b + m) := by omega
    simp [ovl, hq, this]
  · simp [ovl, hq]
theorem Blk_own : Blk (ovl h a n f) a n f := fun j hj => ovl_in hj
theorem Blk_ovl (hb : Blk h b m g) (hd : a + n ≤ b ∨ b + m ≤ a) : Blk (ovl h a n f) b m g := fun j hj => by
  rw [ovl_out (by omega)]
  exact hb j hj
theorem Blk_set (hb : Blk h b m g) (hd : q < b ∨ b + m ≤ q) : Blk (iSet h q e) b m g := fun j hj => by
  have : ¬ (b + j = q) := by omega
  simp only [iSet, this, if_false]
  exact hb j hj
end OV
/-- a row's contents, told of its places alone -/
def cu (n : Nat) (f : Nat → Int32) : Nat → Int32 := fun i => if i < n then f i else 0
theorem cu_in {n i : Nat} {f : Nat → Int32} (h : i < n) : cu n f i = f i := by simp only [cu, h, if_true]
theorem cu_congr {n : Nat} {f g : Nat → Int32} (h : ∀ i, i < n → f i = g i) : cu n f = cu n g := by
  funext i
  by_cases hi : i < n <;> simp [cu, hi]
  exact h i hi
theorem cu_upd {n i : Nat} {f : Nat → Int32} {x : Int32} (h : i < n) : upd (cu n f) i x = cu n (upd f i x) := by
  funext j
  by_cases hj : j = i
  · subst hj; simp [cu, upd, h]
  · by_cases hn : j < n <;> simp [cu, upd, hj, hn]
theorem cu_cpy {n : Nat} {f g : Nat → Int32} : va_cpy (cu n f) (cu n g) 0 0 n = cu n f := by
  funext j
  by_cases hn : j < n <;> simp [cu, va_cpy, hn]
theorem cu_cpyR {n : Nat} {f g : Nat → Int32} : va_cpy f (cu n g) 0 0 n = cu n f := by
  funext j
  by_cases hn : j < n <;> simp [cu, va_cpy, hn]

/-! The class: a State as a block of seven cells, told by the reference's row s; weights of no child are w -/
def sPl (s : Nat → Int32) : Nat → Int32 := cu 6 (fun c => s (90 + c))
def sWt (n : Nat) (s w : Nat → Int32) : Nat → Int32 := cu 6 (fun c => if c < n then s (96 + c) else w c)
def sAg (s : Nat → Int32) : Nat → Int32 := cu 6 (fun c => s (102 + c))
def sSh (s : Nat → Int32) : Nat → Int32 := cu 6 (fun c => s (108 + c))
def sFa (s : Nat → Int32) : Nat → Int32 := cu 6 (fun c => s (114 + c))
def sGi (s : Nat → Int32) : Nat → Int32 := cu 24 (fun c => s (120 + c))
def stFs (a : Nat) (s : Nat → Int32) : List Value := [.ref (a + 1), .ref (a + 2), .ref (a + 3), .ref (a + 4), .ref (a + 5), .ref (a + 6), .int (s 88), .int (s 86), .int (s 87), .int (s 89), .int (s 85)]
def stE (G : iG) (a n : Nat) (s w : Nat → Int32) (j : Nat) : va_E := match j with
  | 0 => .inr (7, stFs a s)
  | 1 => .inl (G.2.2.2.1 0, 6, .inl (sPl s))
  | 2 => .inl (G.2.2.2.1 0, 6, .inl (sWt n s w))
  | 3 => .inl (G.2.2.2.1 0, 6, .inl (sAg s))
  | 4 => .inl (G.2.2.2.1 0, 6, .inl (sSh s))
  | 5 => .inl (G.2.2.2.1 0, 6, .inl (sFa s))
  | _ => .inl (G.2.2.2.1 0, 24, .inl (sGi s))
def stH (G : iG) (a n : Nat) (s w : Nat → Int32) (h : iH) : iH := ovl h a 7 (stE G a n s w)
section ST
variable {G : iG} {a n : Nat} {s t w : Nat → Int32} {h : iH}
theorem stE_congr (he : ∀ j, 85 ≤ j → j < 144 → s j = t j) : stE G a n s w = stE G a n t w := by
  funext j
  have e1 : stFs a s = stFs a t := by simp only [stFs, he 88 (by omega) (by omega), he 86 (by omega) (by omega), he 87 (by omega) (by omega), he 89 (by omega) (by omega), he 85 (by omega) (by omega)]
  have e2 : sPl s = sPl t := cu_congr (fun i hi => he _ (by omega) (by omega))
  have e3 : sWt n s w = sWt n t w := cu_congr (fun i hi => by rw [he _ (by omega) (by omega)])
  have e4 : sAg s = sAg t := cu_congr (fun i hi => he _ (by omega) (by omega))
  have e5 : sSh s = sSh t := cu_congr (fun i hi => he _ (by omega) (by omega))
  have e6 : sFa s = sFa t := cu_congr (fun i hi => he _ (by omega) (by omega))
  have e7 : sGi s = sGi t := cu_congr (fun i hi => he _ (by omega) (by omega))
  unfold stE
  rw [e1, e2, e3, e4, e5, e6, e7]
theorem stH_congr (he : ∀ j, 85 ≤ j → j < 144 → s j = t j) : stH G a n s w h = stH G a n t w h := by
  unfold stH
  rw [stE_congr he]
theorem st_o : (stH G a n s w h).1 a = some (.inr (7, stFs a s)) := ovl_i0 (by decide)
theorem stFs_len : (stFs a s).length = 11 := rfl
theorem st_out {q : Nat} (hq : q < a ∨ a + 7 ≤ q) : (stH G a n s w h).1 q = h.1 q := ovl_out hq
theorem stH_stH {m : Nat} {v : Nat → Int32} : stH G a m t v (stH G a n s w h) = stH G a m t v h := ovl_ovl
theorem st_1 : (stH G a n s w h).1 (a + 1) = some (.inl (G.2.2.2.1 0, 6, .inl (sPl s))) := ovl_in (by decide)
theorem st_2 : (stH G a n s w h).1 (a + 2) = some (.inl (G.2.2.2.1 0, 6, .inl (sWt n s w))) := ovl_in (by decide)
theorem st_3 : (stH G a n s w h).1 (a + 3) = some (.inl (G.2.2.2.1 0, 6, .inl (sAg s))) := ovl_in (by decide)
theorem st_4 : (stH G a n s w h).1 (a + 4) = some (.inl (G.2.2.2.1 0, 6, .inl (sSh s))) := ovl_in (by decide)
theorem st_5 : (stH G a n s w h).1 (a + 5) = some (.inl (G.2.2.2.1 0, 6, .inl (sFa s))) := ovl_in (by decide)
theorem st_6 : (stH G a n s w h).1 (a + 6) = some (.inl (G.2.2.2.1 0, 24, .inl (sGi s))) := ovl_in (by decide)
theorem sPl_in {c : Nat} (hc : c < 6) : sPl s c = s (90 + c) := cu_in hc
theorem sWt_in {c : Nat} (hc : c < n) (h6 : c < 6) : sWt n s w c = s (96 + c) := by simp only [sWt, cu_in h6, hc, if_true]
theorem sAg_in {c : Nat} (hc : c < 6) : sAg s c = s (102 + c) := cu_in hc
theorem sSh_in {c : Nat} (hc : c < 6) : sSh s c = s (108 + c) := cu_in hc
theorem sFa_in {c : Nat} (hc : c < 6) : sFa s c = s (114 + c) := cu_in hc
theorem sGi_in {c : Nat} (hc : c < 24) : sGi s c = s (120 + c) := cu_in hc
theorem sGi_4 {c g : Nat} (hc : c < 6) (hg : g < 4) : sGi s (c * 4 + g) = s (120 + 4 * c + g) := by rw [sGi_in (by omega)]; congr 1; omega
theorem stf_0 : (stFs a s)[0]? = some (.ref (a + 1)) := rfl
theorem stf_1 : (stFs a s)[1]? = some (.ref (a + 2)) := rfl
theorem stf_2 : (stFs a s)[2]? = some (.ref (a + 3)) := rfl
theorem stf_3 : (stFs a s)[3]? = some (.ref (a + 4)) := rfl
theorem stf_4 : (stFs a s)[4]? = some (.ref (a + 5)) := rfl
theorem stf_5 : (stFs a s)[5]? = some (.ref (a + 6)) := rfl
theorem stf_6 : (stFs a s)[6]? = some (.int (s 88)) := rfl
theorem stk_6 : ipk 7 6 = 0 := by decide +kernel
theorem stf_7 : (stFs a s)[7]? = some (.int (s 86)) := rfl
theorem stk_7 : ipk 7 7 = 0 := by decide +kernel
theorem stf_8 : (stFs a s)[8]? = some (.int (s 87)) := rfl
theorem stk_8 : ipk 7 8 = 0 := by decide +kernel
theorem stf_9 : (stFs a s)[9]? = some (.int (s 89)) := rfl
theorem stk_9 : ipk 7 9 = 0 := by decide +kernel
theorem stf_10 : (stFs a s)[10]? = some (.int (s 85)) := rfl
theorem stk_10 : ipk 7 10 = 0 := by decide +kernel
theorem stE_fs (fs : List Value) (hf : fs = stFs a t) (he : ∀ j, 90 ≤ j → j < 144 → t j = s j) : va_up (stE G a n s w) 0 (.inr (7, fs)) = stE G a n t w := by
  subst hf
  have e2 : sPl t = sPl s := cu_congr (fun i hi => he _ (by omega) (by omega))
  have e3 : sWt n t w = sWt n s w := cu_congr (fun i hi => by rw [he _ (by omega) (by omega)])
  have e4 : sAg t = sAg s := cu_congr (fun i hi => he _ (by omega) (by omega))
  have e5 : sSh t = sSh s := cu_congr (fun i hi => he _ (by omega) (by omega))
  have e6 : sFa t = sFa s := cu_congr (fun i hi => he _ (by omega) (by omega))
  have e7 : sGi t = sGi s := cu_congr (fun i hi => he _ (by omega) (by omega))
  funext j
  by_cases hj : j = 0
  · subst hj; rfl
  · simp only [va_up, hj, if_false]
    unfold stE
    rw [e2, e3, e4, e5, e6, e7]
    split <;> simp_all
theorem stp_6 {x : Int32} : iSet (stH G a n s w h) a (.inr (7, (stFs a s).set 6 (.int x))) = stH G a n (upd s 88 x) w h := by
  unfold stH
  rw [ovl_set0 (by decide), stE_fs (t := upd s 88 x) _ (by simp [stFs, upd]) (fun j h1 h2 => upd_ne (by omega))]
theorem stp_7 {x : Int32} : iSet (stH G a n s w h) a (.inr (7, (stFs a s).set 7 (.int x))) = stH G a n (upd s 86 x) w h := by
  unfold stH
  rw [ovl_set0 (by decide), stE_fs (t := upd s 86 x) _ (by simp [stFs, upd]) (fun j h1 h2 => upd_ne (by omega))]
theorem stp_8 {x : Int32} : iSet (stH G a n s w h) a (.inr (7, (stFs a s).set 8 (.int x))) = stH G a n (upd s 87 x) w h := by
  unfold stH
  rw [ovl_set0 (by decide), stE_fs (t := upd s 87 x) _ (by simp [stFs, upd]) (fun j h1 h2 => upd_ne (by omega))]
theorem stp_9 {x : Int32} : iSet (stH G a n s w h) a (.inr (7, (stFs a s).set 9 (.int x))) = stH G a n (upd s 89 x) w h := by
  unfold stH
  rw [ovl_set0 (by decide), stE_fs (t := upd s 89 x) _ (by simp [stFs, upd]) (fun j h1 h2 => upd_ne (by omega))]
theorem stp_10 {x : Int32} : iSet (stH G a n s w h) a (.inr (7, (stFs a s).set 10 (.int x))) = stH G a n (upd s 85 x) w h := by
  unfold stH
  rw [ovl_set0 (by decide), stE_fs (t := upd s 85 x) _ (by simp [stFs, upd]) (fun j h1 h2 => upd_ne (by omega))]
theorem su_1 {c : Nat} {x : Int32} (hc : c < 6) : iSet (stH G a n s w h) (a + 1) (.inl (G.2.2.2.1 0, 6, .inl (upd (sPl s) c x))) = stH G a n (upd s (90 + c) x) w h := by
  unfold stH
  rw [ovl_set (by decide)]
  refine ovl_congr (fun j hj => ?_)
  have e0 : stFs a (upd s (90 + c) x) = stFs a s := by simp (disch := omega) only [stFs, upd_ne]
  have e1 : sPl (upd s (90 + c) x) = upd (sPl s) c x := by
    unfold sPl
    rw [cu_upd hc]
    refine cu_congr (fun i hi => ?_)
    by_cases hi' : i = c
    · subst hi'; simp [upd]
    · simp [upd, hi']
  have e2 : sWt n (upd s (90 + c) x) w = sWt n s w := cu_congr (fun i hi => by rw [upd_ne (by omega)])
  have e3 : sAg (upd s (90 + c) x) = sAg s := cu_congr (fun i hi => by rw [upd_ne (by omega)])
  have e4 : sSh (upd s (90 + c) x) = sSh s := cu_congr (fun i hi => by rw [upd_ne (by omega)])
  have e5 : sFa (upd s (90 + c) x) = sFa s := cu_congr (fun i hi => by rw [upd_ne (by omega)])
  have e6 : sGi (upd s (90 + c) x) = sGi s := cu_congr (fun i hi => by rw [upd_ne (by omega)])
  unfold stE
  rw [e0, e1, e2, e3, e4, e5, e6]
  rcases (show j = 0 ∨ j = 1 ∨ j = 2 ∨ j = 3 ∨ j = 4 ∨ j = 5 ∨ j = 6 by omega) with rfl | rfl | rfl | rfl | rfl | rfl | rfl <;> rfl
theorem su_2 {c : Nat} {x : Int32} (hc : c < n) (h6 : c < 6) : iSet (stH G a n s w h) (a + 2) (.inl (G.2.2.2.1 0, 6, .inl (upd (sWt n s w) c x))) = stH G a n (upd s (96 + c) x) w h := by
  unfold stH
  rw [ovl_set (by decide)]
  refine ovl_congr (fun j hj => ?_)
  have e0 : stFs a (upd s (96 + c) x) = stFs a s := by simp (disch := omega) only [stFs, upd_ne]
  have e1 : sPl (upd s (96 + c) x) = sPl s := cu_congr (fun i hi => by rw [upd_ne (by omega)])
  have e2 : sWt n (upd s (96 + c) x) w = upd (sWt n s w) c x := by
    unfold sWt
    rw [cu_upd h6]
    refine cu_congr (fun i hi => ?_)
    by_cases hi' : i = c
    · subst hi'; simp [upd, hc]
    · simp [upd, hi']
  have e3 : sAg (upd s (96 + c) x) = sAg s := cu_congr (fun i hi => by rw [upd_ne (by omega)])
  have e4 : sSh (upd s (96 + c) x) = sSh s := cu_congr (fun i hi => by rw [upd_ne (by omega)])
  have e5 : sFa (upd s (96 + c) x) = sFa s := cu_congr (fun i hi => by rw [upd_ne (by omega)])
  have e6 : sGi (upd s (96 + c) x) = sGi s := cu_congr (fun i hi => by rw [upd_ne (by omega)])
  unfold stE
  rw [e0, e1, e2, e3, e4, e5, e6]
  rcases (show j = 0 ∨ j = 1 ∨ j = 2 ∨ j = 3 ∨ j = 4 ∨ j = 5 ∨ j = 6 by omega) with rfl | rfl | rfl | rfl | rfl | rfl | rfl <;> rfl
theorem su_3 {c : Nat} {x : Int32} (hc : c < 6) : iSet (stH G a n s w h) (a + 3) (.inl (G.2.2.2.1 0, 6, .inl (upd (sAg s) c x))) = stH G a n (upd s (102 + c) x) w h := by
  unfold stH
  rw [ovl_set (by decide)]
  refine ovl_congr (fun j hj => ?_)
  have e0 : stFs a (upd s (102 + c) x) = stFs a s := by simp (disch := omega) only [stFs, upd_ne]
  have e1 : sPl (upd s (102 + c) x) = sPl s := cu_congr (fun i hi => by rw [upd_ne (by omega)])
  have e2 : sWt n (upd s (102 + c) x) w = sWt n s w := cu_congr (fun i hi => by rw [upd_ne (by omega)])
  have e3 : sAg (upd s (102 + c) x) = upd (sAg s) c x := by
    unfold sAg
    rw [cu_upd hc]
    refine cu_congr (fun i hi => ?_)
    by_cases hi' : i = c
    · subst hi'; simp [upd]
    · simp [upd, hi']
  have e4 : sSh (upd s (102 + c) x) = sSh s := cu_congr (fun i hi => by rw [upd_ne (by omega)])
  have e5 : sFa (upd s (102 + c) x) = sFa s := cu_congr (fun i hi => by rw [upd_ne (by omega)])
  have e6 : sGi (upd s (102 + c) x) = sGi s := cu_congr (fun i hi => by rw [upd_ne (by omega)])
  unfold stE
  rw [e0, e1, e2, e3, e4, e5, e6]
  rcases (show j = 0 ∨ j = 1 ∨ j = 2 ∨ j = 3 ∨ j = 4 ∨ j = 5 ∨ j = 6 by omega) with rfl | rfl | rfl | rfl | rfl | rfl | rfl <;> rfl
theorem su_4 {c : Nat} {x : Int32} (hc : c < 6) : iSet (stH G a n s w h) (a + 4) (.inl (G.2.2.2.1 0, 6, .inl (upd (sSh s) c x))) = stH G a n (upd s (108 + c) x) w h := by
  unfold stH
  rw [ovl_set (by decide)]
  refine ovl_congr (fun j hj => ?_)
  have e0 : stFs a (upd s (108 + c) x) = stFs a s := by simp (disch := omega) only [stFs, upd_ne]
  have e1 : sPl (upd s (108 + c) x) = sPl s := cu_congr (fun i hi => by rw [upd_ne (by omega)])
  have e2 : sWt n (upd s (108 + c) x) w = sWt n s w := cu_congr (fun i hi => by rw [upd_ne (by omega)])
  have e3 : sAg (upd s (108 + c) x) = sAg s := cu_congr (fun i hi => by rw [upd_ne (by omega)])
  have e4 : sSh (upd s (108 + c) x) = upd (sSh s) c x := by
    unfold sSh
    rw [cu_upd hc]
    refine cu_congr (fun i hi => ?_)
    by_cases hi' : i = c
    · subst hi'; simp [upd]
    · simp [upd, hi']
  have e5 : sFa (upd s (108 + c) x) = sFa s := cu_congr (fun i hi => by rw [upd_ne (by omega)])
  have e6 : sGi (upd s (108 + c) x) = sGi s := cu_congr (fun i hi => by rw [upd_ne (by omega)])
  unfold stE
  rw [e0, e1, e2, e3, e4, e5, e6]
  rcases (show j = 0 ∨ j = 1 ∨ j = 2 ∨ j = 3 ∨ j = 4 ∨ j = 5 ∨ j = 6 by omega) with rfl | rfl | rfl | rfl | rfl | rfl | rfl <;> rfl
theorem su_5 {c : Nat} {x : Int32} (hc : c < 6) : iSet (stH G a n s w h) (a + 5) (.inl (G.2.2.2.1 0, 6, .inl (upd (sFa s) c x))) = stH G a n (upd s (114 + c) x) w h := by
  unfold stH
  rw [ovl_set (by decide)]
  refine ovl_congr (fun j hj => ?_)
  have e0 : stFs a (upd s (114 + c) x) = stFs a s := by simp (disch := omega) only [stFs, upd_ne]
  have e1 : sPl (upd s (114 + c) x) = sPl s := cu_congr (fun i hi => by rw [upd_ne (by omega)])
  have e2 : sWt n (upd s (114 + c) x) w = sWt n s w := cu_congr (fun i hi => by rw [upd_ne (by omega)])
  have e3 : sAg (upd s (114 + c) x) = sAg s := cu_congr (fun i hi => by rw [upd_ne (by omega)])
  have e4 : sSh (upd s (114 + c) x) = sSh s := cu_congr (fun i hi => by rw [upd_ne (by omega)])
  have e5 : sFa (upd s (114 + c) x) = upd (sFa s) c x := by
    unfold sFa
    rw [cu_upd hc]
    refine cu_congr (fun i hi => ?_)
    by_cases hi' : i = c
    · subst hi'; simp [upd]
    · simp [upd, hi']
  have e6 : sGi (upd s (114 + c) x) = sGi s := cu_congr (fun i hi => by rw [upd_ne (by omega)])
  unfold stE
  rw [e0, e1, e2, e3, e4, e5, e6]
  rcases (show j = 0 ∨ j = 1 ∨ j = 2 ∨ j = 3 ∨ j = 4 ∨ j = 5 ∨ j = 6 by omega) with rfl | rfl | rfl | rfl | rfl | rfl | rfl <;> rfl
theorem su_6 {c : Nat} {x : Int32} (hc : c < 24) : iSet (stH G a n s w h) (a + 6) (.inl (G.2.2.2.1 0, 24, .inl (upd (sGi s) c x))) = stH G a n (upd s (120 + c) x) w h := by
  unfold stH
  rw [ovl_set (by decide)]
  refine ovl_congr (fun j hj => ?_)
  have e0 : stFs a (upd s (120 + c) x) = stFs a s := by simp (disch := omega) only [stFs, upd_ne]
  have e1 : sPl (upd s (120 + c) x) = sPl s := cu_congr (fun i hi => by rw [upd_ne (by omega)])
  have e2 : sWt n (upd s (120 + c) x) w = sWt n s w := cu_congr (fun i hi => by rw [upd_ne (by omega)])
  have e3 : sAg (upd s (120 + c) x) = sAg s := cu_congr (fun i hi => by rw [upd_ne (by omega)])
  have e4 : sSh (upd s (120 + c) x) = sSh s := cu_congr (fun i hi => by rw [upd_ne (by omega)])
  have e5 : sFa (upd s (120 + c) x) = sFa s := cu_congr (fun i hi => by rw [upd_ne (by omega)])
  have e6 : sGi (upd s (120 + c) x) = upd (sGi s) c x := by
    unfold sGi
    rw [cu_upd hc]
    refine cu_congr (fun i hi => ?_)
    by_cases hi' : i = c
    · subst hi'; simp [upd]
    · simp [upd, hi']
  unfold stE
  rw [e0, e1, e2, e3, e4, e5, e6]
  rcases (show j = 0 ∨ j = 1 ∨ j = 2 ∨ j = 3 ∨ j = 4 ∨ j = 5 ∨ j = 6 by omega) with rfl | rfl | rfl | rfl | rfl | rfl | rfl <;> rfl
theorem su_64 {c g : Nat} {x : Int32} (hc : c < 6) (hg : g < 4) : iSet (stH G a n s w h) (a + 6) (.inl (G.2.2.2.1 0, 24, .inl (upd (sGi s) (c * 4 + g) x))) = stH G a n (upd s (120 + 4 * c + g) x) w h := by
  rw [su_6 (by omega), show 120 + (c * 4 + g) = 120 + 4 * c + g by omega]
end ST
/-! The class: a Tower as a block of eleven cells: ints J by their fields, rows of ints B and of longs M by their places -/
def txFs (a : Nat) (I : Nat → Int32) : List Value := [.int (I 0), .ref (a + 1), .ref (a + 2), .ref (a + 3), .ref (a + 4), .int (I 5), .ref (a + 5), .ref (a + 6), .int (I 8), .ref (a + 7), .ref (a + 8), .ref (a + 9), .ref (a + 10), .int (I 13), .int (I 14)]
def txE (G : iG) (a : Nat) (I : Nat → Int32) (A : Nat → Nat → Int32) (N : Nat → Nat → Int64) (j : Nat) : va_E := match j with
  | 0 => .inr (8, txFs a I)
  | 1 => .inl (G.2.2.2.1 0, 9, .inl (A 1))
  | 2 => .inl (G.2.2.2.1 0, 9, .inl (A 2))
  | 3 => .inl (G.2.2.2.1 0, 9, .inl (A 3))
  | 4 => .inl (G.2.2.2.1 2, 9, .inr (.inl (N 4)))
  | 5 => .inl (G.2.2.2.1 0, 6, .inl (A 5))
  | 6 => .inl (G.2.2.2.1 2, 6, .inr (.inl (N 6)))
  | 7 => .inl (G.2.2.2.1 0, 5, .inl (A 7))
  | 8 => .inl (G.2.2.2.1 2, 5, .inr (.inl (N 8)))
  | 9 => .inl (G.2.2.2.1 0, 4, .inl (A 9))
  | _ => .inl (G.2.2.2.1 0, 54, .inl (A 10))
def txH (G : iG) (a : Nat) (I : Nat → Int32) (A : Nat → Nat → Int32) (N : Nat → Nat → Int64) (h : iH) : iH := ovl h a 11 (txE G a I A N)
section BKtx
variable {G : iG} {a b : Nat} {I Iq : Nat → Int32} {A Aq : Nat → Nat → Int32} {N Nq : Nat → Nat → Int64} {h : iH}
theorem tx_o : (txH G a I A N h).1 a = some (.inr (8, txFs a I)) := ovl_i0 (by decide)
theorem txFs_len : (txFs a I).length = 15 := rfl
theorem txq_o (hB : Blk h b 11 (txE G b Iq Aq Nq)) (hd : a + 11 ≤ b ∨ b + 11 ≤ a) : (txH G a I A N h).1 b = some (.inr (8, txFs b Iq)) := by
  unfold txH
  rw [ovl_out (by omega)]
  exact hB 0 (by decide)
theorem tx_1 : (txH G a I A N h).1 (a + 1) = some (.inl (G.2.2.2.1 0, 9, .inl (A 1))) := ovl_in (by decide)
theorem txq_1 (hB : Blk h b 11 (txE G b Iq Aq Nq)) (hd : a + 11 ≤ b ∨ b + 11 ≤ a) : (txH G a I A N h).1 (b + 1) = some (.inl (G.2.2.2.1 0, 9, .inl (Aq 1))) := by
  unfold txH
  rw [ovl_out (by omega)]
  exact hB 1 (by decide)
theorem txu_1 {f : Nat → Int32} : iSet (txH G a I A N h) (a + 1) (.inl (G.2.2.2.1 0, 9, .inl f)) = txH G a I (va_up A 1 f) N h := by
  unfold txH
  rw [ovl_set (by decide)]
  refine ovl_congr (fun j hj => ?_)
  rcases (show j = 0 ∨ j = 1 ∨ j = 2 ∨ j = 3 ∨ j = 4 ∨ j = 5 ∨ j = 6 ∨ j = 7 ∨ j = 8 ∨ j = 9 ∨ j = 10 by omega) with rfl | rfl | rfl | rfl | rfl | rfl | rfl | rfl | rfl | rfl | rfl <;> rfl
theorem tx_2 : (txH G a I A N h).1 (a + 2) = some (.inl (G.2.2.2.1 0, 9, .inl (A 2))) := ovl_in (by decide)
theorem txq_2 (hB : Blk h b 11 (txE G b Iq Aq Nq)) (hd : a + 11 ≤ b ∨ b + 11 ≤ a) : (txH G a I A N h).1 (b + 2) = some (.inl (G.2.2.2.1 0, 9, .inl (Aq 2))) := by
  unfold txH
  rw [ovl_out (by omega)]
  exact hB 2 (by decide)
theorem txu_2 {f : Nat → Int32} : iSet (txH G a I A N h) (a + 2) (.inl (G.2.2.2.1 0, 9, .inl f)) = txH G a I (va_up A 2 f) N h := by
  unfold txH
  rw [ovl_set (by decide)]
  refine ovl_congr (fun j hj => ?_)
  rcases (show j = 0 ∨ j = 1 ∨ j = 2 ∨ j = 3 ∨ j = 4 ∨ j = 5 ∨ j = 6 ∨ j = 7 ∨ j = 8 ∨ j = 9 ∨ j = 10 by omega) with rfl | rfl | rfl | rfl | rfl | rfl | rfl | rfl | rfl | rfl | rfl <;> rfl
theorem tx_3 : (txH G a I A N h).1 (a + 3) = some (.inl (G.2.2.2.1 0, 9, .inl (A 3))) := ovl_in (by decide)
theorem txq_3 (hB : Blk h b 11 (txE G b Iq Aq Nq)) (hd : a + 11 ≤ b ∨ b + 11 ≤ a) : (txH G a I A N h).1 (b + 3) = some (.inl (G.2.2.2.1 0, 9, .inl (Aq 3))) := by
  unfold txH
  rw [ovl_out (by omega)]
  exact hB 3 (by decide)
theorem txu_3 {f : Nat → Int32} : iSet (txH G a I A N h) (a + 3) (.inl (G.2.2.2.1 0, 9, .inl f)) = txH G a I (va_up A 3 f) N h := by
  unfold txH
  rw [ovl_set (by decide)]
  refine ovl_congr (fun j hj => ?_)
  rcases (show j = 0 ∨ j = 1 ∨ j = 2 ∨ j = 3 ∨ j = 4 ∨ j = 5 ∨ j = 6 ∨ j = 7 ∨ j = 8 ∨ j = 9 ∨ j = 10 by omega) with rfl | rfl | rfl | rfl | rfl | rfl | rfl | rfl | rfl | rfl | rfl <;> rfl
theorem tx_4 : (txH G a I A N h).1 (a + 4) = some (.inl (G.2.2.2.1 2, 9, .inr (.inl (N 4)))) := ovl_in (by decide)
theorem txq_4 (hB : Blk h b 11 (txE G b Iq Aq Nq)) (hd : a + 11 ≤ b ∨ b + 11 ≤ a) : (txH G a I A N h).1 (b + 4) = some (.inl (G.2.2.2.1 2, 9, .inr (.inl (Nq 4)))) := by
  unfold txH
  rw [ovl_out (by omega)]
  exact hB 4 (by decide)
theorem txu_4 {f : Nat → Int64} : iSet (txH G a I A N h) (a + 4) (.inl (G.2.2.2.1 2, 9, .inr (.inl f))) = txH G a I A (va_up N 4 f) h := by
  unfold txH
  rw [ovl_set (by decide)]
  refine ovl_congr (fun j hj => ?_)
  rcases (show j = 0 ∨ j = 1 ∨ j = 2 ∨ j = 3 ∨ j = 4 ∨ j = 5 ∨ j = 6 ∨ j = 7 ∨ j = 8 ∨ j = 9 ∨ j = 10 by omega) with rfl | rfl | rfl | rfl | rfl | rfl | rfl | rfl | rfl | rfl | rfl <;> rfl
theorem tx_5 : (txH G a I A N h).1 (a + 5) = some (.inl (G.2.2.2.1 0, 6, .inl (A 5))) := ovl_in (by decide)
theorem txq_5 (hB : Blk h b 11 (txE G b Iq Aq Nq)) (hd : a + 11 ≤ b ∨ b + 11 ≤ a) : (txH G a I A N h).1 (b + 5) = some (.inl (G.2.2.2.1 0, 6, .inl (Aq 5))) := by
  unfold txH
  rw [ovl_out (by omega)]
  exact hB 5 (by decide)
theorem txu_5 {f : Nat → Int32} : iSet (txH G a I A N h) (a + 5) (.inl (G.2.2.2.1 0, 6, .inl f)) = txH G a I (va_up A 5 f) N h := by
  unfold txH
  rw [ovl_set (by decide)]
  refine ovl_congr (fun j hj => ?_)
  rcases (show j = 0 ∨ j = 1 ∨ j = 2 ∨ j = 3 ∨ j = 4 ∨ j = 5 ∨ j = 6 ∨ j = 7 ∨ j = 8 ∨ j = 9 ∨ j = 10 by omega) with rfl | rfl | rfl | rfl | rfl | rfl | rfl | rfl | rfl | rfl | rfl <;> rfl
theorem tx_6 : (txH G a I A N h).1 (a + 6) = some (.inl (G.2.2.2.1 2, 6, .inr (.inl (N 6)))) := ovl_in (by decide)
theorem txq_6 (hB : Blk h b 11 (txE G b Iq Aq Nq)) (hd : a + 11 ≤ b ∨ b + 11 ≤ a) : (txH G a I A N h).1 (b + 6) = some (.inl (G.2.2.2.1 2, 6, .inr (.inl (Nq 6)))) := by
  unfold txH
  rw [ovl_out (by omega)]
  exact hB 6 (by decide)
theorem txu_6 {f : Nat → Int64} : iSet (txH G a I A N h) (a + 6) (.inl (G.2.2.2.1 2, 6, .inr (.inl f))) = txH G a I A (va_up N 6 f) h := by
  unfold txH
  rw [ovl_set (by decide)]
  refine ovl_congr (fun j hj => ?_)
  rcases (show j = 0 ∨ j = 1 ∨ j = 2 ∨ j = 3 ∨ j = 4 ∨ j = 5 ∨ j = 6 ∨ j = 7 ∨ j = 8 ∨ j = 9 ∨ j = 10 by omega) with rfl | rfl | rfl | rfl | rfl | rfl | rfl | rfl | rfl | rfl | rfl <;> rfl
theorem tx_7 : (txH G a I A N h).1 (a + 7) = some (.inl (G.2.2.2.1 0, 5, .inl (A 7))) := ovl_in (by decide)
theorem txq_7 (hB : Blk h b 11 (txE G b Iq Aq Nq)) (hd : a + 11 ≤ b ∨ b + 11 ≤ a) : (txH G a I A N h).1 (b + 7) = some (.inl (G.2.2.2.1 0, 5, .inl (Aq 7))) := by
  unfold txH
  rw [ovl_out (by omega)]
  exact hB 7 (by decide)
theorem txu_7 {f : Nat → Int32} : iSet (txH G a I A N h) (a + 7) (.inl (G.2.2.2.1 0, 5, .inl f)) = txH G a I (va_up A 7 f) N h := by
  unfold txH
  rw [ovl_set (by decide)]
  refine ovl_congr (fun j hj => ?_)
  rcases (show j = 0 ∨ j = 1 ∨ j = 2 ∨ j = 3 ∨ j = 4 ∨ j = 5 ∨ j = 6 ∨ j = 7 ∨ j = 8 ∨ j = 9 ∨ j = 10 by omega) with rfl | rfl | rfl | rfl | rfl | rfl | rfl | rfl | rfl | rfl | rfl <;> rfl
theorem tx_8 : (txH G a I A N h).1 (a + 8) = some (.inl (G.2.2.2.1 2, 5, .inr (.inl (N 8)))) := ovl_in (by decide)
theorem txq_8 (hB : Blk h b 11 (txE G b Iq Aq Nq)) (hd : a + 11 ≤ b ∨ b + 11 ≤ a) : (txH G a I A N h).1 (b + 8) = some (.inl (G.2.2.2.1 2, 5, .inr (.inl (Nq 8)))) := by
  unfold txH
  rw [ovl_out (by omega)]
  exact hB 8 (by decide)
theorem txu_8 {f : Nat → Int64} : iSet (txH G a I A N h) (a + 8) (.inl (G.2.2.2.1 2, 5, .inr (.inl f))) = txH G a I A (va_up N 8 f) h := by
  unfold txH
  rw [ovl_set (by decide)]
  refine ovl_congr (fun j hj => ?_)
  rcases (show j = 0 ∨ j = 1 ∨ j = 2 ∨ j = 3 ∨ j = 4 ∨ j = 5 ∨ j = 6 ∨ j = 7 ∨ j = 8 ∨ j = 9 ∨ j = 10 by omega) with rfl | rfl | rfl | rfl | rfl | rfl | rfl | rfl | rfl | rfl | rfl <;> rfl
theorem tx_9 : (txH G a I A N h).1 (a + 9) = some (.inl (G.2.2.2.1 0, 4, .inl (A 9))) := ovl_in (by decide)
theorem txq_9 (hB : Blk h b 11 (txE G b Iq Aq Nq)) (hd : a + 11 ≤ b ∨ b + 11 ≤ a) : (txH G a I A N h).1 (b + 9) = some (.inl (G.2.2.2.1 0, 4, .inl (Aq 9))) := by
  unfold txH
  rw [ovl_out (by omega)]
  exact hB 9 (by decide)
theorem txu_9 {f : Nat → Int32} : iSet (txH G a I A N h) (a + 9) (.inl (G.2.2.2.1 0, 4, .inl f)) = txH G a I (va_up A 9 f) N h := by
  unfold txH
  rw [ovl_set (by decide)]
  refine ovl_congr (fun j hj => ?_)
  rcases (show j = 0 ∨ j = 1 ∨ j = 2 ∨ j = 3 ∨ j = 4 ∨ j = 5 ∨ j = 6 ∨ j = 7 ∨ j = 8 ∨ j = 9 ∨ j = 10 by omega) with rfl | rfl | rfl | rfl | rfl | rfl | rfl | rfl | rfl | rfl | rfl <;> rfl
theorem tx_10 : (txH G a I A N h).1 (a + 10) = some (.inl (G.2.2.2.1 0, 54, .inl (A 10))) := ovl_in (by decide)
theorem txq_10 (hB : Blk h b 11 (txE G b Iq Aq Nq)) (hd : a + 11 ≤ b ∨ b + 11 ≤ a) : (txH G a I A N h).1 (b + 10) = some (.inl (G.2.2.2.1 0, 54, .inl (Aq 10))) := by
  unfold txH
  rw [ovl_out (by omega)]
  exact hB 10 (by decide)
theorem txu_10 {f : Nat → Int32} : iSet (txH G a I A N h) (a + 10) (.inl (G.2.2.2.1 0, 54, .inl f)) = txH G a I (va_up A 10 f) N h := by
  unfold txH
  rw [ovl_set (by decide)]
  refine ovl_congr (fun j hj => ?_)
  rcases (show j = 0 ∨ j = 1 ∨ j = 2 ∨ j = 3 ∨ j = 4 ∨ j = 5 ∨ j = 6 ∨ j = 7 ∨ j = 8 ∨ j = 9 ∨ j = 10 by omega) with rfl | rfl | rfl | rfl | rfl | rfl | rfl | rfl | rfl | rfl | rfl <;> rfl
theorem txf_0 : (txFs a I)[0]? = some (.int (I 0)) := rfl
theorem txk_0 : ipk 8 0 = 0 := by decide +kernel
theorem txp_0 {x : Int32} : iSet (txH G a I A N h) a (.inr (8, (txFs a I).set 0 (.int x))) = txH G a (va_up I 0 x) A N h := by
  unfold txH
  rw [ovl_set0 (by decide)]
  refine ovl_congr (fun j hj => ?_)
  rcases (show j = 0 ∨ j = 1 ∨ j = 2 ∨ j = 3 ∨ j = 4 ∨ j = 5 ∨ j = 6 ∨ j = 7 ∨ j = 8 ∨ j = 9 ∨ j = 10 by omega) with rfl | rfl | rfl | rfl | rfl | rfl | rfl | rfl | rfl | rfl | rfl <;> rfl
theorem txf_1 : (txFs a I)[1]? = some (.ref (a + 1)) := rfl
theorem txf_2 : (txFs a I)[2]? = some (.ref (a + 2)) := rfl
theorem txf_3 : (txFs a I)[3]? = some (.ref (a + 3)) := rfl
theorem txf_4 : (txFs a I)[4]? = some (.ref (a + 4)) := rfl
theorem txf_5 : (txFs a I)[5]? = some (.int (I 5)) := rfl
theorem txk_5 : ipk 8 5 = 0 := by decide +kernel
theorem txp_5 {x : Int32} : iSet (txH G a I A N h) a (.inr (8, (txFs a I).set 5 (.int x))) = txH G a (va_up I 5 x) A N h := by
  unfold txH
  rw [ovl_set0 (by decide)]
  refine ovl_congr (fun j hj => ?_)
  rcases (show j = 0 ∨ j = 1 ∨ j = 2 ∨ j = 3 ∨ j = 4 ∨ j = 5 ∨ j = 6 ∨ j = 7 ∨ j = 8 ∨ j = 9 ∨ j = 10 by omega) with rfl | rfl | rfl | rfl | rfl | rfl | rfl | rfl | rfl | rfl | rfl <;> rfl
theorem txf_6 : (txFs a I)[6]? = some (.ref (a + 5)) := rfl
theorem txf_7 : (txFs a I)[7]? = some (.ref (a + 6)) := rfl
theorem txf_8 : (txFs a I)[8]? = some (.int (I 8)) := rfl
theorem txk_8 : ipk 8 8 = 0 := by decide +kernel
theorem txp_8 {x : Int32} : iSet (txH G a I A N h) a (.inr (8, (txFs a I).set 8 (.int x))) = txH G a (va_up I 8 x) A N h := by
  unfold txH
  rw [ovl_set0 (by decide)]
  refine ovl_congr (fun j hj => ?_)
  rcases (show j = 0 ∨ j = 1 ∨ j = 2 ∨ j = 3 ∨ j = 4 ∨ j = 5 ∨ j = 6 ∨ j = 7 ∨ j = 8 ∨ j = 9 ∨ j = 10 by omega) with rfl | rfl | rfl | rfl | rfl | rfl | rfl | rfl | rfl | rfl | rfl <;> rfl
theorem txf_9 : (txFs a I)[9]? = some (.ref (a + 7)) := rfl
theorem txf_10 : (txFs a I)[10]? = some (.ref (a + 8)) := rfl
theorem txf_11 : (txFs a I)[11]? = some (.ref (a + 9)) := rfl
theorem txf_12 : (txFs a I)[12]? = some (.ref (a + 10)) := rfl
theorem txf_13 : (txFs a I)[13]? = some (.int (I 13)) := rfl
theorem txk_13 : ipk 8 13 = 0 := by decide +kernel
theorem txp_13 {x : Int32} : iSet (txH G a I A N h) a (.inr (8, (txFs a I).set 13 (.int x))) = txH G a (va_up I 13 x) A N h := by
  unfold txH
  rw [ovl_set0 (by decide)]
  refine ovl_congr (fun j hj => ?_)
  rcases (show j = 0 ∨ j = 1 ∨ j = 2 ∨ j = 3 ∨ j = 4 ∨ j = 5 ∨ j = 6 ∨ j = 7 ∨ j = 8 ∨ j = 9 ∨ j = 10 by omega) with rfl | rfl | rfl | rfl | rfl | rfl | rfl | rfl | rfl | rfl | rfl <;> rfl
theorem txf_14 : (txFs a I)[14]? = some (.int (I 14)) := rfl
theorem txk_14 : ipk 8 14 = 0 := by decide +kernel
theorem txp_14 {x : Int32} : iSet (txH G a I A N h) a (.inr (8, (txFs a I).set 14 (.int x))) = txH G a (va_up I 14 x) A N h := by
  unfold txH
  rw [ovl_set0 (by decide)]
  refine ovl_congr (fun j hj => ?_)
  rcases (show j = 0 ∨ j = 1 ∨ j = 2 ∨ j = 3 ∨ j = 4 ∨ j = 5 ∨ j = 6 ∨ j = 7 ∨ j = 8 ∨ j = 9 ∨ j = 10 by omega) with rfl | rfl | rfl | rfl | rfl | rfl | rfl | rfl | rfl | rfl | rfl <;> rfl
end BKtx
def TW (G : iG) (h : iH) (t : Nat) (J : Nat → Int32) (B : Nat → Nat → Int32) (M : Nat → Nat → Int64) : Prop := Blk h t 11 (txE G t J B M)
section TWs
variable {G : iG} {a n t : Nat} {s w : Nat → Int32} {J : Nat → Int32} {B : Nat → Nat → Int32} {M : Nat → Nat → Int64} {h : iH}
theorem TW_st (hT : TW G h t J B M) (hd : a + 7 ≤ t ∨ t + 11 ≤ a) : TW G (stH G a n s w h) t J B M := Blk_ovl hT hd
theorem tw_o (hT : TW G h t J B M) : h.1 t = some (.inr (8, txFs t J)) := hT 0 (by decide)
theorem qt_o (hT : TW G h t J B M) (hd : a + 7 ≤ t ∨ t + 11 ≤ a) : (stH G a n s w h).1 t = some (.inr (8, txFs t J)) := tw_o (TW_st hT hd)
theorem tw_1 (hT : TW G h t J B M) : h.1 (t + 1) = some (.inl (G.2.2.2.1 0, 9, .inl (B 1))) := hT 1 (by decide)
theorem qt_1 (hT : TW G h t J B M) (hd : a + 7 ≤ t ∨ t + 11 ≤ a) : (stH G a n s w h).1 (t + 1) = some (.inl (G.2.2.2.1 0, 9, .inl (B 1))) := tw_1 (TW_st hT hd)
theorem tw_2 (hT : TW G h t J B M) : h.1 (t + 2) = some (.inl (G.2.2.2.1 0, 9, .inl (B 2))) := hT 2 (by decide)
theorem qt_2 (hT : TW G h t J B M) (hd : a + 7 ≤ t ∨ t + 11 ≤ a) : (stH G a n s w h).1 (t + 2) = some (.inl (G.2.2.2.1 0, 9, .inl (B 2))) := tw_2 (TW_st hT hd)
theorem tw_3 (hT : TW G h t J B M) : h.1 (t + 3) = some (.inl (G.2.2.2.1 0, 9, .inl (B 3))) := hT 3 (by decide)
theorem qt_3 (hT : TW G h t J B M) (hd : a + 7 ≤ t ∨ t + 11 ≤ a) : (stH G a n s w h).1 (t + 3) = some (.inl (G.2.2.2.1 0, 9, .inl (B 3))) := tw_3 (TW_st hT hd)
theorem tw_4 (hT : TW G h t J B M) : h.1 (t + 4) = some (.inl (G.2.2.2.1 2, 9, .inr (.inl (M 4)))) := hT 4 (by decide)
theorem qt_4 (hT : TW G h t J B M) (hd : a + 7 ≤ t ∨ t + 11 ≤ a) : (stH G a n s w h).1 (t + 4) = some (.inl (G.2.2.2.1 2, 9, .inr (.inl (M 4)))) := tw_4 (TW_st hT hd)
theorem tw_5 (hT : TW G h t J B M) : h.1 (t + 5) = some (.inl (G.2.2.2.1 0, 6, .inl (B 5))) := hT 5 (by decide)
theorem qt_5 (hT : TW G h t J B M) (hd : a + 7 ≤ t ∨ t + 11 ≤ a) : (stH G a n s w h).1 (t + 5) = some (.inl (G.2.2.2.1 0, 6, .inl (B 5))) := tw_5 (TW_st hT hd)
theorem tw_6 (hT : TW G h t J B M) : h.1 (t + 6) = some (.inl (G.2.2.2.1 2, 6, .inr (.inl (M 6)))) := hT 6 (by decide)
theorem qt_6 (hT : TW G h t J B M) (hd : a + 7 ≤ t ∨ t + 11 ≤ a) : (stH G a n s w h).1 (t + 6) = some (.inl (G.2.2.2.1 2, 6, .inr (.inl (M 6)))) := tw_6 (TW_st hT hd)
theorem tw_7 (hT : TW G h t J B M) : h.1 (t + 7) = some (.inl (G.2.2.2.1 0, 5, .inl (B 7))) := hT 7 (by decide)
theorem qt_7 (hT : TW G h t J B M) (hd : a + 7 ≤ t ∨ t + 11 ≤ a) : (stH G a n s w h).1 (t + 7) = some (.inl (G.2.2.2.1 0, 5, .inl (B 7))) := tw_7 (TW_st hT hd)
theorem tw_8 (hT : TW G h t J B M) : h.1 (t + 8) = some (.inl (G.2.2.2.1 2, 5, .inr (.inl (M 8)))) := hT 8 (by decide)
theorem qt_8 (hT : TW G h t J B M) (hd : a + 7 ≤ t ∨ t + 11 ≤ a) : (stH G a n s w h).1 (t + 8) = some (.inl (G.2.2.2.1 2, 5, .inr (.inl (M 8)))) := tw_8 (TW_st hT hd)
theorem tw_9 (hT : TW G h t J B M) : h.1 (t + 9) = some (.inl (G.2.2.2.1 0, 4, .inl (B 9))) := hT 9 (by decide)
theorem qt_9 (hT : TW G h t J B M) (hd : a + 7 ≤ t ∨ t + 11 ≤ a) : (stH G a n s w h).1 (t + 9) = some (.inl (G.2.2.2.1 0, 4, .inl (B 9))) := tw_9 (TW_st hT hd)
theorem tw_10 (hT : TW G h t J B M) : h.1 (t + 10) = some (.inl (G.2.2.2.1 0, 54, .inl (B 10))) := hT 10 (by decide)
theorem qt_10 (hT : TW G h t J B M) (hd : a + 7 ≤ t ∨ t + 11 ≤ a) : (stH G a n s w h).1 (t + 10) = some (.inl (G.2.2.2.1 0, 54, .inl (B 10))) := tw_10 (TW_st hT hd)
/-- the tower J B is that of the reference's row s -/
def TS (J : Nat → Int32) (B : Nat → Nat → Int32) (s : Nat → Int32) (F n U : Nat) : Prop := J 0 = nI F ∧ J 5 = nI n ∧ J 8 = nI U ∧ J 13 = s 3 ∧ J 14 = s 4 ∧ (∀ f, 1 ≤ f → f ≤ F → B 1 f = s (5 + f - 1)) ∧ (∀ f, 1 ≤ f → f ≤ F → B 2 f = s (13 + f - 1)) ∧ (∀ f, 1 ≤ f → f ≤ F → B 3 f = if bitF (s 21) (nI (f - 1)) = true then nI 1 else nI 0) ∧ (∀ c, c < n → B 5 c = s (22 + c)) ∧ (∀ u, u < U → B 7 u = s (28 + u)) ∧ (∀ g, g < 4 → B 9 g = s (33 + g)) ∧ (∀ f c, 1 ≤ f → f ≤ 8 → c < 6 → B 10 (f * 6 + c) = s (37 + 6 * f - 6 + c))
theorem TS_of {r s : Nat → Int32} {F n U : Nat} (hS : TS J B s F n U) (hn : n ≤ 6) (hF : F ≤ 8) (hU : U ≤ 5) (he : ∀ j, j < 85 → r j = s j) : TS J B r F n U := by
  obtain ⟨h0, h1, h2, h3, h4, h5, h6, h7, h8, h9, h10, h11⟩ := hS
  refine ⟨h0, h1, h2, by rw [he _ (by omega)]; exact h3, by rw [he _ (by omega)]; exact h4, fun f a b => ?_, fun f a b => ?_, fun f a b => ?_, fun c a => ?_, fun c a => ?_, fun c a => ?_, fun f c a b e => ?_⟩
  · rw [he _ (by omega)]; exact h5 f a b
  · rw [he _ (by omega)]; exact h6 f a b
  · rw [he _ (by omega)]; exact h7 f a b
  · rw [he _ (by omega)]; exact h8 c a
  · rw [he _ (by omega)]; exact h9 c a
  · rw [he _ (by omega)]; exact h10 c a
  · rw [he _ (by omega)]; exact h11 f c a b e
end TWs
