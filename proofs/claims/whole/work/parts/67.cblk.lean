/-! The class: its other objects as blocks of cells -/
def seFs (a : Nat) (I : Nat → Int32) : List Value := [.ref (a + 1), .ref (a + 2), .ref (a + 3), .ref (a + 4), .int (I 4), .int (I 5)]
def seE (G : iG) (a : Nat) (I : Nat → Int32) (A : Nat → Nat → Int32) (j : Nat) : va_E := match j with
  | 0 => .inr (6, seFs a I)
  | 1 => .inl (G.2.2.2.1 0, 40, .inl (A 1))
  | 2 => .inl (G.2.2.2.1 0, 40, .inl (A 2))
  | 3 => .inl (G.2.2.2.1 0, 40, .inl (A 3))
  | _ => .inl (G.2.2.2.1 0, 40, .inl (A 4))
def seH (G : iG) (a : Nat) (I : Nat → Int32) (A : Nat → Nat → Int32) (h : iH) : iH := ovl h a 5 (seE G a I A)
section BKse
variable {G : iG} {a b : Nat} {I Iq : Nat → Int32} {A Aq : Nat → Nat → Int32} {h : iH}
theorem se_o : (seH G a I A h).1 a = some (.inr (6, seFs a I)) := ovl_i0 (by decide)
theorem seFs_len : (seFs a I).length = 6 := rfl
theorem seq_o (hB : Blk h b 5 (seE G b Iq Aq)) (hd : a + 5 ≤ b ∨ b + 5 ≤ a) : (seH G a I A h).1 b = some (.inr (6, seFs b Iq)) := by
  unfold seH
  rw [ovl_out (by omega)]
  exact hB 0 (by decide)
theorem se_1 : (seH G a I A h).1 (a + 1) = some (.inl (G.2.2.2.1 0, 40, .inl (A 1))) := ovl_in (by decide)
theorem seq_1 (hB : Blk h b 5 (seE G b Iq Aq)) (hd : a + 5 ≤ b ∨ b + 5 ≤ a) : (seH G a I A h).1 (b + 1) = some (.inl (G.2.2.2.1 0, 40, .inl (Aq 1))) := by
  unfold seH
  rw [ovl_out (by omega)]
  exact hB 1 (by decide)
theorem seu_1 {f : Nat → Int32} : iSet (seH G a I A h) (a + 1) (.inl (G.2.2.2.1 0, 40, .inl f)) = seH G a I (va_up A 1 f) h := by
  unfold seH
  rw [ovl_set (by decide)]
  refine ovl_congr (fun j hj => ?_)
  rcases (show j = 0 ∨ j = 1 ∨ j = 2 ∨ j = 3 ∨ j = 4 by omega) with rfl | rfl | rfl | rfl | rfl <;> rfl
theorem se_2 : (seH G a I A h).1 (a + 2) = some (.inl (G.2.2.2.1 0, 40, .inl (A 2))) := ovl_in (by decide)
theorem seq_2 (hB : Blk h b 5 (seE G b Iq Aq)) (hd : a + 5 ≤ b ∨ b + 5 ≤ a) : (seH G a I A h).1 (b + 2) = some (.inl (G.2.2.2.1 0, 40, .inl (Aq 2))) := by
  unfold seH
  rw [ovl_out (by omega)]
  exact hB 2 (by decide)
theorem seu_2 {f : Nat → Int32} : iSet (seH G a I A h) (a + 2) (.inl (G.2.2.2.1 0, 40, .inl f)) = seH G a I (va_up A 2 f) h := by
  unfold seH
  rw [ovl_set (by decide)]
  refine ovl_congr (fun j hj => ?_)
  rcases (show j = 0 ∨ j = 1 ∨ j = 2 ∨ j = 3 ∨ j = 4 by omega) with rfl | rfl | rfl | rfl | rfl <;> rfl
theorem se_3 : (seH G a I A h).1 (a + 3) = some (.inl (G.2.2.2.1 0, 40, .inl (A 3))) := ovl_in (by decide)
theorem seq_3 (hB : Blk h b 5 (seE G b Iq Aq)) (hd : a + 5 ≤ b ∨ b + 5 ≤ a) : (seH G a I A h).1 (b + 3) = some (.inl (G.2.2.2.1 0, 40, .inl (Aq 3))) := by
  unfold seH
  rw [ovl_out (by omega)]
  exact hB 3 (by decide)
theorem seu_3 {f : Nat → Int32} : iSet (seH G a I A h) (a + 3) (.inl (G.2.2.2.1 0, 40, .inl f)) = seH G a I (va_up A 3 f) h := by
  unfold seH
  rw [ovl_set (by decide)]
  refine ovl_congr (fun j hj => ?_)
  rcases (show j = 0 ∨ j = 1 ∨ j = 2 ∨ j = 3 ∨ j = 4 by omega) with rfl | rfl | rfl | rfl | rfl <;> rfl
theorem se_4 : (seH G a I A h).1 (a + 4) = some (.inl (G.2.2.2.1 0, 40, .inl (A 4))) := ovl_in (by decide)
theorem seq_4 (hB : Blk h b 5 (seE G b Iq Aq)) (hd : a + 5 ≤ b ∨ b + 5 ≤ a) : (seH G a I A h).1 (b + 4) = some (.inl (G.2.2.2.1 0, 40, .inl (Aq 4))) := by
  unfold seH
  rw [ovl_out (by omega)]
  exact hB 4 (by decide)
theorem seu_4 {f : Nat → Int32} : iSet (seH G a I A h) (a + 4) (.inl (G.2.2.2.1 0, 40, .inl f)) = seH G a I (va_up A 4 f) h := by
  unfold seH
  rw [ovl_set (by decide)]
  refine ovl_congr (fun j hj => ?_)
  rcases (show j = 0 ∨ j = 1 ∨ j = 2 ∨ j = 3 ∨ j = 4 by omega) with rfl | rfl | rfl | rfl | rfl <;> rfl
theorem sef_0 : (seFs a I)[0]? = some (.ref (a + 1)) := rfl
theorem sef_1 : (seFs a I)[1]? = some (.ref (a + 2)) := rfl
theorem sef_2 : (seFs a I)[2]? = some (.ref (a + 3)) := rfl
theorem sef_3 : (seFs a I)[3]? = some (.ref (a + 4)) := rfl
theorem sef_4 : (seFs a I)[4]? = some (.int (I 4)) := rfl
theorem sek_4 : ipk 6 4 = 0 := by decide +kernel
theorem sep_4 {x : Int32} : iSet (seH G a I A h) a (.inr (6, (seFs a I).set 4 (.int x))) = seH G a (va_up I 4 x) A h := by
  unfold seH
  rw [ovl_set0 (by decide)]
  refine ovl_congr (fun j hj => ?_)
  rcases (show j = 0 ∨ j = 1 ∨ j = 2 ∨ j = 3 ∨ j = 4 by omega) with rfl | rfl | rfl | rfl | rfl <;> rfl
theorem sef_5 : (seFs a I)[5]? = some (.int (I 5)) := rfl
theorem sek_5 : ipk 6 5 = 0 := by decide +kernel
theorem sep_5 {x : Int32} : iSet (seH G a I A h) a (.inr (6, (seFs a I).set 5 (.int x))) = seH G a (va_up I 5 x) A h := by
  unfold seH
  rw [ovl_set0 (by decide)]
  refine ovl_congr (fun j hj => ?_)
  rcases (show j = 0 ∨ j = 1 ∨ j = 2 ∨ j = 3 ∨ j = 4 by omega) with rfl | rfl | rfl | rfl | rfl <;> rfl
end BKse
def pnFs (a : Nat) (I : Nat → Int32) : List Value := [.ref (a + 1), .ref (a + 2), .ref (a + 3), .int (I 3), .int (I 4)]
def pnE (G : iG) (a : Nat) (I : Nat → Int32) (A : Nat → Nat → Int32) (j : Nat) : va_E := match j with
  | 0 => .inr (4, pnFs a I)
  | 1 => .inl (G.2.2.2.1 0, 4, .inl (A 1))
  | 2 => .inl (G.2.2.2.1 0, 4, .inl (A 2))
  | _ => .inl (G.2.2.2.1 0, 4, .inl (A 3))
def pnH (G : iG) (a : Nat) (I : Nat → Int32) (A : Nat → Nat → Int32) (h : iH) : iH := ovl h a 4 (pnE G a I A)
section BKpn
variable {G : iG} {a b : Nat} {I Iq : Nat → Int32} {A Aq : Nat → Nat → Int32} {h : iH}
theorem pn_o : (pnH G a I A h).1 a = some (.inr (4, pnFs a I)) := ovl_i0 (by decide)
theorem pnFs_len : (pnFs a I).length = 5 := rfl
theorem pnq_o (hB : Blk h b 4 (pnE G b Iq Aq)) (hd : a + 4 ≤ b ∨ b + 4 ≤ a) : (pnH G a I A h).1 b = some (.inr (4, pnFs b Iq)) := by
  unfold pnH
  rw [ovl_out (by omega)]
  exact hB 0 (by decide)
theorem pn_1 : (pnH G a I A h).1 (a + 1) = some (.inl (G.2.2.2.1 0, 4, .inl (A 1))) := ovl_in (by decide)
theorem pnq_1 (hB : Blk h b 4 (pnE G b Iq Aq)) (hd : a + 4 ≤ b ∨ b + 4 ≤ a) : (pnH G a I A h).1 (b + 1) = some (.inl (G.2.2.2.1 0, 4, .inl (Aq 1))) := by
  unfold pnH
  rw [ovl_out (by omega)]
  exact hB 1 (by decide)
theorem pnu_1 {f : Nat → Int32} : iSet (pnH G a I A h) (a + 1) (.inl (G.2.2.2.1 0, 4, .inl f)) = pnH G a I (va_up A 1 f) h := by
  unfold pnH
  rw [ovl_set (by decide)]
  refine ovl_congr (fun j hj => ?_)
  rcases (show j = 0 ∨ j = 1 ∨ j = 2 ∨ j = 3 by omega) with rfl | rfl | rfl | rfl <;> rfl
theorem pn_2 : (pnH G a I A h).1 (a + 2) = some (.inl (G.2.2.2.1 0, 4, .inl (A 2))) := ovl_in (by decide)
theorem pnq_2 (hB : Blk h b 4 (pnE G b Iq Aq)) (hd : a + 4 ≤ b ∨ b + 4 ≤ a) : (pnH G a I A h).1 (b + 2) = some (.inl (G.2.2.2.1 0, 4, .inl (Aq 2))) := by
  unfold pnH
  rw [ovl_out (by omega)]
  exact hB 2 (by decide)
theorem pnu_2 {f : Nat → Int32} : iSet (pnH G a I A h) (a + 2) (.inl (G.2.2.2.1 0, 4, .inl f)) = pnH G a I (va_up A 2 f) h := by
  unfold pnH
  rw [ovl_set (by decide)]
  refine ovl_congr (fun j hj => ?_)
  rcases (show j = 0 ∨ j = 1 ∨ j = 2 ∨ j = 3 by omega) with rfl | rfl | rfl | rfl <;> rfl
theorem pn_3 : (pnH G a I A h).1 (a + 3) = some (.inl (G.2.2.2.1 0, 4, .inl (A 3))) := ovl_in (by decide)
theorem pnq_3 (hB : Blk h b 4 (pnE G b Iq Aq)) (hd : a + 4 ≤ b ∨ b + 4 ≤ a) : (pnH G a I A h).1 (b + 3) = some (.inl (G.2.2.2.1 0, 4, .inl (Aq 3))) := by
  unfold pnH
  rw [ovl_out (by omega)]
  exact hB 3 (by decide)
theorem pnu_3 {f : Nat → Int32} : iSet (pnH G a I A h) (a + 3) (.inl (G.2.2.2.1 0, 4, .inl f)) = pnH G a I (va_up A 3 f) h := by
  unfold pnH
  rw [ovl_set (by decide)]
  refine ovl_congr (fun j hj => ?_)
  rcases (show j = 0 ∨ j = 1 ∨ j = 2 ∨ j = 3 by omega) with rfl | rfl | rfl | rfl <;> rfl
theorem pnf_0 : (pnFs a I)[0]? = some (.ref (a + 1)) := rfl
theorem pnf_1 : (pnFs a I)[1]? = some (.ref (a + 2)) := rfl
theorem pnf_2 : (pnFs a I)[2]? = some (.ref (a + 3)) := rfl
theorem pnf_3 : (pnFs a I)[3]? = some (.int (I 3)) := rfl
theorem pnk_3 : ipk 4 3 = 0 := by decide +kernel
theorem pnp_3 {x : Int32} : iSet (pnH G a I A h) a (.inr (4, (pnFs a I).set 3 (.int x))) = pnH G a (va_up I 3 x) A h := by
  unfold pnH
  rw [ovl_set0 (by decide)]
  refine ovl_congr (fun j hj => ?_)
  rcases (show j = 0 ∨ j = 1 ∨ j = 2 ∨ j = 3 by omega) with rfl | rfl | rfl | rfl <;> rfl
theorem pnf_4 : (pnFs a I)[4]? = some (.int (I 4)) := rfl
theorem pnk_4 : ipk 4 4 = 0 := by decide +kernel
theorem pnp_4 {x : Int32} : iSet (pnH G a I A h) a (.inr (4, (pnFs a I).set 4 (.int x))) = pnH G a (va_up I 4 x) A h := by
  unfold pnH
  rw [ovl_set0 (by decide)]
  refine ovl_congr (fun j hj => ?_)
  rcases (show j = 0 ∨ j = 1 ∨ j = 2 ∨ j = 3 by omega) with rfl | rfl | rfl | rfl <;> rfl
end BKpn
def trFs (a : Nat) (I : Nat → Int32) : List Value := [.ref (a + 1), .ref (a + 2), .ref (a + 3), .int (I 3), .ref (a + 4), .int (I 5), .int (I 6)]
def trE (G : iG) (a : Nat) (I : Nat → Int32) (A : Nat → Nat → Int32) (j : Nat) : va_E := match j with
  | 0 => .inr (9, trFs a I)
  | 1 => .inl (G.2.2.2.1 0, 4, .inl (A 1))
  | 2 => .inl (G.2.2.2.1 0, 4, .inl (A 2))
  | 3 => .inl (G.2.2.2.1 0, 36, .inl (A 3))
  | _ => .inl (G.2.2.2.1 0, 4, .inl (A 4))
def trH (G : iG) (a : Nat) (I : Nat → Int32) (A : Nat → Nat → Int32) (h : iH) : iH := ovl h a 5 (trE G a I A)
section BKtr
variable {G : iG} {a b : Nat} {I Iq : Nat → Int32} {A Aq : Nat → Nat → Int32} {h : iH}
theorem tr_o : (trH G a I A h).1 a = some (.inr (9, trFs a I)) := ovl_i0 (by decide)
theorem trFs_len : (trFs a I).length = 7 := rfl
theorem trq_o (hB : Blk h b 5 (trE G b Iq Aq)) (hd : a + 5 ≤ b ∨ b + 5 ≤ a) : (trH G a I A h).1 b = some (.inr (9, trFs b Iq)) := by
  unfold trH
  rw [ovl_out (by omega)]
  exact hB 0 (by decide)
theorem tr_1 : (trH G a I A h).1 (a + 1) = some (.inl (G.2.2.2.1 0, 4, .inl (A 1))) := ovl_in (by decide)
theorem trq_1 (hB : Blk h b 5 (trE G b Iq Aq)) (hd : a + 5 ≤ b ∨ b + 5 ≤ a) : (trH G a I A h).1 (b + 1) = some (.inl (G.2.2.2.1 0, 4, .inl (Aq 1))) := by
  unfold trH
  rw [ovl_out (by omega)]
  exact hB 1 (by decide)
theorem tru_1 {f : Nat → Int32} : iSet (trH G a I A h) (a + 1) (.inl (G.2.2.2.1 0, 4, .inl f)) = trH G a I (va_up A 1 f) h := by
  unfold trH
  rw [ovl_set (by decide)]
  refine ovl_congr (fun j hj => ?_)
  rcases (show j = 0 ∨ j = 1 ∨ j = 2 ∨ j = 3 ∨ j = 4 by omega) with rfl | rfl | rfl | rfl | rfl <;> rfl
theorem tr_2 : (trH G a I A h).1 (a + 2) = some (.inl (G.2.2.2.1 0, 4, .inl (A 2))) := ovl_in (by decide)
theorem trq_2 (hB : Blk h b 5 (trE G b Iq Aq)) (hd : a + 5 ≤ b ∨ b + 5 ≤ a) : (trH G a I A h).1 (b + 2) = some (.inl (G.2.2.2.1 0, 4, .inl (Aq 2))) := by
  unfold trH
  rw [ovl_out (by omega)]
  exact hB 2 (by decide)
theorem tru_2 {f : Nat → Int32} : iSet (trH G a I A h) (a + 2) (.inl (G.2.2.2.1 0, 4, .inl f)) = trH G a I (va_up A 2 f) h := by
  unfold trH
  rw [ovl_set (by decide)]
  refine ovl_congr (fun j hj => ?_)
  rcases (show j = 0 ∨ j = 1 ∨ j = 2 ∨ j = 3 ∨ j = 4 by omega) with rfl | rfl | rfl | rfl | rfl <;> rfl
theorem tr_3 : (trH G a I A h).1 (a + 3) = some (.inl (G.2.2.2.1 0, 36, .inl (A 3))) := ovl_in (by decide)
theorem trq_3 (hB : Blk h b 5 (trE G b Iq Aq)) (hd : a + 5 ≤ b ∨ b + 5 ≤ a) : (trH G a I A h).1 (b + 3) = some (.inl (G.2.2.2.1 0, 36, .inl (Aq 3))) := by
  unfold trH
  rw [ovl_out (by omega)]
  exact hB 3 (by decide)
theorem tru_3 {f : Nat → Int32} : iSet (trH G a I A h) (a + 3) (.inl (G.2.2.2.1 0, 36, .inl f)) = trH G a I (va_up A 3 f) h := by
  unfold trH
  rw [ovl_set (by decide)]
  refine ovl_congr (fun j hj => ?_)
  rcases (show j = 0 ∨ j = 1 ∨ j = 2 ∨ j = 3 ∨ j = 4 by omega) with rfl | rfl | rfl | rfl | rfl <;> rfl
theorem tr_4 : (trH G a I A h).1 (a + 4) = some (.inl (G.2.2.2.1 0, 4, .inl (A 4))) := ovl_in (by decide)
theorem trq_4 (hB : Blk h b 5 (trE G b Iq Aq)) (hd : a + 5 ≤ b ∨ b + 5 ≤ a) : (trH G a I A h).1 (b + 4) = some (.inl (G.2.2.2.1 0, 4, .inl (Aq 4))) := by
  unfold trH
  rw [ovl_out (by omega)]
  exact hB 4 (by decide)
theorem tru_4 {f : Nat → Int32} : iSet (trH G a I A h) (a + 4) (.inl (G.2.2.2.1 0, 4, .inl f)) = trH G a I (va_up A 4 f) h := by
  unfold trH
  rw [ovl_set (by decide)]
  refine ovl_congr (fun j hj => ?_)
  rcases (show j = 0 ∨ j = 1 ∨ j = 2 ∨ j = 3 ∨ j = 4 by omega) with rfl | rfl | rfl | rfl | rfl <;> rfl
theorem trf_0 : (trFs a I)[0]? = some (.ref (a + 1)) := rfl
theorem trf_1 : (trFs a I)[1]? = some (.ref (a + 2)) := rfl
theorem trf_2 : (trFs a I)[2]? = some (.ref (a + 3)) := rfl
theorem trf_3 : (trFs a I)[3]? = some (.int (I 3)) := rfl
theorem trk_3 : ipk 9 3 = 0 := by decide +kernel
theorem trp_3 {x : Int32} : iSet (trH G a I A h) a (.inr (9, (trFs a I).set 3 (.int x))) = trH G a (va_up I 3 x) A h := by
  unfold trH
  rw [ovl_set0 (by decide)]
  refine ovl_congr (fun j hj => ?_)
  rcases (show j = 0 ∨ j = 1 ∨ j = 2 ∨ j = 3 ∨ j = 4 by omega) with rfl | rfl | rfl | rfl | rfl <;> rfl
theorem trf_4 : (trFs a I)[4]? = some (.ref (a + 4)) := rfl
theorem trf_5 : (trFs a I)[5]? = some (.int (I 5)) := rfl
theorem trk_5 : ipk 9 5 = 0 := by decide +kernel
theorem trp_5 {x : Int32} : iSet (trH G a I A h) a (.inr (9, (trFs a I).set 5 (.int x))) = trH G a (va_up I 5 x) A h := by
  unfold trH
  rw [ovl_set0 (by decide)]
  refine ovl_congr (fun j hj => ?_)
  rcases (show j = 0 ∨ j = 1 ∨ j = 2 ∨ j = 3 ∨ j = 4 by omega) with rfl | rfl | rfl | rfl | rfl <;> rfl
theorem trf_6 : (trFs a I)[6]? = some (.int (I 6)) := rfl
theorem trk_6 : ipk 9 6 = 0 := by decide +kernel
theorem trp_6 {x : Int32} : iSet (trH G a I A h) a (.inr (9, (trFs a I).set 6 (.int x))) = trH G a (va_up I 6 x) A h := by
  unfold trH
  rw [ovl_set0 (by decide)]
  refine ovl_congr (fun j hj => ?_)
  rcases (show j = 0 ∨ j = 1 ∨ j = 2 ∨ j = 3 ∨ j = 4 by omega) with rfl | rfl | rfl | rfl | rfl <;> rfl
end BKtr
def bgFs (a : Nat) (I : Nat → Int32) : List Value := [.ref (a + 1), .ref (a + 2), .ref (a + 3)]
def bgE (G : iG) (a : Nat) (I : Nat → Int32) (A : Nat → Nat → Int32) (j : Nat) : va_E := match j with
  | 0 => .inr (0, bgFs a I)
  | 1 => .inl (G.2.2.2.1 0, 9, .inl (A 1))
  | 2 => .inl (G.2.2.2.1 0, 6, .inl (A 2))
  | _ => .inl (G.2.2.2.1 0, 6, .inl (A 3))
def bgH (G : iG) (a : Nat) (I : Nat → Int32) (A : Nat → Nat → Int32) (h : iH) : iH := ovl h a 4 (bgE G a I A)
section BKbg
variable {G : iG} {a b : Nat} {I Iq : Nat → Int32} {A Aq : Nat → Nat → Int32} {h : iH}
theorem bg_o : (bgH G a I A h).1 a = some (.inr (0, bgFs a I)) := ovl_i0 (by decide)
theorem bgFs_len : (bgFs a I).length = 3 := rfl
theorem bgq_o (hB : Blk h b 4 (bgE G b Iq Aq)) (hd : a + 4 ≤ b ∨ b + 4 ≤ a) : (bgH G a I A h).1 b = some (.inr (0, bgFs b Iq)) := by
  unfold bgH
  rw [ovl_out (by omega)]
  exact hB 0 (by decide)
theorem bg_1 : (bgH G a I A h).1 (a + 1) = some (.inl (G.2.2.2.1 0, 9, .inl (A 1))) := ovl_in (by decide)
theorem bgq_1 (hB : Blk h b 4 (bgE G b Iq Aq)) (hd : a + 4 ≤ b ∨ b + 4 ≤ a) : (bgH G a I A h).1 (b + 1) = some (.inl (G.2.2.2.1 0, 9, .inl (Aq 1))) := by
  unfold bgH
  rw [ovl_out (by omega)]
  exact hB 1 (by decide)
theorem bgu_1 {f : Nat → Int32} : iSet (bgH G a I A h) (a + 1) (.inl (G.2.2.2.1 0, 9, .inl f)) = bgH G a I (va_up A 1 f) h := by
  unfold bgH
  rw [ovl_set (by decide)]
  refine ovl_congr (fun j hj => ?_)
  rcases (show j = 0 ∨ j = 1 ∨ j = 2 ∨ j = 3 by omega) with rfl | rfl | rfl | rfl <;> rfl
theorem bg_2 : (bgH G a I A h).1 (a + 2) = some (.inl (G.2.2.2.1 0, 6, .inl (A 2))) := ovl_in (by decide)
theorem bgq_2 (hB : Blk h b 4 (bgE G b Iq Aq)) (hd : a + 4 ≤ b ∨ b + 4 ≤ a) : (bgH G a I A h).1 (b + 2) = some (.inl (G.2.2.2.1 0, 6, .inl (Aq 2))) := by
  unfold bgH
  rw [ovl_out (by omega)]
  exact hB 2 (by decide)
theorem bgu_2 {f : Nat → Int32} : iSet (bgH G a I A h) (a + 2) (.inl (G.2.2.2.1 0, 6, .inl f)) = bgH G a I (va_up A 2 f) h := by
  unfold bgH
  rw [ovl_set (by decide)]
  refine ovl_congr (fun j hj => ?_)
  rcases (show j = 0 ∨ j = 1 ∨ j = 2 ∨ j = 3 by omega) with rfl | rfl | rfl | rfl <;> rfl
theorem bg_3 : (bgH G a I A h).1 (a + 3) = some (.inl (G.2.2.2.1 0, 6, .inl (A 3))) := ovl_in (by decide)
theorem bgq_3 (hB : Blk h b 4 (bgE G b Iq Aq)) (hd : a + 4 ≤ b ∨ b + 4 ≤ a) : (bgH G a I A h).1 (b + 3) = some (.inl (G.2.2.2.1 0, 6, .inl (Aq 3))) := by
  unfold bgH
  rw [ovl_out (by omega)]
  exact hB 3 (by decide)
theorem bgu_3 {f : Nat → Int32} : iSet (bgH G a I A h) (a + 3) (.inl (G.2.2.2.1 0, 6, .inl f)) = bgH G a I (va_up A 3 f) h := by
  unfold bgH
  rw [ovl_set (by decide)]
  refine ovl_congr (fun j hj => ?_)
  rcases (show j = 0 ∨ j = 1 ∨ j = 2 ∨ j = 3 by omega) with rfl | rfl | rfl | rfl <;> rfl
theorem bgf_0 : (bgFs a I)[0]? = some (.ref (a + 1)) := rfl
theorem bgf_1 : (bgFs a I)[1]? = some (.ref (a + 2)) := rfl
theorem bgf_2 : (bgFs a I)[2]? = some (.ref (a + 3)) := rfl
end BKbg
def boFs (a : Nat) (I : Nat → Int32) : List Value := [.ref (a + 1), .ref (a + 2), .ref (a + 3), .int (I 3), .int (I 4), .int (I 5), .int (I 6), .int (I 7)]
def boE (G : iG) (a : Nat) (I : Nat → Int32) (A : Nat → Nat → Int32) (j : Nat) : va_E := match j with
  | 0 => .inr (1, boFs a I)
  | 1 => .inl (G.2.2.2.1 0, 40, .inl (A 1))
  | 2 => .inl (G.2.2.2.1 0, 40, .inl (A 2))
  | _ => .inl (G.2.2.2.1 0, 40, .inl (A 3))
def boH (G : iG) (a : Nat) (I : Nat → Int32) (A : Nat → Nat → Int32) (h : iH) : iH := ovl h a 4 (boE G a I A)
section BKbo
variable {G : iG} {a b : Nat} {I Iq : Nat → Int32} {A Aq : Nat → Nat → Int32} {h : iH}
theorem bo_o : (boH G a I A h).1 a = some (.inr (1, boFs a I)) := ovl_i0 (by decide)
theorem boFs_len : (boFs a I).length = 8 := rfl
theorem boq_o (hB : Blk h b 4 (boE G b Iq Aq)) (hd : a + 4 ≤ b ∨ b + 4 ≤ a) : (boH G a I A h).1 b = some (.inr (1, boFs b Iq)) := by
  unfold boH
  rw [ovl_out (by omega)]
  exact hB 0 (by decide)
theorem bo_1 : (boH G a I A h).1 (a + 1) = some (.inl (G.2.2.2.1 0, 40, .inl (A 1))) := ovl_in (by decide)
theorem boq_1 (hB : Blk h b 4 (boE G b Iq Aq)) (hd : a + 4 ≤ b ∨ b + 4 ≤ a) : (boH G a I A h).1 (b + 1) = some (.inl (G.2.2.2.1 0, 40, .inl (Aq 1))) := by
  unfold boH
  rw [ovl_out (by omega)]
  exact hB 1 (by decide)
theorem bou_1 {f : Nat → Int32} : iSet (boH G a I A h) (a + 1) (.inl (G.2.2.2.1 0, 40, .inl f)) = boH G a I (va_up A 1 f) h := by
  unfold boH
  rw [ovl_set (by decide)]
  refine ovl_congr (fun j hj => ?_)
  rcases (show j = 0 ∨ j = 1 ∨ j = 2 ∨ j = 3 by omega) with rfl | rfl | rfl | rfl <;> rfl
theorem bo_2 : (boH G a I A h).1 (a + 2) = some (.inl (G.2.2.2.1 0, 40, .inl (A 2))) := ovl_in (by decide)
theorem boq_2 (hB : Blk h b 4 (boE G b Iq Aq)) (hd : a + 4 ≤ b ∨ b + 4 ≤ a) : (boH G a I A h).1 (b + 2) = some (.inl (G.2.2.2.1 0, 40, .inl (Aq 2))) := by
  unfold boH
  rw [ovl_out (by omega)]
  exact hB 2 (by decide)
theorem bou_2 {f : Nat → Int32} : iSet (boH G a I A h) (a + 2) (.inl (G.2.2.2.1 0, 40, .inl f)) = boH G a I (va_up A 2 f) h := by
  unfold boH
  rw [ovl_set (by decide)]
  refine ovl_congr (fun j hj => ?_)
  rcases (show j = 0 ∨ j = 1 ∨ j = 2 ∨ j = 3 by omega) with rfl | rfl | rfl | rfl <;> rfl
theorem bo_3 : (boH G a I A h).1 (a + 3) = some (.inl (G.2.2.2.1 0, 40, .inl (A 3))) := ovl_in (by decide)
theorem boq_3 (hB : Blk h b 4 (boE G b Iq Aq)) (hd : a + 4 ≤ b ∨ b + 4 ≤ a) : (boH G a I A h).1 (b + 3) = some (.inl (G.2.2.2.1 0, 40, .inl (Aq 3))) := by
  unfold boH
  rw [ovl_out (by omega)]
  exact hB 3 (by decide)
theorem bou_3 {f : Nat → Int32} : iSet (boH G a I A h) (a + 3) (.inl (G.2.2.2.1 0, 40, .inl f)) = boH G a I (va_up A 3 f) h := by
  unfold boH
  rw [ovl_set (by decide)]
  refine ovl_congr (fun j hj => ?_)
  rcases (show j = 0 ∨ j = 1 ∨ j = 2 ∨ j = 3 by omega) with rfl | rfl | rfl | rfl <;> rfl
theorem bof_0 : (boFs a I)[0]? = some (.ref (a + 1)) := rfl
theorem bof_1 : (boFs a I)[1]? = some (.ref (a + 2)) := rfl
theorem bof_2 : (boFs a I)[2]? = some (.ref (a + 3)) := rfl
theorem bof_3 : (boFs a I)[3]? = some (.int (I 3)) := rfl
theorem bok_3 : ipk 1 3 = 0 := by decide +kernel
theorem bop_3 {x : Int32} : iSet (boH G a I A h) a (.inr (1, (boFs a I).set 3 (.int x))) = boH G a (va_up I 3 x) A h := by
  unfold boH
  rw [ovl_set0 (by decide)]
  refine ovl_congr (fun j hj => ?_)
  rcases (show j = 0 ∨ j = 1 ∨ j = 2 ∨ j = 3 by omega) with rfl | rfl | rfl | rfl <;> rfl
theorem bof_4 : (boFs a I)[4]? = some (.int (I 4)) := rfl
theorem bok_4 : ipk 1 4 = 0 := by decide +kernel
theorem bop_4 {x : Int32} : iSet (boH G a I A h) a (.inr (1, (boFs a I).set 4 (.int x))) = boH G a (va_up I 4 x) A h := by
  unfold boH
  rw [ovl_set0 (by decide)]
  refine ovl_congr (fun j hj => ?_)
  rcases (show j = 0 ∨ j = 1 ∨ j = 2 ∨ j = 3 by omega) with rfl | rfl | rfl | rfl <;> rfl
theorem bof_5 : (boFs a I)[5]? = some (.int (I 5)) := rfl
theorem bok_5 : ipk 1 5 = 0 := by decide +kernel
theorem bop_5 {x : Int32} : iSet (boH G a I A h) a (.inr (1, (boFs a I).set 5 (.int x))) = boH G a (va_up I 5 x) A h := by
  unfold boH
  rw [ovl_set0 (by decide)]
  refine ovl_congr (fun j hj => ?_)
  rcases (show j = 0 ∨ j = 1 ∨ j = 2 ∨ j = 3 by omega) with rfl | rfl | rfl | rfl <;> rfl
theorem bof_6 : (boFs a I)[6]? = some (.int (I 6)) := rfl
theorem bok_6 : ipk 1 6 = 0 := by decide +kernel
theorem bop_6 {x : Int32} : iSet (boH G a I A h) a (.inr (1, (boFs a I).set 6 (.int x))) = boH G a (va_up I 6 x) A h := by
  unfold boH
  rw [ovl_set0 (by decide)]
  refine ovl_congr (fun j hj => ?_)
  rcases (show j = 0 ∨ j = 1 ∨ j = 2 ∨ j = 3 by omega) with rfl | rfl | rfl | rfl <;> rfl
theorem bof_7 : (boFs a I)[7]? = some (.int (I 7)) := rfl
theorem bok_7 : ipk 1 7 = 0 := by decide +kernel
theorem bop_7 {x : Int32} : iSet (boH G a I A h) a (.inr (1, (boFs a I).set 7 (.int x))) = boH G a (va_up I 7 x) A h := by
  unfold boH
  rw [ovl_set0 (by decide)]
  refine ovl_congr (fun j hj => ?_)
  rcases (show j = 0 ∨ j = 1 ∨ j = 2 ∨ j = 3 by omega) with rfl | rfl | rfl | rfl <;> rfl
end BKbo
def rdFs (a : Nat) (I : Nat → Int32) : List Value := [.ref (a + 1), .ref (a + 2), .ref (a + 3), .ref (a + 4), .int (I 4), .int (I 5), .int (I 6), .int (I 7), .int (I 8)]
def rdE (G : iG) (a : Nat) (I : Nat → Int32) (A : Nat → Nat → Int32) (N : Nat → Nat → Int64) (R : Nat → Nat → Option Nat) (j : Nat) : va_E := match j with
  | 0 => .inr (5, rdFs a I)
  | 1 => .inl (G.2.2.2.1 0, 941, .inl (A 1))
  | 2 => .inl (G.2.2.2.1 0, 941, .inl (A 2))
  | 3 => .inl (G.2.2.2.1 2, 941, .inr (.inl (N 3)))
  | _ => .inl (G.2.2.2.1 4, 941, .inr (.inr (.inr (.inr (R 4)))))
def rdH (G : iG) (a : Nat) (I : Nat → Int32) (A : Nat → Nat → Int32) (N : Nat → Nat → Int64) (R : Nat → Nat → Option Nat) (h : iH) : iH := ovl h a 5 (rdE G a I A N R)
section BKrd
variable {G : iG} {a b : Nat} {I Iq : Nat → Int32} {A Aq : Nat → Nat → Int32} {N Nq : Nat → Nat → Int64} {R Rq : Nat → Nat → Option Nat} {h : iH}
theorem rd_o : (rdH G a I A N R h).1 a = some (.inr (5, rdFs a I)) := ovl_i0 (by decide)
theorem rdFs_len : (rdFs a I).length = 9 := rfl
theorem rdq_o (hB : Blk h b 5 (rdE G b Iq Aq Nq Rq)) (hd : a + 5 ≤ b ∨ b + 5 ≤ a) : (rdH G a I A N R h).1 b = some (.inr (5, rdFs b Iq)) := by
  unfold rdH
  rw [ovl_out (by omega)]
  exact hB 0 (by decide)
theorem rd_1 : (rdH G a I A N R h).1 (a + 1) = some (.inl (G.2.2.2.1 0, 941, .inl (A 1))) := ovl_in (by decide)
theorem rdq_1 (hB : Blk h b 5 (rdE G b Iq Aq Nq Rq)) (hd : a + 5 ≤ b ∨ b + 5 ≤ a) : (rdH G a I A N R h).1 (b + 1) = some (.inl (G.2.2.2.1 0, 941, .inl (Aq 1))) := by
  unfold rdH
  rw [ovl_out (by omega)]
  exact hB 1 (by decide)
theorem rdu_1 {f : Nat → Int32} : iSet (rdH G a I A N R h) (a + 1) (.inl (G.2.2.2.1 0, 941, .inl f)) = rdH G a I (va_up A 1 f) N R h := by
  unfold rdH
  rw [ovl_set (by decide)]
  refine ovl_congr (fun j hj => ?_)
  rcases (show j = 0 ∨ j = 1 ∨ j = 2 ∨ j = 3 ∨ j = 4 by omega) with rfl | rfl | rfl | rfl | rfl <;> rfl
theorem rd_2 : (rdH G a I A N R h).1 (a + 2) = some (.inl (G.2.2.2.1 0, 941, .inl (A 2))) := ovl_in (by decide)
theorem rdq_2 (hB : Blk h b 5 (rdE G b Iq Aq Nq Rq)) (hd : a + 5 ≤ b ∨ b + 5 ≤ a) : (rdH G a I A N R h).1 (b + 2) = some (.inl (G.2.2.2.1 0, 941, .inl (Aq 2))) := by
  unfold rdH
  rw [ovl_out (by omega)]
  exact hB 2 (by decide)
theorem rdu_2 {f : Nat → Int32} : iSet (rdH G a I A N R h) (a + 2) (.inl (G.2.2.2.1 0, 941, .inl f)) = rdH G a I (va_up A 2 f) N R h := by
  unfold rdH
  rw [ovl_set (by decide)]
  refine ovl_congr (fun j hj => ?_)
  rcases (show j = 0 ∨ j = 1 ∨ j = 2 ∨ j = 3 ∨ j = 4 by omega) with rfl | rfl | rfl | rfl | rfl <;> rfl
theorem rd_3 : (rdH G a I A N R h).1 (a + 3) = some (.inl (G.2.2.2.1 2, 941, .inr (.inl (N 3)))) := ovl_in (by decide)
theorem rdq_3 (hB : Blk h b 5 (rdE G b Iq Aq Nq Rq)) (hd : a + 5 ≤ b ∨ b + 5 ≤ a) : (rdH G a I A N R h).1 (b + 3) = some (.inl (G.2.2.2.1 2, 941, .inr (.inl (Nq 3)))) := by
  unfold rdH
  rw [ovl_out (by omega)]
  exact hB 3 (by decide)
theorem rdu_3 {f : Nat → Int64} : iSet (rdH G a I A N R h) (a + 3) (.inl (G.2.2.2.1 2, 941, .inr (.inl f))) = rdH G a I A (va_up N 3 f) R h := by
  unfold rdH
  rw [ovl_set (by decide)]
  refine ovl_congr (fun j hj => ?_)
  rcases (show j = 0 ∨ j = 1 ∨ j = 2 ∨ j = 3 ∨ j = 4 by omega) with rfl | rfl | rfl | rfl | rfl <;> rfl
theorem rd_4 : (rdH G a I A N R h).1 (a + 4) = some (.inl (G.2.2.2.1 4, 941, .inr (.inr (.inr (.inr (R 4)))))) := ovl_in (by decide)
theorem rdq_4 (hB : Blk h b 5 (rdE G b Iq Aq Nq Rq)) (hd : a + 5 ≤ b ∨ b + 5 ≤ a) : (rdH G a I A N R h).1 (b + 4) = some (.inl (G.2.2.2.1 4, 941, .inr (.inr (.inr (.inr (Rq 4)))))) := by
  unfold rdH
  rw [ovl_out (by omega)]
  exact hB 4 (by decide)
theorem rdu_4 {f : Nat → Option Nat} : iSet (rdH G a I A N R h) (a + 4) (.inl (G.2.2.2.1 4, 941, .inr (.inr (.inr (.inr f))))) = rdH G a I A N (va_up R 4 f) h := by
  unfold rdH
  rw [ovl_set (by decide)]
  refine ovl_congr (fun j hj => ?_)
  rcases (show j = 0 ∨ j = 1 ∨ j = 2 ∨ j = 3 ∨ j = 4 by omega) with rfl | rfl | rfl | rfl | rfl <;> rfl
theorem rdf_0 : (rdFs a I)[0]? = some (.ref (a + 1)) := rfl
theorem rdf_1 : (rdFs a I)[1]? = some (.ref (a + 2)) := rfl
theorem rdf_2 : (rdFs a I)[2]? = some (.ref (a + 3)) := rfl
theorem rdf_3 : (rdFs a I)[3]? = some (.ref (a + 4)) := rfl
theorem rdf_4 : (rdFs a I)[4]? = some (.int (I 4)) := rfl
theorem rdk_4 : ipk 5 4 = 0 := by decide +kernel
theorem rdp_4 {x : Int32} : iSet (rdH G a I A N R h) a (.inr (5, (rdFs a I).set 4 (.int x))) = rdH G a (va_up I 4 x) A N R h := by
  unfold rdH
  rw [ovl_set0 (by decide)]
  refine ovl_congr (fun j hj => ?_)
  rcases (show j = 0 ∨ j = 1 ∨ j = 2 ∨ j = 3 ∨ j = 4 by omega) with rfl | rfl | rfl | rfl | rfl <;> rfl
theorem rdf_5 : (rdFs a I)[5]? = some (.int (I 5)) := rfl
theorem rdk_5 : ipk 5 5 = 0 := by decide +kernel
theorem rdp_5 {x : Int32} : iSet (rdH G a I A N R h) a (.inr (5, (rdFs a I).set 5 (.int x))) = rdH G a (va_up I 5 x) A N R h := by
  unfold rdH
  rw [ovl_set0 (by decide)]
  refine ovl_congr (fun j hj => ?_)
  rcases (show j = 0 ∨ j = 1 ∨ j = 2 ∨ j = 3 ∨ j = 4 by omega) with rfl | rfl | rfl | rfl | rfl <;> rfl
theorem rdf_6 : (rdFs a I)[6]? = some (.int (I 6)) := rfl
theorem rdk_6 : ipk 5 6 = 2 := by decide +kernel
theorem rdp_6 {x : Int32} : iSet (rdH G a I A N R h) a (.inr (5, (rdFs a I).set 6 (.int x))) = rdH G a (va_up I 6 x) A N R h := by
  unfold rdH
  rw [ovl_set0 (by decide)]
  refine ovl_congr (fun j hj => ?_)
  rcases (show j = 0 ∨ j = 1 ∨ j = 2 ∨ j = 3 ∨ j = 4 by omega) with rfl | rfl | rfl | rfl | rfl <;> rfl
theorem rdf_7 : (rdFs a I)[7]? = some (.int (I 7)) := rfl
theorem rdk_7 : ipk 5 7 = 0 := by decide +kernel
theorem rdp_7 {x : Int32} : iSet (rdH G a I A N R h) a (.inr (5, (rdFs a I).set 7 (.int x))) = rdH G a (va_up I 7 x) A N R h := by
  unfold rdH
  rw [ovl_set0 (by decide)]
  refine ovl_congr (fun j hj => ?_)
  rcases (show j = 0 ∨ j = 1 ∨ j = 2 ∨ j = 3 ∨ j = 4 by omega) with rfl | rfl | rfl | rfl | rfl <;> rfl
theorem rdf_8 : (rdFs a I)[8]? = some (.int (I 8)) := rfl
theorem rdk_8 : ipk 5 8 = 0 := by decide +kernel
theorem rdp_8 {x : Int32} : iSet (rdH G a I A N R h) a (.inr (5, (rdFs a I).set 8 (.int x))) = rdH G a (va_up I 8 x) A N R h := by
  unfold rdH
  rw [ovl_set0 (by decide)]
  refine ovl_congr (fun j hj => ?_)
  rcases (show j = 0 ∨ j = 1 ∨ j = 2 ∨ j = 3 ∨ j = 4 by omega) with rfl | rfl | rfl | rfl | rfl <;> rfl
end BKrd
def hiFs (a : Nat) (I : Nat → Int32) : List Value := [.ref (a + 1), .int (I 1), .int (I 2)]
def hiE (G : iG) (a : Nat) (I : Nat → Int32) (R : Nat → Nat → Option Nat) (j : Nat) : va_E := match j with
  | 0 => .inr (2, hiFs a I)
  | _ => .inl (G.2.2.2.1 5, 8, .inr (.inr (.inr (.inr (R 1)))))
def hiH (G : iG) (a : Nat) (I : Nat → Int32) (R : Nat → Nat → Option Nat) (h : iH) : iH := ovl h a 2 (hiE G a I R)
section BKhi
variable {G : iG} {a b : Nat} {I Iq : Nat → Int32} {R Rq : Nat → Nat → Option Nat} {h : iH}
theorem hi_o : (hiH G a I R h).1 a = some (.inr (2, hiFs a I)) := ovl_i0 (by decide)
theorem hiFs_len : (hiFs a I).length = 3 := rfl
theorem hiq_o (hB : Blk h b 2 (hiE G b Iq Rq)) (hd : a + 2 ≤ b ∨ b + 2 ≤ a) : (hiH G a I R h).1 b = some (.inr (2, hiFs b Iq)) := by
  unfold hiH
  rw [ovl_out (by omega)]
  exact hB 0 (by decide)
theorem hi_1 : (hiH G a I R h).1 (a + 1) = some (.inl (G.2.2.2.1 5, 8, .inr (.inr (.inr (.inr (R 1)))))) := ovl_in (by decide)
theorem hiq_1 (hB : Blk h b 2 (hiE G b Iq Rq)) (hd : a + 2 ≤ b ∨ b + 2 ≤ a) : (hiH G a I R h).1 (b + 1) = some (.inl (G.2.2.2.1 5, 8, .inr (.inr (.inr (.inr (Rq 1)))))) := by
  unfold hiH
  rw [ovl_out (by omega)]
  exact hB 1 (by decide)
theorem hiu_1 {f : Nat → Option Nat} : iSet (hiH G a I R h) (a + 1) (.inl (G.2.2.2.1 5, 8, .inr (.inr (.inr (.inr f))))) = hiH G a I (va_up R 1 f) h := by
  unfold hiH
  rw [ovl_set (by decide)]
  refine ovl_congr (fun j hj => ?_)
  rcases (show j = 0 ∨ j = 1 by omega) with rfl | rfl <;> rfl
theorem hif_0 : (hiFs a I)[0]? = some (.ref (a + 1)) := rfl
theorem hif_1 : (hiFs a I)[1]? = some (.int (I 1)) := rfl
theorem hik_1 : ipk 2 1 = 0 := by decide +kernel
theorem hip_1 {x : Int32} : iSet (hiH G a I R h) a (.inr (2, (hiFs a I).set 1 (.int x))) = hiH G a (va_up I 1 x) R h := by
  unfold hiH
  rw [ovl_set0 (by decide)]
  refine ovl_congr (fun j hj => ?_)
  rcases (show j = 0 ∨ j = 1 by omega) with rfl | rfl <;> rfl
theorem hif_2 : (hiFs a I)[2]? = some (.int (I 2)) := rfl
theorem hik_2 : ipk 2 2 = 0 := by decide +kernel
theorem hip_2 {x : Int32} : iSet (hiH G a I R h) a (.inr (2, (hiFs a I).set 2 (.int x))) = hiH G a (va_up I 2 x) R h := by
  unfold hiH
  rw [ovl_set0 (by decide)]
  refine ovl_congr (fun j hj => ?_)
  rcases (show j = 0 ∨ j = 1 by omega) with rfl | rfl <;> rfl
end BKhi
