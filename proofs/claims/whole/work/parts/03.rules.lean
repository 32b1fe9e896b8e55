/-! K, an instruction a row: constants, locals, stack, arithmetic, jumps, ends -/
theorem ks_iconst {G : iG} {d kc ks : Nat} {Y : iM} {pc t : Nat} {ls : iL} {st : List Value} {h : iH} {Q : Option Value → iH → Prop} {n : Int} {v : Int32} (hi : ino Y pc = some (.iconst n, t)) (hv : Int32.ofInt n = v) (k : K G d kc ks Y t ls (.int v :: st) h Q) : K G d kc ks Y pc ls (st) h Q := by
  intro p e R s m args below meth c H locs z cells slots X hf hlo hc1 hc2 hL hH hS
  obtain rfl : t = pc + 1 := ino_n hi rfl
  exact lv_iconst X.1 X.2.1 (ino_d hi) hv (k p e R s m args below meth c H locs z cells slots X hf hlo hc1 hc2 hL hH hS)
theorem ks_bipush {G : iG} {d kc ks : Nat} {Y : iM} {pc t : Nat} {ls : iL} {st : List Value} {h : iH} {Q : Option Value → iH → Prop} {n : Int} {v : Int32} (hi : ino Y pc = some (.bipush n, t)) (hv : (Int8.ofInt n).toInt32 = v) (k : K G d kc ks Y t ls (.int v :: st) h Q) : K G d kc ks Y pc ls (st) h Q := by
  intro p e R s m args below meth c H locs z cells slots X hf hlo hc1 hc2 hL hH hS
  obtain rfl : t = pc + 2 := ino_n hi rfl
  exact lv_bipush X.1 X.2.1 (ino_d hi) hv (k p e R s m args below meth c H locs z cells slots X hf hlo hc1 hc2 hL hH hS)
theorem ks_sipush {G : iG} {d kc ks : Nat} {Y : iM} {pc t : Nat} {ls : iL} {st : List Value} {h : iH} {Q : Option Value → iH → Prop} {n : Int} {v : Int32} (hi : ino Y pc = some (.sipush n, t)) (hv : (Int16.ofInt n).toInt32 = v) (k : K G d kc ks Y t ls (.int v :: st) h Q) : K G d kc ks Y pc ls (st) h Q := by
  intro p e R s m args below meth c H locs z cells slots X hf hlo hc1 hc2 hL hH hS
  obtain rfl : t = pc + 3 := ino_n hi rfl
  exact lv_sipush X.1 X.2.1 (ino_d hi) hv (k p e R s m args below meth c H locs z cells slots X hf hlo hc1 hc2 hL hH hS)
theorem ks_lconst {G : iG} {d kc ks : Nat} {Y : iM} {pc t : Nat} {ls : iL} {st : List Value} {h : iH} {Q : Option Value → iH → Prop} {n : Fin 2} {v : Int64} (hi : ino Y pc = some (.lconst n, t)) (hv : Int64.ofNat (n : Nat) = v) (k : K G d kc ks Y t ls (.long v :: st) h Q) : K G d kc ks Y pc ls (st) h Q := by
  intro p e R s m args below meth c H locs z cells slots X hf hlo hc1 hc2 hL hH hS
  obtain rfl : t = pc + 1 := ino_n hi rfl
  exact lv_lconst X.1 X.2.1 (ino_d hi) hv (k p e R s m args below meth c H locs z cells slots X hf hlo hc1 hc2 hL hH hS)
theorem ks_null {G : iG} {d kc ks : Nat} {Y : iM} {pc t : Nat} {ls : iL} {st : List Value} {h : iH} {Q : Option Value → iH → Prop}  (hi : ino Y pc = some (.aconst_null, t))  (k : K G d kc ks Y t ls (.null :: st) h Q) : K G d kc ks Y pc ls (st) h Q := by
  intro p e R s m args below meth c H locs z cells slots X hf hlo hc1 hc2 hL hH hS
  obtain rfl : t = pc + 1 := ino_n hi rfl
  exact lv_null X.1 X.2.1 (ino_d hi) (k p e R s m args below meth c H locs z cells slots X hf hlo hc1 hc2 hL hH hS)
theorem ks_iload_n {G : iG} {d kc ks : Nat} {Y : iM} {pc t : Nat} {ls : iL} {st : List Value} {h : iH} {Q : Option Value → iH → Prop} {n : Fin 4} {x : Int32} (hi : ino Y pc = some (.iload_n n, t)) (hl : ls[(n : Nat)]? = some (some (.int x))) (k : K G d kc ks Y t ls (.int x :: st) h Q) : K G d kc ks Y pc ls (st) h Q := by
  intro p e R s m args below meth c H locs z cells slots X hf hlo hc1 hc2 hL hH hS
  obtain rfl : t = pc + 1 := ino_n hi rfl
  exact lv_iload_n X.1 X.2.1 (ino_d hi) rfl (hL.2.2 _ _ hl) (k p e R s m args below meth c H locs z cells slots X hf hlo hc1 hc2 hL hH hS)
theorem ks_iload {G : iG} {d kc ks : Nat} {Y : iM} {pc t : Nat} {ls : iL} {st : List Value} {h : iH} {Q : Option Value → iH → Prop} {n : Nat} {x : Int32} (hi : ino Y pc = some (.iload n, t)) (hl : ls[n]? = some (some (.int x))) (k : K G d kc ks Y t ls (.int x :: st) h Q) : K G d kc ks Y pc ls (st) h Q := by
  intro p e R s m args below meth c H locs z cells slots X hf hlo hc1 hc2 hL hH hS
  obtain rfl : t = pc + 2 := ino_n hi rfl
  exact lv_iload X.1 X.2.1 (ino_d hi) (hL.2.2 _ _ hl) (k p e R s m args below meth c H locs z cells slots X hf hlo hc1 hc2 hL hH hS)
theorem ks_lload_n {G : iG} {d kc ks : Nat} {Y : iM} {pc t : Nat} {ls : iL} {st : List Value} {h : iH} {Q : Option Value → iH → Prop} {n : Fin 4} {x : Int64} (hi : ino Y pc = some (.lload_n n, t)) (hl : ls[(n : Nat)]? = some (some (.long x))) (k : K G d kc ks Y t ls (.long x :: st) h Q) : K G d kc ks Y pc ls (st) h Q := by
  intro p e R s m args below meth c H locs z cells slots X hf hlo hc1 hc2 hL hH hS
  obtain rfl : t = pc + 1 := ino_n hi rfl
  exact lv_lload_n X.1 X.2.1 (ino_d hi) rfl (hL.2.2 _ _ hl) (k p e R s m args below meth c H locs z cells slots X hf hlo hc1 hc2 hL hH hS)
theorem ks_lload {G : iG} {d kc ks : Nat} {Y : iM} {pc t : Nat} {ls : iL} {st : List Value} {h : iH} {Q : Option Value → iH → Prop} {n : Nat} {x : Int64} (hi : ino Y pc = some (.lload n, t)) (hl : ls[n]? = some (some (.long x))) (k : K G d kc ks Y t ls (.long x :: st) h Q) : K G d kc ks Y pc ls (st) h Q := by
  intro p e R s m args below meth c H locs z cells slots X hf hlo hc1 hc2 hL hH hS
  obtain rfl : t = pc + 2 := ino_n hi rfl
  exact lv_lload X.1 X.2.1 (ino_d hi) (hL.2.2 _ _ hl) (k p e R s m args below meth c H locs z cells slots X hf hlo hc1 hc2 hL hH hS)
theorem ks_aload_n {G : iG} {d kc ks : Nat} {Y : iM} {pc t : Nat} {ls : iL} {st : List Value} {h : iH} {Q : Option Value → iH → Prop} {n : Fin 4} {x : Nat} (hi : ino Y pc = some (.aload_n n, t)) (hl : ls[(n : Nat)]? = some (some (.ref x))) (k : K G d kc ks Y t ls (.ref x :: st) h Q) : K G d kc ks Y pc ls (st) h Q := by
  intro p e R s m args below meth c H locs z cells slots X hf hlo hc1 hc2 hL hH hS
  obtain rfl : t = pc + 1 := ino_n hi rfl
  exact lv_aload_n X.1 X.2.1 (ino_d hi) rfl (hL.2.2 _ _ hl) (k p e R s m args below meth c H locs z cells slots X hf hlo hc1 hc2 hL hH hS)
theorem ks_aload {G : iG} {d kc ks : Nat} {Y : iM} {pc t : Nat} {ls : iL} {st : List Value} {h : iH} {Q : Option Value → iH → Prop} {n : Nat} {x : Nat} (hi : ino Y pc = some (.aload n, t)) (hl : ls[n]? = some (some (.ref x))) (k : K G d kc ks Y t ls (.ref x :: st) h Q) : K G d kc ks Y pc ls (st) h Q := by
  intro p e R s m args below meth c H locs z cells slots X hf hlo hc1 hc2 hL hH hS
  obtain rfl : t = pc + 2 := ino_n hi rfl
  exact lv_aload X.1 X.2.1 (ino_d hi) (hL.2.2 _ _ hl) (k p e R s m args below meth c H locs z cells slots X hf hlo hc1 hc2 hL hH hS)
theorem ks_aload_nN {G : iG} {d kc ks : Nat} {Y : iM} {pc t : Nat} {ls : iL} {st : List Value} {h : iH} {Q : Option Value → iH → Prop} {n : Fin 4} (hi : ino Y pc = some (.aload_n n, t)) (hl : ls[(n : Nat)]? = some (some .null)) (k : K G d kc ks Y t ls (.null :: st) h Q) : K G d kc ks Y pc ls (st) h Q := by
  intro p e R s m args below meth c H locs z cells slots X hf hlo hc1 hc2 hL hH hS
  obtain rfl : t = pc + 1 := ino_n hi rfl
  exact lv_aload_nN X.1 X.2.1 (ino_d hi) rfl (hL.2.2 _ _ hl) (k p e R s m args below meth c H locs z cells slots X hf hlo hc1 hc2 hL hH hS)
theorem ks_aloadN {G : iG} {d kc ks : Nat} {Y : iM} {pc t : Nat} {ls : iL} {st : List Value} {h : iH} {Q : Option Value → iH → Prop} {n : Nat} (hi : ino Y pc = some (.aload n, t)) (hl : ls[n]? = some (some .null)) (k : K G d kc ks Y t ls (.null :: st) h Q) : K G d kc ks Y pc ls (st) h Q := by
  intro p e R s m args below meth c H locs z cells slots X hf hlo hc1 hc2 hL hH hS
  obtain rfl : t = pc + 2 := ino_n hi rfl
  exact lv_aloadN X.1 X.2.1 (ino_d hi) (hL.2.2 _ _ hl) (k p e R s m args below meth c H locs z cells slots X hf hlo hc1 hc2 hL hH hS)
theorem ks_iadd {G : iG} {d kc ks : Nat} {Y : iM} {pc t : Nat} {ls : iL} {st : List Value} {h : iH} {Q : Option Value → iH → Prop} {x y : Int32} (hi : ino Y pc = some (.iadd, t))  (k : K G d kc ks Y t ls (.int (x + y) :: st) h Q) : K G d kc ks Y pc ls (.int y :: .int x :: st) h Q := by
  intro p e R s m args below meth c H locs z cells slots X hf hlo hc1 hc2 hL hH hS
  obtain rfl : t = pc + 1 := ino_n hi rfl
  exact lv_iadd X.1 X.2.1 (ino_d hi) (k p e R s m args below meth c H locs z cells slots X hf hlo hc1 hc2 hL hH hS)
theorem ks_isub {G : iG} {d kc ks : Nat} {Y : iM} {pc t : Nat} {ls : iL} {st : List Value} {h : iH} {Q : Option Value → iH → Prop} {x y : Int32} (hi : ino Y pc = some (.isub, t))  (k : K G d kc ks Y t ls (.int (x - y) :: st) h Q) : K G d kc ks Y pc ls (.int y :: .int x :: st) h Q := by
  intro p e R s m args below meth c H locs z cells slots X hf hlo hc1 hc2 hL hH hS
  obtain rfl : t = pc + 1 := ino_n hi rfl
  exact lv_isub X.1 X.2.1 (ino_d hi) (k p e R s m args below meth c H locs z cells slots X hf hlo hc1 hc2 hL hH hS)
theorem ks_imul {G : iG} {d kc ks : Nat} {Y : iM} {pc t : Nat} {ls : iL} {st : List Value} {h : iH} {Q : Option Value → iH → Prop} {x y : Int32} (hi : ino Y pc = some (.imul, t))  (k : K G d kc ks Y t ls (.int (x * y) :: st) h Q) : K G d kc ks Y pc ls (.int y :: .int x :: st) h Q := by
  intro p e R s m args below meth c H locs z cells slots X hf hlo hc1 hc2 hL hH hS
  obtain rfl : t = pc + 1 := ino_n hi rfl
  exact lv_imul X.1 X.2.1 (ino_d hi) (k p e R s m args below meth c H locs z cells slots X hf hlo hc1 hc2 hL hH hS)
theorem ks_iand {G : iG} {d kc ks : Nat} {Y : iM} {pc t : Nat} {ls : iL} {st : List Value} {h : iH} {Q : Option Value → iH → Prop} {x y : Int32} (hi : ino Y pc = some (.iand, t))  (k : K G d kc ks Y t ls (.int (x &&& y) :: st) h Q) : K G d kc ks Y pc ls (.int y :: .int x :: st) h Q := by
  intro p e R s m args below meth c H locs z cells slots X hf hlo hc1 hc2 hL hH hS
  obtain rfl : t = pc + 1 := ino_n hi rfl
  exact lv_iand X.1 X.2.1 (ino_d hi) (k p e R s m args below meth c H locs z cells slots X hf hlo hc1 hc2 hL hH hS)
theorem ks_ior {G : iG} {d kc ks : Nat} {Y : iM} {pc t : Nat} {ls : iL} {st : List Value} {h : iH} {Q : Option Value → iH → Prop} {x y : Int32} (hi : ino Y pc = some (.ior, t))  (k : K G d kc ks Y t ls (.int (x ||| y) :: st) h Q) : K G d kc ks Y pc ls (.int y :: .int x :: st) h Q := by
  intro p e R s m args below meth c H locs z cells slots X hf hlo hc1 hc2 hL hH hS
  obtain rfl : t = pc + 1 := ino_n hi rfl
  exact lv_ior X.1 X.2.1 (ino_d hi) (k p e R s m args below meth c H locs z cells slots X hf hlo hc1 hc2 hL hH hS)
theorem ks_ixor {G : iG} {d kc ks : Nat} {Y : iM} {pc t : Nat} {ls : iL} {st : List Value} {h : iH} {Q : Option Value → iH → Prop} {x y : Int32} (hi : ino Y pc = some (.ixor, t))  (k : K G d kc ks Y t ls (.int (x ^^^ y) :: st) h Q) : K G d kc ks Y pc ls (.int y :: .int x :: st) h Q := by
  intro p e R s m args below meth c H locs z cells slots X hf hlo hc1 hc2 hL hH hS
  obtain rfl : t = pc + 1 := ino_n hi rfl
  exact lv_ixor X.1 X.2.1 (ino_d hi) (k p e R s m args below meth c H locs z cells slots X hf hlo hc1 hc2 hL hH hS)
theorem ks_ishl {G : iG} {d kc ks : Nat} {Y : iM} {pc t : Nat} {ls : iL} {st : List Value} {h : iH} {Q : Option Value → iH → Prop} {x y : Int32} (hi : ino Y pc = some (.ishl, t))  (k : K G d kc ks Y t ls (.int (x <<< (y &&& 31)) :: st) h Q) : K G d kc ks Y pc ls (.int y :: .int x :: st) h Q := by
  intro p e R s m args below meth c H locs z cells slots X hf hlo hc1 hc2 hL hH hS
  obtain rfl : t = pc + 1 := ino_n hi rfl
  exact lv_ishl X.1 X.2.1 (ino_d hi) (k p e R s m args below meth c H locs z cells slots X hf hlo hc1 hc2 hL hH hS)
theorem ks_ishr {G : iG} {d kc ks : Nat} {Y : iM} {pc t : Nat} {ls : iL} {st : List Value} {h : iH} {Q : Option Value → iH → Prop} {x y : Int32} (hi : ino Y pc = some (.ishr, t))  (k : K G d kc ks Y t ls (.int (x >>> (y &&& 31)) :: st) h Q) : K G d kc ks Y pc ls (.int y :: .int x :: st) h Q := by
  intro p e R s m args below meth c H locs z cells slots X hf hlo hc1 hc2 hL hH hS
  obtain rfl : t = pc + 1 := ino_n hi rfl
  exact lv_ishr X.1 X.2.1 (ino_d hi) (k p e R s m args below meth c H locs z cells slots X hf hlo hc1 hc2 hL hH hS)
theorem ks_idiv {G : iG} {d kc ks : Nat} {Y : iM} {pc t : Nat} {ls : iL} {st : List Value} {h : iH} {Q : Option Value → iH → Prop} {x y : Int32} (hi : ino Y pc = some (.idiv, t)) (hne : ¬ y = 0) (k : K G d kc ks Y t ls (.int (x / y) :: st) h Q) : K G d kc ks Y pc ls (.int y :: .int x :: st) h Q := by
  intro p e R s m args below meth c H locs z cells slots X hf hlo hc1 hc2 hL hH hS
  obtain rfl : t = pc + 1 := ino_n hi rfl
  exact lv_idiv X.1 X.2.1 (ino_d hi) hne (k p e R s m args below meth c H locs z cells slots X hf hlo hc1 hc2 hL hH hS)
theorem ks_irem {G : iG} {d kc ks : Nat} {Y : iM} {pc t : Nat} {ls : iL} {st : List Value} {h : iH} {Q : Option Value → iH → Prop} {x y : Int32} (hi : ino Y pc = some (.irem, t)) (hne : ¬ y = 0) (k : K G d kc ks Y t ls (.int (x - x / y * y) :: st) h Q) : K G d kc ks Y pc ls (.int y :: .int x :: st) h Q := by
  intro p e R s m args below meth c H locs z cells slots X hf hlo hc1 hc2 hL hH hS
  obtain rfl : t = pc + 1 := ino_n hi rfl
  exact lv_irem X.1 X.2.1 (ino_d hi) hne (k p e R s m args below meth c H locs z cells slots X hf hlo hc1 hc2 hL hH hS)
theorem ks_iushr {G : iG} {d kc ks : Nat} {Y : iM} {pc t : Nat} {ls : iL} {st : List Value} {h : iH} {Q : Option Value → iH → Prop} {x y : Int32} (hi : ino Y pc = some (.iushr, t))  (k : K G d kc ks Y t ls (.int (x.toUInt32 >>> (y.toUInt32 &&& Int32.toUInt32 31)).toInt32 :: st) h Q) : K G d kc ks Y pc ls (.int y :: .int x :: st) h Q := by
  intro p e R s m args below meth c H locs z cells slots X hf hlo hc1 hc2 hL hH hS
  obtain rfl : t = pc + 1 := ino_n hi rfl
  exact lv_iushr X.1 X.2.1 (ino_d hi) rfl (k p e R s m args below meth c H locs z cells slots X hf hlo hc1 hc2 hL hH hS)
theorem ks_ineg {G : iG} {d kc ks : Nat} {Y : iM} {pc t : Nat} {ls : iL} {st : List Value} {h : iH} {Q : Option Value → iH → Prop} {x : Int32} (hi : ino Y pc = some (.ineg, t))  (k : K G d kc ks Y t ls (.int (-x) :: st) h Q) : K G d kc ks Y pc ls (.int x :: st) h Q := by
  intro p e R s m args below meth c H locs z cells slots X hf hlo hc1 hc2 hL hH hS
  obtain rfl : t = pc + 1 := ino_n hi rfl
  exact lv_ineg X.1 X.2.1 (ino_d hi) (k p e R s m args below meth c H locs z cells slots X hf hlo hc1 hc2 hL hH hS)
theorem ks_land {G : iG} {d kc ks : Nat} {Y : iM} {pc t : Nat} {ls : iL} {st : List Value} {h : iH} {Q : Option Value → iH → Prop} {x y : Int64} (hi : ino Y pc = some (.land, t))  (k : K G d kc ks Y t ls (.long (x &&& y) :: st) h Q) : K G d kc ks Y pc ls (.long y :: .long x :: st) h Q := by
  intro p e R s m args below meth c H locs z cells slots X hf hlo hc1 hc2 hL hH hS
  obtain rfl : t = pc + 1 := ino_n hi rfl
  exact lv_land X.1 X.2.1 (ino_d hi) (k p e R s m args below meth c H locs z cells slots X hf hlo hc1 hc2 hL hH hS)
theorem ks_lor {G : iG} {d kc ks : Nat} {Y : iM} {pc t : Nat} {ls : iL} {st : List Value} {h : iH} {Q : Option Value → iH → Prop} {x y : Int64} (hi : ino Y pc = some (.lor, t))  (k : K G d kc ks Y t ls (.long (x ||| y) :: st) h Q) : K G d kc ks Y pc ls (.long y :: .long x :: st) h Q := by
  intro p e R s m args below meth c H locs z cells slots X hf hlo hc1 hc2 hL hH hS
  obtain rfl : t = pc + 1 := ino_n hi rfl
  exact lv_lor X.1 X.2.1 (ino_d hi) (k p e R s m args below meth c H locs z cells slots X hf hlo hc1 hc2 hL hH hS)
theorem ks_lushr {G : iG} {d kc ks : Nat} {Y : iM} {pc t : Nat} {ls : iL} {st : List Value} {h : iH} {Q : Option Value → iH → Prop} {x : Int64} {y : Int32} (hi : ino Y pc = some (.lushr, t))  (k : K G d kc ks Y t ls (.long (x.toUInt64 >>> (y.toInt64.toUInt64 &&& Int64.toUInt64 63)).toInt64 :: st) h Q) : K G d kc ks Y pc ls (.int y :: .long x :: st) h Q := by
  intro p e R s m args below meth c H locs z cells slots X hf hlo hc1 hc2 hL hH hS
  obtain rfl : t = pc + 1 := ino_n hi rfl
  exact lv_lushr X.1 X.2.1 (ino_d hi) rfl (k p e R s m args below meth c H locs z cells slots X hf hlo hc1 hc2 hL hH hS)
theorem ks_lshl {G : iG} {d kc ks : Nat} {Y : iM} {pc t : Nat} {ls : iL} {st : List Value} {h : iH} {Q : Option Value → iH → Prop} {x : Int64} {y : Int32} (hi : ino Y pc = some (.lshl, t))  (k : K G d kc ks Y t ls (.long (x <<< (y.toInt64 &&& 63)) :: st) h Q) : K G d kc ks Y pc ls (.int y :: .long x :: st) h Q := by
  intro p e R s m args below meth c H locs z cells slots X hf hlo hc1 hc2 hL hH hS
  obtain rfl : t = pc + 1 := ino_n hi rfl
  exact lv_lshl X.1 X.2.1 (ino_d hi) rfl (k p e R s m args below meth c H locs z cells slots X hf hlo hc1 hc2 hL hH hS)
theorem ks_lshr {G : iG} {d kc ks : Nat} {Y : iM} {pc t : Nat} {ls : iL} {st : List Value} {h : iH} {Q : Option Value → iH → Prop} {x : Int64} {y : Int32} (hi : ino Y pc = some (.lshr, t))  (k : K G d kc ks Y t ls (.long (x >>> (y.toInt64 &&& 63)) :: st) h Q) : K G d kc ks Y pc ls (.int y :: .long x :: st) h Q := by
  intro p e R s m args below meth c H locs z cells slots X hf hlo hc1 hc2 hL hH hS
  obtain rfl : t = pc + 1 := ino_n hi rfl
  exact lv_lshr X.1 X.2.1 (ino_d hi) rfl (k p e R s m args below meth c H locs z cells slots X hf hlo hc1 hc2 hL hH hS)
theorem ks_i2l {G : iG} {d kc ks : Nat} {Y : iM} {pc t : Nat} {ls : iL} {st : List Value} {h : iH} {Q : Option Value → iH → Prop} {x : Int32} (hi : ino Y pc = some (.i2l, t))  (k : K G d kc ks Y t ls (.long x.toInt64 :: st) h Q) : K G d kc ks Y pc ls (.int x :: st) h Q := by
  intro p e R s m args below meth c H locs z cells slots X hf hlo hc1 hc2 hL hH hS
  obtain rfl : t = pc + 1 := ino_n hi rfl
  exact lv_i2l X.1 X.2.1 (ino_d hi) rfl (k p e R s m args below meth c H locs z cells slots X hf hlo hc1 hc2 hL hH hS)
theorem ks_l2i {G : iG} {d kc ks : Nat} {Y : iM} {pc t : Nat} {ls : iL} {st : List Value} {h : iH} {Q : Option Value → iH → Prop} {x : Int64} (hi : ino Y pc = some (.l2i, t))  (k : K G d kc ks Y t ls (.int x.toInt32 :: st) h Q) : K G d kc ks Y pc ls (.long x :: st) h Q := by
  intro p e R s m args below meth c H locs z cells slots X hf hlo hc1 hc2 hL hH hS
  obtain rfl : t = pc + 1 := ino_n hi rfl
  exact lv_l2i X.1 X.2.1 (ino_d hi) rfl (k p e R s m args below meth c H locs z cells slots X hf hlo hc1 hc2 hL hH hS)
theorem ks_i2b {G : iG} {d kc ks : Nat} {Y : iM} {pc t : Nat} {ls : iL} {st : List Value} {h : iH} {Q : Option Value → iH → Prop} {x : Int32} (hi : ino Y pc = some (.i2b, t))  (k : K G d kc ks Y t ls (.int x.toInt8.toInt32 :: st) h Q) : K G d kc ks Y pc ls (.int x :: st) h Q := by
  intro p e R s m args below meth c H locs z cells slots X hf hlo hc1 hc2 hL hH hS
  obtain rfl : t = pc + 1 := ino_n hi rfl
  exact lv_i2b X.1 X.2.1 (ino_d hi) rfl (k p e R s m args below meth c H locs z cells slots X hf hlo hc1 hc2 hL hH hS)
theorem ks_lcmp {G : iG} {d kc ks : Nat} {Y : iM} {pc t : Nat} {ls : iL} {st : List Value} {h : iH} {Q : Option Value → iH → Prop} {x y : Int64} (hi : ino Y pc = some (.lcmp, t))  (k : K G d kc ks Y t ls (.int (lg_cmp x y) :: st) h Q) : K G d kc ks Y pc ls (.long y :: .long x :: st) h Q := by
  intro p e R s m args below meth c H locs z cells slots X hf hlo hc1 hc2 hL hH hS
  obtain rfl : t = pc + 1 := ino_n hi rfl
  exact W.lcmp X.1 X.2.1 (ino_d hi) (k p e R s m args below meth c H locs z cells slots X hf hlo hc1 hc2 hL hH hS)
theorem ks_dup {G : iG} {d kc ks : Nat} {Y : iM} {pc t : Nat} {ls : iL} {st : List Value} {h : iH} {Q : Option Value → iH → Prop} {v : Value} (hi : ino Y pc = some (.dup, t)) (hv : v.category = 1) (k : K G d kc ks Y t ls (v :: v :: st) h Q) : K G d kc ks Y pc ls (v :: st) h Q := by
  intro p e R s m args below meth c H locs z cells slots X hf hlo hc1 hc2 hL hH hS
  obtain rfl : t = pc + 1 := ino_n hi rfl
  exact lv_dup X.1 X.2.1 (ino_d hi) hv (k p e R s m args below meth c H locs z cells slots X hf hlo hc1 hc2 hL hH hS)
theorem ks_pop {G : iG} {d kc ks : Nat} {Y : iM} {pc t : Nat} {ls : iL} {st : List Value} {h : iH} {Q : Option Value → iH → Prop} {v : Value} (hi : ino Y pc = some (.pop, t)) (hv : v.category = 1) (k : K G d kc ks Y t ls (st) h Q) : K G d kc ks Y pc ls (v :: st) h Q := by
  intro p e R s m args below meth c H locs z cells slots X hf hlo hc1 hc2 hL hH hS
  obtain rfl : t = pc + 1 := ino_n hi rfl
  exact lv_pop X.1 X.2.1 (ino_d hi) hv (k p e R s m args below meth c H locs z cells slots X hf hlo hc1 hc2 hL hH hS)
theorem ks_dup2_11 {G : iG} {d kc ks : Nat} {Y : iM} {pc t : Nat} {ls : iL} {st : List Value} {h : iH} {Q : Option Value → iH → Prop} {v w : Value} (hi : ino Y pc = some (.dup2, t)) (hv : v.category = 1) (hw : w.category = 1) (k : K G d kc ks Y t ls (v :: w :: v :: w :: st) h Q) : K G d kc ks Y pc ls (v :: w :: st) h Q := by
  intro p e R s m args below meth c H locs z cells slots X hf hlo hc1 hc2 hL hH hS
  obtain rfl : t = pc + 1 := ino_n hi rfl
  exact lv_dup2_11 X.1 X.2.1 (ino_d hi) hv hw (k p e R s m args below meth c H locs z cells slots X hf hlo hc1 hc2 hL hH hS)
theorem ks_istore_n {G : iG} {d kc ks : Nat} {Y : iM} {pc t : Nat} {ls : iL} {st : List Value} {h : iH} {Q : Option Value → iH → Prop} {n : Fin 4} {x : Int32} (hi : ino Y pc = some (.istore_n n, t)) (hn : (n : Nat) < Y.2.2.1) (k : K G d kc ks Y t (iS1 ls (n : Nat) (.int x)) st h Q) : K G d kc ks Y pc ls (.int x :: st) h Q := by
  intro p e R s m args below meth c H locs z cells slots X hf hlo hc1 hc2 hL hH hS
  obtain rfl : t = pc + 1 := ino_n hi rfl
  exact lv_istore_n X.1 X.2.1 (ino_d hi) rfl hL.has hn rfl (fun z' hz => k p e R s m args below meth c H locs z' cells slots X hf hlo hc1 hc2 (iS1_ok hz) hH hS)
theorem ks_istore {G : iG} {d kc ks : Nat} {Y : iM} {pc t : Nat} {ls : iL} {st : List Value} {h : iH} {Q : Option Value → iH → Prop} {n : Nat} {x : Int32} (hi : ino Y pc = some (.istore n, t)) (hn : n < Y.2.2.1) (k : K G d kc ks Y t (iS1 ls n (.int x)) st h Q) : K G d kc ks Y pc ls (.int x :: st) h Q := by
  intro p e R s m args below meth c H locs z cells slots X hf hlo hc1 hc2 hL hH hS
  obtain rfl : t = pc + 2 := ino_n hi rfl
  exact lv_istore X.1 X.2.1 (ino_d hi) hL.has hn rfl (fun z' hz => k p e R s m args below meth c H locs z' cells slots X hf hlo hc1 hc2 (iS1_ok hz) hH hS)
theorem ks_astore_n {G : iG} {d kc ks : Nat} {Y : iM} {pc t : Nat} {ls : iL} {st : List Value} {h : iH} {Q : Option Value → iH → Prop} {n : Fin 4} {x : Nat} (hi : ino Y pc = some (.astore_n n, t)) (hn : (n : Nat) < Y.2.2.1) (k : K G d kc ks Y t (iS1 ls (n : Nat) (.ref x)) st h Q) : K G d kc ks Y pc ls (.ref x :: st) h Q := by
  intro p e R s m args below meth c H locs z cells slots X hf hlo hc1 hc2 hL hH hS
  obtain rfl : t = pc + 1 := ino_n hi rfl
  exact lv_astore_n X.1 X.2.1 (ino_d hi) rfl hL.has hn rfl (fun z' hz => k p e R s m args below meth c H locs z' cells slots X hf hlo hc1 hc2 (iS1_ok hz) hH hS)
theorem ks_astore {G : iG} {d kc ks : Nat} {Y : iM} {pc t : Nat} {ls : iL} {st : List Value} {h : iH} {Q : Option Value → iH → Prop} {n : Nat} {x : Nat} (hi : ino Y pc = some (.astore n, t)) (hn : n < Y.2.2.1) (k : K G d kc ks Y t (iS1 ls n (.ref x)) st h Q) : K G d kc ks Y pc ls (.ref x :: st) h Q := by
  intro p e R s m args below meth c H locs z cells slots X hf hlo hc1 hc2 hL hH hS
  obtain rfl : t = pc + 2 := ino_n hi rfl
  exact lv_astore X.1 X.2.1 (ino_d hi) hL.has hn rfl (fun z' hz => k p e R s m args below meth c H locs z' cells slots X hf hlo hc1 hc2 (iS1_ok hz) hH hS)
theorem ks_astore_nN {G : iG} {d kc ks : Nat} {Y : iM} {pc t : Nat} {ls : iL} {st : List Value} {h : iH} {Q : Option Value → iH → Prop} {n : Fin 4} (hi : ino Y pc = some (.astore_n n, t)) (hn : (n : Nat) < Y.2.2.1) (k : K G d kc ks Y t (iS1 ls (n : Nat) .null) st h Q) : K G d kc ks Y pc ls (.null :: st) h Q := by
  intro p e R s m args below meth c H locs z cells slots X hf hlo hc1 hc2 hL hH hS
  obtain rfl : t = pc + 1 := ino_n hi rfl
  exact lv_astore_nN X.1 X.2.1 (ino_d hi) rfl hL.has hn rfl (fun z' hz => k p e R s m args below meth c H locs z' cells slots X hf hlo hc1 hc2 (iS1_ok hz) hH hS)
theorem ks_lstore_n {G : iG} {d kc ks : Nat} {Y : iM} {pc t : Nat} {ls : iL} {st : List Value} {h : iH} {Q : Option Value → iH → Prop} {n : Fin 4} {x : Int64} (hi : ino Y pc = some (.lstore_n n, t)) (hn : (n : Nat) + 1 < Y.2.2.1) (k : K G d kc ks Y t (iS2 ls (n : Nat) (.long x)) st h Q) : K G d kc ks Y pc ls (.long x :: st) h Q := by
  intro p e R s m args below meth c H locs z cells slots X hf hlo hc1 hc2 hL hH hS
  obtain rfl : t = pc + 1 := ino_n hi rfl
  exact lv_lstore_n X.1 X.2.1 (ino_d hi) rfl hL.has hn rfl (fun z' hz => k p e R s m args below meth c H locs z' cells slots X hf hlo hc1 hc2 (iS2_ok hz) hH hS)
theorem ks_astoreN {G : iG} {d kc ks : Nat} {Y : iM} {pc t : Nat} {ls : iL} {st : List Value} {h : iH} {Q : Option Value → iH → Prop} {n : Nat} (hi : ino Y pc = some (.astore n, t)) (hn : n < Y.2.2.1) (k : K G d kc ks Y t (iS1 ls n .null) st h Q) : K G d kc ks Y pc ls (.null :: st) h Q := by
  intro p e R s m args below meth c H locs z cells slots X hf hlo hc1 hc2 hL hH hS
  obtain rfl : t = pc + 2 := ino_n hi rfl
  exact lv_astoreN X.1 X.2.1 (ino_d hi) hL.has hn rfl (fun z' hz => k p e R s m args below meth c H locs z' cells slots X hf hlo hc1 hc2 (iS1_ok hz) hH hS)
theorem ks_lstore {G : iG} {d kc ks : Nat} {Y : iM} {pc t : Nat} {ls : iL} {st : List Value} {h : iH} {Q : Option Value → iH → Prop} {n : Nat} {x : Int64} (hi : ino Y pc = some (.lstore n, t)) (hn : n + 1 < Y.2.2.1) (k : K G d kc ks Y t (iS2 ls n (.long x)) st h Q) : K G d kc ks Y pc ls (.long x :: st) h Q := by
  intro p e R s m args below meth c H locs z cells slots X hf hlo hc1 hc2 hL hH hS
  obtain rfl : t = pc + 2 := ino_n hi rfl
  exact lv_lstore X.1 X.2.1 (ino_d hi) hL.has hn rfl (fun z' hz => k p e R s m args below meth c H locs z' cells slots X hf hlo hc1 hc2 (iS2_ok hz) hH hS)
theorem ks_iinc {G : iG} {d kc ks : Nat} {Y : iM} {pc t : Nat} {ls : iL} {st : List Value} {h : iH} {Q : Option Value → iH → Prop} {n : Nat} {q : Int} {x : Int32} (hi : ino Y pc = some (.iinc n q, t)) (hl : ls[n]? = some (some (.int x))) (hn : n < Y.2.2.1) (k : K G d kc ks Y t (iS1 ls n (.int (x + Int32.ofInt q))) st h Q) : K G d kc ks Y pc ls st h Q := by
  intro p e R s m args below meth c H locs z cells slots X hf hlo hc1 hc2 hL hH hS
  obtain rfl : t = pc + 3 := ino_n hi rfl
  obtain ⟨j, hj⟩ := List.getElem?_of_mem (iLv_mem.mpr hl)
  exact lv_iinc X.1 X.2.1 (ino_d hi) hL.has hj rfl hn rfl (fun z' hz => k p e R s m args below meth c H locs z' cells slots X hf hlo hc1 hc2 (iS1_ok hz) hH hS)
theorem ks_goto {G : iG} {d kc ks : Nat} {Y : iM} {pc t : Nat} {ls : iL} {st : List Value} {h : iH} {Q : Option Value → iH → Prop} {q : Int} (hi : ino Y pc = some (.goto q, t)) (k : K G d kc ks Y t ls st h Q) : K G d kc ks Y pc ls st h Q := by
  intro p e R s m args below meth c H locs z cells slots X hf hlo hc1 hc2 hL hH hS
  exact lv_goto X.1 X.2.1 (ino_d hi) (ino_j hi rfl) (k p e R s m args below meth c H locs z cells slots X hf hlo hc1 hc2 hL hH hS)
theorem ks_icmp_eq {G : iG} {d kc ks : Nat} {Y : iM} {pc t : Nat} {ls : iL} {st : List Value} {h : iH} {Q : Option Value → iH → Prop} {q : Int} {x y : Int32} (hi : ino Y pc = some (.if_icmp .eq q, t)) (k1 : x = y → K G d kc ks Y t ls st h Q) (k2 : ¬ x = y → K G d kc ks Y (pc + 3) ls st h Q) : K G d kc ks Y pc ls (.int y :: .int x :: st) h Q := by
  intro p e R s m args below meth c H locs z cells slots X hf hlo hc1 hc2 hL hH hS
  exact lv_icmp_eq X.1 X.2.1 (ino_d hi) (ino_j hi rfl) (fun g => k1 g p e R s m args below meth c H locs z cells slots X hf hlo hc1 hc2 hL hH hS) (fun g => k2 g p e R s m args below meth c H locs z cells slots X hf hlo hc1 hc2 hL hH hS)
theorem ks_icmp_ne {G : iG} {d kc ks : Nat} {Y : iM} {pc t : Nat} {ls : iL} {st : List Value} {h : iH} {Q : Option Value → iH → Prop} {q : Int} {x y : Int32} (hi : ino Y pc = some (.if_icmp .ne q, t)) (k1 : ¬ x = y → K G d kc ks Y t ls st h Q) (k2 : x = y → K G d kc ks Y (pc + 3) ls st h Q) : K G d kc ks Y pc ls (.int y :: .int x :: st) h Q := by
  intro p e R s m args below meth c H locs z cells slots X hf hlo hc1 hc2 hL hH hS
  exact lv_icmp_ne X.1 X.2.1 (ino_d hi) (ino_j hi rfl) (fun g => k1 g p e R s m args below meth c H locs z cells slots X hf hlo hc1 hc2 hL hH hS) (fun g => k2 g p e R s m args below meth c H locs z cells slots X hf hlo hc1 hc2 hL hH hS)
theorem ks_icmp_lt {G : iG} {d kc ks : Nat} {Y : iM} {pc t : Nat} {ls : iL} {st : List Value} {h : iH} {Q : Option Value → iH → Prop} {q : Int} {x y : Int32} (hi : ino Y pc = some (.if_icmp .lt q, t)) (k1 : x < y → K G d kc ks Y t ls st h Q) (k2 : ¬ x < y → K G d kc ks Y (pc + 3) ls st h Q) : K G d kc ks Y pc ls (.int y :: .int x :: st) h Q := by
  intro p e R s m args below meth c H locs z cells slots X hf hlo hc1 hc2 hL hH hS
  exact lv_icmp_lt X.1 X.2.1 (ino_d hi) (ino_j hi rfl) (fun g => k1 g p e R s m args below meth c H locs z cells slots X hf hlo hc1 hc2 hL hH hS) (fun g => k2 g p e R s m args below meth c H locs z cells slots X hf hlo hc1 hc2 hL hH hS)
theorem ks_icmp_ge {G : iG} {d kc ks : Nat} {Y : iM} {pc t : Nat} {ls : iL} {st : List Value} {h : iH} {Q : Option Value → iH → Prop} {q : Int} {x y : Int32} (hi : ino Y pc = some (.if_icmp .ge q, t)) (k1 : y ≤ x → K G d kc ks Y t ls st h Q) (k2 : ¬ y ≤ x → K G d kc ks Y (pc + 3) ls st h Q) : K G d kc ks Y pc ls (.int y :: .int x :: st) h Q := by
  intro p e R s m args below meth c H locs z cells slots X hf hlo hc1 hc2 hL hH hS
  exact lv_icmp_ge X.1 X.2.1 (ino_d hi) (ino_j hi rfl) (fun g => k1 g p e R s m args below meth c H locs z cells slots X hf hlo hc1 hc2 hL hH hS) (fun g => k2 g p e R s m args below meth c H locs z cells slots X hf hlo hc1 hc2 hL hH hS)
theorem ks_icmp_gt {G : iG} {d kc ks : Nat} {Y : iM} {pc t : Nat} {ls : iL} {st : List Value} {h : iH} {Q : Option Value → iH → Prop} {q : Int} {x y : Int32} (hi : ino Y pc = some (.if_icmp .gt q, t)) (k1 : y < x → K G d kc ks Y t ls st h Q) (k2 : ¬ y < x → K G d kc ks Y (pc + 3) ls st h Q) : K G d kc ks Y pc ls (.int y :: .int x :: st) h Q := by
  intro p e R s m args below meth c H locs z cells slots X hf hlo hc1 hc2 hL hH hS
  exact lv_icmp_gt X.1 X.2.1 (ino_d hi) (ino_j hi rfl) (fun g => k1 g p e R s m args below meth c H locs z cells slots X hf hlo hc1 hc2 hL hH hS) (fun g => k2 g p e R s m args below meth c H locs z cells slots X hf hlo hc1 hc2 hL hH hS)
theorem ks_icmp_le {G : iG} {d kc ks : Nat} {Y : iM} {pc t : Nat} {ls : iL} {st : List Value} {h : iH} {Q : Option Value → iH → Prop} {q : Int} {x y : Int32} (hi : ino Y pc = some (.if_icmp .le q, t)) (k1 : x ≤ y → K G d kc ks Y t ls st h Q) (k2 : ¬ x ≤ y → K G d kc ks Y (pc + 3) ls st h Q) : K G d kc ks Y pc ls (.int y :: .int x :: st) h Q := by
  intro p e R s m args below meth c H locs z cells slots X hf hlo hc1 hc2 hL hH hS
  exact lv_icmp_le X.1 X.2.1 (ino_d hi) (ino_j hi rfl) (fun g => k1 g p e R s m args below meth c H locs z cells slots X hf hlo hc1 hc2 hL hH hS) (fun g => k2 g p e R s m args below meth c H locs z cells slots X hf hlo hc1 hc2 hL hH hS)
theorem ks_if_eq {G : iG} {d kc ks : Nat} {Y : iM} {pc t : Nat} {ls : iL} {st : List Value} {h : iH} {Q : Option Value → iH → Prop} {q : Int} {x : Int32} (hi : ino Y pc = some (.ifCond .eq q, t)) (k1 : x = 0 → K G d kc ks Y t ls st h Q) (k2 : ¬ x = 0 → K G d kc ks Y (pc + 3) ls st h Q) : K G d kc ks Y pc ls (.int x :: st) h Q := by
  intro p e R s m args below meth c H locs z cells slots X hf hlo hc1 hc2 hL hH hS
  exact lv_if_eq X.1 X.2.1 (ino_d hi) (ino_j hi rfl) (fun g => k1 g p e R s m args below meth c H locs z cells slots X hf hlo hc1 hc2 hL hH hS) (fun g => k2 g p e R s m args below meth c H locs z cells slots X hf hlo hc1 hc2 hL hH hS)
theorem ks_if_ne {G : iG} {d kc ks : Nat} {Y : iM} {pc t : Nat} {ls : iL} {st : List Value} {h : iH} {Q : Option Value → iH → Prop} {q : Int} {x : Int32} (hi : ino Y pc = some (.ifCond .ne q, t)) (k1 : ¬ x = 0 → K G d kc ks Y t ls st h Q) (k2 : x = 0 → K G d kc ks Y (pc + 3) ls st h Q) : K G d kc ks Y pc ls (.int x :: st) h Q := by
  intro p e R s m args below meth c H locs z cells slots X hf hlo hc1 hc2 hL hH hS
  exact lv_if_ne X.1 X.2.1 (ino_d hi) (ino_j hi rfl) (fun g => k1 g p e R s m args below meth c H locs z cells slots X hf hlo hc1 hc2 hL hH hS) (fun g => k2 g p e R s m args below meth c H locs z cells slots X hf hlo hc1 hc2 hL hH hS)
theorem ks_if_lt {G : iG} {d kc ks : Nat} {Y : iM} {pc t : Nat} {ls : iL} {st : List Value} {h : iH} {Q : Option Value → iH → Prop} {q : Int} {x : Int32} (hi : ino Y pc = some (.ifCond .lt q, t)) (k1 : x < 0 → K G d kc ks Y t ls st h Q) (k2 : ¬ x < 0 → K G d kc ks Y (pc + 3) ls st h Q) : K G d kc ks Y pc ls (.int x :: st) h Q := by
  intro p e R s m args below meth c H locs z cells slots X hf hlo hc1 hc2 hL hH hS
  exact lv_if_lt X.1 X.2.1 (ino_d hi) (ino_j hi rfl) (fun g => k1 g p e R s m args below meth c H locs z cells slots X hf hlo hc1 hc2 hL hH hS) (fun g => k2 g p e R s m args below meth c H locs z cells slots X hf hlo hc1 hc2 hL hH hS)
theorem ks_if_ge {G : iG} {d kc ks : Nat} {Y : iM} {pc t : Nat} {ls : iL} {st : List Value} {h : iH} {Q : Option Value → iH → Prop} {q : Int} {x : Int32} (hi : ino Y pc = some (.ifCond .ge q, t)) (k1 : 0 ≤ x → K G d kc ks Y t ls st h Q) (k2 : ¬ 0 ≤ x → K G d kc ks Y (pc + 3) ls st h Q) : K G d kc ks Y pc ls (.int x :: st) h Q := by
  intro p e R s m args below meth c H locs z cells slots X hf hlo hc1 hc2 hL hH hS
  exact lv_if_ge X.1 X.2.1 (ino_d hi) (ino_j hi rfl) (fun g => k1 g p e R s m args below meth c H locs z cells slots X hf hlo hc1 hc2 hL hH hS) (fun g => k2 g p e R s m args below meth c H locs z cells slots X hf hlo hc1 hc2 hL hH hS)
theorem ks_if_gt {G : iG} {d kc ks : Nat} {Y : iM} {pc t : Nat} {ls : iL} {st : List Value} {h : iH} {Q : Option Value → iH → Prop} {q : Int} {x : Int32} (hi : ino Y pc = some (.ifCond .gt q, t)) (k1 : 0 < x → K G d kc ks Y t ls st h Q) (k2 : ¬ 0 < x → K G d kc ks Y (pc + 3) ls st h Q) : K G d kc ks Y pc ls (.int x :: st) h Q := by
  intro p e R s m args below meth c H locs z cells slots X hf hlo hc1 hc2 hL hH hS
  exact lv_if_gt X.1 X.2.1 (ino_d hi) (ino_j hi rfl) (fun g => k1 g p e R s m args below meth c H locs z cells slots X hf hlo hc1 hc2 hL hH hS) (fun g => k2 g p e R s m args below meth c H locs z cells slots X hf hlo hc1 hc2 hL hH hS)
theorem ks_if_le {G : iG} {d kc ks : Nat} {Y : iM} {pc t : Nat} {ls : iL} {st : List Value} {h : iH} {Q : Option Value → iH → Prop} {q : Int} {x : Int32} (hi : ino Y pc = some (.ifCond .le q, t)) (k1 : x ≤ 0 → K G d kc ks Y t ls st h Q) (k2 : ¬ x ≤ 0 → K G d kc ks Y (pc + 3) ls st h Q) : K G d kc ks Y pc ls (.int x :: st) h Q := by
  intro p e R s m args below meth c H locs z cells slots X hf hlo hc1 hc2 hL hH hS
  exact lv_if_le X.1 X.2.1 (ino_d hi) (ino_j hi rfl) (fun g => k1 g p e R s m args below meth c H locs z cells slots X hf hlo hc1 hc2 hL hH hS) (fun g => k2 g p e R s m args below meth c H locs z cells slots X hf hlo hc1 hc2 hL hH hS)
theorem ks_acmp_ne {G : iG} {d kc ks : Nat} {Y : iM} {pc t : Nat} {ls : iL} {st : List Value} {h : iH} {Q : Option Value → iH → Prop} {q : Int} {rx ry : Option Nat} (hi : ino Y pc = some (.if_acmp .ne q, t)) (k1 : ¬ rx = ry → K G d kc ks Y t ls st h Q) (k2 : rx = ry → K G d kc ks Y (pc + 3) ls st h Q) : K G d kc ks Y pc ls (va_rf ry :: va_rf rx :: st) h Q := by
  intro p e R s m args below meth c H locs z cells slots X hf hlo hc1 hc2 hL hH hS
  exact lv_acmp_ne X.1 X.2.1 (ino_d hi) (ino_j hi rfl) (fun g => k1 g p e R s m args below meth c H locs z cells slots X hf hlo hc1 hc2 hL hH hS) (fun g => k2 g p e R s m args below meth c H locs z cells slots X hf hlo hc1 hc2 hL hH hS)
theorem ks_ifnonnull {G : iG} {d kc ks : Nat} {Y : iM} {pc t : Nat} {ls : iL} {st : List Value} {h : iH} {Q : Option Value → iH → Prop} {q : Int} {a : Nat} (hi : ino Y pc = some (.ifnonnull q, t)) (k : K G d kc ks Y t ls st h Q) : K G d kc ks Y pc ls (.ref a :: st) h Q := by
  intro p e R s m args below meth c H locs z cells slots X hf hlo hc1 hc2 hL hH hS
  exact lv_ifnonnull X.1 X.2.1 (ino_d hi) (ino_j hi rfl) (k p e R s m args below meth c H locs z cells slots X hf hlo hc1 hc2 hL hH hS)
theorem ks_ifnonnullN {G : iG} {d kc ks : Nat} {Y : iM} {pc t : Nat} {ls : iL} {st : List Value} {h : iH} {Q : Option Value → iH → Prop} {q : Int} (hi : ino Y pc = some (.ifnonnull q, t)) (k : K G d kc ks Y (pc + 3) ls st h Q) : K G d kc ks Y pc ls (.null :: st) h Q := by
  intro p e R s m args below meth c H locs z cells slots X hf hlo hc1 hc2 hL hH hS
  exact lv_ifnonnullN X.1 X.2.1 (ino_d hi) (k p e R s m args below meth c H locs z cells slots X hf hlo hc1 hc2 hL hH hS)
theorem ks_ireturn {G : iG} {d kc ks : Nat} {Y : iM} {pc t : Nat} {ls : iL} {st : List Value} {h : iH} {Q : Option Value → iH → Prop} {ty : FieldType} {v : Int32} (hi : ino Y pc = some (.ireturn, t)) (hr : Y.2.2.2 = some ty) (hn : narrow ty (.int v) = .int v) (k : Q (some (.int v)) h) : K G d kc ks Y pc ls [.int v] h Q := by
  intro p e R s m args below meth c H locs z cells slots X hf hlo hc1 hc2 hL hH hS
  have hlk : meth.locks = false := X.2.2.2.2.1
  refine W.widen (k := R.cells) (n := R.slots) (by omega) (by omega) ?_
  exact W.zret X.1 X.2.1 (X.2.2.2.1.trans hr) hn (fun t ht hW => ⟨⟨_, h, rfl, k, by rw [ht]; exact hH⟩, hS.F ht⟩) hS.2.2 (ino_d hi)
theorem ks_lreturn {G : iG} {d kc ks : Nat} {Y : iM} {pc t : Nat} {ls : iL} {st : List Value} {h : iH} {Q : Option Value → iH → Prop} {v : Int64} (hi : ino Y pc = some (.lreturn, t)) (hr : Y.2.2.2 = some .long) (k : Q (some (.long v)) h) : K G d kc ks Y pc ls [.long v] h Q := by
  intro p e R s m args below meth c H locs z cells slots X hf hlo hc1 hc2 hL hH hS
  have hlk : meth.locks = false := X.2.2.2.2.1
  refine W.widen (k := R.cells) (n := R.slots) (by omega) (by omega) ?_
  exact W.lret X.1 X.2.1 (X.2.2.2.1.trans hr) (fun t ht hW => ⟨⟨_, h, rfl, k, by rw [ht]; exact hH⟩, hS.F ht⟩) hS.2.2 (ino_d hi)
theorem ks_areturn {G : iG} {d kc ks : Nat} {Y : iM} {pc t : Nat} {ls : iL} {st : List Value} {h : iH} {Q : Option Value → iH → Prop} {C9 : String} {r : Option Nat} (hi : ino Y pc = some (.areturn, t)) (hr : Y.2.2.2 = some (.object C9)) (k : Q (some (va_rf r)) h) : K G d kc ks Y pc ls [va_rf r] h Q := by
  intro p e R s m args below meth c H locs z cells slots X hf hlo hc1 hc2 hL hH hS
  have hlk : meth.locks = false := X.2.2.2.2.1
  refine W.widen (k := R.cells) (n := R.slots) (by omega) (by omega) ?_
  exact W.aret X.1 X.2.1 (X.2.2.2.1.trans hr) (Or.inl ⟨_, rfl⟩) (by cases r with | none => exact Or.inl rfl | some a => exact Or.inr ⟨a, rfl⟩) (fun t ht hW => ⟨⟨_, h, rfl, k, by rw [ht]; exact hH⟩, hS.F ht⟩) hS.2.2 (ino_d hi)
theorem ks_return {G : iG} {d kc ks : Nat} {Y : iM} {pc t : Nat} {ls : iL} {st : List Value} {h : iH} {Q : Option Value → iH → Prop} (hi : ino Y pc = some (.return_, t)) (hr : Y.2.2.2 = none) (k : Q none h) : K G d kc ks Y pc ls [] h Q := by
  intro p e R s m args below meth c H locs z cells slots X hf hlo hc1 hc2 hL hH hS
  have hlk : meth.locks = false := X.2.2.2.2.1
  refine W.widen (k := R.cells) (n := R.slots) (by omega) (by omega) ?_
  exact W.vret X.1 X.2.1 (X.2.2.2.1.trans hr) (fun t ht hW => ⟨⟨_, h, rfl, k, by rw [ht]; exact hH⟩, hS.F ht⟩) hS.2.2 (ino_d hi)
