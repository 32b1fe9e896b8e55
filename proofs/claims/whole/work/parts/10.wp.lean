/-! Runs of plain code by rewriting: wp n pc .. stops at the cuts, at calls, and where n is used up -/
section WP
variable (G : iG) (d kc ks : Nat) (Y : iM) (Q : Option Value → iH → Prop)
/-- what may be put into a field: 0 an int, 1 a long, 2 a truth, 3 what is final -/
def ipk (ci n : Nat) : Nat := match vwCl[ci]? with
  | some r => if (r.2.1 n).2.2.2 = true then 3 else if (r.2.1 n).2.2.1 = "I" then 0 else if (r.2.1 n).2.2.1 = "J" then 1 else if (r.2.1 n).2.2.1 = "Z" then 2 else 4
  | none => 4
def stpI (Kn : Nat → iL → List Value → iH → Prop) (i : Instr) (t pc : Nat) (ls : iL) (st : List Value) (h : iH) : Prop :=
  match i with
  | .iconst n => Kn t ls (.int (Int32.ofInt n) :: st) h
  | .bipush n => Kn t ls (.int (Int8.ofInt n).toInt32 :: st) h
  | .sipush n => Kn t ls (.int (Int16.ofInt n).toInt32 :: st) h
  | .lconst n => Kn t ls (.long (Int64.ofNat (n : Nat)) :: st) h
  | .aconst_null => Kn t ls (.null :: st) h
  | .iload_n n => (match ls[(n : Nat)]? with | some (some (.int x)) => Kn t ls (.int x :: st) h | _ => False)
  | .iload n => (match ls[n]? with | some (some (.int x)) => Kn t ls (.int x :: st) h | _ => False)
  | .lload_n n => (match ls[(n : Nat)]? with | some (some (.long x)) => Kn t ls (.long x :: st) h | _ => False)
  | .lload n => (match ls[n]? with | some (some (.long x)) => Kn t ls (.long x :: st) h | _ => False)
  | .aload_n n => (match ls[(n : Nat)]? with | some (some (.ref x)) => Kn t ls (.ref x :: st) h | some (some .null) => Kn t ls (.null :: st) h | _ => False)
  | .aload n => (match ls[n]? with | some (some (.ref x)) => Kn t ls (.ref x :: st) h | some (some .null) => Kn t ls (.null :: st) h | _ => False)
  | .istore_n n => (match st with | .int x :: st => (n : Nat) < Y.2.2.1 ∧ Kn t (iS1 ls (n : Nat) (.int x)) st h | _ => False)
  | .istore n => (match st with | .int x :: st => n < Y.2.2.1 ∧ Kn t (iS1 ls n (.int x)) st h | _ => False)
  | .lstore_n n => (match st with | .long x :: st => (n : Nat) + 1 < Y.2.2.1 ∧ Kn t (iS2 ls (n : Nat) (.long x)) st h | _ => False)
  | .lstore n => (match st with | .long x :: st => n + 1 < Y.2.2.1 ∧ Kn t (iS2 ls n (.long x)) st h | _ => False)
  | .astore_n n => (match st with | .ref x :: st => (n : Nat) < Y.2.2.1 ∧ Kn t (iS1 ls (n : Nat) (.ref x)) st h | .null :: st => (n : Nat) < Y.2.2.1 ∧ Kn t (iS1 ls (n : Nat) .null) st h | _ => False)
  | .astore n => (match st with | .ref x :: st => n < Y.2.2.1 ∧ Kn t (iS1 ls n (.ref x)) st h | .null :: st => n < Y.2.2.1 ∧ Kn t (iS1 ls n .null) st h | _ => False)
  | .iinc n q => (match ls[n]? with | some (some (.int x)) => n < Y.2.2.1 ∧ Kn t (iS1 ls n (.int (x + Int32.ofInt q))) st h | _ => False)
  | .iadd => (match st with | .int y :: .int x :: st => Kn t ls (.int (x + y) :: st) h | _ => False)
  | .isub => (match st with | .int y :: .int x :: st => Kn t ls (.int (x - y) :: st) h | _ => False)
  | .imul => (match st with | .int y :: .int x :: st => Kn t ls (.int (x * y) :: st) h | _ => False)
  | .iand => (match st with | .int y :: .int x :: st => Kn t ls (.int (x &&& y) :: st) h | _ => False)
  | .ior => (match st with | .int y :: .int x :: st => Kn t ls (.int (x ||| y) :: st) h | _ => False)
  | .ixor => (match st with | .int y :: .int x :: st => Kn t ls (.int (x ^^^ y) :: st) h | _ => False)
  | .ishl => (match st with | .int y :: .int x :: st => Kn t ls (.int (x <<< (y &&& 31)) :: st) h | _ => False)
  | .ishr => (match st with | .int y :: .int x :: st => Kn t ls (.int (x >>> (y &&& 31)) :: st) h | _ => False)
  | .iushr => (match st with | .int y :: .int x :: st => Kn t ls (.int (x.toUInt32 >>> (y.toUInt32 &&& Int32.toUInt32 31)).toInt32 :: st) h | _ => False)
  | .idiv => (match st with | .int y :: .int x :: st => ¬ y = 0 ∧ Kn t ls (.int (x / y) :: st) h | _ => False)
  | .irem => (match st with | .int y :: .int x :: st => ¬ y = 0 ∧ Kn t ls (.int (x - x / y * y) :: st) h | _ => False)
  | .ineg => (match st with | .int x :: st => Kn t ls (.int (-x) :: st) h | _ => False)
  | .land => (match st with | .long y :: .long x :: st => Kn t ls (.long (x &&& y) :: st) h | _ => False)
  | .lor => (match st with | .long y :: .long x :: st => Kn t ls (.long (x ||| y) :: st) h | _ => False)
  | .lushr => (match st with | .int y :: .long x :: st => Kn t ls (.long (x.toUInt64 >>> (y.toInt64.toUInt64 &&& Int64.toUInt64 63)).toInt64 :: st) h | _ => False)
  | .lshl => (match st with | .int y :: .long x :: st => Kn t ls (.long (x <<< (y.toInt64 &&& 63)) :: st) h | _ => False)
  | .lshr => (match st with | .int y :: .long x :: st => Kn t ls (.long (x >>> (y.toInt64 &&& 63)) :: st) h | _ => False)
  | .i2l => (match st with | .int x :: st => Kn t ls (.long x.toInt64 :: st) h | _ => False)
  | .l2i => (match st with | .long x :: st => Kn t ls (.int x.toInt32 :: st) h | _ => False)
  | .i2b => (match st with | .int x :: st => Kn t ls (.int x.toInt8.toInt32 :: st) h | _ => False)
  | .lcmp => (match st with | .long y :: .long x :: st => Kn t ls (.int (lg_cmp x y) :: st) h | _ => False)
  | .dup => (match st with | .int x :: st => Kn t ls (.int x :: .int x :: st) h | .ref x :: st => Kn t ls (.ref x :: .ref x :: st) h | _ => False)
  | .pop => (match st with | .int _ :: st => Kn t ls st h | .ref _ :: st => Kn t ls st h | _ => False)
  | .dup2 => (match st with | .int x :: .ref y :: st => Kn t ls (.int x :: .ref y :: .int x :: .ref y :: st) h | _ => False)
  | .goto _ => Kn t ls st h
  | .if_icmp .eq _ => (match st with | .int y :: .int x :: st => (x = y → Kn t ls st h) ∧ (¬ x = y → Kn (pc + 3) ls st h) | _ => False)
  | .if_icmp .ne _ => (match st with | .int y :: .int x :: st => (¬ x = y → Kn t ls st h) ∧ (x = y → Kn (pc + 3) ls st h) | _ => False)
  | .if_icmp .lt _ => (match st with | .int y :: .int x :: st => (x < y → Kn t ls st h) ∧ (¬ x < y → Kn (pc + 3) ls st h) | _ => False)
  | .if_icmp .ge _ => (match st with | .int y :: .int x :: st => (y ≤ x → Kn t ls st h) ∧ (¬ y ≤ x → Kn (pc + 3) ls st h) | _ => False)
  | .if_icmp .gt _ => (match st with | .int y :: .int x :: st => (y < x → Kn t ls st h) ∧ (¬ y < x → Kn (pc + 3) ls st h) | _ => False)
  | .if_icmp .le _ => (match st with | .int y :: .int x :: st => (x ≤ y → Kn t ls st h) ∧ (¬ x ≤ y → Kn (pc + 3) ls st h) | _ => False)
  | .ifCond .eq _ => (match st with | .int x :: st => (x = 0 → Kn t ls st h) ∧ (¬ x = 0 → Kn (pc + 3) ls st h) | _ => False)
  | .ifCond .ne _ => (match st with | .int x :: st => (¬ x = 0 → Kn t ls st h) ∧ (x = 0 → Kn (pc + 3) ls st h) | _ => False)
  | .ifCond .lt _ => (match st with | .int x :: st => (x < 0 → Kn t ls st h) ∧ (¬ x < 0 → Kn (pc + 3) ls st h) | _ => False)
  | .ifCond .ge _ => (match st with | .int x :: st => (0 ≤ x → Kn t ls st h) ∧ (¬ 0 ≤ x → Kn (pc + 3) ls st h) | _ => False)
  | .ifCond .gt _ => (match st with | .int x :: st => (0 < x → Kn t ls st h) ∧ (¬ 0 < x → Kn (pc + 3) ls st h) | _ => False)
  | .ifCond .le _ => (match st with | .int x :: st => (x ≤ 0 → Kn t ls st h) ∧ (¬ x ≤ 0 → Kn (pc + 3) ls st h) | _ => False)
  | .ifnonnull _ => (match st with | .ref _ :: st => Kn t ls st h | .null :: st => Kn (pc + 3) ls st h | _ => False)
  | .getfield idx => (match st with
      | .ref a :: st' => (match ifl Y.1.cls idx, h.1 a with
        | some (ci, n), some (.inr (c, fs)) => c = ci ∧ (match fs[n]? with | some v => Kn t ls (v :: st') h | none => False)
        | _, _ => K G d kc ks Y pc ls st h Q)
      | _ => False)
  | .putfield idx => (match st with
      | v :: .ref a :: st' => (match ifl Y.1.cls idx, h.1 a with
        | some (ci, n), some (.inr (c, fs)) => (match ipk ci n, v with
          | 0, .int x => c = ci ∧ n < fs.length ∧ Kn t ls st' (iSet h a (.inr (c, fs.set n (.int x))))
          | 1, .long x => c = ci ∧ n < fs.length ∧ Kn t ls st' (iSet h a (.inr (c, fs.set n (.long x))))
          | 2, .int x => (x = 0 ∨ x = 1) ∧ c = ci ∧ n < fs.length ∧ Kn t ls st' (iSet h a (.inr (c, fs.set n (.int x))))
          | _, _ => K G d kc ks Y pc ls st h Q)
        | _, _ => K G d kc ks Y pc ls st h Q)
      | _ => False)
  | .iaload => (match st with
      | .int i :: .ref a :: st' => (match h.1 a with | some (.inl (c, n, .inl f)) => c = G.2.2.2.1 0 ∧ vp_in i n ∧ Kn t ls (.int (f i.toNatClampNeg) :: st') h | _ => K G d kc ks Y pc ls st h Q)
      | _ => False)
  | .laload => (match st with
      | .int i :: .ref a :: st' => (match h.1 a with | some (.inl (c, n, .inr (.inl f))) => c = G.2.2.2.1 2 ∧ vp_in i n ∧ Kn t ls (.long (f i.toNatClampNeg) :: st') h | _ => K G d kc ks Y pc ls st h Q)
      | _ => False)
  | .iastore => (match st with
      | .int x :: .int i :: .ref a :: st' => (match h.1 a with | some (.inl (c, n, .inl f)) => c = G.2.2.2.1 0 ∧ vp_in i n ∧ Kn t ls st' (iSet h a (.inl (c, n, .inl (upd f i.toNatClampNeg x)))) | _ => K G d kc ks Y pc ls st h Q)
      | _ => False)
  | .lastore => (match st with
      | .long x :: .int i :: .ref a :: st' => (match h.1 a with | some (.inl (c, n, .inr (.inl f))) => c = G.2.2.2.1 2 ∧ vp_in i n ∧ Kn t ls st' (iSet h a (.inl (c, n, .inr (.inl (vp_updL f i.toNatClampNeg x))))) | _ => K G d kc ks Y pc ls st h Q)
      | _ => False)
  | .ireturn => (match st with | [.int v] => (match Y.2.2.2 with | some ty => narrow ty (.int v) = .int v ∧ Q (some (.int v)) h | none => False) | _ => False)
  | .lreturn => (match st with | [.long v] => Y.2.2.2 = some .long ∧ Q (some (.long v)) h | _ => False)
  | .return_ => (match st with | [] => Y.2.2.2 = none ∧ Q none h | _ => False)
  | _ => K G d kc ks Y pc ls st h Q
end WP
theorem ipk_r {ci n k : Nat} {r : vw_C} (hr : vwCl[ci]? = some r) (h : ipk ci n = k) : (if (r.2.1 n).2.2.2 = true then 3 else if (r.2.1 n).2.2.1 = "I" then 0 else if (r.2.1 n).2.2.1 = "J" then 1 else if (r.2.1 n).2.2.1 = "Z" then 2 else 4) = k := by
  unfold ipk at h
  rw [hr] at h
  exact h
theorem ipk_0 {ci n : Nat} {r : vw_C} (hr : vwCl[ci]? = some r) (h : ipk ci n = 0) : (r.2.1 n).2.2.2 = false ∧ (r.2.1 n).2.2.1 = "I" := by
  have := ipk_r hr h
  split at this
  · cases this
  · rename_i h1
    split at this
    · rename_i h2; exact ⟨by simpa using h1, h2⟩
    · split at this
      · cases this
      · split at this <;> cases this
theorem ipk_1 {ci n : Nat} {r : vw_C} (hr : vwCl[ci]? = some r) (h : ipk ci n = 1) : (r.2.1 n).2.2.2 = false ∧ (r.2.1 n).2.2.1 = "J" := by
  have := ipk_r hr h
  split at this
  · cases this
  · rename_i h1
    split at this
    · cases this
    · split at this
      · rename_i h2; exact ⟨by simpa using h1, h2⟩
      · split at this <;> cases this
theorem ipk_2 {ci n : Nat} {r : vw_C} (hr : vwCl[ci]? = some r) (h : ipk ci n = 2) : (r.2.1 n).2.2.2 = false ∧ (r.2.1 n).2.2.1 = "Z" := by
  have := ipk_r hr h
  split at this
  · cases this
  · rename_i h1
    split at this
    · cases this
    · split at this
      · cases this
      · split at this
        · rename_i h2; exact ⟨by simpa using h1, h2⟩
        · cases this
section WO
variable {G : iG} {d kc ks : Nat} {Y : iM} {Q : Option Value → iH → Prop} {Kn : Nat → iL → List Value → iH → Prop} {i : Instr} {t pc : Nat} {ls : iL} {st : List Value} {h : iH}
set_option maxHeartbeats 4000000 in
theorem stpI_ok (hKn : ∀ pc ls st h, Kn pc ls st h → K G d kc ks Y pc ls st h Q) (hi : ino Y pc = some (i, t)) (hs : stpI G d kc ks Y Q Kn i t pc ls st h) : K G d kc ks Y pc ls st h Q := by
  unfold stpI at hs
  split at hs
  · exact ks_iconst hi rfl (hKn _ _ _ _ hs)
  · exact ks_bipush hi rfl (hKn _ _ _ _ hs)
  · exact ks_sipush hi rfl (hKn _ _ _ _ hs)
  · exact ks_lconst hi rfl (hKn _ _ _ _ hs)
  · exact ks_null hi (hKn _ _ _ _ hs)
  · split at hs
    · rename_i hl; exact ks_iload_n hi hl (hKn _ _ _ _ hs)
    · exact hs.elim
  · split at hs
    · rename_i hl; exact ks_iload hi hl (hKn _ _ _ _ hs)
    · exact hs.elim
  · split at hs
    · rename_i hl; exact ks_lload_n hi hl (hKn _ _ _ _ hs)
    · exact hs.elim
  · split at hs
    · rename_i hl; exact ks_lload hi hl (hKn _ _ _ _ hs)
    · exact hs.elim
  · split at hs
    · rename_i hl; exact ks_aload_n hi hl (hKn _ _ _ _ hs)
    · rename_i hl; exact ks_aload_nN hi hl (hKn _ _ _ _ hs)
    · exact hs.elim
  · split at hs
    · rename_i hl; exact ks_aload hi hl (hKn _ _ _ _ hs)
    · rename_i hl; exact ks_aloadN hi hl (hKn _ _ _ _ hs)
    · exact hs.elim
  · split at hs
    · exact ks_istore_n hi hs.1 (hKn _ _ _ _ hs.2)
    · exact hs.elim
  · split at hs
    · exact ks_istore hi hs.1 (hKn _ _ _ _ hs.2)
    · exact hs.elim
  · split at hs
    · exact ks_lstore_n hi hs.1 (hKn _ _ _ _ hs.2)
    · exact hs.elim
  · split at hs
    · exact ks_lstore hi hs.1 (hKn _ _ _ _ hs.2)
    · exact hs.elim
  · split at hs
    · exact ks_astore_n hi hs.1 (hKn _ _ _ _ hs.2)
    · exact ks_astore_nN hi hs.1 (hKn _ _ _ _ hs.2)
    · exact hs.elim
  · split at hs
    · exact ks_astore hi hs.1 (hKn _ _ _ _ hs.2)
    · exact ks_astoreN hi hs.1 (hKn _ _ _ _ hs.2)
    · exact hs.elim
  · split at hs
    · rename_i hl; exact ks_iinc hi hl hs.1 (hKn _ _ _ _ hs.2)
    · exact hs.elim
  · split at hs
    · exact ks_iadd hi (hKn _ _ _ _ hs)
    · exact hs.elim
  · split at hs
    · exact ks_isub hi (hKn _ _ _ _ hs)
    · exact hs.elim
  · split at hs
    · exact ks_imul hi (hKn _ _ _ _ hs)
    · exact hs.elim
  · split at hs
    · exact ks_iand hi (hKn _ _ _ _ hs)
    · exact hs.elim
  · split at hs
    · exact ks_ior hi (hKn _ _ _ _ hs)
    · exact hs.elim
  · split at hs
    · exact ks_ixor hi (hKn _ _ _ _ hs)
    · exact hs.elim
  · split at hs
    · exact ks_ishl hi (hKn _ _ _ _ hs)
    · exact hs.elim
  · split at hs
    · exact ks_ishr hi (hKn _ _ _ _ hs)
    · exact hs.elim
  · split at hs
    · exact ks_iushr hi (hKn _ _ _ _ hs)
    · exact hs.elim
  · split at hs
    · exact ks_idiv hi hs.1 (hKn _ _ _ _ hs.2)
    · exact hs.elim
  · split at hs
    · exact ks_irem hi hs.1 (hKn _ _ _ _ hs.2)
    · exact hs.elim
  · split at hs
    · exact ks_ineg hi (hKn _ _ _ _ hs)
    · exact hs.elim
  · split at hs
    · exact ks_land hi (hKn _ _ _ _ hs)
    · exact hs.elim
  · split at hs
    · exact ks_lor hi (hKn _ _ _ _ hs)
    · exact hs.elim
  · split at hs
    · exact ks_lushr hi (hKn _ _ _ _ hs)
    · exact hs.elim
  · split at hs
    · exact ks_lshl hi (hKn _ _ _ _ hs)
    · exact hs.elim
  · split at hs
    · exact ks_lshr hi (hKn _ _ _ _ hs)
    · exact hs.elim
  · split at hs
    · exact ks_i2l hi (hKn _ _ _ _ hs)
    · exact hs.elim
  · split at hs
    · exact ks_l2i hi (hKn _ _ _ _ hs)
    · exact hs.elim
  · split at hs
    · exact ks_i2b hi (hKn _ _ _ _ hs)
    · exact hs.elim
  · split at hs
    · exact ks_lcmp hi (hKn _ _ _ _ hs)
    · exact hs.elim
  · split at hs
    · exact ks_dup hi rfl (hKn _ _ _ _ hs)
    · exact ks_dup hi rfl (hKn _ _ _ _ hs)
    · exact hs.elim
  · split at hs
    · exact ks_pop hi rfl (hKn _ _ _ _ hs)
    · exact ks_pop hi rfl (hKn _ _ _ _ hs)
    · exact hs.elim
  · split at hs
    · exact ks_dup2_11 hi rfl rfl (hKn _ _ _ _ hs)
    · exact hs.elim
  · exact ks_goto hi (hKn _ _ _ _ hs)
  · split at hs
    · exact ks_icmp_eq hi (fun g => hKn _ _ _ _ (hs.1 g)) (fun g => hKn _ _ _ _ (hs.2 g))
    · exact hs.elim
  · split at hs
    · exact ks_icmp_ne hi (fun g => hKn _ _ _ _ (hs.1 g)) (fun g => hKn _ _ _ _ (hs.2 g))
    · exact hs.elim
  · split at hs
    · exact ks_icmp_lt hi (fun g => hKn _ _ _ _ (hs.1 g)) (fun g => hKn _ _ _ _ (hs.2 g))
    · exact hs.elim
  · split at hs
    · exact ks_icmp_ge hi (fun g => hKn _ _ _ _ (hs.1 g)) (fun g => hKn _ _ _ _ (hs.2 g))
    · exact hs.elim
  · split at hs
    · exact ks_icmp_gt hi (fun g => hKn _ _ _ _ (hs.1 g)) (fun g => hKn _ _ _ _ (hs.2 g))
    · exact hs.elim
  · split at hs
    · exact ks_icmp_le hi (fun g => hKn _ _ _ _ (hs.1 g)) (fun g => hKn _ _ _ _ (hs.2 g))
    · exact hs.elim
  · split at hs
    · exact ks_if_eq hi (fun g => hKn _ _ _ _ (hs.1 g)) (fun g => hKn _ _ _ _ (hs.2 g))
    · exact hs.elim
  · split at hs
    · exact ks_if_ne hi (fun g => hKn _ _ _ _ (hs.1 g)) (fun g => hKn _ _ _ _ (hs.2 g))
    · exact hs.elim
  · split at hs
    · exact ks_if_lt hi (fun g => hKn _ _ _ _ (hs.1 g)) (fun g => hKn _ _ _ _ (hs.2 g))
    · exact hs.elim
  · split at hs
    · exact ks_if_ge hi (fun g => hKn _ _ _ _ (hs.1 g)) (fun g => hKn _ _ _ _ (hs.2 g))
    · exact hs.elim
  · split at hs
    · exact ks_if_gt hi (fun g => hKn _ _ _ _ (hs.1 g)) (fun g => hKn _ _ _ _ (hs.2 g))
    · exact hs.elim
  · split at hs
    · exact ks_if_le hi (fun g => hKn _ _ _ _ (hs.1 g)) (fun g => hKn _ _ _ _ (hs.2 g))
    · exact hs.elim
  · split at hs
    · exact ks_ifnonnull hi (hKn _ _ _ _ hs)
    · exact ks_ifnonnullN hi (hKn _ _ _ _ hs)
    · exact hs.elim
  · split at hs
    · split at hs
      · rename_i hf ha
        obtain ⟨rfl, hs⟩ := hs
        split at hs
        · rename_i hv
          exact ks_getfield uCl hi (ifl_ok hf) ha hv (hKn _ _ _ _ hs)
        · exact hs.elim
      · exact hs
    · exact hs.elim
  · split at hs
    · split at hs
      · rename_i hf ha
        obtain ⟨r, hr, hn, hw⟩ := ifl_ok hf
        split at hs
        · rename_i hk
          obtain ⟨rfl, hl, hs⟩ := hs
          obtain ⟨h1, h2⟩ := ipk_0 hr hk
          exact ks_putfield uCl hi (ifl_ok hf) hr (Or.inl h1) (show parseFieldDescriptor (r.2.1 _).2.2.1 = some .int by rw [h2]; decide +kernel) rfl rfl ha hl (hKn _ _ _ _ hs)
        · rename_i hk
          obtain ⟨rfl, hl, hs⟩ := hs
          obtain ⟨h1, h2⟩ := ipk_1 hr hk
          exact ks_putfield uCl hi (ifl_ok hf) hr (Or.inl h1) (show parseFieldDescriptor (r.2.1 _).2.2.1 = some .long by rw [h2]; decide +kernel) rfl rfl ha hl (hKn _ _ _ _ hs)
        · rename_i hk
          obtain ⟨hx, rfl, hl, hs⟩ := hs
          obtain ⟨h1, h2⟩ := ipk_2 hr hk
          exact ks_putfield uCl hi (ifl_ok hf) hr (Or.inl h1) (show parseFieldDescriptor (r.2.1 _).2.2.1 = some .boolean by rw [h2]; decide +kernel) (by rcases hx with rfl | rfl <;> rfl) (by rcases hx with rfl | rfl <;> rfl) ha hl (hKn _ _ _ _ hs)
        · exact hs
      · exact hs
    · exact hs.elim
  · split at hs
    · split at hs
      · rename_i ha
        obtain ⟨rfl, hin, hs⟩ := hs
        exact ks_iald hi ha hin (hKn _ _ _ _ hs)
      · exact hs
    · exact hs.elim
  · split at hs
    · split at hs
      · rename_i ha
        obtain ⟨rfl, hin, hs⟩ := hs
        exact ks_lald hi ha hin (hKn _ _ _ _ hs)
      · exact hs
    · exact hs.elim
  · split at hs
    · split at hs
      · rename_i ha
        obtain ⟨rfl, hin, hs⟩ := hs
        exact ks_iast hi ha hin (hKn _ _ _ _ hs)
      · exact hs
    · exact hs.elim
  · split at hs
    · split at hs
      · rename_i ha
        obtain ⟨rfl, hin, hs⟩ := hs
        exact ks_last hi ha hin (hKn _ _ _ _ hs)
      · exact hs
    · exact hs.elim
  · split at hs
    · split at hs
      · rename_i hr
        exact ks_ireturn (st := []) hi hr hs.1 hs.2
      · exact hs.elim
    · exact hs.elim
  · split at hs
    · exact ks_lreturn (st := []) hi hs.1 hs.2
    · exact hs.elim
  · split at hs
    · exact ks_return (st := []) hi hs.1 hs.2
    · exact hs.elim
  · exact hs
end WO
def wp (G : iG) (d kc ks : Nat) (Y : iM) (Q : Option Value → iH → Prop) (cuts : List Nat) : Nat → Nat → iL → List Value → iH → Prop
  | 0, pc, ls, st, h => K G d kc ks Y pc ls st h Q
  | n + 1, pc, ls, st, h => if pc ∈ cuts then K G d kc ks Y pc ls st h Q else (match ino Y pc with
    | some (i, t) => stpI G d kc ks Y Q (wp G d kc ks Y Q cuts n) i t pc ls st h
    | none => K G d kc ks Y pc ls st h Q)
theorem wp_ok {G : iG} {d kc ks : Nat} {Y : iM} {Q : Option Value → iH → Prop} {cuts : List Nat} : ∀ (n pc : Nat) (ls : iL) (st : List Value) (h : iH), wp G d kc ks Y Q cuts n pc ls st h → K G d kc ks Y pc ls st h Q := by
  intro n
  induction n with
  | zero => intro pc ls st h hw; exact hw
  | succ n ih =>
    intro pc ls st h hw
    unfold wp at hw
    split at hw
    · exact hw
    · split at hw
      · rename_i hi
        exact stpI_ok ih hi hw
      · exact hw
