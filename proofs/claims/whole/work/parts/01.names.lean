/-! ===== BEGIN words of one list among another's, by their places ===== -/
theorem goodIn_r {big : List Cond} (ws : List Cond) (ps : List Nat) (hp : ws = ps.filterMap (fun i => big[i]?)) (h : ws.all goodWord = true) : GoodIn big ws := by
  intro w hw
  have h1 := List.all_eq_true.mp h w hw
  rw [hp] at hw
  obtain ⟨i, -, hi⟩ := List.mem_filterMap.mp hw
  have hm : w ∈ big := by first | exact List.mem_of_getElem? hi | exact List.getElem?_mem hi
  exact ⟨hm, good_of_word h1⟩
theorem goodIn_app {big a b : List Cond} (ha : GoodIn big a) (hb : GoodIn big b) : GoodIn big (a ++ b) := fun w h => (List.mem_append.mp h).elim (ha w) (hb w)
theorem goodIn_ca {big a b : List Cond} {c : Cond} (ha : GoodIn big (c :: a)) (hb : GoodIn big b) : GoodIn big (c :: (a ++ b)) := fun w h => (List.mem_cons.mp h).elim (fun e => ha w (List.mem_cons.mpr (Or.inl e))) (fun h => (List.mem_append.mp h).elim (fun h => ha w (List.mem_cons.mpr (Or.inr h))) (hb w))
theorem goodIn_sub {big ws : List Cond} (hm : ∀ w ∈ ws, w ∈ big) (h : ws.all goodWord = true) : GoodIn big ws := fun w hw => ⟨hm w hw, good_of_word (List.all_eq_true.mp h w hw)⟩
/-! ===== END ===== -/
-- ===== PART A: goes FIRST, ahead of the names: the tables' words, and 'selects' of the private methods out of them =====
/-- a private method of a class that the tables say can be made, by its rows of tables_1 -/
def lw_okq (q : MethodName × Nat) : Prop := (q.1.cls ≠ "java/lang/invoke/MethodHandle" ∧ q.1.cls ≠ "java/lang/invoke/VarHandle") ∧ Cond.instantiable q.1.cls q.2 ∈ tables_1 ∧ Cond.privateMethod q.1 ∈ tables_1 ∧ Cond.instanceMethod q.1 ∈ tables_1
theorem lw_p0 : lw_okq (⟨"DumbwaiterYoung", "feedOne", "(I)V"⟩, 19) := ⟨⟨by decide +kernel, by decide +kernel⟩, List.mem_of_getElem? (i := 28) (by decide +kernel), List.mem_of_getElem? (i := 463) (by decide +kernel), List.mem_of_getElem? (i := 464) (by decide +kernel)⟩
theorem lw_p1 : lw_okq (⟨"DumbwaiterYoung", "openTape", "(I)V"⟩, 19) := ⟨⟨by decide +kernel, by decide +kernel⟩, List.mem_of_getElem? (i := 28) (by decide +kernel), List.mem_of_getElem? (i := 475) (by decide +kernel), List.mem_of_getElem? (i := 476) (by decide +kernel)⟩
theorem lw_p2 : lw_okq (⟨"DumbwaiterYoung$Reader", "scanRun", "([III)I"⟩, 9) := ⟨⟨by decide +kernel, by decide +kernel⟩, List.mem_of_getElem? (i := 36) (by decide +kernel), List.mem_of_getElem? (i := 495) (by decide +kernel), List.mem_of_getElem? (i := 496) (by decide +kernel)⟩
theorem lw_p3 : lw_okq (⟨"DumbwaiterYoung$Reader", "add", "(IIJLDumbwaiterYoung$Word;)V"⟩, 9) := ⟨⟨by decide +kernel, by decide +kernel⟩, List.mem_of_getElem? (i := 36) (by decide +kernel), List.mem_of_getElem? (i := 504) (by decide +kernel), List.mem_of_getElem? (i := 505) (by decide +kernel)⟩
theorem lw_p4 : lw_okq (⟨"DumbwaiterYoung$Tower", "readLine", "(LDumbwaiterYoung$Reader;)V"⟩, 15) := ⟨⟨by decide +kernel, by decide +kernel⟩, List.mem_of_getElem? (i := 76) (by decide +kernel), List.mem_of_getElem? (i := 524) (by decide +kernel), List.mem_of_getElem? (i := 525) (by decide +kernel)⟩
theorem lw_p5 : lw_okq (⟨"DumbwaiterYoung$Tower", "readFloor", "(LDumbwaiterYoung$Reader;)V"⟩, 15) := ⟨⟨by decide +kernel, by decide +kernel⟩, List.mem_of_getElem? (i := 76) (by decide +kernel), List.mem_of_getElem? (i := 534) (by decide +kernel), List.mem_of_getElem? (i := 535) (by decide +kernel)⟩
theorem lw_p6 : lw_okq (⟨"DumbwaiterYoung$Reader", "next", "()V"⟩, 9) := ⟨⟨by decide +kernel, by decide +kernel⟩, List.mem_of_getElem? (i := 36) (by decide +kernel), List.mem_of_getElem? (i := 548) (by decide +kernel), List.mem_of_getElem? (i := 549) (by decide +kernel)⟩
theorem lw_p7 : lw_okq (⟨"DumbwaiterYoung$Tower", "takeNewName", "(LDumbwaiterYoung$Reader;)J"⟩, 15) := ⟨⟨by decide +kernel, by decide +kernel⟩, List.mem_of_getElem? (i := 76) (by decide +kernel), List.mem_of_getElem? (i := 552) (by decide +kernel), List.mem_of_getElem? (i := 553) (by decide +kernel)⟩
theorem lw_p8 : lw_okq (⟨"DumbwaiterYoung$Tower", "floorNamed", "(J)I"⟩, 15) := ⟨⟨by decide +kernel, by decide +kernel⟩, List.mem_of_getElem? (i := 76) (by decide +kernel), List.mem_of_getElem? (i := 560) (by decide +kernel), List.mem_of_getElem? (i := 561) (by decide +kernel)⟩
theorem lw_p9 : lw_okq (⟨"DumbwaiterYoung$Tower", "childNamed", "(J)I"⟩, 15) := ⟨⟨by decide +kernel, by decide +kernel⟩, List.mem_of_getElem? (i := 76) (by decide +kernel), List.mem_of_getElem? (i := 564) (by decide +kernel), List.mem_of_getElem? (i := 565) (by decide +kernel)⟩
theorem lw_p10 : lw_okq (⟨"DumbwaiterYoung$Tower", "uncleNamed", "(J)I"⟩, 15) := ⟨⟨by decide +kernel, by decide +kernel⟩, List.mem_of_getElem? (i := 76) (by decide +kernel), List.mem_of_getElem? (i := 568) (by decide +kernel), List.mem_of_getElem? (i := 569) (by decide +kernel)⟩
theorem lw_p11 : lw_okq (⟨"DumbwaiterYoung$Tower", "readChild", "(LDumbwaiterYoung$Reader;)V"⟩, 15) := ⟨⟨by decide +kernel, by decide +kernel⟩, List.mem_of_getElem? (i := 76) (by decide +kernel), List.mem_of_getElem? (i := 597) (by decide +kernel), List.mem_of_getElem? (i := 598) (by decide +kernel)⟩
theorem lw_p12 : lw_okq (⟨"DumbwaiterYoung$Tower", "readUncle", "(LDumbwaiterYoung$Reader;)V"⟩, 15) := ⟨⟨by decide +kernel, by decide +kernel⟩, List.mem_of_getElem? (i := 76) (by decide +kernel), List.mem_of_getElem? (i := 603) (by decide +kernel), List.mem_of_getElem? (i := 604) (by decide +kernel)⟩
theorem lw_p13 : lw_okq (⟨"DumbwaiterYoung$Tower", "readLaw", "(LDumbwaiterYoung$Reader;)V"⟩, 15) := ⟨⟨by decide +kernel, by decide +kernel⟩, List.mem_of_getElem? (i := 76) (by decide +kernel), List.mem_of_getElem? (i := 609) (by decide +kernel), List.mem_of_getElem? (i := 610) (by decide +kernel)⟩
theorem lw_p14 : lw_okq (⟨"DumbwaiterYoung$Tower", "readLikes", "(LDumbwaiterYoung$Reader;)V"⟩, 15) := ⟨⟨by decide +kernel, by decide +kernel⟩, List.mem_of_getElem? (i := 76) (by decide +kernel), List.mem_of_getElem? (i := 616) (by decide +kernel), List.mem_of_getElem? (i := 617) (by decide +kernel)⟩
theorem lw_p15 : lw_okq (⟨"DumbwaiterYoung$Tower", "takeFloor", "(LDumbwaiterYoung$Reader;)I"⟩, 15) := ⟨⟨by decide +kernel, by decide +kernel⟩, List.mem_of_getElem? (i := 76) (by decide +kernel), List.mem_of_getElem? (i := 620) (by decide +kernel), List.mem_of_getElem? (i := 621) (by decide +kernel)⟩
def lw_privs_1 : List (MethodName × Nat) := [(⟨"DumbwaiterYoung", "feedOne", "(I)V"⟩, 19), (⟨"DumbwaiterYoung", "openTape", "(I)V"⟩, 19), (⟨"DumbwaiterYoung$Reader", "scanRun", "([III)I"⟩, 9), (⟨"DumbwaiterYoung$Reader", "add", "(IIJLDumbwaiterYoung$Word;)V"⟩, 9), (⟨"DumbwaiterYoung$Tower", "readLine", "(LDumbwaiterYoung$Reader;)V"⟩, 15), (⟨"DumbwaiterYoung$Tower", "readFloor", "(LDumbwaiterYoung$Reader;)V"⟩, 15), (⟨"DumbwaiterYoung$Reader", "next", "()V"⟩, 9), (⟨"DumbwaiterYoung$Tower", "takeNewName", "(LDumbwaiterYoung$Reader;)J"⟩, 15), (⟨"DumbwaiterYoung$Tower", "floorNamed", "(J)I"⟩, 15), (⟨"DumbwaiterYoung$Tower", "childNamed", "(J)I"⟩, 15), (⟨"DumbwaiterYoung$Tower", "uncleNamed", "(J)I"⟩, 15), (⟨"DumbwaiterYoung$Tower", "readChild", "(LDumbwaiterYoung$Reader;)V"⟩, 15), (⟨"DumbwaiterYoung$Tower", "readUncle", "(LDumbwaiterYoung$Reader;)V"⟩, 15), (⟨"DumbwaiterYoung$Tower", "readLaw", "(LDumbwaiterYoung$Reader;)V"⟩, 15), (⟨"DumbwaiterYoung$Tower", "readLikes", "(LDumbwaiterYoung$Reader;)V"⟩, 15), (⟨"DumbwaiterYoung$Tower", "takeFloor", "(LDumbwaiterYoung$Reader;)I"⟩, 15)]
theorem lw_r1 : ∀ q ∈ lw_privs_1, lw_okq q := List.forall_mem_cons.mpr ⟨lw_p0, List.forall_mem_cons.mpr ⟨lw_p1, List.forall_mem_cons.mpr ⟨lw_p2, List.forall_mem_cons.mpr ⟨lw_p3, List.forall_mem_cons.mpr ⟨lw_p4, List.forall_mem_cons.mpr ⟨lw_p5, List.forall_mem_cons.mpr ⟨lw_p6, List.forall_mem_cons.mpr ⟨lw_p7, List.forall_mem_cons.mpr ⟨lw_p8, List.forall_mem_cons.mpr ⟨lw_p9, List.forall_mem_cons.mpr ⟨lw_p10, List.forall_mem_cons.mpr ⟨lw_p11, List.forall_mem_cons.mpr ⟨lw_p12, List.forall_mem_cons.mpr ⟨lw_p13, List.forall_mem_cons.mpr ⟨lw_p14, List.forall_mem_cons.mpr ⟨lw_p15, fun _ h => absurd h List.not_mem_nil⟩⟩⟩⟩⟩⟩⟩⟩⟩⟩⟩⟩⟩⟩⟩⟩
theorem lw_p16 : lw_okq (⟨"DumbwaiterYoung", "isChild", "(I)Z"⟩, 19) := ⟨⟨by decide +kernel, by decide +kernel⟩, List.mem_of_getElem? (i := 28) (by decide +kernel), List.mem_of_getElem? (i := 678) (by decide +kernel), List.mem_of_getElem? (i := 679) (by decide +kernel)⟩
theorem lw_p17 : lw_okq (⟨"DumbwaiterYoung", "isFloor", "(I)Z"⟩, 19) := ⟨⟨by decide +kernel, by decide +kernel⟩, List.mem_of_getElem? (i := 28) (by decide +kernel), List.mem_of_getElem? (i := 690) (by decide +kernel), List.mem_of_getElem? (i := 691) (by decide +kernel)⟩
theorem lw_p18 : lw_okq (⟨"DumbwaiterYoung", "isUncle", "(I)Z"⟩, 19) := ⟨⟨by decide +kernel, by decide +kernel⟩, List.mem_of_getElem? (i := 28) (by decide +kernel), List.mem_of_getElem? (i := 702) (by decide +kernel), List.mem_of_getElem? (i := 703) (by decide +kernel)⟩
theorem lw_p19 : lw_okq (⟨"DumbwaiterYoung", "perform", "(III)I"⟩, 19) := ⟨⟨by decide +kernel, by decide +kernel⟩, List.mem_of_getElem? (i := 28) (by decide +kernel), List.mem_of_getElem? (i := 747) (by decide +kernel), List.mem_of_getElem? (i := 748) (by decide +kernel)⟩
theorem lw_p20 : lw_okq (⟨"DumbwaiterYoung$State", "whyNotSent", "(LDumbwaiterYoung$Tower;II)I"⟩, 11) := ⟨⟨by decide +kernel, by decide +kernel⟩, List.mem_of_getElem? (i := 160) (by decide +kernel), List.mem_of_getElem? (i := 755) (by decide +kernel), List.mem_of_getElem? (i := 756) (by decide +kernel)⟩
theorem lw_p21 : lw_okq (⟨"DumbwaiterYoung$State", "whyNotServed", "(LDumbwaiterYoung$Tower;I)I"⟩, 11) := ⟨⟨by decide +kernel, by decide +kernel⟩, List.mem_of_getElem? (i := 160) (by decide +kernel), List.mem_of_getElem? (i := 761) (by decide +kernel), List.mem_of_getElem? (i := 762) (by decide +kernel)⟩
theorem lw_p22 : lw_okq (⟨"DumbwaiterYoung$State", "moveTo", "(LDumbwaiterYoung$Tower;II)V"⟩, 11) := ⟨⟨by decide +kernel, by decide +kernel⟩, List.mem_of_getElem? (i := 160) (by decide +kernel), List.mem_of_getElem? (i := 778) (by decide +kernel), List.mem_of_getElem? (i := 779) (by decide +kernel)⟩
theorem lw_p23 : lw_okq (⟨"DumbwaiterYoung$State", "bringBack", "(I)V"⟩, 11) := ⟨⟨by decide +kernel, by decide +kernel⟩, List.mem_of_getElem? (i := 160) (by decide +kernel), List.mem_of_getElem? (i := 790) (by decide +kernel), List.mem_of_getElem? (i := 791) (by decide +kernel)⟩
theorem lw_p24 : lw_okq (⟨"DumbwaiterYoung$State", "receive", "(LDumbwaiterYoung$Tower;II)V"⟩, 11) := ⟨⟨by decide +kernel, by decide +kernel⟩, List.mem_of_getElem? (i := 160) (by decide +kernel), List.mem_of_getElem? (i := 798) (by decide +kernel), List.mem_of_getElem? (i := 799) (by decide +kernel)⟩
theorem lw_p25 : lw_okq (⟨"DumbwaiterYoung$State", "areNeighbours", "(II)Z"⟩, 11) := ⟨⟨by decide +kernel, by decide +kernel⟩, List.mem_of_getElem? (i := 160) (by decide +kernel), List.mem_of_getElem? (i := 802) (by decide +kernel), List.mem_of_getElem? (i := 803) (by decide +kernel)⟩
theorem lw_p26 : lw_okq (⟨"DumbwaiterYoung$State", "talk", "(II)V"⟩, 11) := ⟨⟨by decide +kernel, by decide +kernel⟩, List.mem_of_getElem? (i := 160) (by decide +kernel), List.mem_of_getElem? (i := 806) (by decide +kernel), List.mem_of_getElem? (i := 807) (by decide +kernel)⟩
theorem lw_p27 : lw_okq (⟨"DumbwaiterYoung$State", "growOlder", "(LDumbwaiterYoung$Tower;I)V"⟩, 11) := ⟨⟨by decide +kernel, by decide +kernel⟩, List.mem_of_getElem? (i := 160) (by decide +kernel), List.mem_of_getElem? (i := 810) (by decide +kernel), List.mem_of_getElem? (i := 811) (by decide +kernel)⟩
theorem lw_p28 : lw_okq (⟨"DumbwaiterYoung$Plan", "insert", "(II)V"⟩, 5) := ⟨⟨by decide +kernel, by decide +kernel⟩, List.mem_of_getElem? (i := 290) (by decide +kernel), List.mem_of_getElem? (i := 862) (by decide +kernel), List.mem_of_getElem? (i := 863) (by decide +kernel)⟩
theorem lw_p29 : lw_okq (⟨"DumbwaiterYoung$Plan", "findOrder", "(I)V"⟩, 5) := ⟨⟨by decide +kernel, by decide +kernel⟩, List.mem_of_getElem? (i := 290) (by decide +kernel), List.mem_of_getElem? (i := 867) (by decide +kernel), List.mem_of_getElem? (i := 868) (by decide +kernel)⟩
theorem lw_p30 : lw_okq (⟨"DumbwaiterYoung$Plan", "pick", "(I)Z"⟩, 5) := ⟨⟨by decide +kernel, by decide +kernel⟩, List.mem_of_getElem? (i := 290) (by decide +kernel), List.mem_of_getElem? (i := 871) (by decide +kernel), List.mem_of_getElem? (i := 872) (by decide +kernel)⟩
theorem lw_p31 : lw_okq (⟨"DumbwaiterYoung$Plan", "pickedLength", "(I)I"⟩, 5) := ⟨⟨by decide +kernel, by decide +kernel⟩, List.mem_of_getElem? (i := 290) (by decide +kernel), List.mem_of_getElem? (i := 881) (by decide +kernel), List.mem_of_getElem? (i := 882) (by decide +kernel)⟩
def lw_privs_2 : List (MethodName × Nat) := [(⟨"DumbwaiterYoung", "isChild", "(I)Z"⟩, 19), (⟨"DumbwaiterYoung", "isFloor", "(I)Z"⟩, 19), (⟨"DumbwaiterYoung", "isUncle", "(I)Z"⟩, 19), (⟨"DumbwaiterYoung", "perform", "(III)I"⟩, 19), (⟨"DumbwaiterYoung$State", "whyNotSent", "(LDumbwaiterYoung$Tower;II)I"⟩, 11), (⟨"DumbwaiterYoung$State", "whyNotServed", "(LDumbwaiterYoung$Tower;I)I"⟩, 11), (⟨"DumbwaiterYoung$State", "moveTo", "(LDumbwaiterYoung$Tower;II)V"⟩, 11), (⟨"DumbwaiterYoung$State", "bringBack", "(I)V"⟩, 11), (⟨"DumbwaiterYoung$State", "receive", "(LDumbwaiterYoung$Tower;II)V"⟩, 11), (⟨"DumbwaiterYoung$State", "areNeighbours", "(II)Z"⟩, 11), (⟨"DumbwaiterYoung$State", "talk", "(II)V"⟩, 11), (⟨"DumbwaiterYoung$State", "growOlder", "(LDumbwaiterYoung$Tower;I)V"⟩, 11), (⟨"DumbwaiterYoung$Plan", "insert", "(II)V"⟩, 5), (⟨"DumbwaiterYoung$Plan", "findOrder", "(I)V"⟩, 5), (⟨"DumbwaiterYoung$Plan", "pick", "(I)Z"⟩, 5), (⟨"DumbwaiterYoung$Plan", "pickedLength", "(I)I"⟩, 5)]
theorem lw_r2 : ∀ q ∈ lw_privs_2, lw_okq q := List.forall_mem_cons.mpr ⟨lw_p16, List.forall_mem_cons.mpr ⟨lw_p17, List.forall_mem_cons.mpr ⟨lw_p18, List.forall_mem_cons.mpr ⟨lw_p19, List.forall_mem_cons.mpr ⟨lw_p20, List.forall_mem_cons.mpr ⟨lw_p21, List.forall_mem_cons.mpr ⟨lw_p22, List.forall_mem_cons.mpr ⟨lw_p23, List.forall_mem_cons.mpr ⟨lw_p24, List.forall_mem_cons.mpr ⟨lw_p25, List.forall_mem_cons.mpr ⟨lw_p26, List.forall_mem_cons.mpr ⟨lw_p27, List.forall_mem_cons.mpr ⟨lw_p28, List.forall_mem_cons.mpr ⟨lw_p29, List.forall_mem_cons.mpr ⟨lw_p30, List.forall_mem_cons.mpr ⟨lw_p31, fun _ h => absurd h List.not_mem_nil⟩⟩⟩⟩⟩⟩⟩⟩⟩⟩⟩⟩⟩⟩⟩⟩
theorem lw_p32 : lw_okq (⟨"DumbwaiterYoung$Trace", "walk", "(LDumbwaiterYoung$Tower;II)V"⟩, 7) := ⟨⟨by decide +kernel, by decide +kernel⟩, List.mem_of_getElem? (i := 315) (by decide +kernel), List.mem_of_getElem? (i := 904) (by decide +kernel), List.mem_of_getElem? (i := 905) (by decide +kernel)⟩
theorem lw_p33 : lw_okq (⟨"DumbwaiterYoung$Trace", "noteRow", "(I)V"⟩, 7) := ⟨⟨by decide +kernel, by decide +kernel⟩, List.mem_of_getElem? (i := 315) (by decide +kernel), List.mem_of_getElem? (i := 908) (by decide +kernel), List.mem_of_getElem? (i := 909) (by decide +kernel)⟩
theorem lw_p34 : lw_okq (⟨"DumbwaiterYoung$Trace", "bestQuestion", "(I)I"⟩, 7) := ⟨⟨by decide +kernel, by decide +kernel⟩, List.mem_of_getElem? (i := 315) (by decide +kernel), List.mem_of_getElem? (i := 913) (by decide +kernel), List.mem_of_getElem? (i := 914) (by decide +kernel)⟩
theorem lw_p35 : lw_okq (⟨"DumbwaiterYoung$Bargain", "makeOffer", "(LDumbwaiterYoung$Tower;LDumbwaiterYoung$State;)Z"⟩, 3) := ⟨⟨by decide +kernel, by decide +kernel⟩, List.mem_of_getElem? (i := 346) (by decide +kernel), List.mem_of_getElem? (i := 960) (by decide +kernel), List.mem_of_getElem? (i := 961) (by decide +kernel)⟩
theorem lw_p36 : lw_okq (⟨"DumbwaiterYoung$Bargain", "choose", "(LDumbwaiterYoung$Tower;II)V"⟩, 3) := ⟨⟨by decide +kernel, by decide +kernel⟩, List.mem_of_getElem? (i := 346) (by decide +kernel), List.mem_of_getElem? (i := 968) (by decide +kernel), List.mem_of_getElem? (i := 969) (by decide +kernel)⟩
theorem lw_p37 : lw_okq (⟨"DumbwaiterYoung", "chalkName", "(J)V"⟩, 19) := ⟨⟨by decide +kernel, by decide +kernel⟩, List.mem_of_getElem? (i := 28) (by decide +kernel), List.mem_of_getElem? (i := 981) (by decide +kernel), List.mem_of_getElem? (i := 982) (by decide +kernel)⟩
theorem lw_p38 : lw_okq (⟨"DumbwaiterYoung", "chalkByte", "(I)V"⟩, 19) := ⟨⟨by decide +kernel, by decide +kernel⟩, List.mem_of_getElem? (i := 28) (by decide +kernel), List.mem_of_getElem? (i := 986) (by decide +kernel), List.mem_of_getElem? (i := 987) (by decide +kernel)⟩
theorem lw_p39 : lw_okq (⟨"DumbwaiterYoung", "chalkText", "(Ljava/lang/String;)V"⟩, 19) := ⟨⟨by decide +kernel, by decide +kernel⟩, List.mem_of_getElem? (i := 28) (by decide +kernel), List.mem_of_getElem? (i := 991) (by decide +kernel), List.mem_of_getElem? (i := 992) (by decide +kernel)⟩
theorem lw_p40 : lw_okq (⟨"DumbwaiterYoung", "chalkLacking", "(I)V"⟩, 19) := ⟨⟨by decide +kernel, by decide +kernel⟩, List.mem_of_getElem? (i := 28) (by decide +kernel), List.mem_of_getElem? (i := 1045) (by decide +kernel), List.mem_of_getElem? (i := 1046) (by decide +kernel)⟩
theorem lw_p41 : lw_okq (⟨"DumbwaiterYoung$State", "drawDeeds", "(LDumbwaiterYoung$Tower;I)I"⟩, 11) := ⟨⟨by decide +kernel, by decide +kernel⟩, List.mem_of_getElem? (i := 160) (by decide +kernel), List.mem_of_getElem? (i := 1068) (by decide +kernel), List.mem_of_getElem? (i := 1069) (by decide +kernel)⟩
theorem lw_p42 : lw_okq (⟨"DumbwaiterYoung$Book", "readLine", "(LDumbwaiterYoung$Reader;LDumbwaiterYoung$Tower;)V"⟩, 8) := ⟨⟨by decide +kernel, by decide +kernel⟩, List.mem_of_getElem? (i := 366) (by decide +kernel), List.mem_of_getElem? (i := 1093) (by decide +kernel), List.mem_of_getElem? (i := 1094) (by decide +kernel)⟩
theorem lw_p43 : lw_okq (⟨"DumbwaiterYoung$Sentence", "readCondition", "(LDumbwaiterYoung$Reader;LDumbwaiterYoung$Tower;I)V"⟩, 6) := ⟨⟨by decide +kernel, by decide +kernel⟩, List.mem_of_getElem? (i := 216) (by decide +kernel), List.mem_of_getElem? (i := 1155) (by decide +kernel), List.mem_of_getElem? (i := 1156) (by decide +kernel)⟩
theorem lw_p44 : lw_okq (⟨"DumbwaiterYoung$Sentence", "readOne", "(LDumbwaiterYoung$Reader;LDumbwaiterYoung$Tower;I)V"⟩, 6) := ⟨⟨by decide +kernel, by decide +kernel⟩, List.mem_of_getElem? (i := 216) (by decide +kernel), List.mem_of_getElem? (i := 1160) (by decide +kernel), List.mem_of_getElem? (i := 1161) (by decide +kernel)⟩
theorem lw_p45 : lw_okq (⟨"DumbwaiterYoung$Sentence", "add", "(IIII)V"⟩, 6) := ⟨⟨by decide +kernel, by decide +kernel⟩, List.mem_of_getElem? (i := 216) (by decide +kernel), List.mem_of_getElem? (i := 1184) (by decide +kernel), List.mem_of_getElem? (i := 1185) (by decide +kernel)⟩
theorem lw_p46 : lw_okq (⟨"DumbwaiterYoung$Sentence", "readSimple", "(LDumbwaiterYoung$Reader;LDumbwaiterYoung$Tower;)V"⟩, 6) := ⟨⟨by decide +kernel, by decide +kernel⟩, List.mem_of_getElem? (i := 216) (by decide +kernel), List.mem_of_getElem? (i := 1189) (by decide +kernel), List.mem_of_getElem? (i := 1190) (by decide +kernel)⟩
theorem lw_p47 : lw_okq (⟨"DumbwaiterYoung$Sentence", "isTrue", "(LDumbwaiterYoung$Tower;LDumbwaiterYoung$State;II)Z"⟩, 6) := ⟨⟨by decide +kernel, by decide +kernel⟩, List.mem_of_getElem? (i := 216) (by decide +kernel), List.mem_of_getElem? (i := 1219) (by decide +kernel), List.mem_of_getElem? (i := 1220) (by decide +kernel)⟩
def lw_privs_3 : List (MethodName × Nat) := [(⟨"DumbwaiterYoung$Trace", "walk", "(LDumbwaiterYoung$Tower;II)V"⟩, 7), (⟨"DumbwaiterYoung$Trace", "noteRow", "(I)V"⟩, 7), (⟨"DumbwaiterYoung$Trace", "bestQuestion", "(I)I"⟩, 7), (⟨"DumbwaiterYoung$Bargain", "makeOffer", "(LDumbwaiterYoung$Tower;LDumbwaiterYoung$State;)Z"⟩, 3), (⟨"DumbwaiterYoung$Bargain", "choose", "(LDumbwaiterYoung$Tower;II)V"⟩, 3), (⟨"DumbwaiterYoung", "chalkName", "(J)V"⟩, 19), (⟨"DumbwaiterYoung", "chalkByte", "(I)V"⟩, 19), (⟨"DumbwaiterYoung", "chalkText", "(Ljava/lang/String;)V"⟩, 19), (⟨"DumbwaiterYoung", "chalkLacking", "(I)V"⟩, 19), (⟨"DumbwaiterYoung$State", "drawDeeds", "(LDumbwaiterYoung$Tower;I)I"⟩, 11), (⟨"DumbwaiterYoung$Book", "readLine", "(LDumbwaiterYoung$Reader;LDumbwaiterYoung$Tower;)V"⟩, 8), (⟨"DumbwaiterYoung$Sentence", "readCondition", "(LDumbwaiterYoung$Reader;LDumbwaiterYoung$Tower;I)V"⟩, 6), (⟨"DumbwaiterYoung$Sentence", "readOne", "(LDumbwaiterYoung$Reader;LDumbwaiterYoung$Tower;I)V"⟩, 6), (⟨"DumbwaiterYoung$Sentence", "add", "(IIII)V"⟩, 6), (⟨"DumbwaiterYoung$Sentence", "readSimple", "(LDumbwaiterYoung$Reader;LDumbwaiterYoung$Tower;)V"⟩, 6), (⟨"DumbwaiterYoung$Sentence", "isTrue", "(LDumbwaiterYoung$Tower;LDumbwaiterYoung$State;II)Z"⟩, 6)]
theorem lw_r3 : ∀ q ∈ lw_privs_3, lw_okq q := List.forall_mem_cons.mpr ⟨lw_p32, List.forall_mem_cons.mpr ⟨lw_p33, List.forall_mem_cons.mpr ⟨lw_p34, List.forall_mem_cons.mpr ⟨lw_p35, List.forall_mem_cons.mpr ⟨lw_p36, List.forall_mem_cons.mpr ⟨lw_p37, List.forall_mem_cons.mpr ⟨lw_p38, List.forall_mem_cons.mpr ⟨lw_p39, List.forall_mem_cons.mpr ⟨lw_p40, List.forall_mem_cons.mpr ⟨lw_p41, List.forall_mem_cons.mpr ⟨lw_p42, List.forall_mem_cons.mpr ⟨lw_p43, List.forall_mem_cons.mpr ⟨lw_p44, List.forall_mem_cons.mpr ⟨lw_p45, List.forall_mem_cons.mpr ⟨lw_p46, List.forall_mem_cons.mpr ⟨lw_p47, fun _ h => absurd h List.not_mem_nil⟩⟩⟩⟩⟩⟩⟩⟩⟩⟩⟩⟩⟩⟩⟩⟩
theorem lw_p48 : lw_okq (⟨"java/lang/Throwable", "fillInStackTrace", "(I)Ljava/lang/Throwable;"⟩, 6) := ⟨⟨by decide +kernel, by decide +kernel⟩, List.mem_of_getElem? (i := 1299) (by decide +kernel), List.mem_of_getElem? (i := 1297) (by decide +kernel), List.mem_of_getElem? (i := 1298) (by decide +kernel)⟩
theorem lw_p49 : lw_okq (⟨"DumbwaiterYoungModel", "four", "(I)V"⟩, 54) := ⟨⟨by decide +kernel, by decide +kernel⟩, List.mem_of_getElem? (i := 1334) (by decide +kernel), List.mem_of_getElem? (i := 1332) (by decide +kernel), List.mem_of_getElem? (i := 1333) (by decide +kernel)⟩
theorem lw_p50 : lw_okq (⟨"DumbwaiterYoungModel", "clears", "()V"⟩, 54) := ⟨⟨by decide +kernel, by decide +kernel⟩, List.mem_of_getElem? (i := 1334) (by decide +kernel), List.mem_of_getElem? (i := 1377) (by decide +kernel), List.mem_of_getElem? (i := 1378) (by decide +kernel)⟩
theorem lw_p51 : lw_okq (⟨"DumbwaiterYoungModel", "taken", "(I)V"⟩, 54) := ⟨⟨by decide +kernel, by decide +kernel⟩, List.mem_of_getElem? (i := 1334) (by decide +kernel), List.mem_of_getElem? (i := 1549) (by decide +kernel), List.mem_of_getElem? (i := 1550) (by decide +kernel)⟩
theorem lw_p52 : lw_okq (⟨"DumbwaiterYoungModel", "next", "()V"⟩, 54) := ⟨⟨by decide +kernel, by decide +kernel⟩, List.mem_of_getElem? (i := 1334) (by decide +kernel), List.mem_of_getElem? (i := 1553) (by decide +kernel), List.mem_of_getElem? (i := 1554) (by decide +kernel)⟩
theorem lw_p53 : lw_okq (⟨"DumbwaiterYoungModel", "peek", "()I"⟩, 54) := ⟨⟨by decide +kernel, by decide +kernel⟩, List.mem_of_getElem? (i := 1334) (by decide +kernel), List.mem_of_getElem? (i := 1557) (by decide +kernel), List.mem_of_getElem? (i := 1558) (by decide +kernel)⟩
theorem lw_p54 : lw_okq (⟨"DumbwaiterYoungModel", "line", "()Z"⟩, 54) := ⟨⟨by decide +kernel, by decide +kernel⟩, List.mem_of_getElem? (i := 1334) (by decide +kernel), List.mem_of_getElem? (i := 1567) (by decide +kernel), List.mem_of_getElem? (i := 1568) (by decide +kernel)⟩
theorem lw_p55 : lw_okq (⟨"DumbwaiterYoungModel", "isWord", "(J)Z"⟩, 54) := ⟨⟨by decide +kernel, by decide +kernel⟩, List.mem_of_getElem? (i := 1334) (by decide +kernel), List.mem_of_getElem? (i := 1571) (by decide +kernel), List.mem_of_getElem? (i := 1572) (by decide +kernel)⟩
theorem lw_p56 : lw_okq (⟨"DumbwaiterYoungModel", "readFloor", "()Z"⟩, 54) := ⟨⟨by decide +kernel, by decide +kernel⟩, List.mem_of_getElem? (i := 1334) (by decide +kernel), List.mem_of_getElem? (i := 1575) (by decide +kernel), List.mem_of_getElem? (i := 1576) (by decide +kernel)⟩
theorem lw_p57 : lw_okq (⟨"DumbwaiterYoungModel", "bad", "(I)Z"⟩, 54) := ⟨⟨by decide +kernel, by decide +kernel⟩, List.mem_of_getElem? (i := 1334) (by decide +kernel), List.mem_of_getElem? (i := 1579) (by decide +kernel), List.mem_of_getElem? (i := 1580) (by decide +kernel)⟩
theorem lw_p58 : lw_okq (⟨"DumbwaiterYoungModel", "fresh", "(I)Z"⟩, 54) := ⟨⟨by decide +kernel, by decide +kernel⟩, List.mem_of_getElem? (i := 1334) (by decide +kernel), List.mem_of_getElem? (i := 1583) (by decide +kernel), List.mem_of_getElem? (i := 1584) (by decide +kernel)⟩
theorem lw_p59 : lw_okq (⟨"DumbwaiterYoungModel", "isName", "()Z"⟩, 54) := ⟨⟨by decide +kernel, by decide +kernel⟩, List.mem_of_getElem? (i := 1334) (by decide +kernel), List.mem_of_getElem? (i := 1587) (by decide +kernel), List.mem_of_getElem? (i := 1588) (by decide +kernel)⟩
theorem lw_p60 : lw_okq (⟨"DumbwaiterYoungModel", "find", "(II)I"⟩, 54) := ⟨⟨by decide +kernel, by decide +kernel⟩, List.mem_of_getElem? (i := 1334) (by decide +kernel), List.mem_of_getElem? (i := 1591) (by decide +kernel), List.mem_of_getElem? (i := 1592) (by decide +kernel)⟩
theorem lw_p61 : lw_okq (⟨"DumbwaiterYoungModel", "takesGift", "()Z"⟩, 54) := ⟨⟨by decide +kernel, by decide +kernel⟩, List.mem_of_getElem? (i := 1334) (by decide +kernel), List.mem_of_getElem? (i := 1595) (by decide +kernel), List.mem_of_getElem? (i := 1596) (by decide +kernel)⟩
theorem lw_p62 : lw_okq (⟨"DumbwaiterYoungModel", "giftWord", "()I"⟩, 54) := ⟨⟨by decide +kernel, by decide +kernel⟩, List.mem_of_getElem? (i := 1334) (by decide +kernel), List.mem_of_getElem? (i := 1599) (by decide +kernel), List.mem_of_getElem? (i := 1600) (by decide +kernel)⟩
theorem lw_p63 : lw_okq (⟨"DumbwaiterYoungModel", "puts", "(III)Z"⟩, 54) := ⟨⟨by decide +kernel, by decide +kernel⟩, List.mem_of_getElem? (i := 1334) (by decide +kernel), List.mem_of_getElem? (i := 1603) (by decide +kernel), List.mem_of_getElem? (i := 1604) (by decide +kernel)⟩
def lw_privs_4 : List (MethodName × Nat) := [(⟨"java/lang/Throwable", "fillInStackTrace", "(I)Ljava/lang/Throwable;"⟩, 6), (⟨"DumbwaiterYoungModel", "four", "(I)V"⟩, 54), (⟨"DumbwaiterYoungModel", "clears", "()V"⟩, 54), (⟨"DumbwaiterYoungModel", "taken", "(I)V"⟩, 54), (⟨"DumbwaiterYoungModel", "next", "()V"⟩, 54), (⟨"DumbwaiterYoungModel", "peek", "()I"⟩, 54), (⟨"DumbwaiterYoungModel", "line", "()Z"⟩, 54), (⟨"DumbwaiterYoungModel", "isWord", "(J)Z"⟩, 54), (⟨"DumbwaiterYoungModel", "readFloor", "()Z"⟩, 54), (⟨"DumbwaiterYoungModel", "bad", "(I)Z"⟩, 54), (⟨"DumbwaiterYoungModel", "fresh", "(I)Z"⟩, 54), (⟨"DumbwaiterYoungModel", "isName", "()Z"⟩, 54), (⟨"DumbwaiterYoungModel", "find", "(II)I"⟩, 54), (⟨"DumbwaiterYoungModel", "takesGift", "()Z"⟩, 54), (⟨"DumbwaiterYoungModel", "giftWord", "()I"⟩, 54), (⟨"DumbwaiterYoungModel", "puts", "(III)Z"⟩, 54)]
theorem lw_r4 : ∀ q ∈ lw_privs_4, lw_okq q := List.forall_mem_cons.mpr ⟨lw_p48, List.forall_mem_cons.mpr ⟨lw_p49, List.forall_mem_cons.mpr ⟨lw_p50, List.forall_mem_cons.mpr ⟨lw_p51, List.forall_mem_cons.mpr ⟨lw_p52, List.forall_mem_cons.mpr ⟨lw_p53, List.forall_mem_cons.mpr ⟨lw_p54, List.forall_mem_cons.mpr ⟨lw_p55, List.forall_mem_cons.mpr ⟨lw_p56, List.forall_mem_cons.mpr ⟨lw_p57, List.forall_mem_cons.mpr ⟨lw_p58, List.forall_mem_cons.mpr ⟨lw_p59, List.forall_mem_cons.mpr ⟨lw_p60, List.forall_mem_cons.mpr ⟨lw_p61, List.forall_mem_cons.mpr ⟨lw_p62, List.forall_mem_cons.mpr ⟨lw_p63, fun _ h => absurd h List.not_mem_nil⟩⟩⟩⟩⟩⟩⟩⟩⟩⟩⟩⟩⟩⟩⟩⟩
theorem lw_p64 : lw_okq (⟨"DumbwaiterYoungModel", "takes", "(II)Z"⟩, 54) := ⟨⟨by decide +kernel, by decide +kernel⟩, List.mem_of_getElem? (i := 1334) (by decide +kernel), List.mem_of_getElem? (i := 1607) (by decide +kernel), List.mem_of_getElem? (i := 1608) (by decide +kernel)⟩
theorem lw_p65 : lw_okq (⟨"DumbwaiterYoungModel", "readLaw", "()Z"⟩, 54) := ⟨⟨by decide +kernel, by decide +kernel⟩, List.mem_of_getElem? (i := 1334) (by decide +kernel), List.mem_of_getElem? (i := 1614) (by decide +kernel), List.mem_of_getElem? (i := 1615) (by decide +kernel)⟩
theorem lw_p66 : lw_okq (⟨"DumbwaiterYoungModel", "readLike", "()Z"⟩, 54) := ⟨⟨by decide +kernel, by decide +kernel⟩, List.mem_of_getElem? (i := 1334) (by decide +kernel), List.mem_of_getElem? (i := 1618) (by decide +kernel), List.mem_of_getElem? (i := 1619) (by decide +kernel)⟩
theorem lw_p67 : lw_okq (⟨"DumbwaiterYoungModel", "takesName", "(II)Z"⟩, 54) := ⟨⟨by decide +kernel, by decide +kernel⟩, List.mem_of_getElem? (i := 1334) (by decide +kernel), List.mem_of_getElem? (i := 1622) (by decide +kernel), List.mem_of_getElem? (i := 1623) (by decide +kernel)⟩
theorem lw_p68 : lw_okq (⟨"DumbwaiterYoungModel", "looksAt", "(II)Z"⟩, 54) := ⟨⟨by decide +kernel, by decide +kernel⟩, List.mem_of_getElem? (i := 1334) (by decide +kernel), List.mem_of_getElem? (i := 1626) (by decide +kernel), List.mem_of_getElem? (i := 1627) (by decide +kernel)⟩
theorem lw_p69 : lw_okq (⟨"DumbwaiterYoungModel", "once", "(IIII)Z"⟩, 54) := ⟨⟨by decide +kernel, by decide +kernel⟩, List.mem_of_getElem? (i := 1334) (by decide +kernel), List.mem_of_getElem? (i := 1630) (by decide +kernel), List.mem_of_getElem? (i := 1631) (by decide +kernel)⟩
theorem lw_p70 : lw_okq (⟨"DumbwaiterYoungModel", "sign", "(I)Z"⟩, 54) := ⟨⟨by decide +kernel, by decide +kernel⟩, List.mem_of_getElem? (i := 1334) (by decide +kernel), List.mem_of_getElem? (i := 1637) (by decide +kernel), List.mem_of_getElem? (i := 1638) (by decide +kernel)⟩
theorem lw_p71 : lw_okq (⟨"DumbwaiterYoungModel", "isSign", "(I)Z"⟩, 54) := ⟨⟨by decide +kernel, by decide +kernel⟩, List.mem_of_getElem? (i := 1334) (by decide +kernel), List.mem_of_getElem? (i := 1641) (by decide +kernel), List.mem_of_getElem? (i := 1642) (by decide +kernel)⟩
theorem lw_p72 : lw_okq (⟨"DumbwaiterYoungModel", "isChild", "(I)Z"⟩, 54) := ⟨⟨by decide +kernel, by decide +kernel⟩, List.mem_of_getElem? (i := 1334) (by decide +kernel), List.mem_of_getElem? (i := 1653) (by decide +kernel), List.mem_of_getElem? (i := 1654) (by decide +kernel)⟩
theorem lw_p73 : lw_okq (⟨"DumbwaiterYoungModel", "throwsIf", "(Z)Z"⟩, 54) := ⟨⟨by decide +kernel, by decide +kernel⟩, List.mem_of_getElem? (i := 1334) (by decide +kernel), List.mem_of_getElem? (i := 1657) (by decide +kernel), List.mem_of_getElem? (i := 1658) (by decide +kernel)⟩
theorem lw_p74 : lw_okq (⟨"DumbwaiterYoungModel", "lacksOf", "(I)I"⟩, 54) := ⟨⟨by decide +kernel, by decide +kernel⟩, List.mem_of_getElem? (i := 1334) (by decide +kernel), List.mem_of_getElem? (i := 1661) (by decide +kernel), List.mem_of_getElem? (i := 1662) (by decide +kernel)⟩
theorem lw_p75 : lw_okq (⟨"DumbwaiterYoungModel", "haves", "(II)I"⟩, 54) := ⟨⟨by decide +kernel, by decide +kernel⟩, List.mem_of_getElem? (i := 1334) (by decide +kernel), List.mem_of_getElem? (i := 1665) (by decide +kernel), List.mem_of_getElem? (i := 1666) (by decide +kernel)⟩
theorem lw_p76 : lw_okq (⟨"DumbwaiterYoungModel", "nearTo", "(I)I"⟩, 54) := ⟨⟨by decide +kernel, by decide +kernel⟩, List.mem_of_getElem? (i := 1334) (by decide +kernel), List.mem_of_getElem? (i := 1669) (by decide +kernel), List.mem_of_getElem? (i := 1670) (by decide +kernel)⟩
theorem lw_p77 : lw_okq (⟨"DumbwaiterYoungModel", "areNear", "(II)Z"⟩, 54) := ⟨⟨by decide +kernel, by decide +kernel⟩, List.mem_of_getElem? (i := 1334) (by decide +kernel), List.mem_of_getElem? (i := 1673) (by decide +kernel), List.mem_of_getElem? (i := 1674) (by decide +kernel)⟩
theorem lw_p78 : lw_okq (⟨"DumbwaiterYoungModel", "isFloor", "(I)Z"⟩, 54) := ⟨⟨by decide +kernel, by decide +kernel⟩, List.mem_of_getElem? (i := 1334) (by decide +kernel), List.mem_of_getElem? (i := 1688) (by decide +kernel), List.mem_of_getElem? (i := 1689) (by decide +kernel)⟩
theorem lw_p79 : lw_okq (⟨"DumbwaiterYoungModel", "onFloor", "(I)I"⟩, 54) := ⟨⟨by decide +kernel, by decide +kernel⟩, List.mem_of_getElem? (i := 1334) (by decide +kernel), List.mem_of_getElem? (i := 1692) (by decide +kernel), List.mem_of_getElem? (i := 1693) (by decide +kernel)⟩
def lw_privs_5 : List (MethodName × Nat) := [(⟨"DumbwaiterYoungModel", "takes", "(II)Z"⟩, 54), (⟨"DumbwaiterYoungModel", "readLaw", "()Z"⟩, 54), (⟨"DumbwaiterYoungModel", "readLike", "()Z"⟩, 54), (⟨"DumbwaiterYoungModel", "takesName", "(II)Z"⟩, 54), (⟨"DumbwaiterYoungModel", "looksAt", "(II)Z"⟩, 54), (⟨"DumbwaiterYoungModel", "once", "(IIII)Z"⟩, 54), (⟨"DumbwaiterYoungModel", "sign", "(I)Z"⟩, 54), (⟨"DumbwaiterYoungModel", "isSign", "(I)Z"⟩, 54), (⟨"DumbwaiterYoungModel", "isChild", "(I)Z"⟩, 54), (⟨"DumbwaiterYoungModel", "throwsIf", "(Z)Z"⟩, 54), (⟨"DumbwaiterYoungModel", "lacksOf", "(I)I"⟩, 54), (⟨"DumbwaiterYoungModel", "haves", "(II)I"⟩, 54), (⟨"DumbwaiterYoungModel", "nearTo", "(I)I"⟩, 54), (⟨"DumbwaiterYoungModel", "areNear", "(II)Z"⟩, 54), (⟨"DumbwaiterYoungModel", "isFloor", "(I)Z"⟩, 54), (⟨"DumbwaiterYoungModel", "onFloor", "(I)I"⟩, 54)]
theorem lw_r5 : ∀ q ∈ lw_privs_5, lw_okq q := List.forall_mem_cons.mpr ⟨lw_p64, List.forall_mem_cons.mpr ⟨lw_p65, List.forall_mem_cons.mpr ⟨lw_p66, List.forall_mem_cons.mpr ⟨lw_p67, List.forall_mem_cons.mpr ⟨lw_p68, List.forall_mem_cons.mpr ⟨lw_p69, List.forall_mem_cons.mpr ⟨lw_p70, List.forall_mem_cons.mpr ⟨lw_p71, List.forall_mem_cons.mpr ⟨lw_p72, List.forall_mem_cons.mpr ⟨lw_p73, List.forall_mem_cons.mpr ⟨lw_p74, List.forall_mem_cons.mpr ⟨lw_p75, List.forall_mem_cons.mpr ⟨lw_p76, List.forall_mem_cons.mpr ⟨lw_p77, List.forall_mem_cons.mpr ⟨lw_p78, List.forall_mem_cons.mpr ⟨lw_p79, fun _ h => absurd h List.not_mem_nil⟩⟩⟩⟩⟩⟩⟩⟩⟩⟩⟩⟩⟩⟩⟩⟩
theorem lw_p80 : lw_okq (⟨"DumbwaiterYoungModel", "isUncle", "(I)Z"⟩, 54) := ⟨⟨by decide +kernel, by decide +kernel⟩, List.mem_of_getElem? (i := 1334) (by decide +kernel), List.mem_of_getElem? (i := 1700) (by decide +kernel), List.mem_of_getElem? (i := 1701) (by decide +kernel)⟩
theorem lw_p81 : lw_okq (⟨"DumbwaiterYoungModel", "isServed", "(I)Z"⟩, 54) := ⟨⟨by decide +kernel, by decide +kernel⟩, List.mem_of_getElem? (i := 1334) (by decide +kernel), List.mem_of_getElem? (i := 1712) (by decide +kernel), List.mem_of_getElem? (i := 1713) (by decide +kernel)⟩
theorem lw_p82 : lw_okq (⟨"DumbwaiterYoungModel", "balanceOf", "(I)I"⟩, 54) := ⟨⟨by decide +kernel, by decide +kernel⟩, List.mem_of_getElem? (i := 1334) (by decide +kernel), List.mem_of_getElem? (i := 1716) (by decide +kernel), List.mem_of_getElem? (i := 1717) (by decide +kernel)⟩
theorem lw_p83 : lw_okq (⟨"DumbwaiterYoungModel", "servedSet", "()I"⟩, 54) := ⟨⟨by decide +kernel, by decide +kernel⟩, List.mem_of_getElem? (i := 1334) (by decide +kernel), List.mem_of_getElem? (i := 1720) (by decide +kernel), List.mem_of_getElem? (i := 1721) (by decide +kernel)⟩
theorem lw_p84 : lw_okq (⟨"DumbwaiterYoungModel", "whySend", "(II)I"⟩, 54) := ⟨⟨by decide +kernel, by decide +kernel⟩, List.mem_of_getElem? (i := 1334) (by decide +kernel), List.mem_of_getElem? (i := 1728) (by decide +kernel), List.mem_of_getElem? (i := 1729) (by decide +kernel)⟩
theorem lw_p85 : lw_okq (⟨"DumbwaiterYoungModel", "keep", "()V"⟩, 54) := ⟨⟨by decide +kernel, by decide +kernel⟩, List.mem_of_getElem? (i := 1334) (by decide +kernel), List.mem_of_getElem? (i := 1732) (by decide +kernel), List.mem_of_getElem? (i := 1733) (by decide +kernel)⟩
theorem lw_p86 : lw_okq (⟨"DumbwaiterYoungModel", "sends", "(II)V"⟩, 54) := ⟨⟨by decide +kernel, by decide +kernel⟩, List.mem_of_getElem? (i := 1334) (by decide +kernel), List.mem_of_getElem? (i := 1736) (by decide +kernel), List.mem_of_getElem? (i := 1737) (by decide +kernel)⟩
theorem lw_p87 : lw_okq (⟨"DumbwaiterYoungModel", "turns", "(II)I"⟩, 54) := ⟨⟨by decide +kernel, by decide +kernel⟩, List.mem_of_getElem? (i := 1334) (by decide +kernel), List.mem_of_getElem? (i := 1747) (by decide +kernel), List.mem_of_getElem? (i := 1748) (by decide +kernel)⟩
theorem lw_p88 : lw_okq (⟨"DumbwaiterYoungModel", "whyServe", "(I)I"⟩, 54) := ⟨⟨by decide +kernel, by decide +kernel⟩, List.mem_of_getElem? (i := 1334) (by decide +kernel), List.mem_of_getElem? (i := 1759) (by decide +kernel), List.mem_of_getElem? (i := 1760) (by decide +kernel)⟩
theorem lw_p89 : lw_okq (⟨"DumbwaiterYoungModel", "returns", "(I)V"⟩, 54) := ⟨⟨by decide +kernel, by decide +kernel⟩, List.mem_of_getElem? (i := 1334) (by decide +kernel), List.mem_of_getElem? (i := 1767) (by decide +kernel), List.mem_of_getElem? (i := 1768) (by decide +kernel)⟩
theorem lw_p90 : lw_okq (⟨"DumbwaiterYoungModel", "goesOn", "(I)I"⟩, 54) := ⟨⟨by decide +kernel, by decide +kernel⟩, List.mem_of_getElem? (i := 1334) (by decide +kernel), List.mem_of_getElem? (i := 1775) (by decide +kernel), List.mem_of_getElem? (i := 1776) (by decide +kernel)⟩
theorem lw_p91 : lw_okq (⟨"DumbwaiterYoungModel", "hour", "()V"⟩, 54) := ⟨⟨by decide +kernel, by decide +kernel⟩, List.mem_of_getElem? (i := 1334) (by decide +kernel), List.mem_of_getElem? (i := 1779) (by decide +kernel), List.mem_of_getElem? (i := 1780) (by decide +kernel)⟩
theorem lw_p92 : lw_okq (⟨"DumbwaiterYoungModel", "more", "(III)V"⟩, 54) := ⟨⟨by decide +kernel, by decide +kernel⟩, List.mem_of_getElem? (i := 1334) (by decide +kernel), List.mem_of_getElem? (i := 1783) (by decide +kernel), List.mem_of_getElem? (i := 1784) (by decide +kernel)⟩
theorem lw_p93 : lw_okq (⟨"DumbwaiterYoungModel", "talk", "(II)V"⟩, 54) := ⟨⟨by decide +kernel, by decide +kernel⟩, List.mem_of_getElem? (i := 1334) (by decide +kernel), List.mem_of_getElem? (i := 1787) (by decide +kernel), List.mem_of_getElem? (i := 1788) (by decide +kernel)⟩
theorem lw_p94 : lw_okq (⟨"DumbwaiterYoungModel", "tries", "()V"⟩, 54) := ⟨⟨by decide +kernel, by decide +kernel⟩, List.mem_of_getElem? (i := 1334) (by decide +kernel), List.mem_of_getElem? (i := 1799) (by decide +kernel), List.mem_of_getElem? (i := 1800) (by decide +kernel)⟩
theorem lw_p95 : lw_okq (⟨"DumbwaiterYoungModel", "recalls", "()V"⟩, 54) := ⟨⟨by decide +kernel, by decide +kernel⟩, List.mem_of_getElem? (i := 1334) (by decide +kernel), List.mem_of_getElem? (i := 1803) (by decide +kernel), List.mem_of_getElem? (i := 1804) (by decide +kernel)⟩
def lw_privs_6 : List (MethodName × Nat) := [(⟨"DumbwaiterYoungModel", "isUncle", "(I)Z"⟩, 54), (⟨"DumbwaiterYoungModel", "isServed", "(I)Z"⟩, 54), (⟨"DumbwaiterYoungModel", "balanceOf", "(I)I"⟩, 54), (⟨"DumbwaiterYoungModel", "servedSet", "()I"⟩, 54), (⟨"DumbwaiterYoungModel", "whySend", "(II)I"⟩, 54), (⟨"DumbwaiterYoungModel", "keep", "()V"⟩, 54), (⟨"DumbwaiterYoungModel", "sends", "(II)V"⟩, 54), (⟨"DumbwaiterYoungModel", "turns", "(II)I"⟩, 54), (⟨"DumbwaiterYoungModel", "whyServe", "(I)I"⟩, 54), (⟨"DumbwaiterYoungModel", "returns", "(I)V"⟩, 54), (⟨"DumbwaiterYoungModel", "goesOn", "(I)I"⟩, 54), (⟨"DumbwaiterYoungModel", "hour", "()V"⟩, 54), (⟨"DumbwaiterYoungModel", "more", "(III)V"⟩, 54), (⟨"DumbwaiterYoungModel", "talk", "(II)V"⟩, 54), (⟨"DumbwaiterYoungModel", "tries", "()V"⟩, 54), (⟨"DumbwaiterYoungModel", "recalls", "()V"⟩, 54)]
theorem lw_r6 : ∀ q ∈ lw_privs_6, lw_okq q := List.forall_mem_cons.mpr ⟨lw_p80, List.forall_mem_cons.mpr ⟨lw_p81, List.forall_mem_cons.mpr ⟨lw_p82, List.forall_mem_cons.mpr ⟨lw_p83, List.forall_mem_cons.mpr ⟨lw_p84, List.forall_mem_cons.mpr ⟨lw_p85, List.forall_mem_cons.mpr ⟨lw_p86, List.forall_mem_cons.mpr ⟨lw_p87, List.forall_mem_cons.mpr ⟨lw_p88, List.forall_mem_cons.mpr ⟨lw_p89, List.forall_mem_cons.mpr ⟨lw_p90, List.forall_mem_cons.mpr ⟨lw_p91, List.forall_mem_cons.mpr ⟨lw_p92, List.forall_mem_cons.mpr ⟨lw_p93, List.forall_mem_cons.mpr ⟨lw_p94, List.forall_mem_cons.mpr ⟨lw_p95, fun _ h => absurd h List.not_mem_nil⟩⟩⟩⟩⟩⟩⟩⟩⟩⟩⟩⟩⟩⟩⟩⟩
theorem lw_p96 : lw_okq (⟨"DumbwaiterYoungModel", "floorFor", "(I)I"⟩, 54) := ⟨⟨by decide +kernel, by decide +kernel⟩, List.mem_of_getElem? (i := 1334) (by decide +kernel), List.mem_of_getElem? (i := 1811) (by decide +kernel), List.mem_of_getElem? (i := 1812) (by decide +kernel)⟩
theorem lw_p97 : lw_okq (⟨"DumbwaiterYoungModel", "passedBy", "(III)I"⟩, 54) := ⟨⟨by decide +kernel, by decide +kernel⟩, List.mem_of_getElem? (i := 1334) (by decide +kernel), List.mem_of_getElem? (i := 1818) (by decide +kernel), List.mem_of_getElem? (i := 1819) (by decide +kernel)⟩
theorem lw_p98 : lw_okq (⟨"DumbwaiterYoungModel", "isBeen", "(II)Z"⟩, 54) := ⟨⟨by decide +kernel, by decide +kernel⟩, List.mem_of_getElem? (i := 1334) (by decide +kernel), List.mem_of_getElem? (i := 1841) (by decide +kernel), List.mem_of_getElem? (i := 1842) (by decide +kernel)⟩
theorem lw_p99 : lw_okq (⟨"DumbwaiterYoungModel", "octet", "(I)I"⟩, 54) := ⟨⟨by decide +kernel, by decide +kernel⟩, List.mem_of_getElem? (i := 1334) (by decide +kernel), List.mem_of_getElem? (i := 1845) (by decide +kernel), List.mem_of_getElem? (i := 1846) (by decide +kernel)⟩
theorem lw_p100 : lw_okq (⟨"DumbwaiterYoungModel", "leftBy", "(II)I"⟩, 54) := ⟨⟨by decide +kernel, by decide +kernel⟩, List.mem_of_getElem? (i := 1334) (by decide +kernel), List.mem_of_getElem? (i := 1849) (by decide +kernel), List.mem_of_getElem? (i := 1850) (by decide +kernel)⟩
theorem lw_p101 : lw_okq (⟨"DumbwaiterYoungModel", "asks", "(I)Z"⟩, 54) := ⟨⟨by decide +kernel, by decide +kernel⟩, List.mem_of_getElem? (i := 1334) (by decide +kernel), List.mem_of_getElem? (i := 1884) (by decide +kernel), List.mem_of_getElem? (i := 1885) (by decide +kernel)⟩
theorem lw_p102 : lw_okq (⟨"DumbwaiterYoungModel", "likesFloor", "(II)I"⟩, 54) := ⟨⟨by decide +kernel, by decide +kernel⟩, List.mem_of_getElem? (i := 1334) (by decide +kernel), List.mem_of_getElem? (i := 1888) (by decide +kernel), List.mem_of_getElem? (i := 1889) (by decide +kernel)⟩
theorem lw_p103 : lw_okq (⟨"DumbwaiterYoungModel", "holderOf", "(I)I"⟩, 54) := ⟨⟨by decide +kernel, by decide +kernel⟩, List.mem_of_getElem? (i := 1334) (by decide +kernel), List.mem_of_getElem? (i := 1892) (by decide +kernel), List.mem_of_getElem? (i := 1893) (by decide +kernel)⟩
theorem lw_p104 : lw_okq (⟨"DumbwaiterYoungModel", "likesChild", "(II)I"⟩, 54) := ⟨⟨by decide +kernel, by decide +kernel⟩, List.mem_of_getElem? (i := 1334) (by decide +kernel), List.mem_of_getElem? (i := 1896) (by decide +kernel), List.mem_of_getElem? (i := 1897) (by decide +kernel)⟩
theorem lw_p105 : lw_okq (⟨"DumbwaiterYoungModel", "spells", "(J)V"⟩, 54) := ⟨⟨by decide +kernel, by decide +kernel⟩, List.mem_of_getElem? (i := 1334) (by decide +kernel), List.mem_of_getElem? (i := 1908) (by decide +kernel), List.mem_of_getElem? (i := 1909) (by decide +kernel)⟩
theorem lw_p106 : lw_okq (⟨"DumbwaiterYoungModel", "lays", "(I)V"⟩, 54) := ⟨⟨by decide +kernel, by decide +kernel⟩, List.mem_of_getElem? (i := 1334) (by decide +kernel), List.mem_of_getElem? (i := 1913) (by decide +kernel), List.mem_of_getElem? (i := 1914) (by decide +kernel)⟩
theorem lw_p107 : lw_okq (⟨"DumbwaiterYoungModel", "says", "(J)V"⟩, 54) := ⟨⟨by decide +kernel, by decide +kernel⟩, List.mem_of_getElem? (i := 1334) (by decide +kernel), List.mem_of_getElem? (i := 1917) (by decide +kernel), List.mem_of_getElem? (i := 1918) (by decide +kernel)⟩
theorem lw_p108 : lw_okq (⟨"DumbwaiterYoungModel", "draws", "(II)I"⟩, 54) := ⟨⟨by decide +kernel, by decide +kernel⟩, List.mem_of_getElem? (i := 1334) (by decide +kernel), List.mem_of_getElem? (i := 1930) (by decide +kernel), List.mem_of_getElem? (i := 1931) (by decide +kernel)⟩
theorem lw_p109 : lw_okq (⟨"DumbwaiterYoungModel", "draw", "(I)I"⟩, 54) := ⟨⟨by decide +kernel, by decide +kernel⟩, List.mem_of_getElem? (i := 1334) (by decide +kernel), List.mem_of_getElem? (i := 1934) (by decide +kernel), List.mem_of_getElem? (i := 1935) (by decide +kernel)⟩
theorem lw_p110 : lw_okq (⟨"DumbwaiterYoungModel", "bookLine", "()Z"⟩, 54) := ⟨⟨by decide +kernel, by decide +kernel⟩, List.mem_of_getElem? (i := 1334) (by decide +kernel), List.mem_of_getElem? (i := 1947) (by decide +kernel), List.mem_of_getElem? (i := 1948) (by decide +kernel)⟩
theorem lw_p111 : lw_okq (⟨"DumbwaiterYoungModel", "takesTo", "()Z"⟩, 54) := ⟨⟨by decide +kernel, by decide +kernel⟩, List.mem_of_getElem? (i := 1334) (by decide +kernel), List.mem_of_getElem? (i := 1951) (by decide +kernel), List.mem_of_getElem? (i := 1952) (by decide +kernel)⟩
def lw_privs_7 : List (MethodName × Nat) := [(⟨"DumbwaiterYoungModel", "floorFor", "(I)I"⟩, 54), (⟨"DumbwaiterYoungModel", "passedBy", "(III)I"⟩, 54), (⟨"DumbwaiterYoungModel", "isBeen", "(II)Z"⟩, 54), (⟨"DumbwaiterYoungModel", "octet", "(I)I"⟩, 54), (⟨"DumbwaiterYoungModel", "leftBy", "(II)I"⟩, 54), (⟨"DumbwaiterYoungModel", "asks", "(I)Z"⟩, 54), (⟨"DumbwaiterYoungModel", "likesFloor", "(II)I"⟩, 54), (⟨"DumbwaiterYoungModel", "holderOf", "(I)I"⟩, 54), (⟨"DumbwaiterYoungModel", "likesChild", "(II)I"⟩, 54), (⟨"DumbwaiterYoungModel", "spells", "(J)V"⟩, 54), (⟨"DumbwaiterYoungModel", "lays", "(I)V"⟩, 54), (⟨"DumbwaiterYoungModel", "says", "(J)V"⟩, 54), (⟨"DumbwaiterYoungModel", "draws", "(II)I"⟩, 54), (⟨"DumbwaiterYoungModel", "draw", "(I)I"⟩, 54), (⟨"DumbwaiterYoungModel", "bookLine", "()Z"⟩, 54), (⟨"DumbwaiterYoungModel", "takesTo", "()Z"⟩, 54)]
theorem lw_r7 : ∀ q ∈ lw_privs_7, lw_okq q := List.forall_mem_cons.mpr ⟨lw_p96, List.forall_mem_cons.mpr ⟨lw_p97, List.forall_mem_cons.mpr ⟨lw_p98, List.forall_mem_cons.mpr ⟨lw_p99, List.forall_mem_cons.mpr ⟨lw_p100, List.forall_mem_cons.mpr ⟨lw_p101, List.forall_mem_cons.mpr ⟨lw_p102, List.forall_mem_cons.mpr ⟨lw_p103, List.forall_mem_cons.mpr ⟨lw_p104, List.forall_mem_cons.mpr ⟨lw_p105, List.forall_mem_cons.mpr ⟨lw_p106, List.forall_mem_cons.mpr ⟨lw_p107, List.forall_mem_cons.mpr ⟨lw_p108, List.forall_mem_cons.mpr ⟨lw_p109, List.forall_mem_cons.mpr ⟨lw_p110, List.forall_mem_cons.mpr ⟨lw_p111, fun _ h => absurd h List.not_mem_nil⟩⟩⟩⟩⟩⟩⟩⟩⟩⟩⟩⟩⟩⟩⟩⟩
theorem lw_p112 : lw_okq (⟨"DumbwaiterYoungModel", "does", "(III)I"⟩, 54) := ⟨⟨by decide +kernel, by decide +kernel⟩, List.mem_of_getElem? (i := 1334) (by decide +kernel), List.mem_of_getElem? (i := 1955) (by decide +kernel), List.mem_of_getElem? (i := 1956) (by decide +kernel)⟩
theorem lw_p113 : lw_okq (⟨"DumbwaiterYoungModel", "nots", "()V"⟩, 54) := ⟨⟨by decide +kernel, by decide +kernel⟩, List.mem_of_getElem? (i := 1334) (by decide +kernel), List.mem_of_getElem? (i := 1967) (by decide +kernel), List.mem_of_getElem? (i := 1968) (by decide +kernel)⟩
theorem lw_p114 : lw_okq (⟨"DumbwaiterYoungModel", "code", "(III)V"⟩, 54) := ⟨⟨by decide +kernel, by decide +kernel⟩, List.mem_of_getElem? (i := 1334) (by decide +kernel), List.mem_of_getElem? (i := 1971) (by decide +kernel), List.mem_of_getElem? (i := 1972) (by decide +kernel)⟩
theorem lw_p115 : lw_okq (⟨"DumbwaiterYoungModel", "joins", "(I)V"⟩, 54) := ⟨⟨by decide +kernel, by decide +kernel⟩, List.mem_of_getElem? (i := 1334) (by decide +kernel), List.mem_of_getElem? (i := 1975) (by decide +kernel), List.mem_of_getElem? (i := 1976) (by decide +kernel)⟩
theorem lw_p116 : lw_okq (⟨"DumbwaiterYoungModel", "behind", "()Z"⟩, 54) := ⟨⟨by decide +kernel, by decide +kernel⟩, List.mem_of_getElem? (i := 1334) (by decide +kernel), List.mem_of_getElem? (i := 1979) (by decide +kernel), List.mem_of_getElem? (i := 1980) (by decide +kernel)⟩
theorem lw_p117 : lw_okq (⟨"DumbwaiterYoungModel", "operand", "()Z"⟩, 54) := ⟨⟨by decide +kernel, by decide +kernel⟩, List.mem_of_getElem? (i := 1334) (by decide +kernel), List.mem_of_getElem? (i := 1983) (by decide +kernel), List.mem_of_getElem? (i := 1984) (by decide +kernel)⟩
theorem lw_p118 : lw_okq (⟨"DumbwaiterYoungModel", "leafOf", "()I"⟩, 54) := ⟨⟨by decide +kernel, by decide +kernel⟩, List.mem_of_getElem? (i := 1334) (by decide +kernel), List.mem_of_getElem? (i := 1987) (by decide +kernel), List.mem_of_getElem? (i := 1988) (by decide +kernel)⟩
theorem lw_p119 : lw_okq (⟨"DumbwaiterYoungModel", "isSaid", "(I)Z"⟩, 54) := ⟨⟨by decide +kernel, by decide +kernel⟩, List.mem_of_getElem? (i := 1334) (by decide +kernel), List.mem_of_getElem? (i := 1995) (by decide +kernel), List.mem_of_getElem? (i := 1996) (by decide +kernel)⟩
theorem lw_p120 : lw_okq (⟨"DumbwaiterYoungModel", "isLeaf", "(IIII)Z"⟩, 54) := ⟨⟨by decide +kernel, by decide +kernel⟩, List.mem_of_getElem? (i := 1334) (by decide +kernel), List.mem_of_getElem? (i := 1999) (by decide +kernel), List.mem_of_getElem? (i := 2000) (by decide +kernel)⟩
def lw_privs_8 : List (MethodName × Nat) := [(⟨"DumbwaiterYoungModel", "does", "(III)I"⟩, 54), (⟨"DumbwaiterYoungModel", "nots", "()V"⟩, 54), (⟨"DumbwaiterYoungModel", "code", "(III)V"⟩, 54), (⟨"DumbwaiterYoungModel", "joins", "(I)V"⟩, 54), (⟨"DumbwaiterYoungModel", "behind", "()Z"⟩, 54), (⟨"DumbwaiterYoungModel", "operand", "()Z"⟩, 54), (⟨"DumbwaiterYoungModel", "leafOf", "()I"⟩, 54), (⟨"DumbwaiterYoungModel", "isSaid", "(I)Z"⟩, 54), (⟨"DumbwaiterYoungModel", "isLeaf", "(IIII)Z"⟩, 54)]
theorem lw_r8 : ∀ q ∈ lw_privs_8, lw_okq q := List.forall_mem_cons.mpr ⟨lw_p112, List.forall_mem_cons.mpr ⟨lw_p113, List.forall_mem_cons.mpr ⟨lw_p114, List.forall_mem_cons.mpr ⟨lw_p115, List.forall_mem_cons.mpr ⟨lw_p116, List.forall_mem_cons.mpr ⟨lw_p117, List.forall_mem_cons.mpr ⟨lw_p118, List.forall_mem_cons.mpr ⟨lw_p119, List.forall_mem_cons.mpr ⟨lw_p120, fun _ h => absurd h List.not_mem_nil⟩⟩⟩⟩⟩⟩⟩⟩⟩
def lw_privs : List (MethodName × Nat) := lw_privs_1 ++ (lw_privs_2 ++ (lw_privs_3 ++ (lw_privs_4 ++ (lw_privs_5 ++ (lw_privs_6 ++ (lw_privs_7 ++ (lw_privs_8)))))))
def lw_tbl : List Cond := k2_sels lw_privs ++ tables_1
theorem lw_privs_ok : ∀ q ∈ lw_privs, lw_okq q := by
  show ∀ q ∈ lw_privs_1 ++ (lw_privs_2 ++ (lw_privs_3 ++ (lw_privs_4 ++ (lw_privs_5 ++ (lw_privs_6 ++ (lw_privs_7 ++ (lw_privs_8))))))), lw_okq q
  exact List.forall_mem_append.mpr ⟨lw_r1, List.forall_mem_append.mpr ⟨lw_r2, List.forall_mem_append.mpr ⟨lw_r3, List.forall_mem_append.mpr ⟨lw_r4, List.forall_mem_append.mpr ⟨lw_r5, List.forall_mem_append.mpr ⟨lw_r6, List.forall_mem_append.mpr ⟨lw_r7, lw_r8⟩⟩⟩⟩⟩⟩⟩

def RX0 : String := "DumbwaiterYoung$Bargain"
def TX0 : u_T := fun k => match k with
  | 0 => ("DumbwaiterYoung$Bargain", "childOf", "[I", true)
  | 1 => ("DumbwaiterYoung$Bargain", "refusals", "[I", true)
  | _ => ("DumbwaiterYoung$Bargain", "floorOf", "[I", true)
def tyX0 : Nat → FieldType := fun k => match k with
  | 0 => .array .int
  | 1 => .array .int
  | _ => .array .int
abbrev wsX00 : List Cond := u_ws RX0 TX0 3
theorem nmX0 : ∀ a, a < 3 → ∀ b, b < 3 → a ≠ b → (TX0 a).2.1 ≠ (TX0 b).2.1 := by decide +kernel
theorem tyX0_ok : ∀ k, k < 3 → parseFieldDescriptor (TX0 k).2.2.1 = some (tyX0 k) := by decide +kernel
abbrev cX0_init : ByteArray := prog_2_method_1_code
def yX0_init : MethodName := ⟨RX0, "<init>", "()V"⟩
abbrev cX0_settle : ByteArray := prog_2_method_2_code
def yX0_settle : MethodName := ⟨RX0, "settle", "(LDumbwaiterYoung$Tower;LDumbwaiterYoung$State;)I"⟩
abbrev cX0_makeOffer : ByteArray := prog_2_method_3_code
def yX0_makeOffer : MethodName := ⟨RX0, "makeOffer", "(LDumbwaiterYoung$Tower;LDumbwaiterYoung$State;)Z"⟩
abbrev cX0_dearestFloor : ByteArray := prog_2_method_4_code
def yX0_dearestFloor : MethodName := ⟨RX0, "dearestFloor", "(LDumbwaiterYoung$Tower;II)I"⟩
abbrev cX0_choose : ByteArray := prog_2_method_5_code
def yX0_choose : MethodName := ⟨RX0, "choose", "(LDumbwaiterYoung$Tower;II)V"⟩
def RX1 : String := "DumbwaiterYoung$Book"
def TX1 : u_T := fun k => match k with
  | 0 => ("DumbwaiterYoung$Book", "deeds", "[I", true)
  | 1 => ("DumbwaiterYoung$Book", "whos", "[I", true)
  | 2 => ("DumbwaiterYoung$Book", "wheres", "[I", true)
  | 3 => ("DumbwaiterYoung$Book", "lines", "I", false)
  | 4 => ("DumbwaiterYoung$Book", "whyWrong", "I", false)
  | 5 => ("DumbwaiterYoung$Book", "rightLines", "I", false)
  | 6 => ("DumbwaiterYoung$Book", "hourThen", "I", false)
  | _ => ("DumbwaiterYoung$Book", "servedThen", "I", false)
def tyX1 : Nat → FieldType := fun k => match k with
  | 0 => .array .int
  | 1 => .array .int
  | 2 => .array .int
  | 3 => .int
  | 4 => .int
  | 5 => .int
  | 6 => .int
  | _ => .int
abbrev wsX10 : List Cond := u_ws RX1 TX1 8
theorem nmX1 : ∀ a, a < 8 → ∀ b, b < 8 → a ≠ b → (TX1 a).2.1 ≠ (TX1 b).2.1 := by decide +kernel
theorem tyX1_ok : ∀ k, k < 8 → parseFieldDescriptor (TX1 k).2.2.1 = some (tyX1 k) := by decide +kernel
abbrev cX1_init : ByteArray := prog_3_method_1_code
def yX1_init : MethodName := ⟨RX1, "<init>", "()V"⟩
abbrev cX1_readFrom : ByteArray := prog_3_method_2_code
def yX1_readFrom : MethodName := ⟨RX1, "readFrom", "(LDumbwaiterYoung$Reader;LDumbwaiterYoung$Tower;)V"⟩
abbrev cX1_readLine : ByteArray := prog_3_method_3_code
def yX1_readLine : MethodName := ⟨RX1, "readLine", "(LDumbwaiterYoung$Reader;LDumbwaiterYoung$Tower;)V"⟩
abbrev cX1_deedNow : ByteArray := prog_3_method_4_code
def yX1_deedNow : MethodName := ⟨RX1, "deedNow", "(LDumbwaiterYoung$Reader;)I"⟩
abbrev cX1_takeWho : ByteArray := prog_3_method_5_code
def yX1_takeWho : MethodName := ⟨RX1, "takeWho", "(LDumbwaiterYoung$Reader;LDumbwaiterYoung$Tower;I)I"⟩
abbrev cX1_live : ByteArray := prog_3_method_6_code
def yX1_live : MethodName := ⟨RX1, "live", "(LDumbwaiterYoung$Tower;LDumbwaiterYoung$State;)I"⟩
def RX2 : String := "DumbwaiterYoung$History"
def TX2 : u_T := fun k => match k with
  | 0 => ("DumbwaiterYoung$History", "kept", "[LDumbwaiterYoung$State;", true)
  | 1 => ("DumbwaiterYoung$History", "top", "I", false)
  | _ => ("DumbwaiterYoung$History", "size", "I", false)
def tyX2 : Nat → FieldType := fun k => match k with
  | 0 => .array (.object "DumbwaiterYoung$State")
  | 1 => .int
  | _ => .int
abbrev wsX20 : List Cond := u_ws RX2 TX2 3
theorem nmX2 : ∀ a, a < 3 → ∀ b, b < 3 → a ≠ b → (TX2 a).2.1 ≠ (TX2 b).2.1 := by decide +kernel
theorem tyX2_ok : ∀ k, k < 3 → parseFieldDescriptor (TX2 k).2.2.1 = some (tyX2 k) := by decide +kernel
abbrev cX2_init : ByteArray := prog_4_method_1_code
def yX2_init : MethodName := ⟨RX2, "<init>", "()V"⟩
abbrev cX2_clear : ByteArray := prog_4_method_2_code
def yX2_clear : MethodName := ⟨RX2, "clear", "()V"⟩
abbrev cX2_push : ByteArray := prog_4_method_3_code
def yX2_push : MethodName := ⟨RX2, "push", "(LDumbwaiterYoung$State;)V"⟩
abbrev cX2_pop : ByteArray := prog_4_method_4_code
def yX2_pop : MethodName := ⟨RX2, "pop", "(LDumbwaiterYoung$State;)Z"⟩
def RX3 : String := "DumbwaiterYoung$Image"
def TX3 : u_T := fun k => match k with
  | 0 => ("DumbwaiterYoung$Image", "house", "LDumbwaiterYoung$Tower;", true)
  | 1 => ("DumbwaiterYoung$Image", "state", "LDumbwaiterYoung$State;", true)
  | 2 => ("DumbwaiterYoung$Image", "saying", "LDumbwaiterYoung$Sentence;", true)
  | _ => ("DumbwaiterYoung$Image", "kept", "Z", false)
def tyX3 : Nat → FieldType := fun k => match k with
  | 0 => .object "DumbwaiterYoung$Tower"
  | 1 => .object "DumbwaiterYoung$State"
  | 2 => .object "DumbwaiterYoung$Sentence"
  | _ => .boolean
abbrev wsX30 : List Cond := u_ws RX3 TX3 4
theorem nmX3 : ∀ a, a < 4 → ∀ b, b < 4 → a ≠ b → (TX3 a).2.1 ≠ (TX3 b).2.1 := by decide +kernel
theorem tyX3_ok : ∀ k, k < 4 → parseFieldDescriptor (TX3 k).2.2.1 = some (tyX3 k) := by decide +kernel
abbrev cX3_init : ByteArray := prog_5_method_1_code
def yX3_init : MethodName := ⟨RX3, "<init>", "()V"⟩
abbrev cX3_keep : ByteArray := prog_5_method_2_code
def yX3_keep : MethodName := ⟨RX3, "keep", "(LDumbwaiterYoung$Tower;LDumbwaiterYoung$State;LDumbwaiterYoung$Sentence;)V"⟩
abbrev cX3_giveBack : ByteArray := prog_5_method_3_code
def yX3_giveBack : MethodName := ⟨RX3, "giveBack", "(LDumbwaiterYoung$Tower;LDumbwaiterYoung$State;LDumbwaiterYoung$Sentence;)V"⟩
def RX4 : String := "DumbwaiterYoung$Plan"
def TX4 : u_T := fun k => match k with
  | 0 => ("DumbwaiterYoung$Plan", "chosen", "[I", true)
  | 1 => ("DumbwaiterYoung$Plan", "picked", "[I", true)
  | 2 => ("DumbwaiterYoung$Plan", "order", "[I", true)
  | 3 => ("DumbwaiterYoung$Plan", "stops", "I", false)
  | _ => ("DumbwaiterYoung$Plan", "length", "I", false)
def tyX4 : Nat → FieldType := fun k => match k with
  | 0 => .array .int
  | 1 => .array .int
  | 2 => .array .int
  | 3 => .int
  | _ => .int
abbrev wsX40 : List Cond := u_ws RX4 TX4 5
theorem nmX4 : ∀ a, a < 5 → ∀ b, b < 5 → a ≠ b → (TX4 a).2.1 ≠ (TX4 b).2.1 := by decide +kernel
theorem tyX4_ok : ∀ k, k < 5 → parseFieldDescriptor (TX4 k).2.2.1 = some (tyX4 k) := by decide +kernel
abbrev cX4_init : ByteArray := prog_6_method_1_code
def yX4_init : MethodName := ⟨RX4, "<init>", "()V"⟩
abbrev cX4_make : ByteArray := prog_6_method_2_code
def yX4_make : MethodName := ⟨RX4, "make", "(LDumbwaiterYoung$Tower;LDumbwaiterYoung$State;I)I"⟩
abbrev cX4_richestFloor : ByteArray := prog_6_method_3_code
def yX4_richestFloor : MethodName := ⟨RX4, "richestFloor", "(LDumbwaiterYoung$Tower;I)I"⟩
abbrev cX4_insert : ByteArray := prog_6_method_4_code
def yX4_insert : MethodName := ⟨RX4, "insert", "(II)V"⟩
abbrev cX4_findOrder : ByteArray := prog_6_method_5_code
def yX4_findOrder : MethodName := ⟨RX4, "findOrder", "(I)V"⟩
abbrev cX4_pick : ByteArray := prog_6_method_6_code
def yX4_pick : MethodName := ⟨RX4, "pick", "(I)Z"⟩
abbrev cX4_pickedLength : ByteArray := prog_6_method_7_code
def yX4_pickedLength : MethodName := ⟨RX4, "pickedLength", "(I)I"⟩
def RX5 : String := "DumbwaiterYoung$Reader"
def TX5 : u_T := fun k => match k with
  | 0 => ("DumbwaiterYoung$Reader", "kinds", "[I", true)
  | 1 => ("DumbwaiterYoung$Reader", "places", "[I", true)
  | 2 => ("DumbwaiterYoung$Reader", "values", "[J", true)
  | 3 => ("DumbwaiterYoung$Reader", "words", "[LDumbwaiterYoung$Word;", true)
  | 4 => ("DumbwaiterYoung$Reader", "tokens", "I", false)
  | 5 => ("DumbwaiterYoung$Reader", "current", "I", false)
  | 6 => ("DumbwaiterYoung$Reader", "tooLong", "Z", false)
  | 7 => ("DumbwaiterYoung$Reader", "faultKind", "I", false)
  | _ => ("DumbwaiterYoung$Reader", "faultPlace", "I", false)
def tyX5 : Nat → FieldType := fun k => match k with
  | 0 => .array .int
  | 1 => .array .int
  | 2 => .array .long
  | 3 => .array (.object "DumbwaiterYoung$Word")
  | 4 => .int
  | 5 => .int
  | 6 => .boolean
  | 7 => .int
  | _ => .int
abbrev wsX50 : List Cond := u_ws RX5 TX5 9
theorem nmX5 : ∀ a, a < 9 → ∀ b, b < 9 → a ≠ b → (TX5 a).2.1 ≠ (TX5 b).2.1 := by decide +kernel
theorem tyX5_ok : ∀ k, k < 9 → parseFieldDescriptor (TX5 k).2.2.1 = some (tyX5 k) := by decide +kernel
abbrev cX5_init : ByteArray := prog_7_method_1_code
def yX5_init : MethodName := ⟨RX5, "<init>", "()V"⟩
abbrev cX5_open : ByteArray := prog_7_method_2_code
def yX5_open : MethodName := ⟨RX5, "open", "([III)V"⟩
abbrev cX5_scanRun : ByteArray := prog_7_method_3_code
def yX5_scanRun : MethodName := ⟨RX5, "scanRun", "([III)I"⟩
abbrev cX5_add : ByteArray := prog_7_method_4_code
def yX5_add : MethodName := ⟨RX5, "add", "(IIJLDumbwaiterYoung$Word;)V"⟩
abbrev cX5_isBlank : ByteArray := prog_7_method_5_code
def yX5_isBlank : MethodName := ⟨RX5, "isBlank", "(I)Z"⟩
abbrev cX5_isLetter : ByteArray := prog_7_method_6_code
def yX5_isLetter : MethodName := ⟨RX5, "isLetter", "(I)Z"⟩
abbrev cX5_isDigit : ByteArray := prog_7_method_7_code
def yX5_isDigit : MethodName := ⟨RX5, "isDigit", "(I)Z"⟩
abbrev cX5_isSign : ByteArray := prog_7_method_8_code
def yX5_isSign : MethodName := ⟨RX5, "isSign", "(I)Z"⟩
abbrev cX5_failed : ByteArray := prog_7_method_9_code
def yX5_failed : MethodName := ⟨RX5, "failed", "()Z"⟩
abbrev cX5_fail : ByteArray := prog_7_method_10_code
def yX5_fail : MethodName := ⟨RX5, "fail", "(I)V"⟩
abbrev cX5_next : ByteArray := prog_7_method_11_code
def yX5_next : MethodName := ⟨RX5, "next", "()V"⟩
abbrev cX5_atEnd : ByteArray := prog_7_method_12_code
def yX5_atEnd : MethodName := ⟨RX5, "atEnd", "()Z"⟩
abbrev cX5_isWord : ByteArray := prog_7_method_13_code
def yX5_isWord : MethodName := ⟨RX5, "isWord", "(LDumbwaiterYoung$Word;)Z"⟩
abbrev cX5_isSignNow : ByteArray := prog_7_method_14_code
def yX5_isSignNow : MethodName := ⟨RX5, "isSignNow", "(C)Z"⟩
abbrev cX5_nameNow : ByteArray := prog_7_method_15_code
def yX5_nameNow : MethodName := ⟨RX5, "nameNow", "()J"⟩
abbrev cX5_subjectNow : ByteArray := prog_7_method_16_code
def yX5_subjectNow : MethodName := ⟨RX5, "subjectNow", "()I"⟩
abbrev cX5_giftNow : ByteArray := prog_7_method_17_code
def yX5_giftNow : MethodName := ⟨RX5, "giftNow", "()I"⟩
abbrev cX5_skipWord : ByteArray := prog_7_method_18_code
def yX5_skipWord : MethodName := ⟨RX5, "skipWord", "(LDumbwaiterYoung$Word;)Z"⟩
abbrev cX5_takeSign : ByteArray := prog_7_method_19_code
def yX5_takeSign : MethodName := ⟨RX5, "takeSign", "(C)V"⟩
abbrev cX5_takeComparison : ByteArray := prog_7_method_20_code
def yX5_takeComparison : MethodName := ⟨RX5, "takeComparison", "()I"⟩
abbrev cX5_takeNumber : ByteArray := prog_7_method_21_code
def yX5_takeNumber : MethodName := ⟨RX5, "takeNumber", "(II)I"⟩
abbrev cX5_takeName : ByteArray := prog_7_method_22_code
def yX5_takeName : MethodName := ⟨RX5, "takeName", "(Z)V"⟩
abbrev cX5_takeGift : ByteArray := prog_7_method_23_code
def yX5_takeGift : MethodName := ⟨RX5, "takeGift", "()I"⟩
abbrev cX5_finish : ByteArray := prog_7_method_24_code
def yX5_finish : MethodName := ⟨RX5, "finish", "()V"⟩
def RX6 : String := "DumbwaiterYoung$Sentence"
def TX6 : u_T := fun k => match k with
  | 0 => ("DumbwaiterYoung$Sentence", "steps", "[I", true)
  | 1 => ("DumbwaiterYoung$Sentence", "subjects", "[I", true)
  | 2 => ("DumbwaiterYoung$Sentence", "signs", "[I", true)
  | 3 => ("DumbwaiterYoung$Sentence", "numbers", "[I", true)
  | 4 => ("DumbwaiterYoung$Sentence", "length", "I", false)
  | _ => ("DumbwaiterYoung$Sentence", "ones", "I", false)
def tyX6 : Nat → FieldType := fun k => match k with
  | 0 => .array .int
  | 1 => .array .int
  | 2 => .array .int
  | 3 => .array .int
  | 4 => .int
  | _ => .int
abbrev wsX60 : List Cond := u_ws RX6 TX6 6
theorem nmX6 : ∀ a, a < 6 → ∀ b, b < 6 → a ≠ b → (TX6 a).2.1 ≠ (TX6 b).2.1 := by decide +kernel
theorem tyX6_ok : ∀ k, k < 6 → parseFieldDescriptor (TX6 k).2.2.1 = some (tyX6 k) := by decide +kernel
abbrev cX6_init : ByteArray := prog_8_method_1_code
def yX6_init : MethodName := ⟨RX6, "<init>", "()V"⟩
abbrev cX6_clear : ByteArray := prog_8_method_2_code
def yX6_clear : MethodName := ⟨RX6, "clear", "()V"⟩
abbrev cX6_copyFrom : ByteArray := prog_8_method_3_code
def yX6_copyFrom : MethodName := ⟨RX6, "copyFrom", "(LDumbwaiterYoung$Sentence;)V"⟩
abbrev cX6_readFrom : ByteArray := prog_8_method_4_code
def yX6_readFrom : MethodName := ⟨RX6, "readFrom", "(LDumbwaiterYoung$Reader;LDumbwaiterYoung$Tower;)V"⟩
abbrev cX6_readCondition : ByteArray := prog_8_method_5_code
def yX6_readCondition : MethodName := ⟨RX6, "readCondition", "(LDumbwaiterYoung$Reader;LDumbwaiterYoung$Tower;I)V"⟩
abbrev cX6_readOne : ByteArray := prog_8_method_6_code
def yX6_readOne : MethodName := ⟨RX6, "readOne", "(LDumbwaiterYoung$Reader;LDumbwaiterYoung$Tower;I)V"⟩
abbrev cX6_beginsOne : ByteArray := prog_8_method_7_code
def yX6_beginsOne : MethodName := ⟨RX6, "beginsOne", "(LDumbwaiterYoung$Reader;)Z"⟩
abbrev cX6_readSimple : ByteArray := prog_8_method_8_code
def yX6_readSimple : MethodName := ⟨RX6, "readSimple", "(LDumbwaiterYoung$Reader;LDumbwaiterYoung$Tower;)V"⟩
abbrev cX6_add : ByteArray := prog_8_method_9_code
def yX6_add : MethodName := ⟨RX6, "add", "(IIII)V"⟩
abbrev cX6_holdsOf : ByteArray := prog_8_method_10_code
def yX6_holdsOf : MethodName := ⟨RX6, "holdsOf", "(LDumbwaiterYoung$Tower;LDumbwaiterYoung$State;I)Z"⟩
abbrev cX6_isTrue : ByteArray := prog_8_method_11_code
def yX6_isTrue : MethodName := ⟨RX6, "isTrue", "(LDumbwaiterYoung$Tower;LDumbwaiterYoung$State;II)Z"⟩
abbrev cX6_amountOf : ByteArray := prog_8_method_12_code
def yX6_amountOf : MethodName := ⟨RX6, "amountOf", "(LDumbwaiterYoung$State;II)I"⟩
abbrev cX6_compares : ByteArray := prog_8_method_13_code
def yX6_compares : MethodName := ⟨RX6, "compares", "(III)Z"⟩
def RX7 : String := "DumbwaiterYoung$State"
def TX7 : u_T := fun k => match k with
  | 0 => ("DumbwaiterYoung$State", "place", "[I", true)
  | 1 => ("DumbwaiterYoung$State", "weight", "[I", true)
  | 2 => ("DumbwaiterYoung$State", "age", "[I", true)
  | 3 => ("DumbwaiterYoung$State", "shyness", "[I", true)
  | 4 => ("DumbwaiterYoung$State", "falls", "[I", true)
  | 5 => ("DumbwaiterYoung$State", "gifts", "[I", true)
  | 6 => ("DumbwaiterYoung$State", "hangingBits", "I", false)
  | 7 => ("DumbwaiterYoung$State", "wear", "I", false)
  | 8 => ("DumbwaiterYoung$State", "ropesRun", "I", false)
  | 9 => ("DumbwaiterYoung$State", "floorsPassed", "I", false)
  | _ => ("DumbwaiterYoung$State", "hour", "I", false)
def tyX7 : Nat → FieldType := fun k => match k with
  | 0 => .array .int
  | 1 => .array .int
  | 2 => .array .int
  | 3 => .array .int
  | 4 => .array .int
  | 5 => .array .int
  | 6 => .int
  | 7 => .int
  | 8 => .int
  | 9 => .int
  | _ => .int
abbrev wsX70 : List Cond := u_ws RX7 TX7 11
theorem nmX7 : ∀ a, a < 11 → ∀ b, b < 11 → a ≠ b → (TX7 a).2.1 ≠ (TX7 b).2.1 := by decide +kernel
theorem tyX7_ok : ∀ k, k < 11 → parseFieldDescriptor (TX7 k).2.2.1 = some (tyX7 k) := by decide +kernel
abbrev cX7_init : ByteArray := prog_9_method_1_code
def yX7_init : MethodName := ⟨RX7, "<init>", "()V"⟩
abbrev cX7_begin : ByteArray := prog_9_method_2_code
def yX7_begin : MethodName := ⟨RX7, "begin", "(LDumbwaiterYoung$Tower;)V"⟩
abbrev cX7_copyFrom : ByteArray := prog_9_method_3_code
def yX7_copyFrom : MethodName := ⟨RX7, "copyFrom", "(LDumbwaiterYoung$State;)V"⟩
abbrev cX7_amount : ByteArray := prog_9_method_4_code
def yX7_amount : MethodName := ⟨RX7, "amount", "(II)I"⟩
abbrev cX7_hangs : ByteArray := prog_9_method_5_code
def yX7_hangs : MethodName := ⟨RX7, "hangs", "(I)Z"⟩
abbrev cX7_balance : ByteArray := prog_9_method_6_code
def yX7_balance : MethodName := ⟨RX7, "balance", "(LDumbwaiterYoung$Tower;)I"⟩
abbrev cX7_offBalance : ByteArray := prog_9_method_7_code
def yX7_offBalance : MethodName := ⟨RX7, "offBalance", "(LDumbwaiterYoung$Tower;I)I"⟩
abbrev cX7_lacking : ByteArray := prog_9_method_8_code
def yX7_lacking : MethodName := ⟨RX7, "lacking", "(LDumbwaiterYoung$Tower;I)I"⟩
abbrev cX7_areNeighbours : ByteArray := prog_9_method_9_code
def yX7_areNeighbours : MethodName := ⟨RX7, "areNeighbours", "(II)Z"⟩
abbrev cX7_neighbours : ByteArray := prog_9_method_10_code
def yX7_neighbours : MethodName := ⟨RX7, "neighbours", "(LDumbwaiterYoung$Tower;I)I"⟩
abbrev cX7_childOn : ByteArray := prog_9_method_11_code
def yX7_childOn : MethodName := ⟨RX7, "childOn", "(LDumbwaiterYoung$Tower;I)I"⟩
abbrev cX7_servedBits : ByteArray := prog_9_method_12_code
def yX7_servedBits : MethodName := ⟨RX7, "servedBits", "(LDumbwaiterYoung$Tower;)I"⟩
abbrev cX7_readyBits : ByteArray := prog_9_method_13_code
def yX7_readyBits : MethodName := ⟨RX7, "readyBits", "(LDumbwaiterYoung$Tower;)I"⟩
abbrev cX7_upstairsBits : ByteArray := prog_9_method_14_code
def yX7_upstairsBits : MethodName := ⟨RX7, "upstairsBits", "(LDumbwaiterYoung$Tower;)I"⟩
abbrev cX7_whyNot : ByteArray := prog_9_method_15_code
def yX7_whyNot : MethodName := ⟨RX7, "whyNot", "(LDumbwaiterYoung$Tower;III)I"⟩
abbrev cX7_whyNotSent : ByteArray := prog_9_method_16_code
def yX7_whyNotSent : MethodName := ⟨RX7, "whyNotSent", "(LDumbwaiterYoung$Tower;II)I"⟩
abbrev cX7_whyNotServed : ByteArray := prog_9_method_17_code
def yX7_whyNotServed : MethodName := ⟨RX7, "whyNotServed", "(LDumbwaiterYoung$Tower;I)I"⟩
abbrev cX7_act : ByteArray := prog_9_method_18_code
def yX7_act : MethodName := ⟨RX7, "act", "(LDumbwaiterYoung$Tower;III)V"⟩
abbrev cX7_moveTo : ByteArray := prog_9_method_19_code
def yX7_moveTo : MethodName := ⟨RX7, "moveTo", "(LDumbwaiterYoung$Tower;II)V"⟩
abbrev cX7_bringBack : ByteArray := prog_9_method_20_code
def yX7_bringBack : MethodName := ⟨RX7, "bringBack", "(I)V"⟩
abbrev cX7_passHour : ByteArray := prog_9_method_21_code
def yX7_passHour : MethodName := ⟨RX7, "passHour", "(LDumbwaiterYoung$Tower;)V"⟩
abbrev cX7_receive : ByteArray := prog_9_method_22_code
def yX7_receive : MethodName := ⟨RX7, "receive", "(LDumbwaiterYoung$Tower;II)V"⟩
abbrev cX7_talk : ByteArray := prog_9_method_23_code
def yX7_talk : MethodName := ⟨RX7, "talk", "(II)V"⟩
abbrev cX7_growOlder : ByteArray := prog_9_method_24_code
def yX7_growOlder : MethodName := ⟨RX7, "growOlder", "(LDumbwaiterYoung$Tower;I)V"⟩
abbrev cX7_drawHours : ByteArray := prog_9_method_25_code
def yX7_drawHours : MethodName := ⟨RX7, "drawHours", "(LDumbwaiterYoung$Tower;II)I"⟩
abbrev cX7_drawDeeds : ByteArray := prog_9_method_26_code
def yX7_drawDeeds : MethodName := ⟨RX7, "drawDeeds", "(LDumbwaiterYoung$Tower;I)I"⟩
abbrev cX7_nextDraw : ByteArray := prog_9_method_27_code
def yX7_nextDraw : MethodName := ⟨RX7, "nextDraw", "(I)I"⟩
abbrev cX7_drawOf : ByteArray := prog_9_method_28_code
def yX7_drawOf : MethodName := ⟨RX7, "drawOf", "(II)I"⟩
def RX8 : String := "DumbwaiterYoung$Tower"
def TX8 : u_T := fun k => match k with
  | 0 => ("DumbwaiterYoung$Tower", "floors", "I", false)
  | 1 => ("DumbwaiterYoung$Tower", "floorGift", "[I", true)
  | 2 => ("DumbwaiterYoung$Tower", "floorGives", "[I", true)
  | 3 => ("DumbwaiterYoung$Tower", "floorCold", "[I", true)
  | 4 => ("DumbwaiterYoung$Tower", "floorName", "[J", true)
  | 5 => ("DumbwaiterYoung$Tower", "children", "I", false)
  | 6 => ("DumbwaiterYoung$Tower", "childWeight", "[I", true)
  | 7 => ("DumbwaiterYoung$Tower", "childName", "[J", true)
  | 8 => ("DumbwaiterYoung$Tower", "uncles", "I", false)
  | 9 => ("DumbwaiterYoung$Tower", "uncleWeight", "[I", true)
  | 10 => ("DumbwaiterYoung$Tower", "uncleName", "[J", true)
  | 11 => ("DumbwaiterYoung$Tower", "laws", "[I", true)
  | 12 => ("DumbwaiterYoung$Tower", "likings", "[I", true)
  | 13 => ("DumbwaiterYoung$Tower", "rope", "I", false)
  | _ => ("DumbwaiterYoung$Tower", "grow", "I", false)
def tyX8 : Nat → FieldType := fun k => match k with
  | 0 => .int
  | 1 => .array .int
  | 2 => .array .int
  | 3 => .array .int
  | 4 => .array .long
  | 5 => .int
  | 6 => .array .int
  | 7 => .array .long
  | 8 => .int
  | 9 => .array .int
  | 10 => .array .long
  | 11 => .array .int
  | 12 => .array .int
  | 13 => .int
  | _ => .int
abbrev wsX80 : List Cond := u_ws RX8 TX8 15
theorem nmX8 : ∀ a, a < 15 → ∀ b, b < 15 → a ≠ b → (TX8 a).2.1 ≠ (TX8 b).2.1 := by decide +kernel
theorem tyX8_ok : ∀ k, k < 15 → parseFieldDescriptor (TX8 k).2.2.1 = some (tyX8 k) := by decide +kernel
abbrev cX8_init : ByteArray := prog_10_method_1_code
def yX8_init : MethodName := ⟨RX8, "<init>", "()V"⟩
abbrev cX8_copyFrom : ByteArray := prog_10_method_2_code
def yX8_copyFrom : MethodName := ⟨RX8, "copyFrom", "(LDumbwaiterYoung$Tower;)V"⟩
abbrev cX8_liking : ByteArray := prog_10_method_3_code
def yX8_liking : MethodName := ⟨RX8, "liking", "(II)I"⟩
abbrev cX8_weightOf : ByteArray := prog_10_method_4_code
def yX8_weightOf : MethodName := ⟨RX8, "weightOf", "(I)I"⟩
abbrev cX8_readFrom : ByteArray := prog_10_method_5_code
def yX8_readFrom : MethodName := ⟨RX8, "readFrom", "(LDumbwaiterYoung$Reader;)I"⟩
abbrev cX8_readLine : ByteArray := prog_10_method_6_code
def yX8_readLine : MethodName := ⟨RX8, "readLine", "(LDumbwaiterYoung$Reader;)V"⟩
abbrev cX8_readFloor : ByteArray := prog_10_method_7_code
def yX8_readFloor : MethodName := ⟨RX8, "readFloor", "(LDumbwaiterYoung$Reader;)V"⟩
abbrev cX8_readChild : ByteArray := prog_10_method_8_code
def yX8_readChild : MethodName := ⟨RX8, "readChild", "(LDumbwaiterYoung$Reader;)V"⟩
abbrev cX8_readUncle : ByteArray := prog_10_method_9_code
def yX8_readUncle : MethodName := ⟨RX8, "readUncle", "(LDumbwaiterYoung$Reader;)V"⟩
abbrev cX8_readLaw : ByteArray := prog_10_method_10_code
def yX8_readLaw : MethodName := ⟨RX8, "readLaw", "(LDumbwaiterYoung$Reader;)V"⟩
abbrev cX8_readLikes : ByteArray := prog_10_method_11_code
def yX8_readLikes : MethodName := ⟨RX8, "readLikes", "(LDumbwaiterYoung$Reader;)V"⟩
abbrev cX8_readOnce : ByteArray := prog_10_method_12_code
def yX8_readOnce : MethodName := ⟨RX8, "readOnce", "(LDumbwaiterYoung$Reader;LDumbwaiterYoung$Word;III)I"⟩
abbrev cX8_takeNewName : ByteArray := prog_10_method_13_code
def yX8_takeNewName : MethodName := ⟨RX8, "takeNewName", "(LDumbwaiterYoung$Reader;)J"⟩
abbrev cX8_takeFloor : ByteArray := prog_10_method_14_code
def yX8_takeFloor : MethodName := ⟨RX8, "takeFloor", "(LDumbwaiterYoung$Reader;)I"⟩
abbrev cX8_takeChild : ByteArray := prog_10_method_15_code
def yX8_takeChild : MethodName := ⟨RX8, "takeChild", "(LDumbwaiterYoung$Reader;)I"⟩
abbrev cX8_takeUncle : ByteArray := prog_10_method_16_code
def yX8_takeUncle : MethodName := ⟨RX8, "takeUncle", "(LDumbwaiterYoung$Reader;)I"⟩
abbrev cX8_takeFloorOrCellar : ByteArray := prog_10_method_17_code
def yX8_takeFloorOrCellar : MethodName := ⟨RX8, "takeFloorOrCellar", "(LDumbwaiterYoung$Reader;)I"⟩
abbrev cX8_floorNamed : ByteArray := prog_10_method_18_code
def yX8_floorNamed : MethodName := ⟨RX8, "floorNamed", "(J)I"⟩
abbrev cX8_childNamed : ByteArray := prog_10_method_19_code
def yX8_childNamed : MethodName := ⟨RX8, "childNamed", "(J)I"⟩
abbrev cX8_uncleNamed : ByteArray := prog_10_method_20_code
def yX8_uncleNamed : MethodName := ⟨RX8, "uncleNamed", "(J)I"⟩
def RX9 : String := "DumbwaiterYoung$Trace"
def TX9 : u_T := fun k => match k with
  | 0 => ("DumbwaiterYoung$Trace", "missing", "[I", true)
  | 1 => ("DumbwaiterYoung$Trace", "row", "[I", true)
  | 2 => ("DumbwaiterYoung$Trace", "seen", "[I", true)
  | 3 => ("DumbwaiterYoung$Trace", "rows", "I", false)
  | 4 => ("DumbwaiterYoung$Trace", "first", "[I", true)
  | 5 => ("DumbwaiterYoung$Trace", "hours", "I", false)
  | _ => ("DumbwaiterYoung$Trace", "question", "I", false)
def tyX9 : Nat → FieldType := fun k => match k with
  | 0 => .array .int
  | 1 => .array .int
  | 2 => .array .int
  | 3 => .int
  | 4 => .array .int
  | 5 => .int
  | _ => .int
abbrev wsX90 : List Cond := u_ws RX9 TX9 7
theorem nmX9 : ∀ a, a < 7 → ∀ b, b < 7 → a ≠ b → (TX9 a).2.1 ≠ (TX9 b).2.1 := by decide +kernel
theorem tyX9_ok : ∀ k, k < 7 → parseFieldDescriptor (TX9 k).2.2.1 = some (tyX9 k) := by decide +kernel
abbrev cX9_init : ByteArray := prog_11_method_1_code
def yX9_init : MethodName := ⟨RX9, "<init>", "()V"⟩
abbrev cX9_search : ByteArray := prog_11_method_2_code
def yX9_search : MethodName := ⟨RX9, "search", "(LDumbwaiterYoung$Tower;[II)I"⟩
abbrev cX9_walk : ByteArray := prog_11_method_3_code
def yX9_walk : MethodName := ⟨RX9, "walk", "(LDumbwaiterYoung$Tower;II)V"⟩
abbrev cX9_noteRow : ByteArray := prog_11_method_4_code
def yX9_noteRow : MethodName := ⟨RX9, "noteRow", "(I)V"⟩
abbrev cX9_bestQuestion : ByteArray := prog_11_method_5_code
def yX9_bestQuestion : MethodName := ⟨RX9, "bestQuestion", "(I)I"⟩
def RX10 : String := "DumbwaiterYoung$Word"
def TX10 : u_T := fun k => match k with
  | _ => ("", "", "", false)
def tyX10 : Nat → FieldType := fun k => match k with
  | _ => .int
abbrev wsX100 : List Cond := u_ws RX10 TX10 0
theorem nmX10 : ∀ a, a < 0 → ∀ b, b < 0 → a ≠ b → (TX10 a).2.1 ≠ (TX10 b).2.1 := by decide +kernel
theorem tyX10_ok : ∀ k, k < 0 → parseFieldDescriptor (TX10 k).2.2.1 = some (tyX10 k) := by decide +kernel
abbrev cX10_find : ByteArray := prog_12_method_5_code
def yX10_find : MethodName := ⟨RX10, "find", "(J)LDumbwaiterYoung$Word;"⟩
abbrev cX10_packedGift : ByteArray := prog_12_method_6_code
def yX10_packedGift : MethodName := ⟨RX10, "packedGift", "(I)J"⟩
def RX11 : String := "DumbwaiterYoung"
def TX11 : u_T := fun k => match k with
  | 0 => ("DumbwaiterYoung", "tape", "[I", true)
  | 1 => ("DumbwaiterYoung", "tapeLength", "I", false)
  | 2 => ("DumbwaiterYoung", "reader", "LDumbwaiterYoung$Reader;", true)
  | 3 => ("DumbwaiterYoung", "faultKind", "I", false)
  | 4 => ("DumbwaiterYoung", "house", "LDumbwaiterYoung$Tower;", true)
  | 5 => ("DumbwaiterYoung", "draftHouse", "LDumbwaiterYoung$Tower;", true)
  | 6 => ("DumbwaiterYoung", "state", "LDumbwaiterYoung$State;", true)
  | 7 => ("DumbwaiterYoung", "trial", "LDumbwaiterYoung$State;", true)
  | 8 => ("DumbwaiterYoung", "saying", "LDumbwaiterYoung$Sentence;", true)
  | 9 => ("DumbwaiterYoung", "draftSaying", "LDumbwaiterYoung$Sentence;", true)
  | 10 => ("DumbwaiterYoung", "history", "LDumbwaiterYoung$History;", true)
  | 11 => ("DumbwaiterYoung", "images", "[LDumbwaiterYoung$Image;", true)
  | 12 => ("DumbwaiterYoung", "latestPlan", "LDumbwaiterYoung$Plan;", true)
  | 13 => ("DumbwaiterYoung", "latestTrace", "LDumbwaiterYoung$Trace;", true)
  | 14 => ("DumbwaiterYoung", "latestBargain", "LDumbwaiterYoung$Bargain;", true)
  | 15 => ("DumbwaiterYoung", "latestBook", "LDumbwaiterYoung$Book;", true)
  | 16 => ("DumbwaiterYoung", "latestHanging", "I", false)
  | 17 => ("DumbwaiterYoung", "chalk", "[I", true)
  | _ => ("DumbwaiterYoung", "chalkLength", "I", false)
def tyX11 : Nat → FieldType := fun k => match k with
  | 0 => .array .int
  | 1 => .int
  | 2 => .object "DumbwaiterYoung$Reader"
  | 3 => .int
  | 4 => .object "DumbwaiterYoung$Tower"
  | 5 => .object "DumbwaiterYoung$Tower"
  | 6 => .object "DumbwaiterYoung$State"
  | 7 => .object "DumbwaiterYoung$State"
  | 8 => .object "DumbwaiterYoung$Sentence"
  | 9 => .object "DumbwaiterYoung$Sentence"
  | 10 => .object "DumbwaiterYoung$History"
  | 11 => .array (.object "DumbwaiterYoung$Image")
  | 12 => .object "DumbwaiterYoung$Plan"
  | 13 => .object "DumbwaiterYoung$Trace"
  | 14 => .object "DumbwaiterYoung$Bargain"
  | 15 => .object "DumbwaiterYoung$Book"
  | 16 => .int
  | 17 => .array .int
  | _ => .int
abbrev wsX110 : List Cond := u_ws RX11 TX11 19
theorem nmX11 : ∀ a, a < 19 → ∀ b, b < 19 → a ≠ b → (TX11 a).2.1 ≠ (TX11 b).2.1 := by decide +kernel
theorem tyX11_ok : ∀ k, k < 19 → parseFieldDescriptor (TX11 k).2.2.1 = some (tyX11 k) := by decide +kernel
abbrev cX11_init : ByteArray := prog_1_method_1_code
def yX11_init : MethodName := ⟨RX11, "<init>", "()V"⟩
abbrev cX11_feed : ByteArray := prog_1_method_2_code
def yX11_feed : MethodName := ⟨RX11, "feed", "(IIIII)I"⟩
abbrev cX11_feedOne : ByteArray := prog_1_method_3_code
def yX11_feedOne : MethodName := ⟨RX11, "feedOne", "(I)V"⟩
abbrev cX11_end : ByteArray := prog_1_method_4_code
def yX11_end : MethodName := ⟨RX11, "end", "(I)Z"⟩
abbrev cX11_openTape : ByteArray := prog_1_method_5_code
def yX11_openTape : MethodName := ⟨RX11, "openTape", "(I)V"⟩
abbrev cX11_tower : ByteArray := prog_1_method_6_code
def yX11_tower : MethodName := ⟨RX11, "tower", "()I"⟩
abbrev cX11_fault : ByteArray := prog_1_method_7_code
def yX11_fault : MethodName := ⟨RX11, "fault", "()I"⟩
abbrev cX11_isChild : ByteArray := prog_1_method_8_code
def yX11_isChild : MethodName := ⟨RX11, "isChild", "(I)Z"⟩
abbrev cX11_isFloor : ByteArray := prog_1_method_9_code
def yX11_isFloor : MethodName := ⟨RX11, "isFloor", "(I)Z"⟩
abbrev cX11_isUncle : ByteArray := prog_1_method_10_code
def yX11_isUncle : MethodName := ⟨RX11, "isUncle", "(I)Z"⟩
abbrev cX11_child : ByteArray := prog_1_method_11_code
def yX11_child : MethodName := ⟨RX11, "child", "(II)I"⟩
abbrev cX11_has : ByteArray := prog_1_method_12_code
def yX11_has : MethodName := ⟨RX11, "has", "(II)I"⟩
abbrev cX11_floor : ByteArray := prog_1_method_13_code
def yX11_floor : MethodName := ⟨RX11, "floor", "(II)I"⟩
abbrev cX11_uncle : ByteArray := prog_1_method_14_code
def yX11_uncle : MethodName := ⟨RX11, "uncle", "(II)I"⟩
abbrev cX11_law : ByteArray := prog_1_method_15_code
def yX11_law : MethodName := ⟨RX11, "law", "(I)I"⟩
abbrev cX11_now : ByteArray := prog_1_method_16_code
def yX11_now : MethodName := ⟨RX11, "now", "(I)I"⟩
abbrev cX11_send : ByteArray := prog_1_method_17_code
def yX11_send : MethodName := ⟨RX11, "send", "(II)I"⟩
abbrev cX11_hang : ByteArray := prog_1_method_18_code
def yX11_hang : MethodName := ⟨RX11, "hang", "(I)I"⟩
abbrev cX11_take : ByteArray := prog_1_method_19_code
def yX11_take : MethodName := ⟨RX11, "take", "(I)I"⟩
abbrev cX11_serve : ByteArray := prog_1_method_20_code
def yX11_serve : MethodName := ⟨RX11, "serve", "(I)I"⟩
abbrev cX11_back : ByteArray := prog_1_method_21_code
def yX11_back : MethodName := ⟨RX11, "back", "(I)I"⟩
abbrev cX11_hours : ByteArray := prog_1_method_22_code
def yX11_hours : MethodName := ⟨RX11, "hours", "(I)I"⟩
abbrev cX11_perform : ByteArray := prog_1_method_23_code
def yX11_perform : MethodName := ⟨RX11, "perform", "(III)I"⟩
abbrev cX11_undo : ByteArray := prog_1_method_24_code
def yX11_undo : MethodName := ⟨RX11, "undo", "()I"⟩
abbrev cX11_when : ByteArray := prog_1_method_25_code
def yX11_when : MethodName := ⟨RX11, "when", "(I)I"⟩
abbrev cX11_plan : ByteArray := prog_1_method_26_code
def yX11_plan : MethodName := ⟨RX11, "plan", "(I)I"⟩
abbrev cX11_planAt : ByteArray := prog_1_method_27_code
def yX11_planAt : MethodName := ⟨RX11, "planAt", "(I)I"⟩
abbrev cX11_passes : ByteArray := prog_1_method_28_code
def yX11_passes : MethodName := ⟨RX11, "passes", "()I"⟩
abbrev cX11_been : ByteArray := prog_1_method_29_code
def yX11_been : MethodName := ⟨RX11, "been", "(I)I"⟩
abbrev cX11_beenAt : ByteArray := prog_1_method_30_code
def yX11_beenAt : MethodName := ⟨RX11, "beenAt", "(I)I"⟩
abbrev cX11_ask : ByteArray := prog_1_method_31_code
def yX11_ask : MethodName := ⟨RX11, "ask", "()I"⟩
abbrev cX11_hung : ByteArray := prog_1_method_32_code
def yX11_hung : MethodName := ⟨RX11, "hung", "(I)I"⟩
abbrev cX11_hanging : ByteArray := prog_1_method_33_code
def yX11_hanging : MethodName := ⟨RX11, "hanging", "()I"⟩
abbrev cX11_holds : ByteArray := prog_1_method_34_code
def yX11_holds : MethodName := ⟨RX11, "holds", "(II)I"⟩
abbrev cX11_web : ByteArray := prog_1_method_35_code
def yX11_web : MethodName := ⟨RX11, "web", "(I)I"⟩
abbrev cX11_bargain : ByteArray := prog_1_method_36_code
def yX11_bargain : MethodName := ⟨RX11, "bargain", "()I"⟩
abbrev cX11_bargained : ByteArray := prog_1_method_37_code
def yX11_bargained : MethodName := ⟨RX11, "bargained", "(I)I"⟩
abbrev cX11_cover : ByteArray := prog_1_method_38_code
def yX11_cover : MethodName := ⟨RX11, "cover", "(I)I"⟩
abbrev cX11_chalkLacking : ByteArray := prog_1_method_39_code
def yX11_chalkLacking : MethodName := ⟨RX11, "chalkLacking", "(I)V"⟩
abbrev cX11_chalkText : ByteArray := prog_1_method_40_code
def yX11_chalkText : MethodName := ⟨RX11, "chalkText", "(Ljava/lang/String;)V"⟩
abbrev cX11_chalkName : ByteArray := prog_1_method_41_code
def yX11_chalkName : MethodName := ⟨RX11, "chalkName", "(J)V"⟩
abbrev cX11_chalkByte : ByteArray := prog_1_method_42_code
def yX11_chalkByte : MethodName := ⟨RX11, "chalkByte", "(I)V"⟩
abbrev cX11_byteAt : ByteArray := prog_1_method_43_code
def yX11_byteAt : MethodName := ⟨RX11, "byteAt", "(I)I"⟩
abbrev cX11_drawn : ByteArray := prog_1_method_44_code
def yX11_drawn : MethodName := ⟨RX11, "drawn", "(II)I"⟩
abbrev cX11_odds : ByteArray := prog_1_method_45_code
def yX11_odds : MethodName := ⟨RX11, "odds", "(III)I"⟩
abbrev cX11_book : ByteArray := prog_1_method_46_code
def yX11_book : MethodName := ⟨RX11, "book", "(I)I"⟩
abbrev cX11_told : ByteArray := prog_1_method_47_code
def yX11_told : MethodName := ⟨RX11, "told", "(I)I"⟩
abbrev cX11_sentence : ByteArray := prog_1_method_48_code
def yX11_sentence : MethodName := ⟨RX11, "sentence", "()I"⟩
abbrev cX11_said : ByteArray := prog_1_method_49_code
def yX11_said : MethodName := ⟨RX11, "said", "(I)I"⟩
abbrev cX11_image : ByteArray := prog_1_method_50_code
def yX11_image : MethodName := ⟨RX11, "image", "(I)Z"⟩
abbrev cX11_restore : ByteArray := prog_1_method_51_code
def yX11_restore : MethodName := ⟨RX11, "restore", "(I)Z"⟩
abbrev cX11_count : ByteArray := prog_1_method_52_code
def yX11_count : MethodName := ⟨RX11, "count", "(I)I"⟩
def RX12 : String := "DumbwaiterYoungModel"
def TX12 : u_T := fun k => match k with
  | 0 => ("DumbwaiterYoungModel", "thrown", "I", false)
  | 1 => ("DumbwaiterYoungModel", "tape", "[B", true)
  | 2 => ("DumbwaiterYoungModel", "length", "I", false)
  | 3 => ("DumbwaiterYoungModel", "size", "I", false)
  | 4 => ("DumbwaiterYoungModel", "p", "I", false)
  | 5 => ("DumbwaiterYoungModel", "limit", "I", false)
  | 6 => ("DumbwaiterYoungModel", "s", "[I", true)
  | 7 => ("DumbwaiterYoungModel", "h", "[I", true)
  | 8 => ("DumbwaiterYoungModel", "read", "[I", true)
  | 9 => ("DumbwaiterYoungModel", "names", "[J", true)
  | 10 => ("DumbwaiterYoungModel", "reserved", "[J", true)
  | 11 => ("DumbwaiterYoungModel", "token", "I", false)
  | 12 => ("DumbwaiterYoungModel", "at", "I", false)
  | 13 => ("DumbwaiterYoungModel", "span", "I", false)
  | 14 => ("DumbwaiterYoungModel", "number", "I", false)
  | 15 => ("DumbwaiterYoungModel", "fault", "I", false)
  | 16 => ("DumbwaiterYoungModel", "faultAt", "I", false)
  | 17 => ("DumbwaiterYoungModel", "word", "J", false)
  | 18 => ("DumbwaiterYoungModel", "got", "I", false)
  | 19 => ("DumbwaiterYoungModel", "lines", "I", false)
  | 20 => ("DumbwaiterYoungModel", "onces", "I", false)
  | 21 => ("DumbwaiterYoungModel", "undone", "[I", true)
  | 22 => ("DumbwaiterYoungModel", "before", "[I", true)
  | 23 => ("DumbwaiterYoungModel", "undoMany", "I", false)
  | 24 => ("DumbwaiterYoungModel", "stops", "[I", true)
  | 25 => ("DumbwaiterYoungModel", "planRow", "[I", true)
  | 26 => ("DumbwaiterYoungModel", "planMany", "I", false)
  | 27 => ("DumbwaiterYoungModel", "planPassed", "I", false)
  | 28 => ("DumbwaiterYoungModel", "beenRow", "[I", true)
  | 29 => ("DumbwaiterYoungModel", "gifts", "[I", true)
  | 30 => ("DumbwaiterYoungModel", "groups", "[I", true)
  | 31 => ("DumbwaiterYoungModel", "beenMany", "I", false)
  | 32 => ("DumbwaiterYoungModel", "askHour", "I", false)
  | 33 => ("DumbwaiterYoungModel", "hangSet", "I", false)
  | 34 => ("DumbwaiterYoungModel", "hasHung", "Z", false)
  | 35 => ("DumbwaiterYoungModel", "bargainRow", "[I", true)
  | 36 => ("DumbwaiterYoungModel", "askedBy", "[I", true)
  | 37 => ("DumbwaiterYoungModel", "bargainMany", "I", false)
  | 38 => ("DumbwaiterYoungModel", "text", "[B", true)
  | 39 => ("DumbwaiterYoungModel", "textMany", "I", false)
  | 40 => ("DumbwaiterYoungModel", "seed", "I", false)
  | 41 => ("DumbwaiterYoungModel", "toldMany", "I", false)
  | 42 => ("DumbwaiterYoungModel", "toldAt", "[I", true)
  | 43 => ("DumbwaiterYoungModel", "hasTold", "Z", false)
  | 44 => ("DumbwaiterYoungModel", "stack", "[I", true)
  | 45 => ("DumbwaiterYoungModel", "codes", "I", false)
  | 46 => ("DumbwaiterYoungModel", "ones", "I", false)
  | 47 => ("DumbwaiterYoungModel", "top", "I", false)
  | 48 => ("DumbwaiterYoungModel", "deep", "I", false)
  | 49 => ("DumbwaiterYoungModel", "isWhole", "Z", false)
  | 50 => ("DumbwaiterYoungModel", "truths", "[Z", true)
  | 51 => ("DumbwaiterYoungModel", "imaged", "[I", true)
  | 52 => ("DumbwaiterYoungModel", "namesKept", "[J", true)
  | _ => ("DumbwaiterYoungModel", "areKept", "[Z", true)
def tyX12 : Nat → FieldType := fun k => match k with
  | 0 => .int
  | 1 => .array .byte
  | 2 => .int
  | 3 => .int
  | 4 => .int
  | 5 => .int
  | 6 => .array .int
  | 7 => .array .int
  | 8 => .array .int
  | 9 => .array .long
  | 10 => .array .long
  | 11 => .int
  | 12 => .int
  | 13 => .int
  | 14 => .int
  | 15 => .int
  | 16 => .int
  | 17 => .long
  | 18 => .int
  | 19 => .int
  | 20 => .int
  | 21 => .array .int
  | 22 => .array .int
  | 23 => .int
  | 24 => .array .int
  | 25 => .array .int
  | 26 => .int
  | 27 => .int
  | 28 => .array .int
  | 29 => .array .int
  | 30 => .array .int
  | 31 => .int
  | 32 => .int
  | 33 => .int
  | 34 => .boolean
  | 35 => .array .int
  | 36 => .array .int
  | 37 => .int
  | 38 => .array .byte
  | 39 => .int
  | 40 => .int
  | 41 => .int
  | 42 => .array .int
  | 43 => .boolean
  | 44 => .array .int
  | 45 => .int
  | 46 => .int
  | 47 => .int
  | 48 => .int
  | 49 => .boolean
  | 50 => .array .boolean
  | 51 => .array .int
  | 52 => .array .long
  | _ => .array .boolean
abbrev wsX120 : List Cond := u_ws RX12 TX12 54
theorem nmX12 : ∀ a, a < 54 → ∀ b, b < 54 → a ≠ b → (TX12 a).2.1 ≠ (TX12 b).2.1 := by decide +kernel
theorem tyX12_ok : ∀ k, k < 54 → parseFieldDescriptor (TX12 k).2.2.1 = some (tyX12 k) := by decide +kernel
abbrev cX12_thrown : ByteArray := prog_14_method_1_code
def yX12_thrown : MethodName := ⟨RX12, "thrown", "()I"⟩
abbrev cX12_throwsIf : ByteArray := prog_14_method_2_code
def yX12_throwsIf : MethodName := ⟨RX12, "throwsIf", "(Z)Z"⟩
abbrev cX12_feed : ByteArray := prog_14_method_3_code
def yX12_feed : MethodName := ⟨RX12, "feed", "(IIIII)I"⟩
abbrev cX12_four : ByteArray := prog_14_method_4_code
def yX12_four : MethodName := ⟨RX12, "four", "(I)V"⟩
abbrev cX12_end : ByteArray := prog_14_method_5_code
def yX12_end : MethodName := ⟨RX12, "end", "(I)Z"⟩
abbrev cX12_taken : ByteArray := prog_14_method_6_code
def yX12_taken : MethodName := ⟨RX12, "taken", "(I)V"⟩
abbrev cX12_isIn : ByteArray := prog_14_method_7_code
def yX12_isIn : MethodName := ⟨RX12, "isIn", "(III)Z"⟩
abbrev cX12_bitOf : ByteArray := prog_14_method_8_code
def yX12_bitOf : MethodName := ⟨RX12, "bitOf", "(II)Z"⟩
abbrev cX12_lesser : ByteArray := prog_14_method_9_code
def yX12_lesser : MethodName := ⟨RX12, "lesser", "(II)I"⟩
abbrev cX12_greater : ByteArray := prog_14_method_10_code
def yX12_greater : MethodName := ⟨RX12, "greater", "(II)I"⟩
abbrev cX12_absolute : ByteArray := prog_14_method_11_code
def yX12_absolute : MethodName := ⟨RX12, "absolute", "(I)I"⟩
abbrev cX12_bits : ByteArray := prog_14_method_12_code
def yX12_bits : MethodName := ⟨RX12, "bits", "(I)I"⟩
abbrev cX12_octet : ByteArray := prog_14_method_13_code
def yX12_octet : MethodName := ⟨RX12, "octet", "(I)I"⟩
abbrev cX12_init : ByteArray := prog_14_method_14_code
def yX12_init : MethodName := ⟨RX12, "<init>", "()V"⟩
abbrev cX12_clears : ByteArray := prog_14_method_15_code
def yX12_clears : MethodName := ⟨RX12, "clears", "()V"⟩
abbrev cX12_peek : ByteArray := prog_14_method_16_code
def yX12_peek : MethodName := ⟨RX12, "peek", "()I"⟩
abbrev cX12_isSmall : ByteArray := prog_14_method_17_code
def yX12_isSmall : MethodName := ⟨RX12, "isSmall", "(I)Z"⟩
abbrev cX12_isDigit : ByteArray := prog_14_method_18_code
def yX12_isDigit : MethodName := ⟨RX12, "isDigit", "(I)Z"⟩
abbrev cX12_next : ByteArray := prog_14_method_19_code
def yX12_next : MethodName := ⟨RX12, "next", "()V"⟩
abbrev cX12_bad : ByteArray := prog_14_method_20_code
def yX12_bad : MethodName := ⟨RX12, "bad", "(I)Z"⟩
abbrev cX12_isWord : ByteArray := prog_14_method_21_code
def yX12_isWord : MethodName := ⟨RX12, "isWord", "(J)Z"⟩
abbrev cX12_isSign : ByteArray := prog_14_method_22_code
def yX12_isSign : MethodName := ⟨RX12, "isSign", "(I)Z"⟩
abbrev cX12_sign : ByteArray := prog_14_method_23_code
def yX12_sign : MethodName := ⟨RX12, "sign", "(I)Z"⟩
abbrev cX12_isName : ByteArray := prog_14_method_24_code
def yX12_isName : MethodName := ⟨RX12, "isName", "()Z"⟩
abbrev cX12_takes : ByteArray := prog_14_method_25_code
def yX12_takes : MethodName := ⟨RX12, "takes", "(II)Z"⟩
abbrev cX12_puts : ByteArray := prog_14_method_26_code
def yX12_puts : MethodName := ⟨RX12, "puts", "(III)Z"⟩
abbrev cX12_giftWord : ByteArray := prog_14_method_27_code
def yX12_giftWord : MethodName := ⟨RX12, "giftWord", "()I"⟩
abbrev cX12_takesGift : ByteArray := prog_14_method_28_code
def yX12_takesGift : MethodName := ⟨RX12, "takesGift", "()Z"⟩
abbrev cX12_find : ByteArray := prog_14_method_29_code
def yX12_find : MethodName := ⟨RX12, "find", "(II)I"⟩
abbrev cX12_fresh : ByteArray := prog_14_method_30_code
def yX12_fresh : MethodName := ⟨RX12, "fresh", "(I)Z"⟩
abbrev cX12_looksAt : ByteArray := prog_14_method_31_code
def yX12_looksAt : MethodName := ⟨RX12, "looksAt", "(II)Z"⟩
abbrev cX12_takesName : ByteArray := prog_14_method_32_code
def yX12_takesName : MethodName := ⟨RX12, "takesName", "(II)Z"⟩
abbrev cX12_takesTo : ByteArray := prog_14_method_33_code
def yX12_takesTo : MethodName := ⟨RX12, "takesTo", "()Z"⟩
abbrev cX12_once : ByteArray := prog_14_method_34_code
def yX12_once : MethodName := ⟨RX12, "once", "(IIII)Z"⟩
abbrev cX12_line : ByteArray := prog_14_method_35_code
def yX12_line : MethodName := ⟨RX12, "line", "()Z"⟩
abbrev cX12_readFloor : ByteArray := prog_14_method_36_code
def yX12_readFloor : MethodName := ⟨RX12, "readFloor", "()Z"⟩
abbrev cX12_readLaw : ByteArray := prog_14_method_37_code
def yX12_readLaw : MethodName := ⟨RX12, "readLaw", "()Z"⟩
abbrev cX12_readLike : ByteArray := prog_14_method_38_code
def yX12_readLike : MethodName := ⟨RX12, "readLike", "()Z"⟩
abbrev cX12_tower : ByteArray := prog_14_method_39_code
def yX12_tower : MethodName := ⟨RX12, "tower", "()I"⟩
abbrev cX12_fault : ByteArray := prog_14_method_40_code
def yX12_fault : MethodName := ⟨RX12, "fault", "()I"⟩
abbrev cX12_isChild : ByteArray := prog_14_method_41_code
def yX12_isChild : MethodName := ⟨RX12, "isChild", "(I)Z"⟩
abbrev cX12_isFloor : ByteArray := prog_14_method_42_code
def yX12_isFloor : MethodName := ⟨RX12, "isFloor", "(I)Z"⟩
abbrev cX12_isUncle : ByteArray := prog_14_method_43_code
def yX12_isUncle : MethodName := ⟨RX12, "isUncle", "(I)Z"⟩
abbrev cX12_isServed : ByteArray := prog_14_method_44_code
def yX12_isServed : MethodName := ⟨RX12, "isServed", "(I)Z"⟩
abbrev cX12_haves : ByteArray := prog_14_method_45_code
def yX12_haves : MethodName := ⟨RX12, "haves", "(II)I"⟩
abbrev cX12_lacksOf : ByteArray := prog_14_method_46_code
def yX12_lacksOf : MethodName := ⟨RX12, "lacksOf", "(I)I"⟩
abbrev cX12_areNear : ByteArray := prog_14_method_47_code
def yX12_areNear : MethodName := ⟨RX12, "areNear", "(II)Z"⟩
abbrev cX12_nearTo : ByteArray := prog_14_method_48_code
def yX12_nearTo : MethodName := ⟨RX12, "nearTo", "(I)I"⟩
abbrev cX12_balanceOf : ByteArray := prog_14_method_49_code
def yX12_balanceOf : MethodName := ⟨RX12, "balanceOf", "(I)I"⟩
abbrev cX12_onFloor : ByteArray := prog_14_method_50_code
def yX12_onFloor : MethodName := ⟨RX12, "onFloor", "(I)I"⟩
abbrev cX12_child : ByteArray := prog_14_method_51_code
def yX12_child : MethodName := ⟨RX12, "child", "(II)I"⟩
abbrev cX12_has : ByteArray := prog_14_method_52_code
def yX12_has : MethodName := ⟨RX12, "has", "(II)I"⟩
abbrev cX12_floor : ByteArray := prog_14_method_53_code
def yX12_floor : MethodName := ⟨RX12, "floor", "(II)I"⟩
abbrev cX12_uncle : ByteArray := prog_14_method_54_code
def yX12_uncle : MethodName := ⟨RX12, "uncle", "(II)I"⟩
abbrev cX12_law : ByteArray := prog_14_method_55_code
def yX12_law : MethodName := ⟨RX12, "law", "(I)I"⟩
abbrev cX12_servedSet : ByteArray := prog_14_method_56_code
def yX12_servedSet : MethodName := ⟨RX12, "servedSet", "()I"⟩
abbrev cX12_now : ByteArray := prog_14_method_57_code
def yX12_now : MethodName := ⟨RX12, "now", "(I)I"⟩
abbrev cX12_whySend : ByteArray := prog_14_method_58_code
def yX12_whySend : MethodName := ⟨RX12, "whySend", "(II)I"⟩
abbrev cX12_sends : ByteArray := prog_14_method_59_code
def yX12_sends : MethodName := ⟨RX12, "sends", "(II)V"⟩
abbrev cX12_whyServe : ByteArray := prog_14_method_60_code
def yX12_whyServe : MethodName := ⟨RX12, "whyServe", "(I)I"⟩
abbrev cX12_returns : ByteArray := prog_14_method_61_code
def yX12_returns : MethodName := ⟨RX12, "returns", "(I)V"⟩
abbrev cX12_more : ByteArray := prog_14_method_62_code
def yX12_more : MethodName := ⟨RX12, "more", "(III)V"⟩
abbrev cX12_talk : ByteArray := prog_14_method_63_code
def yX12_talk : MethodName := ⟨RX12, "talk", "(II)V"⟩
abbrev cX12_hour : ByteArray := prog_14_method_64_code
def yX12_hour : MethodName := ⟨RX12, "hour", "()V"⟩
abbrev cX12_goesOn : ByteArray := prog_14_method_65_code
def yX12_goesOn : MethodName := ⟨RX12, "goesOn", "(I)I"⟩
abbrev cX12_send : ByteArray := prog_14_method_66_code
def yX12_send : MethodName := ⟨RX12, "send", "(II)I"⟩
abbrev cX12_turns : ByteArray := prog_14_method_67_code
def yX12_turns : MethodName := ⟨RX12, "turns", "(II)I"⟩
abbrev cX12_hang : ByteArray := prog_14_method_68_code
def yX12_hang : MethodName := ⟨RX12, "hang", "(I)I"⟩
abbrev cX12_take : ByteArray := prog_14_method_69_code
def yX12_take : MethodName := ⟨RX12, "take", "(I)I"⟩
abbrev cX12_serve : ByteArray := prog_14_method_70_code
def yX12_serve : MethodName := ⟨RX12, "serve", "(I)I"⟩
abbrev cX12_back : ByteArray := prog_14_method_71_code
def yX12_back : MethodName := ⟨RX12, "back", "(I)I"⟩
abbrev cX12_hours : ByteArray := prog_14_method_72_code
def yX12_hours : MethodName := ⟨RX12, "hours", "(I)I"⟩
abbrev cX12_keep : ByteArray := prog_14_method_73_code
def yX12_keep : MethodName := ⟨RX12, "keep", "()V"⟩
abbrev cX12_undo : ByteArray := prog_14_method_74_code
def yX12_undo : MethodName := ⟨RX12, "undo", "()I"⟩
abbrev cX12_tries : ByteArray := prog_14_method_75_code
def yX12_tries : MethodName := ⟨RX12, "tries", "()V"⟩
abbrev cX12_recalls : ByteArray := prog_14_method_76_code
def yX12_recalls : MethodName := ⟨RX12, "recalls", "()V"⟩
abbrev cX12_when : ByteArray := prog_14_method_77_code
def yX12_when : MethodName := ⟨RX12, "when", "(I)I"⟩
abbrev cX12_digit : ByteArray := prog_14_method_78_code
def yX12_digit : MethodName := ⟨RX12, "digit", "(IIII)I"⟩
abbrev cX12_power : ByteArray := prog_14_method_79_code
def yX12_power : MethodName := ⟨RX12, "power", "(II)I"⟩
abbrev cX12_floorFor : ByteArray := prog_14_method_80_code
def yX12_floorFor : MethodName := ⟨RX12, "floorFor", "(I)I"⟩
abbrev cX12_passedBy : ByteArray := prog_14_method_81_code
def yX12_passedBy : MethodName := ⟨RX12, "passedBy", "(III)I"⟩
abbrev cX12_plan : ByteArray := prog_14_method_82_code
def yX12_plan : MethodName := ⟨RX12, "plan", "(I)I"⟩
abbrev cX12_planAt : ByteArray := prog_14_method_83_code
def yX12_planAt : MethodName := ⟨RX12, "planAt", "(I)I"⟩
abbrev cX12_passes : ByteArray := prog_14_method_84_code
def yX12_passes : MethodName := ⟨RX12, "passes", "()I"⟩
abbrev cX12_isBeen : ByteArray := prog_14_method_85_code
def yX12_isBeen : MethodName := ⟨RX12, "isBeen", "(II)Z"⟩
abbrev cX12_leftBy : ByteArray := prog_14_method_86_code
def yX12_leftBy : MethodName := ⟨RX12, "leftBy", "(II)I"⟩
abbrev cX12_been : ByteArray := prog_14_method_87_code
def yX12_been : MethodName := ⟨RX12, "been", "(I)I"⟩
abbrev cX12_beenAt : ByteArray := prog_14_method_88_code
def yX12_beenAt : MethodName := ⟨RX12, "beenAt", "(I)I"⟩
abbrev cX12_ask : ByteArray := prog_14_method_89_code
def yX12_ask : MethodName := ⟨RX12, "ask", "()I"⟩
abbrev cX12_hung : ByteArray := prog_14_method_90_code
def yX12_hung : MethodName := ⟨RX12, "hung", "(I)I"⟩
abbrev cX12_hanging : ByteArray := prog_14_method_91_code
def yX12_hanging : MethodName := ⟨RX12, "hanging", "()I"⟩
abbrev cX12_holds : ByteArray := prog_14_method_92_code
def yX12_holds : MethodName := ⟨RX12, "holds", "(II)I"⟩
abbrev cX12_web : ByteArray := prog_14_method_93_code
def yX12_web : MethodName := ⟨RX12, "web", "(I)I"⟩
abbrev cX12_likesFloor : ByteArray := prog_14_method_94_code
def yX12_likesFloor : MethodName := ⟨RX12, "likesFloor", "(II)I"⟩
abbrev cX12_likesChild : ByteArray := prog_14_method_95_code
def yX12_likesChild : MethodName := ⟨RX12, "likesChild", "(II)I"⟩
abbrev cX12_holderOf : ByteArray := prog_14_method_96_code
def yX12_holderOf : MethodName := ⟨RX12, "holderOf", "(I)I"⟩
abbrev cX12_asks : ByteArray := prog_14_method_97_code
def yX12_asks : MethodName := ⟨RX12, "asks", "(I)Z"⟩
abbrev cX12_bargain : ByteArray := prog_14_method_98_code
def yX12_bargain : MethodName := ⟨RX12, "bargain", "()I"⟩
abbrev cX12_bargained : ByteArray := prog_14_method_99_code
def yX12_bargained : MethodName := ⟨RX12, "bargained", "(I)I"⟩
abbrev cX12_lays : ByteArray := prog_14_method_100_code
def yX12_lays : MethodName := ⟨RX12, "lays", "(I)V"⟩
abbrev cX12_spells : ByteArray := prog_14_method_101_code
def yX12_spells : MethodName := ⟨RX12, "spells", "(J)V"⟩
abbrev cX12_says : ByteArray := prog_14_method_102_code
def yX12_says : MethodName := ⟨RX12, "says", "(J)V"⟩
abbrev cX12_cover : ByteArray := prog_14_method_103_code
def yX12_cover : MethodName := ⟨RX12, "cover", "(I)I"⟩
abbrev cX12_byteAt : ByteArray := prog_14_method_104_code
def yX12_byteAt : MethodName := ⟨RX12, "byteAt", "(I)I"⟩
abbrev cX12_draw : ByteArray := prog_14_method_105_code
def yX12_draw : MethodName := ⟨RX12, "draw", "(I)I"⟩
abbrev cX12_draws : ByteArray := prog_14_method_106_code
def yX12_draws : MethodName := ⟨RX12, "draws", "(II)I"⟩
abbrev cX12_drawn : ByteArray := prog_14_method_107_code
def yX12_drawn : MethodName := ⟨RX12, "drawn", "(II)I"⟩
abbrev cX12_odds : ByteArray := prog_14_method_108_code
def yX12_odds : MethodName := ⟨RX12, "odds", "(III)I"⟩
abbrev cX12_bookLine : ByteArray := prog_14_method_109_code
def yX12_bookLine : MethodName := ⟨RX12, "bookLine", "()Z"⟩
abbrev cX12_does : ByteArray := prog_14_method_110_code
def yX12_does : MethodName := ⟨RX12, "does", "(III)I"⟩
abbrev cX12_book : ByteArray := prog_14_method_111_code
def yX12_book : MethodName := ⟨RX12, "book", "(I)I"⟩
abbrev cX12_told : ByteArray := prog_14_method_112_code
def yX12_told : MethodName := ⟨RX12, "told", "(I)I"⟩
abbrev cX12_code : ByteArray := prog_14_method_113_code
def yX12_code : MethodName := ⟨RX12, "code", "(III)V"⟩
abbrev cX12_joins : ByteArray := prog_14_method_114_code
def yX12_joins : MethodName := ⟨RX12, "joins", "(I)V"⟩
abbrev cX12_nots : ByteArray := prog_14_method_115_code
def yX12_nots : MethodName := ⟨RX12, "nots", "()V"⟩
abbrev cX12_leafOf : ByteArray := prog_14_method_116_code
def yX12_leafOf : MethodName := ⟨RX12, "leafOf", "()I"⟩
abbrev cX12_operand : ByteArray := prog_14_method_117_code
def yX12_operand : MethodName := ⟨RX12, "operand", "()Z"⟩
abbrev cX12_behind : ByteArray := prog_14_method_118_code
def yX12_behind : MethodName := ⟨RX12, "behind", "()Z"⟩
abbrev cX12_sentence : ByteArray := prog_14_method_119_code
def yX12_sentence : MethodName := ⟨RX12, "sentence", "()I"⟩
abbrev cX12_isLeaf : ByteArray := prog_14_method_120_code
def yX12_isLeaf : MethodName := ⟨RX12, "isLeaf", "(IIII)Z"⟩
abbrev cX12_isSaid : ByteArray := prog_14_method_121_code
def yX12_isSaid : MethodName := ⟨RX12, "isSaid", "(I)Z"⟩
abbrev cX12_said : ByteArray := prog_14_method_122_code
def yX12_said : MethodName := ⟨RX12, "said", "(I)I"⟩
abbrev cX12_image : ByteArray := prog_14_method_123_code
def yX12_image : MethodName := ⟨RX12, "image", "(I)Z"⟩
abbrev cX12_restore : ByteArray := prog_14_method_124_code
def yX12_restore : MethodName := ⟨RX12, "restore", "(I)Z"⟩
abbrev cX12_count : ByteArray := prog_14_method_125_code
def yX12_count : MethodName := ⟨RX12, "count", "(I)I"⟩
def RJ6 : String := "java/lang/Integer"
def TJ6 : u_T := fun k => match k with
  | _ => ("", "", "", false)
def tyJ6 : Nat → FieldType := fun k => match k with
  | _ => .int
abbrev wsJ60 : List Cond := u_ws RJ6 TJ6 0
theorem nmJ6 : ∀ a, a < 0 → ∀ b, b < 0 → a ≠ b → (TJ6 a).2.1 ≠ (TJ6 b).2.1 := by decide +kernel
theorem tyJ6_ok : ∀ k, k < 0 → parseFieldDescriptor (TJ6 k).2.2.1 = some (tyJ6 k) := by decide +kernel
abbrev cJ6_bitCount_0f7a4 : ByteArray := prog_20_method_49_code
def yJ6_bitCount_0f7a4 : MethodName := ⟨RJ6, "bitCount", "(I)I"⟩
def RJ9 : String := "java/lang/Math"
def TJ9 : u_T := fun k => match k with
  | _ => ("", "", "", false)
def tyJ9 : Nat → FieldType := fun k => match k with
  | _ => .int
abbrev wsJ90 : List Cond := u_ws RJ9 TJ9 0
theorem nmJ9 : ∀ a, a < 0 → ∀ b, b < 0 → a ≠ b → (TJ9 a).2.1 ≠ (TJ9 b).2.1 := by decide +kernel
theorem tyJ9_ok : ∀ k, k < 0 → parseFieldDescriptor (TJ9 k).2.2.1 = some (tyJ9 k) := by decide +kernel
abbrev cJ9_abs_0f7a4 : ByteArray := prog_21_method_59_code
def yJ9_abs_0f7a4 : MethodName := ⟨RJ9, "abs", "(I)I"⟩
abbrev cJ9_max_7cf53 : ByteArray := prog_21_method_65_code
def yJ9_max_7cf53 : MethodName := ⟨RJ9, "max", "(II)I"⟩
abbrev cJ9_min_7cf53 : ByteArray := prog_21_method_69_code
def yJ9_min_7cf53 : MethodName := ⟨RJ9, "min", "(II)I"⟩
def RJ0 : String := "java/lang/String"
def TJ0 : u_T := fun k => match k with
  | _ => ("", "", "", false)
def tyJ0 : Nat → FieldType := fun k => match k with
  | _ => .int
abbrev wsJ00 : List Cond := u_ws RJ0 TJ0 0
theorem nmJ0 : ∀ a, a < 0 → ∀ b, b < 0 → a ≠ b → (TJ0 a).2.1 ≠ (TJ0 b).2.1 := by decide +kernel
theorem tyJ0_ok : ∀ k, k < 0 → parseFieldDescriptor (TJ0 k).2.2.1 = some (tyJ0 k) := by decide +kernel
abbrev cJ0_length_8abf5 : ByteArray := prog_23_method_54_code
def yJ0_length_8abf5 : MethodName := ⟨RJ0, "length", "()I"⟩
abbrev cJ0_charAt_5068e : ByteArray := prog_23_method_56_code
def yJ0_charAt_5068e : MethodName := ⟨RJ0, "charAt", "(I)C"⟩
abbrev cJ0_coder_7d493 : ByteArray := prog_23_method_152_code
def yJ0_coder_7d493 : MethodName := ⟨RJ0, "coder", "()B"⟩
abbrev cJ0_isLatin1_aae02 : ByteArray := prog_23_method_154_code
def yJ0_isLatin1_aae02 : MethodName := ⟨RJ0, "isLatin1", "()Z"⟩
abbrev cJ0_checkIndex_df160 : ByteArray := prog_23_method_155_code
def yJ0_checkIndex_df160 : MethodName := ⟨RJ0, "checkIndex", "(II)V"⟩
def RJ1 : String := "java/lang/StringLatin1"
def TJ1 : u_T := fun k => match k with
  | _ => ("", "", "", false)
def tyJ1 : Nat → FieldType := fun k => match k with
  | _ => .int
abbrev wsJ10 : List Cond := u_ws RJ1 TJ1 0
theorem nmJ1 : ∀ a, a < 0 → ∀ b, b < 0 → a ≠ b → (TJ1 a).2.1 ≠ (TJ1 b).2.1 := by decide +kernel
theorem tyJ1_ok : ∀ k, k < 0 → parseFieldDescriptor (TJ1 k).2.2.1 = some (tyJ1 k) := by decide +kernel
abbrev cJ1_charAt_3b067 : ByteArray := prog_24_method_2_code
def yJ1_charAt_3b067 : MethodName := ⟨RJ1, "charAt", "([BI)C"⟩
def RJ2 : String := "java/lang/StringUTF16"
def TJ2 : u_T := fun k => match k with
  | _ => ("", "", "", false)
def tyJ2 : Nat → FieldType := fun k => match k with
  | _ => .int
abbrev wsJ20 : List Cond := u_ws RJ2 TJ2 0
theorem nmJ2 : ∀ a, a < 0 → ∀ b, b < 0 → a ≠ b → (TJ2 a).2.1 ≠ (TJ2 b).2.1 := by decide +kernel
theorem tyJ2_ok : ∀ k, k < 0 → parseFieldDescriptor (TJ2 k).2.2.1 = some (tyJ2 k) := by decide +kernel
abbrev cJ2_getChar_3b067 : ByteArray := prog_25_method_5_code
def yJ2_getChar_3b067 : MethodName := ⟨RJ2, "getChar", "([BI)C"⟩
abbrev cJ2_length_9d52b : ByteArray := prog_25_method_6_code
def yJ2_length_9d52b : MethodName := ⟨RJ2, "length", "([B)I"⟩
abbrev cJ2_charAt_3b067 : ByteArray := prog_25_method_83_code
def yJ2_charAt_3b067 : MethodName := ⟨RJ2, "charAt", "([BI)C"⟩
abbrev cJ2_checkIndex_2214a : ByteArray := prog_25_method_91_code
def yJ2_checkIndex_2214a : MethodName := ⟨RJ2, "checkIndex", "(I[B)V"⟩
def RJ10 : String := "java/lang/System"
def TJ10 : u_T := fun k => match k with
  | _ => ("", "", "", false)
def tyJ10 : Nat → FieldType := fun k => match k with
  | _ => .int
abbrev wsJ100 : List Cond := u_ws RJ10 TJ10 0
theorem nmJ10 : ∀ a, a < 0 → ∀ b, b < 0 → a ≠ b → (TJ10 a).2.1 ≠ (TJ10 b).2.1 := by decide +kernel
theorem tyJ10_ok : ∀ k, k < 0 → parseFieldDescriptor (TJ10 k).2.2.1 = some (tyJ10 k) := by decide +kernel
def RJ7 : String := "java/util/Arrays"
def TJ7 : u_T := fun k => match k with
  | _ => ("", "", "", false)
def tyJ7 : Nat → FieldType := fun k => match k with
  | _ => .int
abbrev wsJ70 : List Cond := u_ws RJ7 TJ7 0
theorem nmJ7 : ∀ a, a < 0 → ∀ b, b < 0 → a ≠ b → (TJ7 a).2.1 ≠ (TJ7 b).2.1 := by decide +kernel
theorem tyJ7_ok : ∀ k, k < 0 → parseFieldDescriptor (TJ7 k).2.2.1 = some (tyJ7 k) := by decide +kernel
abbrev cJ7_fill_53178 : ByteArray := prog_30_method_103_code
def yJ7_fill_53178 : MethodName := ⟨RJ7, "fill", "([II)V"⟩
def RJ3 : String := "jdk/internal/util/Preconditions"
def TJ3 : u_T := fun k => match k with
  | _ => ("", "", "", false)
def tyJ3 : Nat → FieldType := fun k => match k with
  | _ => .int
abbrev wsJ30 : List Cond := u_ws RJ3 TJ3 0
theorem nmJ3 : ∀ a, a < 0 → ∀ b, b < 0 → a ≠ b → (TJ3 a).2.1 ≠ (TJ3 b).2.1 := by decide +kernel
theorem tyJ3_ok : ∀ k, k < 0 → parseFieldDescriptor (TJ3 k).2.2.1 = some (tyJ3 k) := by decide +kernel
abbrev cJ3_checkIndex_8e157 : ByteArray := prog_32_method_11_code
def yJ3_checkIndex_8e157 : MethodName := ⟨RJ3, "checkIndex", "(IILjava/util/function/BiFunction;)I"⟩
def RL : String := "DumbwaiterYoungLaw"
abbrev cL_child : ByteArray := method_3_code
def yL_child : MethodName := ⟨RL, "child", "(LDumbwaiterYoung;II[J)I"⟩
abbrev cL_law : ByteArray := code
def yL_law : MethodName := ⟨RL, "law", "([I)Z"⟩
abbrev vwCl : List vw_C := [(RX0, TX0, 3), (RX1, TX1, 8), (RX2, TX2, 3), (RX3, TX3, 4), (RX4, TX4, 5), (RX5, TX5, 9), (RX6, TX6, 6), (RX7, TX7, 11), (RX8, TX8, 15), (RX9, TX9, 7), (RX11, TX11, 19), (RX12, TX12, 54)]
