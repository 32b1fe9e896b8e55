set_option maxRecDepth 100000 in
theorem kX11_init : iMk mX11_init := ⟨List.mem_filter.mpr ⟨List.mem_of_getElem? (i := 152) rfl, rfl⟩, w_RX11, by decide, h_RX11.1, h_RX11.2⟩
theorem jX11_init : Cond.instanceMethod yX11_init ∈ igt := List.mem_filter.mpr ⟨List.mem_of_getElem? (i := 151) (by decide +kernel), by decide +kernel⟩
theorem nX11_init : iNp mX11_init 0 := by unfold iNp; decide +kernel
set_option maxRecDepth 100000 in
theorem kX5_init : iMk mX5_init := ⟨List.mem_filter.mpr ⟨List.mem_of_getElem? (i := 160) rfl, rfl⟩, w_RX5, by decide, h_RX5.1, h_RX5.2⟩
theorem jX5_init : Cond.instanceMethod yX5_init ∈ igt := List.mem_filter.mpr ⟨List.mem_of_getElem? (i := 159) (by decide +kernel), by decide +kernel⟩
theorem nX5_init : iNp mX5_init 0 := by unfold iNp; decide +kernel
set_option maxRecDepth 100000 in
theorem kX8_init : iMk mX8_init := ⟨List.mem_filter.mpr ⟨List.mem_of_getElem? (i := 200) rfl, rfl⟩, w_RX8, by decide, h_RX8.1, h_RX8.2⟩
theorem jX8_init : Cond.instanceMethod yX8_init ∈ igt := List.mem_filter.mpr ⟨List.mem_of_getElem? (i := 199) (by decide +kernel), by decide +kernel⟩
theorem nX8_init : iNp mX8_init 0 := by unfold iNp; decide +kernel
set_option maxRecDepth 100000 in
theorem kX7_init : iMk mX7_init := ⟨List.mem_filter.mpr ⟨List.mem_of_getElem? (i := 284) rfl, rfl⟩, w_RX7, by decide, h_RX7.1, h_RX7.2⟩
theorem jX7_init : Cond.instanceMethod yX7_init ∈ igt := List.mem_filter.mpr ⟨List.mem_of_getElem? (i := 283) (by decide +kernel), by decide +kernel⟩
theorem nX7_init : iNp mX7_init 0 := by unfold iNp; decide +kernel
set_option maxRecDepth 100000 in
theorem kX6_init : iMk mX6_init := ⟨List.mem_filter.mpr ⟨List.mem_of_getElem? (i := 340) rfl, rfl⟩, w_RX6, by decide, h_RX6.1, h_RX6.2⟩
theorem jX6_init : Cond.instanceMethod yX6_init ∈ igt := List.mem_filter.mpr ⟨List.mem_of_getElem? (i := 339) (by decide +kernel), by decide +kernel⟩
theorem nX6_init : iNp mX6_init 0 := by unfold iNp; decide +kernel
set_option maxRecDepth 100000 in
theorem kX2_init : iMk mX2_init := ⟨List.mem_filter.mpr ⟨List.mem_of_getElem? (i := 367) rfl, rfl⟩, w_RX2, by decide, h_RX2.1, h_RX2.2⟩
theorem jX2_init : Cond.instanceMethod yX2_init ∈ igt := List.mem_filter.mpr ⟨List.mem_of_getElem? (i := 366) (by decide +kernel), by decide +kernel⟩
theorem nX2_init : iNp mX2_init 0 := by unfold iNp; decide +kernel
set_option maxRecDepth 100000 in
theorem kX3_init : iMk mX3_init := ⟨List.mem_filter.mpr ⟨List.mem_of_getElem? (i := 388) rfl, rfl⟩, w_RX3, by decide, h_RX3.1, h_RX3.2⟩
theorem jX3_init : Cond.instanceMethod yX3_init ∈ igt := List.mem_filter.mpr ⟨List.mem_of_getElem? (i := 387) (by decide +kernel), by decide +kernel⟩
theorem nX3_init : iNp mX3_init 0 := by unfold iNp; decide +kernel
set_option maxRecDepth 100000 in
theorem kX4_init : iMk mX4_init := ⟨List.mem_filter.mpr ⟨List.mem_of_getElem? (i := 414) rfl, rfl⟩, w_RX4, by decide, h_RX4.1, h_RX4.2⟩
theorem jX4_init : Cond.instanceMethod yX4_init ∈ igt := List.mem_filter.mpr ⟨List.mem_of_getElem? (i := 413) (by decide +kernel), by decide +kernel⟩
theorem nX4_init : iNp mX4_init 0 := by unfold iNp; decide +kernel
set_option maxRecDepth 100000 in
theorem kX9_init : iMk mX9_init := ⟨List.mem_filter.mpr ⟨List.mem_of_getElem? (i := 439) rfl, rfl⟩, w_RX9, by decide, h_RX9.1, h_RX9.2⟩
theorem jX9_init : Cond.instanceMethod yX9_init ∈ igt := List.mem_filter.mpr ⟨List.mem_of_getElem? (i := 438) (by decide +kernel), by decide +kernel⟩
theorem nX9_init : iNp mX9_init 0 := by unfold iNp; decide +kernel
set_option maxRecDepth 100000 in
theorem kX0_init : iMk mX0_init := ⟨List.mem_filter.mpr ⟨List.mem_of_getElem? (i := 470) rfl, rfl⟩, w_RX0, by decide, h_RX0.1, h_RX0.2⟩
theorem jX0_init : Cond.instanceMethod yX0_init ∈ igt := List.mem_filter.mpr ⟨List.mem_of_getElem? (i := 469) (by decide +kernel), by decide +kernel⟩
theorem nX0_init : iNp mX0_init 0 := by unfold iNp; decide +kernel
set_option maxRecDepth 100000 in
theorem kJ7_fill_53178 : iMk mJ7_fill_53178 := ⟨List.mem_filter.mpr ⟨List.mem_of_getElem? (i := 474) rfl, rfl⟩, w_RJ7, by decide, h_RJ7.1, h_RJ7.2⟩
theorem sJ7_fill_53178 : Cond.static yJ7_fill_53178 ∈ igt := List.mem_filter.mpr ⟨List.mem_of_getElem? (i := 473) (by decide +kernel), by decide +kernel⟩
theorem nJ7_fill_53178 : iNp mJ7_fill_53178 2 := by unfold iNp; decide +kernel
set_option maxRecDepth 100000 in
theorem kX1_init : iMk mX1_init := ⟨List.mem_filter.mpr ⟨List.mem_of_getElem? (i := 490) rfl, rfl⟩, w_RX1, by decide, h_RX1.1, h_RX1.2⟩
theorem jX1_init : Cond.instanceMethod yX1_init ∈ igt := List.mem_filter.mpr ⟨List.mem_of_getElem? (i := 489) (by decide +kernel), by decide +kernel⟩
theorem nX1_init : iNp mX1_init 0 := by unfold iNp; decide +kernel
set_option maxRecDepth 100000 in
theorem kX11_feed : iMk mX11_feed := ⟨List.mem_filter.mpr ⟨List.mem_of_getElem? (i := 582) rfl, rfl⟩, w_RX11, by decide, h_RX11.1, h_RX11.2⟩
theorem iX11_feed : iMi mX11_feed := ⟨List.mem_filter.mpr ⟨List.mem_of_getElem? (i := 580) (by decide +kernel), by decide +kernel⟩, List.mem_filter.mpr ⟨List.mem_of_getElem? (i := 581) (by decide +kernel), by decide +kernel⟩⟩
theorem nX11_feed : iNp mX11_feed 5 := by unfold iNp; decide +kernel
set_option maxRecDepth 100000 in
theorem kX11_feedOne : iMk mX11_feedOne := ⟨List.mem_filter.mpr ⟨List.mem_of_getElem? (i := 586) rfl, rfl⟩, w_RX11, by decide, h_RX11.1, h_RX11.2⟩
theorem iX11_feedOne : iMi mX11_feedOne := ⟨List.mem_filter.mpr ⟨List.mem_of_getElem? (i := 585) (by decide +kernel), by decide +kernel⟩, List.mem_filter.mpr ⟨List.mem_of_getElem? (i := 0) (by decide +kernel), by decide +kernel⟩⟩
theorem nX11_feedOne : iNp mX11_feedOne 1 := by unfold iNp; decide +kernel
set_option maxRecDepth 100000 in
theorem kX11_end : iMk mX11_end := ⟨List.mem_filter.mpr ⟨List.mem_of_getElem? (i := 590) rfl, rfl⟩, w_RX11, by decide, h_RX11.1, h_RX11.2⟩
theorem iX11_end : iMi mX11_end := ⟨List.mem_filter.mpr ⟨List.mem_of_getElem? (i := 588) (by decide +kernel), by decide +kernel⟩, List.mem_filter.mpr ⟨List.mem_of_getElem? (i := 589) (by decide +kernel), by decide +kernel⟩⟩
theorem nX11_end : iNp mX11_end 1 := by unfold iNp; decide +kernel
set_option maxRecDepth 100000 in
theorem kX11_tower : iMk mX11_tower := ⟨List.mem_filter.mpr ⟨List.mem_of_getElem? (i := 594) rfl, rfl⟩, w_RX11, by decide, h_RX11.1, h_RX11.2⟩
theorem iX11_tower : iMi mX11_tower := ⟨List.mem_filter.mpr ⟨List.mem_of_getElem? (i := 592) (by decide +kernel), by decide +kernel⟩, List.mem_filter.mpr ⟨List.mem_of_getElem? (i := 593) (by decide +kernel), by decide +kernel⟩⟩
theorem nX11_tower : iNp mX11_tower 0 := by unfold iNp; decide +kernel
set_option maxRecDepth 100000 in
theorem kX11_openTape : iMk mX11_openTape := ⟨List.mem_filter.mpr ⟨List.mem_of_getElem? (i := 598) rfl, rfl⟩, w_RX11, by decide, h_RX11.1, h_RX11.2⟩
theorem iX11_openTape : iMi mX11_openTape := ⟨List.mem_filter.mpr ⟨List.mem_of_getElem? (i := 597) (by decide +kernel), by decide +kernel⟩, List.mem_filter.mpr ⟨List.mem_of_getElem? (i := 1) (by decide +kernel), by decide +kernel⟩⟩
theorem nX11_openTape : iNp mX11_openTape 1 := by unfold iNp; decide +kernel
set_option maxRecDepth 100000 in
theorem kX5_open : iMk mX5_open := ⟨List.mem_filter.mpr ⟨List.mem_of_getElem? (i := 602) rfl, rfl⟩, w_RX5, by decide, h_RX5.1, h_RX5.2⟩
theorem iX5_open : iMi mX5_open := ⟨List.mem_filter.mpr ⟨List.mem_of_getElem? (i := 600) (by decide +kernel), by decide +kernel⟩, List.mem_filter.mpr ⟨List.mem_of_getElem? (i := 601) (by decide +kernel), by decide +kernel⟩⟩
theorem nX5_open : iNp mX5_open 3 := by unfold iNp; decide +kernel
set_option maxRecDepth 100000 in
theorem kJ9_min_7cf53 : iMk mJ9_min_7cf53 := ⟨List.mem_filter.mpr ⟨List.mem_of_getElem? (i := 605) rfl, rfl⟩, w_RJ9, by decide, h_RJ9.1, h_RJ9.2⟩
theorem sJ9_min_7cf53 : Cond.static yJ9_min_7cf53 ∈ igt := List.mem_filter.mpr ⟨List.mem_of_getElem? (i := 604) (by decide +kernel), by decide +kernel⟩
theorem nJ9_min_7cf53 : iNp mJ9_min_7cf53 2 := by unfold iNp; decide +kernel
set_option maxRecDepth 100000 in
theorem kX5_isBlank : iMk mX5_isBlank := ⟨List.mem_filter.mpr ⟨List.mem_of_getElem? (i := 608) rfl, rfl⟩, w_RX5, by decide, h_RX5.1, h_RX5.2⟩
theorem sX5_isBlank : Cond.static yX5_isBlank ∈ igt := List.mem_filter.mpr ⟨List.mem_of_getElem? (i := 607) (by decide +kernel), by decide +kernel⟩
theorem nX5_isBlank : iNp mX5_isBlank 1 := by unfold iNp; decide +kernel
set_option maxRecDepth 100000 in
theorem kX5_isLetter : iMk mX5_isLetter := ⟨List.mem_filter.mpr ⟨List.mem_of_getElem? (i := 611) rfl, rfl⟩, w_RX5, by decide, h_RX5.1, h_RX5.2⟩
theorem sX5_isLetter : Cond.static yX5_isLetter ∈ igt := List.mem_filter.mpr ⟨List.mem_of_getElem? (i := 610) (by decide +kernel), by decide +kernel⟩
theorem nX5_isLetter : iNp mX5_isLetter 1 := by unfold iNp; decide +kernel
set_option maxRecDepth 100000 in
theorem kX5_isDigit : iMk mX5_isDigit := ⟨List.mem_filter.mpr ⟨List.mem_of_getElem? (i := 614) rfl, rfl⟩, w_RX5, by decide, h_RX5.1, h_RX5.2⟩
theorem sX5_isDigit : Cond.static yX5_isDigit ∈ igt := List.mem_filter.mpr ⟨List.mem_of_getElem? (i := 613) (by decide +kernel), by decide +kernel⟩
theorem nX5_isDigit : iNp mX5_isDigit 1 := by unfold iNp; decide +kernel
set_option maxRecDepth 100000 in
theorem kX5_scanRun : iMk mX5_scanRun := ⟨List.mem_filter.mpr ⟨List.mem_of_getElem? (i := 618) rfl, rfl⟩, w_RX5, by decide, h_RX5.1, h_RX5.2⟩
theorem iX5_scanRun : iMi mX5_scanRun := ⟨List.mem_filter.mpr ⟨List.mem_of_getElem? (i := 617) (by decide +kernel), by decide +kernel⟩, List.mem_filter.mpr ⟨List.mem_of_getElem? (i := 2) (by decide +kernel), by decide +kernel⟩⟩
theorem nX5_scanRun : iNp mX5_scanRun 3 := by unfold iNp; decide +kernel
set_option maxRecDepth 100000 in
theorem kX10_find : iMk mX10_find := ⟨List.mem_filter.mpr ⟨List.mem_of_getElem? (i := 621) rfl, rfl⟩, w_RX10, by decide, h_RX10.1, h_RX10.2⟩
theorem sX10_find : Cond.static yX10_find ∈ igt := List.mem_filter.mpr ⟨List.mem_of_getElem? (i := 620) (by decide +kernel), by decide +kernel⟩
theorem nX10_find : iNp mX10_find 1 := by unfold iNp; decide +kernel
set_option maxRecDepth 100000 in
theorem kX5_add : iMk mX5_add := ⟨List.mem_filter.mpr ⟨List.mem_of_getElem? (i := 627) rfl, rfl⟩, w_RX5, by decide, h_RX5.1, h_RX5.2⟩
theorem iX5_add : iMi mX5_add := ⟨List.mem_filter.mpr ⟨List.mem_of_getElem? (i := 626) (by decide +kernel), by decide +kernel⟩, List.mem_filter.mpr ⟨List.mem_of_getElem? (i := 3) (by decide +kernel), by decide +kernel⟩⟩
theorem nX5_add : iNp mX5_add 4 := by unfold iNp; decide +kernel
set_option maxRecDepth 100000 in
theorem kX5_isSign : iMk mX5_isSign := ⟨List.mem_filter.mpr ⟨List.mem_of_getElem? (i := 630) rfl, rfl⟩, w_RX5, by decide, h_RX5.1, h_RX5.2⟩
theorem sX5_isSign : Cond.static yX5_isSign ∈ igt := List.mem_filter.mpr ⟨List.mem_of_getElem? (i := 629) (by decide +kernel), by decide +kernel⟩
theorem nX5_isSign : iNp mX5_isSign 1 := by unfold iNp; decide +kernel
set_option maxRecDepth 100000 in
theorem kX8_readFrom : iMk mX8_readFrom := ⟨List.mem_filter.mpr ⟨List.mem_of_getElem? (i := 634) rfl, rfl⟩, w_RX8, by decide, h_RX8.1, h_RX8.2⟩
theorem iX8_readFrom : iMi mX8_readFrom := ⟨List.mem_filter.mpr ⟨List.mem_of_getElem? (i := 632) (by decide +kernel), by decide +kernel⟩, List.mem_filter.mpr ⟨List.mem_of_getElem? (i := 633) (by decide +kernel), by decide +kernel⟩⟩
theorem nX8_readFrom : iNp mX8_readFrom 1 := by unfold iNp; decide +kernel
set_option maxRecDepth 100000 in
theorem kX5_failed : iMk mX5_failed := ⟨List.mem_filter.mpr ⟨List.mem_of_getElem? (i := 639) rfl, rfl⟩, w_RX5, by decide, h_RX5.1, h_RX5.2⟩
theorem iX5_failed : iMi mX5_failed := ⟨List.mem_filter.mpr ⟨List.mem_of_getElem? (i := 637) (by decide +kernel), by decide +kernel⟩, List.mem_filter.mpr ⟨List.mem_of_getElem? (i := 638) (by decide +kernel), by decide +kernel⟩⟩
theorem nX5_failed : iNp mX5_failed 0 := by unfold iNp; decide +kernel
set_option maxRecDepth 100000 in
theorem kX5_atEnd : iMk mX5_atEnd := ⟨List.mem_filter.mpr ⟨List.mem_of_getElem? (i := 643) rfl, rfl⟩, w_RX5, by decide, h_RX5.1, h_RX5.2⟩
theorem iX5_atEnd : iMi mX5_atEnd := ⟨List.mem_filter.mpr ⟨List.mem_of_getElem? (i := 641) (by decide +kernel), by decide +kernel⟩, List.mem_filter.mpr ⟨List.mem_of_getElem? (i := 642) (by decide +kernel), by decide +kernel⟩⟩
theorem nX5_atEnd : iNp mX5_atEnd 0 := by unfold iNp; decide +kernel
set_option maxRecDepth 100000 in
theorem kX8_readLine : iMk mX8_readLine := ⟨List.mem_filter.mpr ⟨List.mem_of_getElem? (i := 647) rfl, rfl⟩, w_RX8, by decide, h_RX8.1, h_RX8.2⟩
theorem iX8_readLine : iMi mX8_readLine := ⟨List.mem_filter.mpr ⟨List.mem_of_getElem? (i := 646) (by decide +kernel), by decide +kernel⟩, List.mem_filter.mpr ⟨List.mem_of_getElem? (i := 4) (by decide +kernel), by decide +kernel⟩⟩
theorem nX8_readLine : iNp mX8_readLine 1 := by unfold iNp; decide +kernel
set_option maxRecDepth 100000 in
theorem kX5_isWord : iMk mX5_isWord := ⟨List.mem_filter.mpr ⟨List.mem_of_getElem? (i := 653) rfl, rfl⟩, w_RX5, by decide, h_RX5.1, h_RX5.2⟩
theorem iX5_isWord : iMi mX5_isWord := ⟨List.mem_filter.mpr ⟨List.mem_of_getElem? (i := 651) (by decide +kernel), by decide +kernel⟩, List.mem_filter.mpr ⟨List.mem_of_getElem? (i := 652) (by decide +kernel), by decide +kernel⟩⟩
theorem nX5_isWord : iNp mX5_isWord 1 := by unfold iNp; decide +kernel
set_option maxRecDepth 100000 in
theorem kX8_readFloor : iMk mX8_readFloor := ⟨List.mem_filter.mpr ⟨List.mem_of_getElem? (i := 657) rfl, rfl⟩, w_RX8, by decide, h_RX8.1, h_RX8.2⟩
theorem iX8_readFloor : iMi mX8_readFloor := ⟨List.mem_filter.mpr ⟨List.mem_of_getElem? (i := 656) (by decide +kernel), by decide +kernel⟩, List.mem_filter.mpr ⟨List.mem_of_getElem? (i := 5) (by decide +kernel), by decide +kernel⟩⟩
theorem nX8_readFloor : iNp mX8_readFloor 1 := by unfold iNp; decide +kernel
set_option maxRecDepth 100000 in
theorem kX5_fail : iMk mX5_fail := ⟨List.mem_filter.mpr ⟨List.mem_of_getElem? (i := 661) rfl, rfl⟩, w_RX5, by decide, h_RX5.1, h_RX5.2⟩
theorem iX5_fail : iMi mX5_fail := ⟨List.mem_filter.mpr ⟨List.mem_of_getElem? (i := 659) (by decide +kernel), by decide +kernel⟩, List.mem_filter.mpr ⟨List.mem_of_getElem? (i := 660) (by decide +kernel), by decide +kernel⟩⟩
theorem nX5_fail : iNp mX5_fail 1 := by unfold iNp; decide +kernel
set_option maxRecDepth 100000 in
theorem kX5_skipWord : iMk mX5_skipWord := ⟨List.mem_filter.mpr ⟨List.mem_of_getElem? (i := 665) rfl, rfl⟩, w_RX5, by decide, h_RX5.1, h_RX5.2⟩
theorem iX5_skipWord : iMi mX5_skipWord := ⟨List.mem_filter.mpr ⟨List.mem_of_getElem? (i := 663) (by decide +kernel), by decide +kernel⟩, List.mem_filter.mpr ⟨List.mem_of_getElem? (i := 664) (by decide +kernel), by decide +kernel⟩⟩
theorem nX5_skipWord : iNp mX5_skipWord 1 := by unfold iNp; decide +kernel
set_option maxRecDepth 100000 in
theorem kX5_next : iMk mX5_next := ⟨List.mem_filter.mpr ⟨List.mem_of_getElem? (i := 671) rfl, rfl⟩, w_RX5, by decide, h_RX5.1, h_RX5.2⟩
theorem iX5_next : iMi mX5_next := ⟨List.mem_filter.mpr ⟨List.mem_of_getElem? (i := 670) (by decide +kernel), by decide +kernel⟩, List.mem_filter.mpr ⟨List.mem_of_getElem? (i := 6) (by decide +kernel), by decide +kernel⟩⟩
theorem nX5_next : iNp mX5_next 0 := by unfold iNp; decide +kernel
set_option maxRecDepth 100000 in
theorem kX8_takeNewName : iMk mX8_takeNewName := ⟨List.mem_filter.mpr ⟨List.mem_of_getElem? (i := 675) rfl, rfl⟩, w_RX8, by decide, h_RX8.1, h_RX8.2⟩
theorem iX8_takeNewName : iMi mX8_takeNewName := ⟨List.mem_filter.mpr ⟨List.mem_of_getElem? (i := 674) (by decide +kernel), by decide +kernel⟩, List.mem_filter.mpr ⟨List.mem_of_getElem? (i := 7) (by decide +kernel), by decide +kernel⟩⟩
theorem nX8_takeNewName : iNp mX8_takeNewName 1 := by unfold iNp; decide +kernel
set_option maxRecDepth 100000 in
theorem kX5_nameNow : iMk mX5_nameNow := ⟨List.mem_filter.mpr ⟨List.mem_of_getElem? (i := 679) rfl, rfl⟩, w_RX5, by decide, h_RX5.1, h_RX5.2⟩
theorem iX5_nameNow : iMi mX5_nameNow := ⟨List.mem_filter.mpr ⟨List.mem_of_getElem? (i := 677) (by decide +kernel), by decide +kernel⟩, List.mem_filter.mpr ⟨List.mem_of_getElem? (i := 678) (by decide +kernel), by decide +kernel⟩⟩
theorem nX5_nameNow : iNp mX5_nameNow 0 := by unfold iNp; decide +kernel
set_option maxRecDepth 100000 in
theorem kX8_floorNamed : iMk mX8_floorNamed := ⟨List.mem_filter.mpr ⟨List.mem_of_getElem? (i := 683) rfl, rfl⟩, w_RX8, by decide, h_RX8.1, h_RX8.2⟩
theorem iX8_floorNamed : iMi mX8_floorNamed := ⟨List.mem_filter.mpr ⟨List.mem_of_getElem? (i := 682) (by decide +kernel), by decide +kernel⟩, List.mem_filter.mpr ⟨List.mem_of_getElem? (i := 8) (by decide +kernel), by decide +kernel⟩⟩
theorem nX8_floorNamed : iNp mX8_floorNamed 1 := by unfold iNp; decide +kernel
set_option maxRecDepth 100000 in
theorem kX8_childNamed : iMk mX8_childNamed := ⟨List.mem_filter.mpr ⟨List.mem_of_getElem? (i := 687) rfl, rfl⟩, w_RX8, by decide, h_RX8.1, h_RX8.2⟩
theorem iX8_childNamed : iMi mX8_childNamed := ⟨List.mem_filter.mpr ⟨List.mem_of_getElem? (i := 686) (by decide +kernel), by decide +kernel⟩, List.mem_filter.mpr ⟨List.mem_of_getElem? (i := 9) (by decide +kernel), by decide +kernel⟩⟩
theorem nX8_childNamed : iNp mX8_childNamed 1 := by unfold iNp; decide +kernel
set_option maxRecDepth 100000 in
theorem kX8_uncleNamed : iMk mX8_uncleNamed := ⟨List.mem_filter.mpr ⟨List.mem_of_getElem? (i := 691) rfl, rfl⟩, w_RX8, by decide, h_RX8.1, h_RX8.2⟩
theorem iX8_uncleNamed : iMi mX8_uncleNamed := ⟨List.mem_filter.mpr ⟨List.mem_of_getElem? (i := 690) (by decide +kernel), by decide +kernel⟩, List.mem_filter.mpr ⟨List.mem_of_getElem? (i := 10) (by decide +kernel), by decide +kernel⟩⟩
theorem nX8_uncleNamed : iNp mX8_uncleNamed 1 := by unfold iNp; decide +kernel
set_option maxRecDepth 100000 in
theorem kX5_takeName : iMk mX5_takeName := ⟨List.mem_filter.mpr ⟨List.mem_of_getElem? (i := 695) rfl, rfl⟩, w_RX5, by decide, h_RX5.1, h_RX5.2⟩
theorem iX5_takeName : iMi mX5_takeName := ⟨List.mem_filter.mpr ⟨List.mem_of_getElem? (i := 693) (by decide +kernel), by decide +kernel⟩, List.mem_filter.mpr ⟨List.mem_of_getElem? (i := 694) (by decide +kernel), by decide +kernel⟩⟩
theorem nX5_takeName : iNp mX5_takeName 1 := by unfold iNp; decide +kernel
set_option maxRecDepth 100000 in
theorem kX5_takeGift : iMk mX5_takeGift := ⟨List.mem_filter.mpr ⟨List.mem_of_getElem? (i := 700) rfl, rfl⟩, w_RX5, by decide, h_RX5.1, h_RX5.2⟩
theorem iX5_takeGift : iMi mX5_takeGift := ⟨List.mem_filter.mpr ⟨List.mem_of_getElem? (i := 698) (by decide +kernel), by decide +kernel⟩, List.mem_filter.mpr ⟨List.mem_of_getElem? (i := 699) (by decide +kernel), by decide +kernel⟩⟩
theorem nX5_takeGift : iNp mX5_takeGift 0 := by unfold iNp; decide +kernel
set_option maxRecDepth 100000 in
theorem kX5_giftNow : iMk mX5_giftNow := ⟨List.mem_filter.mpr ⟨List.mem_of_getElem? (i := 704) rfl, rfl⟩, w_RX5, by decide, h_RX5.1, h_RX5.2⟩
theorem iX5_giftNow : iMi mX5_giftNow := ⟨List.mem_filter.mpr ⟨List.mem_of_getElem? (i := 702) (by decide +kernel), by decide +kernel⟩, List.mem_filter.mpr ⟨List.mem_of_getElem? (i := 703) (by decide +kernel), by decide +kernel⟩⟩
theorem nX5_giftNow : iNp mX5_giftNow 0 := by unfold iNp; decide +kernel
set_option maxRecDepth 100000 in
theorem kX5_subjectNow : iMk mX5_subjectNow := ⟨List.mem_filter.mpr ⟨List.mem_of_getElem? (i := 708) rfl, rfl⟩, w_RX5, by decide, h_RX5.1, h_RX5.2⟩
theorem iX5_subjectNow : iMi mX5_subjectNow := ⟨List.mem_filter.mpr ⟨List.mem_of_getElem? (i := 706) (by decide +kernel), by decide +kernel⟩, List.mem_filter.mpr ⟨List.mem_of_getElem? (i := 707) (by decide +kernel), by decide +kernel⟩⟩
theorem nX5_subjectNow : iNp mX5_subjectNow 0 := by unfold iNp; decide +kernel
set_option maxRecDepth 100000 in
theorem kX5_takeNumber : iMk mX5_takeNumber := ⟨List.mem_filter.mpr ⟨List.mem_of_getElem? (i := 712) rfl, rfl⟩, w_RX5, by decide, h_RX5.1, h_RX5.2⟩
theorem iX5_takeNumber : iMi mX5_takeNumber := ⟨List.mem_filter.mpr ⟨List.mem_of_getElem? (i := 710) (by decide +kernel), by decide +kernel⟩, List.mem_filter.mpr ⟨List.mem_of_getElem? (i := 711) (by decide +kernel), by decide +kernel⟩⟩
theorem nX5_takeNumber : iNp mX5_takeNumber 2 := by unfold iNp; decide +kernel
set_option maxRecDepth 100000 in
theorem kX8_readChild : iMk mX8_readChild := ⟨List.mem_filter.mpr ⟨List.mem_of_getElem? (i := 720) rfl, rfl⟩, w_RX8, by decide, h_RX8.1, h_RX8.2⟩
theorem iX8_readChild : iMi mX8_readChild := ⟨List.mem_filter.mpr ⟨List.mem_of_getElem? (i := 719) (by decide +kernel), by decide +kernel⟩, List.mem_filter.mpr ⟨List.mem_of_getElem? (i := 11) (by decide +kernel), by decide +kernel⟩⟩
theorem nX8_readChild : iNp mX8_readChild 1 := by unfold iNp; decide +kernel
set_option maxRecDepth 100000 in
theorem kX8_readUncle : iMk mX8_readUncle := ⟨List.mem_filter.mpr ⟨List.mem_of_getElem? (i := 726) rfl, rfl⟩, w_RX8, by decide, h_RX8.1, h_RX8.2⟩
theorem iX8_readUncle : iMi mX8_readUncle := ⟨List.mem_filter.mpr ⟨List.mem_of_getElem? (i := 725) (by decide +kernel), by decide +kernel⟩, List.mem_filter.mpr ⟨List.mem_of_getElem? (i := 12) (by decide +kernel), by decide +kernel⟩⟩
theorem nX8_readUncle : iNp mX8_readUncle 1 := by unfold iNp; decide +kernel
set_option maxRecDepth 100000 in
theorem kX8_readLaw : iMk mX8_readLaw := ⟨List.mem_filter.mpr ⟨List.mem_of_getElem? (i := 732) rfl, rfl⟩, w_RX8, by decide, h_RX8.1, h_RX8.2⟩
theorem iX8_readLaw : iMi mX8_readLaw := ⟨List.mem_filter.mpr ⟨List.mem_of_getElem? (i := 731) (by decide +kernel), by decide +kernel⟩, List.mem_filter.mpr ⟨List.mem_of_getElem? (i := 13) (by decide +kernel), by decide +kernel⟩⟩
theorem nX8_readLaw : iNp mX8_readLaw 1 := by unfold iNp; decide +kernel
set_option maxRecDepth 100000 in
theorem kX8_readLikes : iMk mX8_readLikes := ⟨List.mem_filter.mpr ⟨List.mem_of_getElem? (i := 739) rfl, rfl⟩, w_RX8, by decide, h_RX8.1, h_RX8.2⟩
theorem iX8_readLikes : iMi mX8_readLikes := ⟨List.mem_filter.mpr ⟨List.mem_of_getElem? (i := 738) (by decide +kernel), by decide +kernel⟩, List.mem_filter.mpr ⟨List.mem_of_getElem? (i := 14) (by decide +kernel), by decide +kernel⟩⟩
theorem nX8_readLikes : iNp mX8_readLikes 1 := by unfold iNp; decide +kernel
set_option maxRecDepth 100000 in
theorem kX8_takeFloor : iMk mX8_takeFloor := ⟨List.mem_filter.mpr ⟨List.mem_of_getElem? (i := 743) rfl, rfl⟩, w_RX8, by decide, h_RX8.1, h_RX8.2⟩
theorem iX8_takeFloor : iMi mX8_takeFloor := ⟨List.mem_filter.mpr ⟨List.mem_of_getElem? (i := 742) (by decide +kernel), by decide +kernel⟩, List.mem_filter.mpr ⟨List.mem_of_getElem? (i := 15) (by decide +kernel), by decide +kernel⟩⟩
theorem nX8_takeFloor : iNp mX8_takeFloor 1 := by unfold iNp; decide +kernel
set_option maxRecDepth 100000 in
theorem kX8_liking : iMk mX8_liking := ⟨List.mem_filter.mpr ⟨List.mem_of_getElem? (i := 747) rfl, rfl⟩, w_RX8, by decide, h_RX8.1, h_RX8.2⟩
theorem iX8_liking : iMi mX8_liking := ⟨List.mem_filter.mpr ⟨List.mem_of_getElem? (i := 745) (by decide +kernel), by decide +kernel⟩, List.mem_filter.mpr ⟨List.mem_of_getElem? (i := 746) (by decide +kernel), by decide +kernel⟩⟩
theorem nX8_liking : iNp mX8_liking 2 := by unfold iNp; decide +kernel
set_option maxRecDepth 100000 in
theorem kX8_readOnce : iMk mX8_readOnce := ⟨List.mem_filter.mpr ⟨List.mem_of_getElem? (i := 752) rfl, rfl⟩, w_RX8, by decide, h_RX8.1, h_RX8.2⟩
theorem sX8_readOnce : Cond.static yX8_readOnce ∈ igt := List.mem_filter.mpr ⟨List.mem_of_getElem? (i := 751) (by decide +kernel), by decide +kernel⟩
theorem nX8_readOnce : iNp mX8_readOnce 5 := by unfold iNp; decide +kernel
set_option maxRecDepth 100000 in
theorem kX5_takeSign : iMk mX5_takeSign := ⟨List.mem_filter.mpr ⟨List.mem_of_getElem? (i := 758) rfl, rfl⟩, w_RX5, by decide, h_RX5.1, h_RX5.2⟩
theorem iX5_takeSign : iMi mX5_takeSign := ⟨List.mem_filter.mpr ⟨List.mem_of_getElem? (i := 756) (by decide +kernel), by decide +kernel⟩, List.mem_filter.mpr ⟨List.mem_of_getElem? (i := 757) (by decide +kernel), by decide +kernel⟩⟩
theorem nX5_takeSign : iNp mX5_takeSign 1 := by unfold iNp; decide +kernel
set_option maxRecDepth 100000 in
theorem kX5_isSignNow : iMk mX5_isSignNow := ⟨List.mem_filter.mpr ⟨List.mem_of_getElem? (i := 762) rfl, rfl⟩, w_RX5, by decide, h_RX5.1, h_RX5.2⟩
theorem iX5_isSignNow : iMi mX5_isSignNow := ⟨List.mem_filter.mpr ⟨List.mem_of_getElem? (i := 760) (by decide +kernel), by decide +kernel⟩, List.mem_filter.mpr ⟨List.mem_of_getElem? (i := 761) (by decide +kernel), by decide +kernel⟩⟩
theorem nX5_isSignNow : iNp mX5_isSignNow 1 := by unfold iNp; decide +kernel
set_option maxRecDepth 100000 in
theorem kX5_finish : iMk mX5_finish := ⟨List.mem_filter.mpr ⟨List.mem_of_getElem? (i := 766) rfl, rfl⟩, w_RX5, by decide, h_RX5.1, h_RX5.2⟩
theorem iX5_finish : iMi mX5_finish := ⟨List.mem_filter.mpr ⟨List.mem_of_getElem? (i := 764) (by decide +kernel), by decide +kernel⟩, List.mem_filter.mpr ⟨List.mem_of_getElem? (i := 765) (by decide +kernel), by decide +kernel⟩⟩
theorem nX5_finish : iNp mX5_finish 0 := by unfold iNp; decide +kernel
set_option maxRecDepth 100000 in
theorem kX8_copyFrom : iMk mX8_copyFrom := ⟨List.mem_filter.mpr ⟨List.mem_of_getElem? (i := 772) rfl, rfl⟩, w_RX8, by decide, h_RX8.1, h_RX8.2⟩
theorem iX8_copyFrom : iMi mX8_copyFrom := ⟨List.mem_filter.mpr ⟨List.mem_of_getElem? (i := 770) (by decide +kernel), by decide +kernel⟩, List.mem_filter.mpr ⟨List.mem_of_getElem? (i := 771) (by decide +kernel), by decide +kernel⟩⟩
theorem nX8_copyFrom : iNp mX8_copyFrom 1 := by unfold iNp; decide +kernel
set_option maxRecDepth 100000 in
theorem kX7_begin : iMk mX7_begin := ⟨List.mem_filter.mpr ⟨List.mem_of_getElem? (i := 779) rfl, rfl⟩, w_RX7, by decide, h_RX7.1, h_RX7.2⟩
theorem iX7_begin : iMi mX7_begin := ⟨List.mem_filter.mpr ⟨List.mem_of_getElem? (i := 777) (by decide +kernel), by decide +kernel⟩, List.mem_filter.mpr ⟨List.mem_of_getElem? (i := 778) (by decide +kernel), by decide +kernel⟩⟩
theorem nX7_begin : iNp mX7_begin 1 := by unfold iNp; decide +kernel
set_option maxRecDepth 100000 in
theorem kX6_clear : iMk mX6_clear := ⟨List.mem_filter.mpr ⟨List.mem_of_getElem? (i := 785) rfl, rfl⟩, w_RX6, by decide, h_RX6.1, h_RX6.2⟩
theorem iX6_clear : iMi mX6_clear := ⟨List.mem_filter.mpr ⟨List.mem_of_getElem? (i := 783) (by decide +kernel), by decide +kernel⟩, List.mem_filter.mpr ⟨List.mem_of_getElem? (i := 784) (by decide +kernel), by decide +kernel⟩⟩
theorem nX6_clear : iNp mX6_clear 0 := by unfold iNp; decide +kernel
set_option maxRecDepth 100000 in
theorem kX2_clear : iMk mX2_clear := ⟨List.mem_filter.mpr ⟨List.mem_of_getElem? (i := 789) rfl, rfl⟩, w_RX2, by decide, h_RX2.1, h_RX2.2⟩
theorem iX2_clear : iMi mX2_clear := ⟨List.mem_filter.mpr ⟨List.mem_of_getElem? (i := 787) (by decide +kernel), by decide +kernel⟩, List.mem_filter.mpr ⟨List.mem_of_getElem? (i := 788) (by decide +kernel), by decide +kernel⟩⟩
theorem nX2_clear : iNp mX2_clear 0 := by unfold iNp; decide +kernel
set_option maxRecDepth 100000 in
theorem kX11_fault : iMk mX11_fault := ⟨List.mem_filter.mpr ⟨List.mem_of_getElem? (i := 793) rfl, rfl⟩, w_RX11, by decide, h_RX11.1, h_RX11.2⟩
theorem iX11_fault : iMi mX11_fault := ⟨List.mem_filter.mpr ⟨List.mem_of_getElem? (i := 791) (by decide +kernel), by decide +kernel⟩, List.mem_filter.mpr ⟨List.mem_of_getElem? (i := 792) (by decide +kernel), by decide +kernel⟩⟩
theorem nX11_fault : iNp mX11_fault 0 := by unfold iNp; decide +kernel
set_option maxRecDepth 100000 in
theorem kX11_has : iMk mX11_has := ⟨List.mem_filter.mpr ⟨List.mem_of_getElem? (i := 797) rfl, rfl⟩, w_RX11, by decide, h_RX11.1, h_RX11.2⟩
theorem iX11_has : iMi mX11_has := ⟨List.mem_filter.mpr ⟨List.mem_of_getElem? (i := 795) (by decide +kernel), by decide +kernel⟩, List.mem_filter.mpr ⟨List.mem_of_getElem? (i := 796) (by decide +kernel), by decide +kernel⟩⟩
theorem nX11_has : iNp mX11_has 2 := by unfold iNp; decide +kernel
set_option maxRecDepth 100000 in
theorem kX11_isChild : iMk mX11_isChild := ⟨List.mem_filter.mpr ⟨List.mem_of_getElem? (i := 801) rfl, rfl⟩, w_RX11, by decide, h_RX11.1, h_RX11.2⟩
theorem iX11_isChild : iMi mX11_isChild := ⟨List.mem_filter.mpr ⟨List.mem_of_getElem? (i := 800) (by decide +kernel), by decide +kernel⟩, List.mem_filter.mpr ⟨List.mem_of_getElem? (i := 16) (by decide +kernel), by decide +kernel⟩⟩
theorem nX11_isChild : iNp mX11_isChild 1 := by unfold iNp; decide +kernel
set_option maxRecDepth 100000 in
theorem kX7_amount : iMk mX7_amount := ⟨List.mem_filter.mpr ⟨List.mem_of_getElem? (i := 805) rfl, rfl⟩, w_RX7, by decide, h_RX7.1, h_RX7.2⟩
theorem iX7_amount : iMi mX7_amount := ⟨List.mem_filter.mpr ⟨List.mem_of_getElem? (i := 803) (by decide +kernel), by decide +kernel⟩, List.mem_filter.mpr ⟨List.mem_of_getElem? (i := 804) (by decide +kernel), by decide +kernel⟩⟩
theorem nX7_amount : iNp mX7_amount 2 := by unfold iNp; decide +kernel
set_option maxRecDepth 100000 in
theorem kX11_floor : iMk mX11_floor := ⟨List.mem_filter.mpr ⟨List.mem_of_getElem? (i := 809) rfl, rfl⟩, w_RX11, by decide, h_RX11.1, h_RX11.2⟩
theorem iX11_floor : iMi mX11_floor := ⟨List.mem_filter.mpr ⟨List.mem_of_getElem? (i := 807) (by decide +kernel), by decide +kernel⟩, List.mem_filter.mpr ⟨List.mem_of_getElem? (i := 808) (by decide +kernel), by decide +kernel⟩⟩
theorem nX11_floor : iNp mX11_floor 2 := by unfold iNp; decide +kernel
set_option maxRecDepth 100000 in
theorem kX11_isFloor : iMk mX11_isFloor := ⟨List.mem_filter.mpr ⟨List.mem_of_getElem? (i := 813) rfl, rfl⟩, w_RX11, by decide, h_RX11.1, h_RX11.2⟩
theorem iX11_isFloor : iMi mX11_isFloor := ⟨List.mem_filter.mpr ⟨List.mem_of_getElem? (i := 812) (by decide +kernel), by decide +kernel⟩, List.mem_filter.mpr ⟨List.mem_of_getElem? (i := 17) (by decide +kernel), by decide +kernel⟩⟩
theorem nX11_isFloor : iNp mX11_isFloor 1 := by unfold iNp; decide +kernel
set_option maxRecDepth 100000 in
theorem kX7_childOn : iMk mX7_childOn := ⟨List.mem_filter.mpr ⟨List.mem_of_getElem? (i := 817) rfl, rfl⟩, w_RX7, by decide, h_RX7.1, h_RX7.2⟩
theorem iX7_childOn : iMi mX7_childOn := ⟨List.mem_filter.mpr ⟨List.mem_of_getElem? (i := 815) (by decide +kernel), by decide +kernel⟩, List.mem_filter.mpr ⟨List.mem_of_getElem? (i := 816) (by decide +kernel), by decide +kernel⟩⟩
theorem nX7_childOn : iNp mX7_childOn 2 := by unfold iNp; decide +kernel
set_option maxRecDepth 100000 in
theorem kX11_uncle : iMk mX11_uncle := ⟨List.mem_filter.mpr ⟨List.mem_of_getElem? (i := 821) rfl, rfl⟩, w_RX11, by decide, h_RX11.1, h_RX11.2⟩
theorem iX11_uncle : iMi mX11_uncle := ⟨List.mem_filter.mpr ⟨List.mem_of_getElem? (i := 819) (by decide +kernel), by decide +kernel⟩, List.mem_filter.mpr ⟨List.mem_of_getElem? (i := 820) (by decide +kernel), by decide +kernel⟩⟩
theorem nX11_uncle : iNp mX11_uncle 2 := by unfold iNp; decide +kernel
set_option maxRecDepth 100000 in
theorem kX11_isUncle : iMk mX11_isUncle := ⟨List.mem_filter.mpr ⟨List.mem_of_getElem? (i := 825) rfl, rfl⟩, w_RX11, by decide, h_RX11.1, h_RX11.2⟩
theorem iX11_isUncle : iMi mX11_isUncle := ⟨List.mem_filter.mpr ⟨List.mem_of_getElem? (i := 824) (by decide +kernel), by decide +kernel⟩, List.mem_filter.mpr ⟨List.mem_of_getElem? (i := 18) (by decide +kernel), by decide +kernel⟩⟩
theorem nX11_isUncle : iNp mX11_isUncle 1 := by unfold iNp; decide +kernel
set_option maxRecDepth 100000 in
theorem kX7_hangs : iMk mX7_hangs := ⟨List.mem_filter.mpr ⟨List.mem_of_getElem? (i := 829) rfl, rfl⟩, w_RX7, by decide, h_RX7.1, h_RX7.2⟩
theorem iX7_hangs : iMi mX7_hangs := ⟨List.mem_filter.mpr ⟨List.mem_of_getElem? (i := 827) (by decide +kernel), by decide +kernel⟩, List.mem_filter.mpr ⟨List.mem_of_getElem? (i := 828) (by decide +kernel), by decide +kernel⟩⟩
theorem nX7_hangs : iNp mX7_hangs 1 := by unfold iNp; decide +kernel
set_option maxRecDepth 100000 in
theorem kX11_law : iMk mX11_law := ⟨List.mem_filter.mpr ⟨List.mem_of_getElem? (i := 833) rfl, rfl⟩, w_RX11, by decide, h_RX11.1, h_RX11.2⟩
theorem iX11_law : iMi mX11_law := ⟨List.mem_filter.mpr ⟨List.mem_of_getElem? (i := 831) (by decide +kernel), by decide +kernel⟩, List.mem_filter.mpr ⟨List.mem_of_getElem? (i := 832) (by decide +kernel), by decide +kernel⟩⟩
theorem nX11_law : iNp mX11_law 1 := by unfold iNp; decide +kernel
set_option maxRecDepth 100000 in
theorem kX11_now : iMk mX11_now := ⟨List.mem_filter.mpr ⟨List.mem_of_getElem? (i := 837) rfl, rfl⟩, w_RX11, by decide, h_RX11.1, h_RX11.2⟩
theorem iX11_now : iMi mX11_now := ⟨List.mem_filter.mpr ⟨List.mem_of_getElem? (i := 835) (by decide +kernel), by decide +kernel⟩, List.mem_filter.mpr ⟨List.mem_of_getElem? (i := 836) (by decide +kernel), by decide +kernel⟩⟩
theorem nX11_now : iNp mX11_now 1 := by unfold iNp; decide +kernel
set_option maxRecDepth 100000 in
theorem kX7_balance : iMk mX7_balance := ⟨List.mem_filter.mpr ⟨List.mem_of_getElem? (i := 841) rfl, rfl⟩, w_RX7, by decide, h_RX7.1, h_RX7.2⟩
theorem iX7_balance : iMi mX7_balance := ⟨List.mem_filter.mpr ⟨List.mem_of_getElem? (i := 839) (by decide +kernel), by decide +kernel⟩, List.mem_filter.mpr ⟨List.mem_of_getElem? (i := 840) (by decide +kernel), by decide +kernel⟩⟩
theorem nX7_balance : iNp mX7_balance 1 := by unfold iNp; decide +kernel
set_option maxRecDepth 100000 in
theorem kX8_weightOf : iMk mX8_weightOf := ⟨List.mem_filter.mpr ⟨List.mem_of_getElem? (i := 845) rfl, rfl⟩, w_RX8, by decide, h_RX8.1, h_RX8.2⟩
theorem iX8_weightOf : iMi mX8_weightOf := ⟨List.mem_filter.mpr ⟨List.mem_of_getElem? (i := 843) (by decide +kernel), by decide +kernel⟩, List.mem_filter.mpr ⟨List.mem_of_getElem? (i := 844) (by decide +kernel), by decide +kernel⟩⟩
theorem nX8_weightOf : iNp mX8_weightOf 1 := by unfold iNp; decide +kernel
set_option maxRecDepth 100000 in
theorem kX7_servedBits : iMk mX7_servedBits := ⟨List.mem_filter.mpr ⟨List.mem_of_getElem? (i := 849) rfl, rfl⟩, w_RX7, by decide, h_RX7.1, h_RX7.2⟩
theorem iX7_servedBits : iMi mX7_servedBits := ⟨List.mem_filter.mpr ⟨List.mem_of_getElem? (i := 847) (by decide +kernel), by decide +kernel⟩, List.mem_filter.mpr ⟨List.mem_of_getElem? (i := 848) (by decide +kernel), by decide +kernel⟩⟩
theorem nX7_servedBits : iNp mX7_servedBits 1 := by unfold iNp; decide +kernel
set_option maxRecDepth 100000 in
theorem kX7_readyBits : iMk mX7_readyBits := ⟨List.mem_filter.mpr ⟨List.mem_of_getElem? (i := 853) rfl, rfl⟩, w_RX7, by decide, h_RX7.1, h_RX7.2⟩
theorem iX7_readyBits : iMi mX7_readyBits := ⟨List.mem_filter.mpr ⟨List.mem_of_getElem? (i := 851) (by decide +kernel), by decide +kernel⟩, List.mem_filter.mpr ⟨List.mem_of_getElem? (i := 852) (by decide +kernel), by decide +kernel⟩⟩
theorem nX7_readyBits : iNp mX7_readyBits 1 := by unfold iNp; decide +kernel
set_option maxRecDepth 100000 in
theorem kX7_lacking : iMk mX7_lacking := ⟨List.mem_filter.mpr ⟨List.mem_of_getElem? (i := 857) rfl, rfl⟩, w_RX7, by decide, h_RX7.1, h_RX7.2⟩
theorem iX7_lacking : iMi mX7_lacking := ⟨List.mem_filter.mpr ⟨List.mem_of_getElem? (i := 855) (by decide +kernel), by decide +kernel⟩, List.mem_filter.mpr ⟨List.mem_of_getElem? (i := 856) (by decide +kernel), by decide +kernel⟩⟩
theorem nX7_lacking : iNp mX7_lacking 2 := by unfold iNp; decide +kernel
set_option maxRecDepth 100000 in
theorem kX7_upstairsBits : iMk mX7_upstairsBits := ⟨List.mem_filter.mpr ⟨List.mem_of_getElem? (i := 862) rfl, rfl⟩, w_RX7, by decide, h_RX7.1, h_RX7.2⟩
theorem iX7_upstairsBits : iMi mX7_upstairsBits := ⟨List.mem_filter.mpr ⟨List.mem_of_getElem? (i := 860) (by decide +kernel), by decide +kernel⟩, List.mem_filter.mpr ⟨List.mem_of_getElem? (i := 861) (by decide +kernel), by decide +kernel⟩⟩
theorem nX7_upstairsBits : iNp mX7_upstairsBits 1 := by unfold iNp; decide +kernel
set_option maxRecDepth 100000 in
theorem kX11_send : iMk mX11_send := ⟨List.mem_filter.mpr ⟨List.mem_of_getElem? (i := 866) rfl, rfl⟩, w_RX11, by decide, h_RX11.1, h_RX11.2⟩
theorem iX11_send : iMi mX11_send := ⟨List.mem_filter.mpr ⟨List.mem_of_getElem? (i := 864) (by decide +kernel), by decide +kernel⟩, List.mem_filter.mpr ⟨List.mem_of_getElem? (i := 865) (by decide +kernel), by decide +kernel⟩⟩
