theorem nX11_send : iNp mX11_send 2 := by unfold iNp; decide +kernel
set_option maxRecDepth 100000 in
theorem kX11_perform : iMk mX11_perform := ⟨List.mem_filter.mpr ⟨List.mem_of_getElem? (i := 870) rfl, rfl⟩, w_RX11, by decide, h_RX11.1, h_RX11.2⟩
theorem iX11_perform : iMi mX11_perform := ⟨List.mem_filter.mpr ⟨List.mem_of_getElem? (i := 869) (by decide +kernel), by decide +kernel⟩, List.mem_filter.mpr ⟨List.mem_of_getElem? (i := 19) (by decide +kernel), by decide +kernel⟩⟩
theorem nX11_perform : iNp mX11_perform 3 := by unfold iNp; decide +kernel
set_option maxRecDepth 100000 in
theorem kX7_whyNot : iMk mX7_whyNot := ⟨List.mem_filter.mpr ⟨List.mem_of_getElem? (i := 874) rfl, rfl⟩, w_RX7, by decide, h_RX7.1, h_RX7.2⟩
theorem iX7_whyNot : iMi mX7_whyNot := ⟨List.mem_filter.mpr ⟨List.mem_of_getElem? (i := 872) (by decide +kernel), by decide +kernel⟩, List.mem_filter.mpr ⟨List.mem_of_getElem? (i := 873) (by decide +kernel), by decide +kernel⟩⟩
theorem nX7_whyNot : iNp mX7_whyNot 4 := by unfold iNp; decide +kernel
set_option maxRecDepth 100000 in
theorem kX7_whyNotSent : iMk mX7_whyNotSent := ⟨List.mem_filter.mpr ⟨List.mem_of_getElem? (i := 878) rfl, rfl⟩, w_RX7, by decide, h_RX7.1, h_RX7.2⟩
theorem iX7_whyNotSent : iMi mX7_whyNotSent := ⟨List.mem_filter.mpr ⟨List.mem_of_getElem? (i := 877) (by decide +kernel), by decide +kernel⟩, List.mem_filter.mpr ⟨List.mem_of_getElem? (i := 20) (by decide +kernel), by decide +kernel⟩⟩
theorem nX7_whyNotSent : iNp mX7_whyNotSent 3 := by unfold iNp; decide +kernel
set_option maxRecDepth 100000 in
theorem kX7_whyNotServed : iMk mX7_whyNotServed := ⟨List.mem_filter.mpr ⟨List.mem_of_getElem? (i := 884) rfl, rfl⟩, w_RX7, by decide, h_RX7.1, h_RX7.2⟩
theorem iX7_whyNotServed : iMi mX7_whyNotServed := ⟨List.mem_filter.mpr ⟨List.mem_of_getElem? (i := 883) (by decide +kernel), by decide +kernel⟩, List.mem_filter.mpr ⟨List.mem_of_getElem? (i := 21) (by decide +kernel), by decide +kernel⟩⟩
theorem nX7_whyNotServed : iNp mX7_whyNotServed 2 := by unfold iNp; decide +kernel
set_option maxRecDepth 100000 in
theorem kX2_push : iMk mX2_push := ⟨List.mem_filter.mpr ⟨List.mem_of_getElem? (i := 888) rfl, rfl⟩, w_RX2, by decide, h_RX2.1, h_RX2.2⟩
theorem iX2_push : iMi mX2_push := ⟨List.mem_filter.mpr ⟨List.mem_of_getElem? (i := 886) (by decide +kernel), by decide +kernel⟩, List.mem_filter.mpr ⟨List.mem_of_getElem? (i := 887) (by decide +kernel), by decide +kernel⟩⟩
theorem nX2_push : iNp mX2_push 1 := by unfold iNp; decide +kernel
set_option maxRecDepth 100000 in
theorem kX7_copyFrom : iMk mX7_copyFrom := ⟨List.mem_filter.mpr ⟨List.mem_of_getElem? (i := 892) rfl, rfl⟩, w_RX7, by decide, h_RX7.1, h_RX7.2⟩
theorem iX7_copyFrom : iMi mX7_copyFrom := ⟨List.mem_filter.mpr ⟨List.mem_of_getElem? (i := 890) (by decide +kernel), by decide +kernel⟩, List.mem_filter.mpr ⟨List.mem_of_getElem? (i := 891) (by decide +kernel), by decide +kernel⟩⟩
theorem nX7_copyFrom : iNp mX7_copyFrom 1 := by unfold iNp; decide +kernel
set_option maxRecDepth 100000 in
theorem kX7_act : iMk mX7_act := ⟨List.mem_filter.mpr ⟨List.mem_of_getElem? (i := 897) rfl, rfl⟩, w_RX7, by decide, h_RX7.1, h_RX7.2⟩
theorem iX7_act : iMi mX7_act := ⟨List.mem_filter.mpr ⟨List.mem_of_getElem? (i := 895) (by decide +kernel), by decide +kernel⟩, List.mem_filter.mpr ⟨List.mem_of_getElem? (i := 896) (by decide +kernel), by decide +kernel⟩⟩
theorem nX7_act : iNp mX7_act 4 := by unfold iNp; decide +kernel
set_option maxRecDepth 100000 in
theorem kX7_moveTo : iMk mX7_moveTo := ⟨List.mem_filter.mpr ⟨List.mem_of_getElem? (i := 901) rfl, rfl⟩, w_RX7, by decide, h_RX7.1, h_RX7.2⟩
theorem iX7_moveTo : iMi mX7_moveTo := ⟨List.mem_filter.mpr ⟨List.mem_of_getElem? (i := 900) (by decide +kernel), by decide +kernel⟩, List.mem_filter.mpr ⟨List.mem_of_getElem? (i := 22) (by decide +kernel), by decide +kernel⟩⟩
theorem nX7_moveTo : iNp mX7_moveTo 3 := by unfold iNp; decide +kernel
set_option maxRecDepth 100000 in
theorem kJ9_abs_0f7a4 : iMk mJ9_abs_0f7a4 := ⟨List.mem_filter.mpr ⟨List.mem_of_getElem? (i := 904) rfl, rfl⟩, w_RJ9, by decide, h_RJ9.1, h_RJ9.2⟩
theorem sJ9_abs_0f7a4 : Cond.static yJ9_abs_0f7a4 ∈ igt := List.mem_filter.mpr ⟨List.mem_of_getElem? (i := 903) (by decide +kernel), by decide +kernel⟩
theorem nJ9_abs_0f7a4 : iNp mJ9_abs_0f7a4 1 := by unfold iNp; decide +kernel
set_option maxRecDepth 100000 in
theorem kX7_offBalance : iMk mX7_offBalance := ⟨List.mem_filter.mpr ⟨List.mem_of_getElem? (i := 908) rfl, rfl⟩, w_RX7, by decide, h_RX7.1, h_RX7.2⟩
theorem iX7_offBalance : iMi mX7_offBalance := ⟨List.mem_filter.mpr ⟨List.mem_of_getElem? (i := 906) (by decide +kernel), by decide +kernel⟩, List.mem_filter.mpr ⟨List.mem_of_getElem? (i := 907) (by decide +kernel), by decide +kernel⟩⟩
theorem nX7_offBalance : iNp mX7_offBalance 2 := by unfold iNp; decide +kernel
set_option maxRecDepth 100000 in
theorem kX7_bringBack : iMk mX7_bringBack := ⟨List.mem_filter.mpr ⟨List.mem_of_getElem? (i := 913) rfl, rfl⟩, w_RX7, by decide, h_RX7.1, h_RX7.2⟩
theorem iX7_bringBack : iMi mX7_bringBack := ⟨List.mem_filter.mpr ⟨List.mem_of_getElem? (i := 912) (by decide +kernel), by decide +kernel⟩, List.mem_filter.mpr ⟨List.mem_of_getElem? (i := 23) (by decide +kernel), by decide +kernel⟩⟩
theorem nX7_bringBack : iNp mX7_bringBack 1 := by unfold iNp; decide +kernel
set_option maxRecDepth 100000 in
theorem kX7_passHour : iMk mX7_passHour := ⟨List.mem_filter.mpr ⟨List.mem_of_getElem? (i := 917) rfl, rfl⟩, w_RX7, by decide, h_RX7.1, h_RX7.2⟩
theorem iX7_passHour : iMi mX7_passHour := ⟨List.mem_filter.mpr ⟨List.mem_of_getElem? (i := 915) (by decide +kernel), by decide +kernel⟩, List.mem_filter.mpr ⟨List.mem_of_getElem? (i := 916) (by decide +kernel), by decide +kernel⟩⟩
theorem nX7_passHour : iNp mX7_passHour 1 := by unfold iNp; decide +kernel
set_option maxRecDepth 100000 in
theorem kX7_receive : iMk mX7_receive := ⟨List.mem_filter.mpr ⟨List.mem_of_getElem? (i := 921) rfl, rfl⟩, w_RX7, by decide, h_RX7.1, h_RX7.2⟩
theorem iX7_receive : iMi mX7_receive := ⟨List.mem_filter.mpr ⟨List.mem_of_getElem? (i := 920) (by decide +kernel), by decide +kernel⟩, List.mem_filter.mpr ⟨List.mem_of_getElem? (i := 24) (by decide +kernel), by decide +kernel⟩⟩
theorem nX7_receive : iNp mX7_receive 3 := by unfold iNp; decide +kernel
set_option maxRecDepth 100000 in
theorem kX7_areNeighbours : iMk mX7_areNeighbours := ⟨List.mem_filter.mpr ⟨List.mem_of_getElem? (i := 925) rfl, rfl⟩, w_RX7, by decide, h_RX7.1, h_RX7.2⟩
theorem iX7_areNeighbours : iMi mX7_areNeighbours := ⟨List.mem_filter.mpr ⟨List.mem_of_getElem? (i := 924) (by decide +kernel), by decide +kernel⟩, List.mem_filter.mpr ⟨List.mem_of_getElem? (i := 25) (by decide +kernel), by decide +kernel⟩⟩
theorem nX7_areNeighbours : iNp mX7_areNeighbours 2 := by unfold iNp; decide +kernel
set_option maxRecDepth 100000 in
theorem kX7_talk : iMk mX7_talk := ⟨List.mem_filter.mpr ⟨List.mem_of_getElem? (i := 929) rfl, rfl⟩, w_RX7, by decide, h_RX7.1, h_RX7.2⟩
theorem iX7_talk : iMi mX7_talk := ⟨List.mem_filter.mpr ⟨List.mem_of_getElem? (i := 928) (by decide +kernel), by decide +kernel⟩, List.mem_filter.mpr ⟨List.mem_of_getElem? (i := 26) (by decide +kernel), by decide +kernel⟩⟩
theorem nX7_talk : iNp mX7_talk 2 := by unfold iNp; decide +kernel
set_option maxRecDepth 100000 in
theorem kX7_growOlder : iMk mX7_growOlder := ⟨List.mem_filter.mpr ⟨List.mem_of_getElem? (i := 933) rfl, rfl⟩, w_RX7, by decide, h_RX7.1, h_RX7.2⟩
theorem iX7_growOlder : iMi mX7_growOlder := ⟨List.mem_filter.mpr ⟨List.mem_of_getElem? (i := 932) (by decide +kernel), by decide +kernel⟩, List.mem_filter.mpr ⟨List.mem_of_getElem? (i := 27) (by decide +kernel), by decide +kernel⟩⟩
theorem nX7_growOlder : iNp mX7_growOlder 2 := by unfold iNp; decide +kernel
set_option maxRecDepth 100000 in
theorem kX11_hang : iMk mX11_hang := ⟨List.mem_filter.mpr ⟨List.mem_of_getElem? (i := 937) rfl, rfl⟩, w_RX11, by decide, h_RX11.1, h_RX11.2⟩
theorem iX11_hang : iMi mX11_hang := ⟨List.mem_filter.mpr ⟨List.mem_of_getElem? (i := 935) (by decide +kernel), by decide +kernel⟩, List.mem_filter.mpr ⟨List.mem_of_getElem? (i := 936) (by decide +kernel), by decide +kernel⟩⟩
theorem nX11_hang : iNp mX11_hang 1 := by unfold iNp; decide +kernel
set_option maxRecDepth 100000 in
theorem kX11_take : iMk mX11_take := ⟨List.mem_filter.mpr ⟨List.mem_of_getElem? (i := 941) rfl, rfl⟩, w_RX11, by decide, h_RX11.1, h_RX11.2⟩
theorem iX11_take : iMi mX11_take := ⟨List.mem_filter.mpr ⟨List.mem_of_getElem? (i := 939) (by decide +kernel), by decide +kernel⟩, List.mem_filter.mpr ⟨List.mem_of_getElem? (i := 940) (by decide +kernel), by decide +kernel⟩⟩
theorem nX11_take : iNp mX11_take 1 := by unfold iNp; decide +kernel
set_option maxRecDepth 100000 in
theorem kX11_serve : iMk mX11_serve := ⟨List.mem_filter.mpr ⟨List.mem_of_getElem? (i := 945) rfl, rfl⟩, w_RX11, by decide, h_RX11.1, h_RX11.2⟩
theorem iX11_serve : iMi mX11_serve := ⟨List.mem_filter.mpr ⟨List.mem_of_getElem? (i := 943) (by decide +kernel), by decide +kernel⟩, List.mem_filter.mpr ⟨List.mem_of_getElem? (i := 944) (by decide +kernel), by decide +kernel⟩⟩
theorem nX11_serve : iNp mX11_serve 1 := by unfold iNp; decide +kernel
set_option maxRecDepth 100000 in
theorem kX11_back : iMk mX11_back := ⟨List.mem_filter.mpr ⟨List.mem_of_getElem? (i := 949) rfl, rfl⟩, w_RX11, by decide, h_RX11.1, h_RX11.2⟩
theorem iX11_back : iMi mX11_back := ⟨List.mem_filter.mpr ⟨List.mem_of_getElem? (i := 947) (by decide +kernel), by decide +kernel⟩, List.mem_filter.mpr ⟨List.mem_of_getElem? (i := 948) (by decide +kernel), by decide +kernel⟩⟩
theorem nX11_back : iNp mX11_back 1 := by unfold iNp; decide +kernel
set_option maxRecDepth 100000 in
theorem kX11_hours : iMk mX11_hours := ⟨List.mem_filter.mpr ⟨List.mem_of_getElem? (i := 953) rfl, rfl⟩, w_RX11, by decide, h_RX11.1, h_RX11.2⟩
theorem iX11_hours : iMi mX11_hours := ⟨List.mem_filter.mpr ⟨List.mem_of_getElem? (i := 951) (by decide +kernel), by decide +kernel⟩, List.mem_filter.mpr ⟨List.mem_of_getElem? (i := 952) (by decide +kernel), by decide +kernel⟩⟩
theorem nX11_hours : iNp mX11_hours 1 := by unfold iNp; decide +kernel
set_option maxRecDepth 100000 in
theorem kX11_undo : iMk mX11_undo := ⟨List.mem_filter.mpr ⟨List.mem_of_getElem? (i := 958) rfl, rfl⟩, w_RX11, by decide, h_RX11.1, h_RX11.2⟩
theorem iX11_undo : iMi mX11_undo := ⟨List.mem_filter.mpr ⟨List.mem_of_getElem? (i := 956) (by decide +kernel), by decide +kernel⟩, List.mem_filter.mpr ⟨List.mem_of_getElem? (i := 957) (by decide +kernel), by decide +kernel⟩⟩
theorem nX11_undo : iNp mX11_undo 0 := by unfold iNp; decide +kernel
set_option maxRecDepth 100000 in
theorem kX2_pop : iMk mX2_pop := ⟨List.mem_filter.mpr ⟨List.mem_of_getElem? (i := 962) rfl, rfl⟩, w_RX2, by decide, h_RX2.1, h_RX2.2⟩
theorem iX2_pop : iMi mX2_pop := ⟨List.mem_filter.mpr ⟨List.mem_of_getElem? (i := 960) (by decide +kernel), by decide +kernel⟩, List.mem_filter.mpr ⟨List.mem_of_getElem? (i := 961) (by decide +kernel), by decide +kernel⟩⟩
theorem nX2_pop : iNp mX2_pop 1 := by unfold iNp; decide +kernel
set_option maxRecDepth 100000 in
theorem kX11_when : iMk mX11_when := ⟨List.mem_filter.mpr ⟨List.mem_of_getElem? (i := 966) rfl, rfl⟩, w_RX11, by decide, h_RX11.1, h_RX11.2⟩
theorem iX11_when : iMi mX11_when := ⟨List.mem_filter.mpr ⟨List.mem_of_getElem? (i := 964) (by decide +kernel), by decide +kernel⟩, List.mem_filter.mpr ⟨List.mem_of_getElem? (i := 965) (by decide +kernel), by decide +kernel⟩⟩
theorem nX11_when : iNp mX11_when 1 := by unfold iNp; decide +kernel
set_option maxRecDepth 100000 in
theorem kX11_plan : iMk mX11_plan := ⟨List.mem_filter.mpr ⟨List.mem_of_getElem? (i := 973) rfl, rfl⟩, w_RX11, by decide, h_RX11.1, h_RX11.2⟩
theorem iX11_plan : iMi mX11_plan := ⟨List.mem_filter.mpr ⟨List.mem_of_getElem? (i := 971) (by decide +kernel), by decide +kernel⟩, List.mem_filter.mpr ⟨List.mem_of_getElem? (i := 972) (by decide +kernel), by decide +kernel⟩⟩
theorem nX11_plan : iNp mX11_plan 1 := by unfold iNp; decide +kernel
set_option maxRecDepth 100000 in
theorem kX4_make : iMk mX4_make := ⟨List.mem_filter.mpr ⟨List.mem_of_getElem? (i := 977) rfl, rfl⟩, w_RX4, by decide, h_RX4.1, h_RX4.2⟩
theorem iX4_make : iMi mX4_make := ⟨List.mem_filter.mpr ⟨List.mem_of_getElem? (i := 975) (by decide +kernel), by decide +kernel⟩, List.mem_filter.mpr ⟨List.mem_of_getElem? (i := 976) (by decide +kernel), by decide +kernel⟩⟩
theorem nX4_make : iNp mX4_make 3 := by unfold iNp; decide +kernel
set_option maxRecDepth 100000 in
theorem kX4_richestFloor : iMk mX4_richestFloor := ⟨List.mem_filter.mpr ⟨List.mem_of_getElem? (i := 981) rfl, rfl⟩, w_RX4, by decide, h_RX4.1, h_RX4.2⟩
theorem sX4_richestFloor : Cond.static yX4_richestFloor ∈ igt := List.mem_filter.mpr ⟨List.mem_of_getElem? (i := 980) (by decide +kernel), by decide +kernel⟩
theorem nX4_richestFloor : iNp mX4_richestFloor 2 := by unfold iNp; decide +kernel
set_option maxRecDepth 100000 in
theorem kX4_insert : iMk mX4_insert := ⟨List.mem_filter.mpr ⟨List.mem_of_getElem? (i := 985) rfl, rfl⟩, w_RX4, by decide, h_RX4.1, h_RX4.2⟩
theorem iX4_insert : iMi mX4_insert := ⟨List.mem_filter.mpr ⟨List.mem_of_getElem? (i := 984) (by decide +kernel), by decide +kernel⟩, List.mem_filter.mpr ⟨List.mem_of_getElem? (i := 28) (by decide +kernel), by decide +kernel⟩⟩
theorem nX4_insert : iNp mX4_insert 2 := by unfold iNp; decide +kernel
set_option maxRecDepth 100000 in
theorem kX4_findOrder : iMk mX4_findOrder := ⟨List.mem_filter.mpr ⟨List.mem_of_getElem? (i := 990) rfl, rfl⟩, w_RX4, by decide, h_RX4.1, h_RX4.2⟩
theorem iX4_findOrder : iMi mX4_findOrder := ⟨List.mem_filter.mpr ⟨List.mem_of_getElem? (i := 989) (by decide +kernel), by decide +kernel⟩, List.mem_filter.mpr ⟨List.mem_of_getElem? (i := 29) (by decide +kernel), by decide +kernel⟩⟩
theorem nX4_findOrder : iNp mX4_findOrder 1 := by unfold iNp; decide +kernel
set_option maxRecDepth 100000 in
theorem kX4_pick : iMk mX4_pick := ⟨List.mem_filter.mpr ⟨List.mem_of_getElem? (i := 994) rfl, rfl⟩, w_RX4, by decide, h_RX4.1, h_RX4.2⟩
theorem iX4_pick : iMi mX4_pick := ⟨List.mem_filter.mpr ⟨List.mem_of_getElem? (i := 993) (by decide +kernel), by decide +kernel⟩, List.mem_filter.mpr ⟨List.mem_of_getElem? (i := 30) (by decide +kernel), by decide +kernel⟩⟩
theorem nX4_pick : iNp mX4_pick 1 := by unfold iNp; decide +kernel
set_option maxRecDepth 100000 in
theorem kJ6_bitCount_0f7a4 : iMk mJ6_bitCount_0f7a4 := ⟨List.mem_filter.mpr ⟨List.mem_of_getElem? (i := 997) rfl, rfl⟩, w_RJ6, by decide, h_RJ6.1, h_RJ6.2⟩
theorem sJ6_bitCount_0f7a4 : Cond.static yJ6_bitCount_0f7a4 ∈ igt := List.mem_filter.mpr ⟨List.mem_of_getElem? (i := 996) (by decide +kernel), by decide +kernel⟩
theorem nJ6_bitCount_0f7a4 : iNp mJ6_bitCount_0f7a4 1 := by unfold iNp; decide +kernel
set_option maxRecDepth 100000 in
theorem kX4_pickedLength : iMk mX4_pickedLength := ⟨List.mem_filter.mpr ⟨List.mem_of_getElem? (i := 1004) rfl, rfl⟩, w_RX4, by decide, h_RX4.1, h_RX4.2⟩
theorem iX4_pickedLength : iMi mX4_pickedLength := ⟨List.mem_filter.mpr ⟨List.mem_of_getElem? (i := 1003) (by decide +kernel), by decide +kernel⟩, List.mem_filter.mpr ⟨List.mem_of_getElem? (i := 31) (by decide +kernel), by decide +kernel⟩⟩
theorem nX4_pickedLength : iNp mX4_pickedLength 1 := by unfold iNp; decide +kernel
set_option maxRecDepth 100000 in
theorem kX11_planAt : iMk mX11_planAt := ⟨List.mem_filter.mpr ⟨List.mem_of_getElem? (i := 1010) rfl, rfl⟩, w_RX11, by decide, h_RX11.1, h_RX11.2⟩
theorem iX11_planAt : iMi mX11_planAt := ⟨List.mem_filter.mpr ⟨List.mem_of_getElem? (i := 1008) (by decide +kernel), by decide +kernel⟩, List.mem_filter.mpr ⟨List.mem_of_getElem? (i := 1009) (by decide +kernel), by decide +kernel⟩⟩
theorem nX11_planAt : iNp mX11_planAt 1 := by unfold iNp; decide +kernel
set_option maxRecDepth 100000 in
theorem kX11_passes : iMk mX11_passes := ⟨List.mem_filter.mpr ⟨List.mem_of_getElem? (i := 1014) rfl, rfl⟩, w_RX11, by decide, h_RX11.1, h_RX11.2⟩
theorem iX11_passes : iMi mX11_passes := ⟨List.mem_filter.mpr ⟨List.mem_of_getElem? (i := 1012) (by decide +kernel), by decide +kernel⟩, List.mem_filter.mpr ⟨List.mem_of_getElem? (i := 1013) (by decide +kernel), by decide +kernel⟩⟩
theorem nX11_passes : iNp mX11_passes 0 := by unfold iNp; decide +kernel
set_option maxRecDepth 100000 in
theorem kX11_been : iMk mX11_been := ⟨List.mem_filter.mpr ⟨List.mem_of_getElem? (i := 1018) rfl, rfl⟩, w_RX11, by decide, h_RX11.1, h_RX11.2⟩
theorem iX11_been : iMi mX11_been := ⟨List.mem_filter.mpr ⟨List.mem_of_getElem? (i := 1016) (by decide +kernel), by decide +kernel⟩, List.mem_filter.mpr ⟨List.mem_of_getElem? (i := 1017) (by decide +kernel), by decide +kernel⟩⟩
theorem nX11_been : iNp mX11_been 1 := by unfold iNp; decide +kernel
set_option maxRecDepth 100000 in
theorem kX9_search : iMk mX9_search := ⟨List.mem_filter.mpr ⟨List.mem_of_getElem? (i := 1022) rfl, rfl⟩, w_RX9, by decide, h_RX9.1, h_RX9.2⟩
theorem iX9_search : iMi mX9_search := ⟨List.mem_filter.mpr ⟨List.mem_of_getElem? (i := 1020) (by decide +kernel), by decide +kernel⟩, List.mem_filter.mpr ⟨List.mem_of_getElem? (i := 1021) (by decide +kernel), by decide +kernel⟩⟩
theorem nX9_search : iNp mX9_search 3 := by unfold iNp; decide +kernel
set_option maxRecDepth 100000 in
theorem kX9_walk : iMk mX9_walk := ⟨List.mem_filter.mpr ⟨List.mem_of_getElem? (i := 1027) rfl, rfl⟩, w_RX9, by decide, h_RX9.1, h_RX9.2⟩
theorem iX9_walk : iMi mX9_walk := ⟨List.mem_filter.mpr ⟨List.mem_of_getElem? (i := 1026) (by decide +kernel), by decide +kernel⟩, List.mem_filter.mpr ⟨List.mem_of_getElem? (i := 32) (by decide +kernel), by decide +kernel⟩⟩
theorem nX9_walk : iNp mX9_walk 3 := by unfold iNp; decide +kernel
set_option maxRecDepth 100000 in
theorem kX9_noteRow : iMk mX9_noteRow := ⟨List.mem_filter.mpr ⟨List.mem_of_getElem? (i := 1031) rfl, rfl⟩, w_RX9, by decide, h_RX9.1, h_RX9.2⟩
theorem iX9_noteRow : iMi mX9_noteRow := ⟨List.mem_filter.mpr ⟨List.mem_of_getElem? (i := 1030) (by decide +kernel), by decide +kernel⟩, List.mem_filter.mpr ⟨List.mem_of_getElem? (i := 33) (by decide +kernel), by decide +kernel⟩⟩
theorem nX9_noteRow : iNp mX9_noteRow 1 := by unfold iNp; decide +kernel
set_option maxRecDepth 100000 in
theorem kX9_bestQuestion : iMk mX9_bestQuestion := ⟨List.mem_filter.mpr ⟨List.mem_of_getElem? (i := 1036) rfl, rfl⟩, w_RX9, by decide, h_RX9.1, h_RX9.2⟩
theorem iX9_bestQuestion : iMi mX9_bestQuestion := ⟨List.mem_filter.mpr ⟨List.mem_of_getElem? (i := 1035) (by decide +kernel), by decide +kernel⟩, List.mem_filter.mpr ⟨List.mem_of_getElem? (i := 34) (by decide +kernel), by decide +kernel⟩⟩
theorem nX9_bestQuestion : iNp mX9_bestQuestion 1 := by unfold iNp; decide +kernel
set_option maxRecDepth 100000 in
theorem kJ9_max_7cf53 : iMk mJ9_max_7cf53 := ⟨List.mem_filter.mpr ⟨List.mem_of_getElem? (i := 1039) rfl, rfl⟩, w_RJ9, by decide, h_RJ9.1, h_RJ9.2⟩
theorem sJ9_max_7cf53 : Cond.static yJ9_max_7cf53 ∈ igt := List.mem_filter.mpr ⟨List.mem_of_getElem? (i := 1038) (by decide +kernel), by decide +kernel⟩
theorem nJ9_max_7cf53 : iNp mJ9_max_7cf53 2 := by unfold iNp; decide +kernel
set_option maxRecDepth 100000 in
theorem kX11_beenAt : iMk mX11_beenAt := ⟨List.mem_filter.mpr ⟨List.mem_of_getElem? (i := 1043) rfl, rfl⟩, w_RX11, by decide, h_RX11.1, h_RX11.2⟩
theorem iX11_beenAt : iMi mX11_beenAt := ⟨List.mem_filter.mpr ⟨List.mem_of_getElem? (i := 1041) (by decide +kernel), by decide +kernel⟩, List.mem_filter.mpr ⟨List.mem_of_getElem? (i := 1042) (by decide +kernel), by decide +kernel⟩⟩
theorem nX11_beenAt : iNp mX11_beenAt 1 := by unfold iNp; decide +kernel
set_option maxRecDepth 100000 in
theorem kX11_ask : iMk mX11_ask := ⟨List.mem_filter.mpr ⟨List.mem_of_getElem? (i := 1047) rfl, rfl⟩, w_RX11, by decide, h_RX11.1, h_RX11.2⟩
theorem iX11_ask : iMi mX11_ask := ⟨List.mem_filter.mpr ⟨List.mem_of_getElem? (i := 1045) (by decide +kernel), by decide +kernel⟩, List.mem_filter.mpr ⟨List.mem_of_getElem? (i := 1046) (by decide +kernel), by decide +kernel⟩⟩
theorem nX11_ask : iNp mX11_ask 0 := by unfold iNp; decide +kernel
set_option maxRecDepth 100000 in
theorem kX11_hung : iMk mX11_hung := ⟨List.mem_filter.mpr ⟨List.mem_of_getElem? (i := 1051) rfl, rfl⟩, w_RX11, by decide, h_RX11.1, h_RX11.2⟩
theorem iX11_hung : iMi mX11_hung := ⟨List.mem_filter.mpr ⟨List.mem_of_getElem? (i := 1049) (by decide +kernel), by decide +kernel⟩, List.mem_filter.mpr ⟨List.mem_of_getElem? (i := 1050) (by decide +kernel), by decide +kernel⟩⟩
theorem nX11_hung : iNp mX11_hung 1 := by unfold iNp; decide +kernel
set_option maxRecDepth 100000 in
theorem kX11_hanging : iMk mX11_hanging := ⟨List.mem_filter.mpr ⟨List.mem_of_getElem? (i := 1058) rfl, rfl⟩, w_RX11, by decide, h_RX11.1, h_RX11.2⟩
theorem iX11_hanging : iMi mX11_hanging := ⟨List.mem_filter.mpr ⟨List.mem_of_getElem? (i := 1056) (by decide +kernel), by decide +kernel⟩, List.mem_filter.mpr ⟨List.mem_of_getElem? (i := 1057) (by decide +kernel), by decide +kernel⟩⟩
theorem nX11_hanging : iNp mX11_hanging 0 := by unfold iNp; decide +kernel
set_option maxRecDepth 100000 in
theorem kX11_holds : iMk mX11_holds := ⟨List.mem_filter.mpr ⟨List.mem_of_getElem? (i := 1062) rfl, rfl⟩, w_RX11, by decide, h_RX11.1, h_RX11.2⟩
theorem iX11_holds : iMi mX11_holds := ⟨List.mem_filter.mpr ⟨List.mem_of_getElem? (i := 1060) (by decide +kernel), by decide +kernel⟩, List.mem_filter.mpr ⟨List.mem_of_getElem? (i := 1061) (by decide +kernel), by decide +kernel⟩⟩
theorem nX11_holds : iNp mX11_holds 2 := by unfold iNp; decide +kernel
set_option maxRecDepth 100000 in
theorem kX11_web : iMk mX11_web := ⟨List.mem_filter.mpr ⟨List.mem_of_getElem? (i := 1067) rfl, rfl⟩, w_RX11, by decide, h_RX11.1, h_RX11.2⟩
theorem iX11_web : iMi mX11_web := ⟨List.mem_filter.mpr ⟨List.mem_of_getElem? (i := 1065) (by decide +kernel), by decide +kernel⟩, List.mem_filter.mpr ⟨List.mem_of_getElem? (i := 1066) (by decide +kernel), by decide +kernel⟩⟩
theorem nX11_web : iNp mX11_web 1 := by unfold iNp; decide +kernel
set_option maxRecDepth 100000 in
theorem kX7_neighbours : iMk mX7_neighbours := ⟨List.mem_filter.mpr ⟨List.mem_of_getElem? (i := 1071) rfl, rfl⟩, w_RX7, by decide, h_RX7.1, h_RX7.2⟩
theorem iX7_neighbours : iMi mX7_neighbours := ⟨List.mem_filter.mpr ⟨List.mem_of_getElem? (i := 1069) (by decide +kernel), by decide +kernel⟩, List.mem_filter.mpr ⟨List.mem_of_getElem? (i := 1070) (by decide +kernel), by decide +kernel⟩⟩
theorem nX7_neighbours : iNp mX7_neighbours 2 := by unfold iNp; decide +kernel
set_option maxRecDepth 100000 in
theorem kX11_bargain : iMk mX11_bargain := ⟨List.mem_filter.mpr ⟨List.mem_of_getElem? (i := 1075) rfl, rfl⟩, w_RX11, by decide, h_RX11.1, h_RX11.2⟩
theorem iX11_bargain : iMi mX11_bargain := ⟨List.mem_filter.mpr ⟨List.mem_of_getElem? (i := 1073) (by decide +kernel), by decide +kernel⟩, List.mem_filter.mpr ⟨List.mem_of_getElem? (i := 1074) (by decide +kernel), by decide +kernel⟩⟩
theorem nX11_bargain : iNp mX11_bargain 0 := by unfold iNp; decide +kernel
set_option maxRecDepth 100000 in
theorem kX0_settle : iMk mX0_settle := ⟨List.mem_filter.mpr ⟨List.mem_of_getElem? (i := 1079) rfl, rfl⟩, w_RX0, by decide, h_RX0.1, h_RX0.2⟩
theorem iX0_settle : iMi mX0_settle := ⟨List.mem_filter.mpr ⟨List.mem_of_getElem? (i := 1077) (by decide +kernel), by decide +kernel⟩, List.mem_filter.mpr ⟨List.mem_of_getElem? (i := 1078) (by decide +kernel), by decide +kernel⟩⟩
theorem nX0_settle : iNp mX0_settle 2 := by unfold iNp; decide +kernel
set_option maxRecDepth 100000 in
theorem kX0_makeOffer : iMk mX0_makeOffer := ⟨List.mem_filter.mpr ⟨List.mem_of_getElem? (i := 1083) rfl, rfl⟩, w_RX0, by decide, h_RX0.1, h_RX0.2⟩
theorem iX0_makeOffer : iMi mX0_makeOffer := ⟨List.mem_filter.mpr ⟨List.mem_of_getElem? (i := 1082) (by decide +kernel), by decide +kernel⟩, List.mem_filter.mpr ⟨List.mem_of_getElem? (i := 35) (by decide +kernel), by decide +kernel⟩⟩
theorem nX0_makeOffer : iNp mX0_makeOffer 2 := by unfold iNp; decide +kernel
set_option maxRecDepth 100000 in
theorem kX0_dearestFloor : iMk mX0_dearestFloor := ⟨List.mem_filter.mpr ⟨List.mem_of_getElem? (i := 1087) rfl, rfl⟩, w_RX0, by decide, h_RX0.1, h_RX0.2⟩
theorem sX0_dearestFloor : Cond.static yX0_dearestFloor ∈ igt := List.mem_filter.mpr ⟨List.mem_of_getElem? (i := 1086) (by decide +kernel), by decide +kernel⟩
theorem nX0_dearestFloor : iNp mX0_dearestFloor 3 := by unfold iNp; decide +kernel
set_option maxRecDepth 100000 in
theorem kX0_choose : iMk mX0_choose := ⟨List.mem_filter.mpr ⟨List.mem_of_getElem? (i := 1091) rfl, rfl⟩, w_RX0, by decide, h_RX0.1, h_RX0.2⟩
theorem iX0_choose : iMi mX0_choose := ⟨List.mem_filter.mpr ⟨List.mem_of_getElem? (i := 1090) (by decide +kernel), by decide +kernel⟩, List.mem_filter.mpr ⟨List.mem_of_getElem? (i := 36) (by decide +kernel), by decide +kernel⟩⟩
theorem nX0_choose : iNp mX0_choose 3 := by unfold iNp; decide +kernel
set_option maxRecDepth 100000 in
theorem kX11_bargained : iMk mX11_bargained := ⟨List.mem_filter.mpr ⟨List.mem_of_getElem? (i := 1096) rfl, rfl⟩, w_RX11, by decide, h_RX11.1, h_RX11.2⟩
theorem iX11_bargained : iMi mX11_bargained := ⟨List.mem_filter.mpr ⟨List.mem_of_getElem? (i := 1094) (by decide +kernel), by decide +kernel⟩, List.mem_filter.mpr ⟨List.mem_of_getElem? (i := 1095) (by decide +kernel), by decide +kernel⟩⟩
theorem nX11_bargained : iNp mX11_bargained 1 := by unfold iNp; decide +kernel
set_option maxRecDepth 100000 in
theorem kX11_cover : iMk mX11_cover := ⟨List.mem_filter.mpr ⟨List.mem_of_getElem? (i := 1100) rfl, rfl⟩, w_RX11, by decide, h_RX11.1, h_RX11.2⟩
theorem iX11_cover : iMi mX11_cover := ⟨List.mem_filter.mpr ⟨List.mem_of_getElem? (i := 1098) (by decide +kernel), by decide +kernel⟩, List.mem_filter.mpr ⟨List.mem_of_getElem? (i := 1099) (by decide +kernel), by decide +kernel⟩⟩
theorem nX11_cover : iNp mX11_cover 1 := by unfold iNp; decide +kernel
set_option maxRecDepth 100000 in
theorem kX11_chalkName : iMk mX11_chalkName := ⟨List.mem_filter.mpr ⟨List.mem_of_getElem? (i := 1104) rfl, rfl⟩, w_RX11, by decide, h_RX11.1, h_RX11.2⟩
theorem iX11_chalkName : iMi mX11_chalkName := ⟨List.mem_filter.mpr ⟨List.mem_of_getElem? (i := 1103) (by decide +kernel), by decide +kernel⟩, List.mem_filter.mpr ⟨List.mem_of_getElem? (i := 37) (by decide +kernel), by decide +kernel⟩⟩
theorem nX11_chalkName : iNp mX11_chalkName 1 := by unfold iNp; decide +kernel
set_option maxRecDepth 100000 in
theorem kX11_chalkByte : iMk mX11_chalkByte := ⟨List.mem_filter.mpr ⟨List.mem_of_getElem? (i := 1109) rfl, rfl⟩, w_RX11, by decide, h_RX11.1, h_RX11.2⟩
theorem iX11_chalkByte : iMi mX11_chalkByte := ⟨List.mem_filter.mpr ⟨List.mem_of_getElem? (i := 1108) (by decide +kernel), by decide +kernel⟩, List.mem_filter.mpr ⟨List.mem_of_getElem? (i := 38) (by decide +kernel), by decide +kernel⟩⟩
theorem nX11_chalkByte : iNp mX11_chalkByte 1 := by unfold iNp; decide +kernel
set_option maxRecDepth 100000 in
theorem kX11_chalkText : iMk mX11_chalkText := ⟨List.mem_filter.mpr ⟨List.mem_of_getElem? (i := 1114) rfl, rfl⟩, w_RX11, by decide, h_RX11.1, h_RX11.2⟩
theorem iX11_chalkText : iMi mX11_chalkText := ⟨List.mem_filter.mpr ⟨List.mem_of_getElem? (i := 1113) (by decide +kernel), by decide +kernel⟩, List.mem_filter.mpr ⟨List.mem_of_getElem? (i := 39) (by decide +kernel), by decide +kernel⟩⟩
theorem nX11_chalkText : iNp mX11_chalkText 1 := by unfold iNp; decide +kernel
set_option maxRecDepth 100000 in
theorem kJ0_length_8abf5 : iMk mJ0_length_8abf5 := ⟨List.mem_filter.mpr ⟨List.mem_of_getElem? (i := 1118) rfl, rfl⟩, w_RJ0, by decide, h_RJ0.1, h_RJ0.2⟩
theorem iJ0_length_8abf5 : iMi mJ0_length_8abf5 := ⟨List.mem_filter.mpr ⟨List.mem_of_getElem? (i := 1116) (by decide +kernel), by decide +kernel⟩, List.mem_filter.mpr ⟨List.mem_of_getElem? (i := 1117) (by decide +kernel), by decide +kernel⟩⟩
theorem nJ0_length_8abf5 : iNp mJ0_length_8abf5 0 := by unfold iNp; decide +kernel
set_option maxRecDepth 100000 in
theorem kJ0_coder_7d493 : iMk mJ0_coder_7d493 := ⟨List.mem_filter.mpr ⟨List.mem_of_getElem? (i := 1122) rfl, rfl⟩, w_RJ0, by decide, h_RJ0.1, h_RJ0.2⟩
theorem iJ0_coder_7d493 : iMi mJ0_coder_7d493 := ⟨List.mem_filter.mpr ⟨List.mem_of_getElem? (i := 1120) (by decide +kernel), by decide +kernel⟩, List.mem_filter.mpr ⟨List.mem_of_getElem? (i := 1121) (by decide +kernel), by decide +kernel⟩⟩
theorem nJ0_coder_7d493 : iNp mJ0_coder_7d493 0 := by unfold iNp; decide +kernel
set_option maxRecDepth 100000 in
theorem kJ0_charAt_5068e : iMk mJ0_charAt_5068e := ⟨List.mem_filter.mpr ⟨List.mem_of_getElem? (i := 1128) rfl, rfl⟩, w_RJ0, by decide, h_RJ0.1, h_RJ0.2⟩
theorem iJ0_charAt_5068e : iMi mJ0_charAt_5068e := ⟨List.mem_filter.mpr ⟨List.mem_of_getElem? (i := 1126) (by decide +kernel), by decide +kernel⟩, List.mem_filter.mpr ⟨List.mem_of_getElem? (i := 1127) (by decide +kernel), by decide +kernel⟩⟩
theorem nJ0_charAt_5068e : iNp mJ0_charAt_5068e 1 := by unfold iNp; decide +kernel
set_option maxRecDepth 100000 in
theorem kJ0_isLatin1_aae02 : iMk mJ0_isLatin1_aae02 := ⟨List.mem_filter.mpr ⟨List.mem_of_getElem? (i := 1132) rfl, rfl⟩, w_RJ0, by decide, h_RJ0.1, h_RJ0.2⟩
theorem iJ0_isLatin1_aae02 : iMi mJ0_isLatin1_aae02 := ⟨List.mem_filter.mpr ⟨List.mem_of_getElem? (i := 1130) (by decide +kernel), by decide +kernel⟩, List.mem_filter.mpr ⟨List.mem_of_getElem? (i := 1131) (by decide +kernel), by decide +kernel⟩⟩
theorem nJ0_isLatin1_aae02 : iNp mJ0_isLatin1_aae02 0 := by unfold iNp; decide +kernel
set_option maxRecDepth 100000 in
theorem kJ1_charAt_3b067 : iMk mJ1_charAt_3b067 := ⟨List.mem_filter.mpr ⟨List.mem_of_getElem? (i := 1135) rfl, rfl⟩, w_RJ1, by decide, h_RJ1.1, h_RJ1.2⟩
theorem sJ1_charAt_3b067 : Cond.static yJ1_charAt_3b067 ∈ igt := List.mem_filter.mpr ⟨List.mem_of_getElem? (i := 1134) (by decide +kernel), by decide +kernel⟩
theorem nJ1_charAt_3b067 : iNp mJ1_charAt_3b067 2 := by unfold iNp; decide +kernel
set_option maxRecDepth 100000 in
theorem kJ0_checkIndex_df160 : iMk mJ0_checkIndex_df160 := ⟨List.mem_filter.mpr ⟨List.mem_of_getElem? (i := 1138) rfl, rfl⟩, w_RJ0, by decide, h_RJ0.1, h_RJ0.2⟩
theorem sJ0_checkIndex_df160 : Cond.static yJ0_checkIndex_df160 ∈ igt := List.mem_filter.mpr ⟨List.mem_of_getElem? (i := 1137) (by decide +kernel), by decide +kernel⟩
theorem nJ0_checkIndex_df160 : iNp mJ0_checkIndex_df160 2 := by unfold iNp; decide +kernel
set_option maxRecDepth 100000 in
theorem kJ3_checkIndex_8e157 : iMk mJ3_checkIndex_8e157 := ⟨List.mem_filter.mpr ⟨List.mem_of_getElem? (i := 1143) rfl, rfl⟩, w_RJ3, by decide, h_RJ3.1, h_RJ3.2⟩
theorem sJ3_checkIndex_8e157 : Cond.static yJ3_checkIndex_8e157 ∈ igt := List.mem_filter.mpr ⟨List.mem_of_getElem? (i := 1142) (by decide +kernel), by decide +kernel⟩
theorem nJ3_checkIndex_8e157 : iNp mJ3_checkIndex_8e157 3 := by unfold iNp; decide +kernel
set_option maxRecDepth 100000 in
theorem kJ2_charAt_3b067 : iMk mJ2_charAt_3b067 := ⟨List.mem_filter.mpr ⟨List.mem_of_getElem? (i := 1146) rfl, rfl⟩, w_RJ2, by decide, h_RJ2.1, h_RJ2.2⟩
theorem sJ2_charAt_3b067 : Cond.static yJ2_charAt_3b067 ∈ igt := List.mem_filter.mpr ⟨List.mem_of_getElem? (i := 1145) (by decide +kernel), by decide +kernel⟩
theorem nJ2_charAt_3b067 : iNp mJ2_charAt_3b067 2 := by unfold iNp; decide +kernel
set_option maxRecDepth 100000 in
theorem kJ2_checkIndex_2214a : iMk mJ2_checkIndex_2214a := ⟨List.mem_filter.mpr ⟨List.mem_of_getElem? (i := 1149) rfl, rfl⟩, w_RJ2, by decide, h_RJ2.1, h_RJ2.2⟩
theorem sJ2_checkIndex_2214a : Cond.static yJ2_checkIndex_2214a ∈ igt := List.mem_filter.mpr ⟨List.mem_of_getElem? (i := 1148) (by decide +kernel), by decide +kernel⟩
theorem nJ2_checkIndex_2214a : iNp mJ2_checkIndex_2214a 2 := by unfold iNp; decide +kernel
set_option maxRecDepth 100000 in
theorem kJ2_length_9d52b : iMk mJ2_length_9d52b := ⟨List.mem_filter.mpr ⟨List.mem_of_getElem? (i := 1152) rfl, rfl⟩, w_RJ2, by decide, h_RJ2.1, h_RJ2.2⟩
theorem sJ2_length_9d52b : Cond.static yJ2_length_9d52b ∈ igt := List.mem_filter.mpr ⟨List.mem_of_getElem? (i := 1151) (by decide +kernel), by decide +kernel⟩
theorem nJ2_length_9d52b : iNp mJ2_length_9d52b 1 := by unfold iNp; decide +kernel
set_option maxRecDepth 100000 in
theorem kJ2_getChar_3b067 : iMk mJ2_getChar_3b067 := ⟨List.mem_filter.mpr ⟨List.mem_of_getElem? (i := 1156) rfl, rfl⟩, w_RJ2, by decide, h_RJ2.1, h_RJ2.2⟩
theorem sJ2_getChar_3b067 : Cond.static yJ2_getChar_3b067 ∈ igt := List.mem_filter.mpr ⟨List.mem_of_getElem? (i := 1155) (by decide +kernel), by decide +kernel⟩
theorem nJ2_getChar_3b067 : iNp mJ2_getChar_3b067 2 := by unfold iNp; decide +kernel
set_option maxRecDepth 100000 in
theorem kX11_chalkLacking : iMk mX11_chalkLacking := ⟨List.mem_filter.mpr ⟨List.mem_of_getElem? (i := 1168) rfl, rfl⟩, w_RX11, by decide, h_RX11.1, h_RX11.2⟩
theorem iX11_chalkLacking : iMi mX11_chalkLacking := ⟨List.mem_filter.mpr ⟨List.mem_of_getElem? (i := 1167) (by decide +kernel), by decide +kernel⟩, List.mem_filter.mpr ⟨List.mem_of_getElem? (i := 40) (by decide +kernel), by decide +kernel⟩⟩
theorem nX11_chalkLacking : iNp mX11_chalkLacking 1 := by unfold iNp; decide +kernel
set_option maxRecDepth 100000 in
theorem kX10_packedGift : iMk mX10_packedGift := ⟨List.mem_filter.mpr ⟨List.mem_of_getElem? (i := 1174) rfl, rfl⟩, w_RX10, by decide, h_RX10.1, h_RX10.2⟩
theorem sX10_packedGift : Cond.static yX10_packedGift ∈ igt := List.mem_filter.mpr ⟨List.mem_of_getElem? (i := 1173) (by decide +kernel), by decide +kernel⟩
theorem nX10_packedGift : iNp mX10_packedGift 1 := by unfold iNp; decide +kernel
set_option maxRecDepth 100000 in
theorem kX11_byteAt : iMk mX11_byteAt := ⟨List.mem_filter.mpr ⟨List.mem_of_getElem? (i := 1179) rfl, rfl⟩, w_RX11, by decide, h_RX11.1, h_RX11.2⟩
theorem iX11_byteAt : iMi mX11_byteAt := ⟨List.mem_filter.mpr ⟨List.mem_of_getElem? (i := 1177) (by decide +kernel), by decide +kernel⟩, List.mem_filter.mpr ⟨List.mem_of_getElem? (i := 1178) (by decide +kernel), by decide +kernel⟩⟩
theorem nX11_byteAt : iNp mX11_byteAt 1 := by unfold iNp; decide +kernel
set_option maxRecDepth 100000 in
theorem kX11_drawn : iMk mX11_drawn := ⟨List.mem_filter.mpr ⟨List.mem_of_getElem? (i := 1183) rfl, rfl⟩, w_RX11, by decide, h_RX11.1, h_RX11.2⟩
theorem iX11_drawn : iMi mX11_drawn := ⟨List.mem_filter.mpr ⟨List.mem_of_getElem? (i := 1181) (by decide +kernel), by decide +kernel⟩, List.mem_filter.mpr ⟨List.mem_of_getElem? (i := 1182) (by decide +kernel), by decide +kernel⟩⟩
theorem nX11_drawn : iNp mX11_drawn 2 := by unfold iNp; decide +kernel
set_option maxRecDepth 100000 in
theorem kX7_drawHours : iMk mX7_drawHours := ⟨List.mem_filter.mpr ⟨List.mem_of_getElem? (i := 1187) rfl, rfl⟩, w_RX7, by decide, h_RX7.1, h_RX7.2⟩
theorem iX7_drawHours : iMi mX7_drawHours := ⟨List.mem_filter.mpr ⟨List.mem_of_getElem? (i := 1185) (by decide +kernel), by decide +kernel⟩, List.mem_filter.mpr ⟨List.mem_of_getElem? (i := 1186) (by decide +kernel), by decide +kernel⟩⟩
theorem nX7_drawHours : iNp mX7_drawHours 3 := by unfold iNp; decide +kernel
set_option maxRecDepth 100000 in
theorem kX7_drawDeeds : iMk mX7_drawDeeds := ⟨List.mem_filter.mpr ⟨List.mem_of_getElem? (i := 1191) rfl, rfl⟩, w_RX7, by decide, h_RX7.1, h_RX7.2⟩
theorem iX7_drawDeeds : iMi mX7_drawDeeds := ⟨List.mem_filter.mpr ⟨List.mem_of_getElem? (i := 1190) (by decide +kernel), by decide +kernel⟩, List.mem_filter.mpr ⟨List.mem_of_getElem? (i := 41) (by decide +kernel), by decide +kernel⟩⟩
theorem nX7_drawDeeds : iNp mX7_drawDeeds 2 := by unfold iNp; decide +kernel
set_option maxRecDepth 100000 in
theorem kX7_nextDraw : iMk mX7_nextDraw := ⟨List.mem_filter.mpr ⟨List.mem_of_getElem? (i := 1194) rfl, rfl⟩, w_RX7, by decide, h_RX7.1, h_RX7.2⟩
theorem sX7_nextDraw : Cond.static yX7_nextDraw ∈ igt := List.mem_filter.mpr ⟨List.mem_of_getElem? (i := 1193) (by decide +kernel), by decide +kernel⟩
theorem nX7_nextDraw : iNp mX7_nextDraw 1 := by unfold iNp; decide +kernel
set_option maxRecDepth 100000 in
theorem kX7_drawOf : iMk mX7_drawOf := ⟨List.mem_filter.mpr ⟨List.mem_of_getElem? (i := 1198) rfl, rfl⟩, w_RX7, by decide, h_RX7.1, h_RX7.2⟩
theorem sX7_drawOf : Cond.static yX7_drawOf ∈ igt := List.mem_filter.mpr ⟨List.mem_of_getElem? (i := 1197) (by decide +kernel), by decide +kernel⟩
theorem nX7_drawOf : iNp mX7_drawOf 2 := by unfold iNp; decide +kernel
set_option maxRecDepth 100000 in
theorem kX11_odds : iMk mX11_odds := ⟨List.mem_filter.mpr ⟨List.mem_of_getElem? (i := 1202) rfl, rfl⟩, w_RX11, by decide, h_RX11.1, h_RX11.2⟩
theorem iX11_odds : iMi mX11_odds := ⟨List.mem_filter.mpr ⟨List.mem_of_getElem? (i := 1200) (by decide +kernel), by decide +kernel⟩, List.mem_filter.mpr ⟨List.mem_of_getElem? (i := 1201) (by decide +kernel), by decide +kernel⟩⟩
theorem nX11_odds : iNp mX11_odds 3 := by unfold iNp; decide +kernel
set_option maxRecDepth 100000 in
theorem kX11_book : iMk mX11_book := ⟨List.mem_filter.mpr ⟨List.mem_of_getElem? (i := 1206) rfl, rfl⟩, w_RX11, by decide, h_RX11.1, h_RX11.2⟩
