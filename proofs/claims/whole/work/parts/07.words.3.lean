theorem iX11_book : iMi mX11_book := ⟨List.mem_filter.mpr ⟨List.mem_of_getElem? (i := 1204) (by decide +kernel), by decide +kernel⟩, List.mem_filter.mpr ⟨List.mem_of_getElem? (i := 1205) (by decide +kernel), by decide +kernel⟩⟩
theorem nX11_book : iNp mX11_book 1 := by unfold iNp; decide +kernel
set_option maxRecDepth 100000 in
theorem kX1_readFrom : iMk mX1_readFrom := ⟨List.mem_filter.mpr ⟨List.mem_of_getElem? (i := 1210) rfl, rfl⟩, w_RX1, by decide, h_RX1.1, h_RX1.2⟩
theorem iX1_readFrom : iMi mX1_readFrom := ⟨List.mem_filter.mpr ⟨List.mem_of_getElem? (i := 1208) (by decide +kernel), by decide +kernel⟩, List.mem_filter.mpr ⟨List.mem_of_getElem? (i := 1209) (by decide +kernel), by decide +kernel⟩⟩
theorem nX1_readFrom : iNp mX1_readFrom 2 := by unfold iNp; decide +kernel
set_option maxRecDepth 100000 in
theorem kX1_readLine : iMk mX1_readLine := ⟨List.mem_filter.mpr ⟨List.mem_of_getElem? (i := 1216) rfl, rfl⟩, w_RX1, by decide, h_RX1.1, h_RX1.2⟩
theorem iX1_readLine : iMi mX1_readLine := ⟨List.mem_filter.mpr ⟨List.mem_of_getElem? (i := 1215) (by decide +kernel), by decide +kernel⟩, List.mem_filter.mpr ⟨List.mem_of_getElem? (i := 42) (by decide +kernel), by decide +kernel⟩⟩
theorem nX1_readLine : iNp mX1_readLine 2 := by unfold iNp; decide +kernel
set_option maxRecDepth 100000 in
theorem kX1_deedNow : iMk mX1_deedNow := ⟨List.mem_filter.mpr ⟨List.mem_of_getElem? (i := 1219) rfl, rfl⟩, w_RX1, by decide, h_RX1.1, h_RX1.2⟩
theorem sX1_deedNow : Cond.static yX1_deedNow ∈ igt := List.mem_filter.mpr ⟨List.mem_of_getElem? (i := 1218) (by decide +kernel), by decide +kernel⟩
theorem nX1_deedNow : iNp mX1_deedNow 1 := by unfold iNp; decide +kernel
set_option maxRecDepth 100000 in
theorem kX1_takeWho : iMk mX1_takeWho := ⟨List.mem_filter.mpr ⟨List.mem_of_getElem? (i := 1237) rfl, rfl⟩, w_RX1, by decide, h_RX1.1, h_RX1.2⟩
theorem sX1_takeWho : Cond.static yX1_takeWho ∈ igt := List.mem_filter.mpr ⟨List.mem_of_getElem? (i := 1236) (by decide +kernel), by decide +kernel⟩
theorem nX1_takeWho : iNp mX1_takeWho 3 := by unfold iNp; decide +kernel
set_option maxRecDepth 100000 in
theorem kX8_takeUncle : iMk mX8_takeUncle := ⟨List.mem_filter.mpr ⟨List.mem_of_getElem? (i := 1242) rfl, rfl⟩, w_RX8, by decide, h_RX8.1, h_RX8.2⟩
theorem iX8_takeUncle : iMi mX8_takeUncle := ⟨List.mem_filter.mpr ⟨List.mem_of_getElem? (i := 1240) (by decide +kernel), by decide +kernel⟩, List.mem_filter.mpr ⟨List.mem_of_getElem? (i := 1241) (by decide +kernel), by decide +kernel⟩⟩
theorem nX8_takeUncle : iNp mX8_takeUncle 1 := by unfold iNp; decide +kernel
set_option maxRecDepth 100000 in
theorem kX8_takeChild : iMk mX8_takeChild := ⟨List.mem_filter.mpr ⟨List.mem_of_getElem? (i := 1246) rfl, rfl⟩, w_RX8, by decide, h_RX8.1, h_RX8.2⟩
theorem iX8_takeChild : iMi mX8_takeChild := ⟨List.mem_filter.mpr ⟨List.mem_of_getElem? (i := 1244) (by decide +kernel), by decide +kernel⟩, List.mem_filter.mpr ⟨List.mem_of_getElem? (i := 1245) (by decide +kernel), by decide +kernel⟩⟩
theorem nX8_takeChild : iNp mX8_takeChild 1 := by unfold iNp; decide +kernel
set_option maxRecDepth 100000 in
theorem kX8_takeFloorOrCellar : iMk mX8_takeFloorOrCellar := ⟨List.mem_filter.mpr ⟨List.mem_of_getElem? (i := 1250) rfl, rfl⟩, w_RX8, by decide, h_RX8.1, h_RX8.2⟩
theorem iX8_takeFloorOrCellar : iMi mX8_takeFloorOrCellar := ⟨List.mem_filter.mpr ⟨List.mem_of_getElem? (i := 1248) (by decide +kernel), by decide +kernel⟩, List.mem_filter.mpr ⟨List.mem_of_getElem? (i := 1249) (by decide +kernel), by decide +kernel⟩⟩
theorem nX8_takeFloorOrCellar : iNp mX8_takeFloorOrCellar 1 := by unfold iNp; decide +kernel
set_option maxRecDepth 100000 in
theorem kX1_live : iMk mX1_live := ⟨List.mem_filter.mpr ⟨List.mem_of_getElem? (i := 1258) rfl, rfl⟩, w_RX1, by decide, h_RX1.1, h_RX1.2⟩
theorem iX1_live : iMi mX1_live := ⟨List.mem_filter.mpr ⟨List.mem_of_getElem? (i := 1256) (by decide +kernel), by decide +kernel⟩, List.mem_filter.mpr ⟨List.mem_of_getElem? (i := 1257) (by decide +kernel), by decide +kernel⟩⟩
theorem nX1_live : iNp mX1_live 2 := by unfold iNp; decide +kernel
set_option maxRecDepth 100000 in
theorem kX11_told : iMk mX11_told := ⟨List.mem_filter.mpr ⟨List.mem_of_getElem? (i := 1265) rfl, rfl⟩, w_RX11, by decide, h_RX11.1, h_RX11.2⟩
theorem iX11_told : iMi mX11_told := ⟨List.mem_filter.mpr ⟨List.mem_of_getElem? (i := 1263) (by decide +kernel), by decide +kernel⟩, List.mem_filter.mpr ⟨List.mem_of_getElem? (i := 1264) (by decide +kernel), by decide +kernel⟩⟩
theorem nX11_told : iNp mX11_told 1 := by unfold iNp; decide +kernel
set_option maxRecDepth 100000 in
theorem kX11_sentence : iMk mX11_sentence := ⟨List.mem_filter.mpr ⟨List.mem_of_getElem? (i := 1269) rfl, rfl⟩, w_RX11, by decide, h_RX11.1, h_RX11.2⟩
theorem iX11_sentence : iMi mX11_sentence := ⟨List.mem_filter.mpr ⟨List.mem_of_getElem? (i := 1267) (by decide +kernel), by decide +kernel⟩, List.mem_filter.mpr ⟨List.mem_of_getElem? (i := 1268) (by decide +kernel), by decide +kernel⟩⟩
theorem nX11_sentence : iNp mX11_sentence 0 := by unfold iNp; decide +kernel
set_option maxRecDepth 100000 in
theorem kX6_readFrom : iMk mX6_readFrom := ⟨List.mem_filter.mpr ⟨List.mem_of_getElem? (i := 1273) rfl, rfl⟩, w_RX6, by decide, h_RX6.1, h_RX6.2⟩
theorem iX6_readFrom : iMi mX6_readFrom := ⟨List.mem_filter.mpr ⟨List.mem_of_getElem? (i := 1271) (by decide +kernel), by decide +kernel⟩, List.mem_filter.mpr ⟨List.mem_of_getElem? (i := 1272) (by decide +kernel), by decide +kernel⟩⟩
theorem nX6_readFrom : iNp mX6_readFrom 2 := by unfold iNp; decide +kernel
set_option maxRecDepth 100000 in
theorem kX6_readCondition : iMk mX6_readCondition := ⟨List.mem_filter.mpr ⟨List.mem_of_getElem? (i := 1278) rfl, rfl⟩, w_RX6, by decide, h_RX6.1, h_RX6.2⟩
theorem iX6_readCondition : iMi mX6_readCondition := ⟨List.mem_filter.mpr ⟨List.mem_of_getElem? (i := 1277) (by decide +kernel), by decide +kernel⟩, List.mem_filter.mpr ⟨List.mem_of_getElem? (i := 43) (by decide +kernel), by decide +kernel⟩⟩
theorem nX6_readCondition : iNp mX6_readCondition 3 := by unfold iNp; decide +kernel
set_option maxRecDepth 100000 in
theorem kX6_readOne : iMk mX6_readOne := ⟨List.mem_filter.mpr ⟨List.mem_of_getElem? (i := 1283) rfl, rfl⟩, w_RX6, by decide, h_RX6.1, h_RX6.2⟩
theorem iX6_readOne : iMi mX6_readOne := ⟨List.mem_filter.mpr ⟨List.mem_of_getElem? (i := 1282) (by decide +kernel), by decide +kernel⟩, List.mem_filter.mpr ⟨List.mem_of_getElem? (i := 44) (by decide +kernel), by decide +kernel⟩⟩
theorem nX6_readOne : iNp mX6_readOne 3 := by unfold iNp; decide +kernel
set_option maxRecDepth 100000 in
theorem kX6_beginsOne : iMk mX6_beginsOne := ⟨List.mem_filter.mpr ⟨List.mem_of_getElem? (i := 1286) rfl, rfl⟩, w_RX6, by decide, h_RX6.1, h_RX6.2⟩
theorem sX6_beginsOne : Cond.static yX6_beginsOne ∈ igt := List.mem_filter.mpr ⟨List.mem_of_getElem? (i := 1285) (by decide +kernel), by decide +kernel⟩
theorem nX6_beginsOne : iNp mX6_beginsOne 1 := by unfold iNp; decide +kernel
set_option maxRecDepth 100000 in
theorem kX6_add : iMk mX6_add := ⟨List.mem_filter.mpr ⟨List.mem_of_getElem? (i := 1307) rfl, rfl⟩, w_RX6, by decide, h_RX6.1, h_RX6.2⟩
theorem iX6_add : iMi mX6_add := ⟨List.mem_filter.mpr ⟨List.mem_of_getElem? (i := 1306) (by decide +kernel), by decide +kernel⟩, List.mem_filter.mpr ⟨List.mem_of_getElem? (i := 45) (by decide +kernel), by decide +kernel⟩⟩
theorem nX6_add : iNp mX6_add 4 := by unfold iNp; decide +kernel
set_option maxRecDepth 100000 in
theorem kX6_readSimple : iMk mX6_readSimple := ⟨List.mem_filter.mpr ⟨List.mem_of_getElem? (i := 1312) rfl, rfl⟩, w_RX6, by decide, h_RX6.1, h_RX6.2⟩
theorem iX6_readSimple : iMi mX6_readSimple := ⟨List.mem_filter.mpr ⟨List.mem_of_getElem? (i := 1311) (by decide +kernel), by decide +kernel⟩, List.mem_filter.mpr ⟨List.mem_of_getElem? (i := 46) (by decide +kernel), by decide +kernel⟩⟩
theorem nX6_readSimple : iNp mX6_readSimple 2 := by unfold iNp; decide +kernel
set_option maxRecDepth 100000 in
theorem kX5_takeComparison : iMk mX5_takeComparison := ⟨List.mem_filter.mpr ⟨List.mem_of_getElem? (i := 1319) rfl, rfl⟩, w_RX5, by decide, h_RX5.1, h_RX5.2⟩
theorem iX5_takeComparison : iMi mX5_takeComparison := ⟨List.mem_filter.mpr ⟨List.mem_of_getElem? (i := 1317) (by decide +kernel), by decide +kernel⟩, List.mem_filter.mpr ⟨List.mem_of_getElem? (i := 1318) (by decide +kernel), by decide +kernel⟩⟩
theorem nX5_takeComparison : iNp mX5_takeComparison 0 := by unfold iNp; decide +kernel
set_option maxRecDepth 100000 in
theorem kX6_copyFrom : iMk mX6_copyFrom := ⟨List.mem_filter.mpr ⟨List.mem_of_getElem? (i := 1329) rfl, rfl⟩, w_RX6, by decide, h_RX6.1, h_RX6.2⟩
theorem iX6_copyFrom : iMi mX6_copyFrom := ⟨List.mem_filter.mpr ⟨List.mem_of_getElem? (i := 1327) (by decide +kernel), by decide +kernel⟩, List.mem_filter.mpr ⟨List.mem_of_getElem? (i := 1328) (by decide +kernel), by decide +kernel⟩⟩
theorem nX6_copyFrom : iNp mX6_copyFrom 1 := by unfold iNp; decide +kernel
set_option maxRecDepth 100000 in
theorem kX11_said : iMk mX11_said := ⟨List.mem_filter.mpr ⟨List.mem_of_getElem? (i := 1334) rfl, rfl⟩, w_RX11, by decide, h_RX11.1, h_RX11.2⟩
theorem iX11_said : iMi mX11_said := ⟨List.mem_filter.mpr ⟨List.mem_of_getElem? (i := 1332) (by decide +kernel), by decide +kernel⟩, List.mem_filter.mpr ⟨List.mem_of_getElem? (i := 1333) (by decide +kernel), by decide +kernel⟩⟩
theorem nX11_said : iNp mX11_said 1 := by unfold iNp; decide +kernel
set_option maxRecDepth 100000 in
theorem kX6_holdsOf : iMk mX6_holdsOf := ⟨List.mem_filter.mpr ⟨List.mem_of_getElem? (i := 1338) rfl, rfl⟩, w_RX6, by decide, h_RX6.1, h_RX6.2⟩
theorem iX6_holdsOf : iMi mX6_holdsOf := ⟨List.mem_filter.mpr ⟨List.mem_of_getElem? (i := 1336) (by decide +kernel), by decide +kernel⟩, List.mem_filter.mpr ⟨List.mem_of_getElem? (i := 1337) (by decide +kernel), by decide +kernel⟩⟩
theorem nX6_holdsOf : iNp mX6_holdsOf 3 := by unfold iNp; decide +kernel
set_option maxRecDepth 100000 in
theorem kX6_isTrue : iMk mX6_isTrue := ⟨List.mem_filter.mpr ⟨List.mem_of_getElem? (i := 1342) rfl, rfl⟩, w_RX6, by decide, h_RX6.1, h_RX6.2⟩
theorem iX6_isTrue : iMi mX6_isTrue := ⟨List.mem_filter.mpr ⟨List.mem_of_getElem? (i := 1341) (by decide +kernel), by decide +kernel⟩, List.mem_filter.mpr ⟨List.mem_of_getElem? (i := 47) (by decide +kernel), by decide +kernel⟩⟩
theorem nX6_isTrue : iNp mX6_isTrue 4 := by unfold iNp; decide +kernel
set_option maxRecDepth 100000 in
theorem kX6_amountOf : iMk mX6_amountOf := ⟨List.mem_filter.mpr ⟨List.mem_of_getElem? (i := 1347) rfl, rfl⟩, w_RX6, by decide, h_RX6.1, h_RX6.2⟩
theorem sX6_amountOf : Cond.static yX6_amountOf ∈ igt := List.mem_filter.mpr ⟨List.mem_of_getElem? (i := 1346) (by decide +kernel), by decide +kernel⟩
theorem nX6_amountOf : iNp mX6_amountOf 3 := by unfold iNp; decide +kernel
set_option maxRecDepth 100000 in
theorem kX6_compares : iMk mX6_compares := ⟨List.mem_filter.mpr ⟨List.mem_of_getElem? (i := 1351) rfl, rfl⟩, w_RX6, by decide, h_RX6.1, h_RX6.2⟩
theorem sX6_compares : Cond.static yX6_compares ∈ igt := List.mem_filter.mpr ⟨List.mem_of_getElem? (i := 1350) (by decide +kernel), by decide +kernel⟩
theorem nX6_compares : iNp mX6_compares 3 := by unfold iNp; decide +kernel
set_option maxRecDepth 100000 in
theorem kX11_image : iMk mX11_image := ⟨List.mem_filter.mpr ⟨List.mem_of_getElem? (i := 1355) rfl, rfl⟩, w_RX11, by decide, h_RX11.1, h_RX11.2⟩
theorem iX11_image : iMi mX11_image := ⟨List.mem_filter.mpr ⟨List.mem_of_getElem? (i := 1353) (by decide +kernel), by decide +kernel⟩, List.mem_filter.mpr ⟨List.mem_of_getElem? (i := 1354) (by decide +kernel), by decide +kernel⟩⟩
theorem nX11_image : iNp mX11_image 1 := by unfold iNp; decide +kernel
set_option maxRecDepth 100000 in
theorem kX3_keep : iMk mX3_keep := ⟨List.mem_filter.mpr ⟨List.mem_of_getElem? (i := 1359) rfl, rfl⟩, w_RX3, by decide, h_RX3.1, h_RX3.2⟩
theorem iX3_keep : iMi mX3_keep := ⟨List.mem_filter.mpr ⟨List.mem_of_getElem? (i := 1357) (by decide +kernel), by decide +kernel⟩, List.mem_filter.mpr ⟨List.mem_of_getElem? (i := 1358) (by decide +kernel), by decide +kernel⟩⟩
theorem nX3_keep : iNp mX3_keep 3 := by unfold iNp; decide +kernel
set_option maxRecDepth 100000 in
theorem kX11_restore : iMk mX11_restore := ⟨List.mem_filter.mpr ⟨List.mem_of_getElem? (i := 1366) rfl, rfl⟩, w_RX11, by decide, h_RX11.1, h_RX11.2⟩
theorem iX11_restore : iMi mX11_restore := ⟨List.mem_filter.mpr ⟨List.mem_of_getElem? (i := 1364) (by decide +kernel), by decide +kernel⟩, List.mem_filter.mpr ⟨List.mem_of_getElem? (i := 1365) (by decide +kernel), by decide +kernel⟩⟩
theorem nX11_restore : iNp mX11_restore 1 := by unfold iNp; decide +kernel
set_option maxRecDepth 100000 in
theorem kX3_giveBack : iMk mX3_giveBack := ⟨List.mem_filter.mpr ⟨List.mem_of_getElem? (i := 1370) rfl, rfl⟩, w_RX3, by decide, h_RX3.1, h_RX3.2⟩
theorem iX3_giveBack : iMi mX3_giveBack := ⟨List.mem_filter.mpr ⟨List.mem_of_getElem? (i := 1368) (by decide +kernel), by decide +kernel⟩, List.mem_filter.mpr ⟨List.mem_of_getElem? (i := 1369) (by decide +kernel), by decide +kernel⟩⟩
theorem nX3_giveBack : iNp mX3_giveBack 3 := by unfold iNp; decide +kernel
set_option maxRecDepth 100000 in
theorem kX11_count : iMk mX11_count := ⟨List.mem_filter.mpr ⟨List.mem_of_getElem? (i := 1374) rfl, rfl⟩, w_RX11, by decide, h_RX11.1, h_RX11.2⟩
theorem iX11_count : iMi mX11_count := ⟨List.mem_filter.mpr ⟨List.mem_of_getElem? (i := 1372) (by decide +kernel), by decide +kernel⟩, List.mem_filter.mpr ⟨List.mem_of_getElem? (i := 1373) (by decide +kernel), by decide +kernel⟩⟩
theorem nX11_count : iNp mX11_count 1 := by unfold iNp; decide +kernel
set_option maxRecDepth 100000 in
theorem kX11_child : iMk mX11_child := ⟨List.mem_filter.mpr ⟨List.mem_of_getElem? (i := 1382) rfl, rfl⟩, w_RX11, by decide, h_RX11.1, h_RX11.2⟩
theorem iX11_child : iMi mX11_child := ⟨List.mem_filter.mpr ⟨List.mem_of_getElem? (i := 1380) (by decide +kernel), by decide +kernel⟩, List.mem_filter.mpr ⟨List.mem_of_getElem? (i := 1381) (by decide +kernel), by decide +kernel⟩⟩
theorem nX11_child : iNp mX11_child 2 := by unfold iNp; decide +kernel
set_option maxRecDepth 100000 in
theorem kX12_thrown : iMk mX12_thrown := ⟨List.mem_filter.mpr ⟨List.mem_of_getElem? (i := 1447) rfl, rfl⟩, w_RX12, by decide, h_RX12.1, h_RX12.2⟩
theorem iX12_thrown : iMi mX12_thrown := ⟨List.mem_filter.mpr ⟨List.mem_of_getElem? (i := 1445) (by decide +kernel), by decide +kernel⟩, List.mem_filter.mpr ⟨List.mem_of_getElem? (i := 1446) (by decide +kernel), by decide +kernel⟩⟩
theorem nX12_thrown : iNp mX12_thrown 0 := by unfold iNp; decide +kernel
set_option maxRecDepth 100000 in
theorem kX12_feed : iMk mX12_feed := ⟨List.mem_filter.mpr ⟨List.mem_of_getElem? (i := 1451) rfl, rfl⟩, w_RX12, by decide, h_RX12.1, h_RX12.2⟩
theorem iX12_feed : iMi mX12_feed := ⟨List.mem_filter.mpr ⟨List.mem_of_getElem? (i := 1449) (by decide +kernel), by decide +kernel⟩, List.mem_filter.mpr ⟨List.mem_of_getElem? (i := 1450) (by decide +kernel), by decide +kernel⟩⟩
theorem nX12_feed : iNp mX12_feed 5 := by unfold iNp; decide +kernel
set_option maxRecDepth 100000 in
theorem kX12_four : iMk mX12_four := ⟨List.mem_filter.mpr ⟨List.mem_of_getElem? (i := 1456) rfl, rfl⟩, w_RX12, by decide, h_RX12.1, h_RX12.2⟩
theorem iX12_four : iMi mX12_four := ⟨List.mem_filter.mpr ⟨List.mem_of_getElem? (i := 1454) (by decide +kernel), by decide +kernel⟩, List.mem_filter.mpr ⟨List.mem_of_getElem? (i := 49) (by decide +kernel), by decide +kernel⟩⟩
theorem nX12_four : iNp mX12_four 1 := by unfold iNp; decide +kernel
set_option maxRecDepth 100000 in
theorem kX12_end : iMk mX12_end := ⟨List.mem_filter.mpr ⟨List.mem_of_getElem? (i := 1460) rfl, rfl⟩, w_RX12, by decide, h_RX12.1, h_RX12.2⟩
theorem iX12_end : iMi mX12_end := ⟨List.mem_filter.mpr ⟨List.mem_of_getElem? (i := 1458) (by decide +kernel), by decide +kernel⟩, List.mem_filter.mpr ⟨List.mem_of_getElem? (i := 1459) (by decide +kernel), by decide +kernel⟩⟩
theorem nX12_end : iNp mX12_end 1 := by unfold iNp; decide +kernel
set_option maxRecDepth 100000 in
theorem kX12_init : iMk mX12_init := ⟨List.mem_filter.mpr ⟨List.mem_of_getElem? (i := 1464) rfl, rfl⟩, w_RX12, by decide, h_RX12.1, h_RX12.2⟩
theorem jX12_init : Cond.instanceMethod yX12_init ∈ igt := List.mem_filter.mpr ⟨List.mem_of_getElem? (i := 1463) (by decide +kernel), by decide +kernel⟩
theorem nX12_init : iNp mX12_init 0 := by unfold iNp; decide +kernel
set_option maxRecDepth 100000 in
theorem kX12_clears : iMk mX12_clears := ⟨List.mem_filter.mpr ⟨List.mem_of_getElem? (i := 1500) rfl, rfl⟩, w_RX12, by decide, h_RX12.1, h_RX12.2⟩
theorem iX12_clears : iMi mX12_clears := ⟨List.mem_filter.mpr ⟨List.mem_of_getElem? (i := 1499) (by decide +kernel), by decide +kernel⟩, List.mem_filter.mpr ⟨List.mem_of_getElem? (i := 50) (by decide +kernel), by decide +kernel⟩⟩
theorem nX12_clears : iNp mX12_clears 0 := by unfold iNp; decide +kernel
set_option maxRecDepth 100000 in
theorem kX12_tower : iMk mX12_tower := ⟨List.mem_filter.mpr ⟨List.mem_of_getElem? (i := 1668) rfl, rfl⟩, w_RX12, by decide, h_RX12.1, h_RX12.2⟩
theorem iX12_tower : iMi mX12_tower := ⟨List.mem_filter.mpr ⟨List.mem_of_getElem? (i := 1666) (by decide +kernel), by decide +kernel⟩, List.mem_filter.mpr ⟨List.mem_of_getElem? (i := 1667) (by decide +kernel), by decide +kernel⟩⟩
theorem nX12_tower : iNp mX12_tower 0 := by unfold iNp; decide +kernel
set_option maxRecDepth 100000 in
theorem kX12_taken : iMk mX12_taken := ⟨List.mem_filter.mpr ⟨List.mem_of_getElem? (i := 1672) rfl, rfl⟩, w_RX12, by decide, h_RX12.1, h_RX12.2⟩
theorem iX12_taken : iMi mX12_taken := ⟨List.mem_filter.mpr ⟨List.mem_of_getElem? (i := 1671) (by decide +kernel), by decide +kernel⟩, List.mem_filter.mpr ⟨List.mem_of_getElem? (i := 51) (by decide +kernel), by decide +kernel⟩⟩
theorem nX12_taken : iNp mX12_taken 1 := by unfold iNp; decide +kernel
set_option maxRecDepth 100000 in
theorem kX12_next : iMk mX12_next := ⟨List.mem_filter.mpr ⟨List.mem_of_getElem? (i := 1676) rfl, rfl⟩, w_RX12, by decide, h_RX12.1, h_RX12.2⟩
theorem iX12_next : iMi mX12_next := ⟨List.mem_filter.mpr ⟨List.mem_of_getElem? (i := 1675) (by decide +kernel), by decide +kernel⟩, List.mem_filter.mpr ⟨List.mem_of_getElem? (i := 52) (by decide +kernel), by decide +kernel⟩⟩
theorem nX12_next : iNp mX12_next 0 := by unfold iNp; decide +kernel
set_option maxRecDepth 100000 in
theorem kX12_peek : iMk mX12_peek := ⟨List.mem_filter.mpr ⟨List.mem_of_getElem? (i := 1680) rfl, rfl⟩, w_RX12, by decide, h_RX12.1, h_RX12.2⟩
theorem iX12_peek : iMi mX12_peek := ⟨List.mem_filter.mpr ⟨List.mem_of_getElem? (i := 1679) (by decide +kernel), by decide +kernel⟩, List.mem_filter.mpr ⟨List.mem_of_getElem? (i := 53) (by decide +kernel), by decide +kernel⟩⟩
theorem nX12_peek : iNp mX12_peek 0 := by unfold iNp; decide +kernel
set_option maxRecDepth 100000 in
theorem kX12_isSmall : iMk mX12_isSmall := ⟨List.mem_filter.mpr ⟨List.mem_of_getElem? (i := 1683) rfl, rfl⟩, w_RX12, by decide, h_RX12.1, h_RX12.2⟩
theorem sX12_isSmall : Cond.static yX12_isSmall ∈ igt := List.mem_filter.mpr ⟨List.mem_of_getElem? (i := 1682) (by decide +kernel), by decide +kernel⟩
theorem nX12_isSmall : iNp mX12_isSmall 1 := by unfold iNp; decide +kernel
set_option maxRecDepth 100000 in
theorem kX12_isDigit : iMk mX12_isDigit := ⟨List.mem_filter.mpr ⟨List.mem_of_getElem? (i := 1686) rfl, rfl⟩, w_RX12, by decide, h_RX12.1, h_RX12.2⟩
theorem sX12_isDigit : Cond.static yX12_isDigit ∈ igt := List.mem_filter.mpr ⟨List.mem_of_getElem? (i := 1685) (by decide +kernel), by decide +kernel⟩
theorem nX12_isDigit : iNp mX12_isDigit 1 := by unfold iNp; decide +kernel
set_option maxRecDepth 100000 in
theorem kX12_line : iMk mX12_line := ⟨List.mem_filter.mpr ⟨List.mem_of_getElem? (i := 1690) rfl, rfl⟩, w_RX12, by decide, h_RX12.1, h_RX12.2⟩
theorem iX12_line : iMi mX12_line := ⟨List.mem_filter.mpr ⟨List.mem_of_getElem? (i := 1689) (by decide +kernel), by decide +kernel⟩, List.mem_filter.mpr ⟨List.mem_of_getElem? (i := 54) (by decide +kernel), by decide +kernel⟩⟩
theorem nX12_line : iNp mX12_line 0 := by unfold iNp; decide +kernel
set_option maxRecDepth 100000 in
theorem kX12_isWord : iMk mX12_isWord := ⟨List.mem_filter.mpr ⟨List.mem_of_getElem? (i := 1694) rfl, rfl⟩, w_RX12, by decide, h_RX12.1, h_RX12.2⟩
theorem iX12_isWord : iMi mX12_isWord := ⟨List.mem_filter.mpr ⟨List.mem_of_getElem? (i := 1693) (by decide +kernel), by decide +kernel⟩, List.mem_filter.mpr ⟨List.mem_of_getElem? (i := 55) (by decide +kernel), by decide +kernel⟩⟩
theorem nX12_isWord : iNp mX12_isWord 1 := by unfold iNp; decide +kernel
set_option maxRecDepth 100000 in
theorem kX12_readFloor : iMk mX12_readFloor := ⟨List.mem_filter.mpr ⟨List.mem_of_getElem? (i := 1698) rfl, rfl⟩, w_RX12, by decide, h_RX12.1, h_RX12.2⟩
theorem iX12_readFloor : iMi mX12_readFloor := ⟨List.mem_filter.mpr ⟨List.mem_of_getElem? (i := 1697) (by decide +kernel), by decide +kernel⟩, List.mem_filter.mpr ⟨List.mem_of_getElem? (i := 56) (by decide +kernel), by decide +kernel⟩⟩
theorem nX12_readFloor : iNp mX12_readFloor 0 := by unfold iNp; decide +kernel
set_option maxRecDepth 100000 in
theorem kX12_bad : iMk mX12_bad := ⟨List.mem_filter.mpr ⟨List.mem_of_getElem? (i := 1702) rfl, rfl⟩, w_RX12, by decide, h_RX12.1, h_RX12.2⟩
theorem iX12_bad : iMi mX12_bad := ⟨List.mem_filter.mpr ⟨List.mem_of_getElem? (i := 1701) (by decide +kernel), by decide +kernel⟩, List.mem_filter.mpr ⟨List.mem_of_getElem? (i := 57) (by decide +kernel), by decide +kernel⟩⟩
theorem nX12_bad : iNp mX12_bad 1 := by unfold iNp; decide +kernel
set_option maxRecDepth 100000 in
theorem kX12_fresh : iMk mX12_fresh := ⟨List.mem_filter.mpr ⟨List.mem_of_getElem? (i := 1706) rfl, rfl⟩, w_RX12, by decide, h_RX12.1, h_RX12.2⟩
theorem iX12_fresh : iMi mX12_fresh := ⟨List.mem_filter.mpr ⟨List.mem_of_getElem? (i := 1705) (by decide +kernel), by decide +kernel⟩, List.mem_filter.mpr ⟨List.mem_of_getElem? (i := 58) (by decide +kernel), by decide +kernel⟩⟩
theorem nX12_fresh : iNp mX12_fresh 1 := by unfold iNp; decide +kernel
set_option maxRecDepth 100000 in
theorem kX12_isName : iMk mX12_isName := ⟨List.mem_filter.mpr ⟨List.mem_of_getElem? (i := 1710) rfl, rfl⟩, w_RX12, by decide, h_RX12.1, h_RX12.2⟩
theorem iX12_isName : iMi mX12_isName := ⟨List.mem_filter.mpr ⟨List.mem_of_getElem? (i := 1709) (by decide +kernel), by decide +kernel⟩, List.mem_filter.mpr ⟨List.mem_of_getElem? (i := 59) (by decide +kernel), by decide +kernel⟩⟩
theorem nX12_isName : iNp mX12_isName 0 := by unfold iNp; decide +kernel
set_option maxRecDepth 100000 in
theorem kX12_find : iMk mX12_find := ⟨List.mem_filter.mpr ⟨List.mem_of_getElem? (i := 1714) rfl, rfl⟩, w_RX12, by decide, h_RX12.1, h_RX12.2⟩
theorem iX12_find : iMi mX12_find := ⟨List.mem_filter.mpr ⟨List.mem_of_getElem? (i := 1713) (by decide +kernel), by decide +kernel⟩, List.mem_filter.mpr ⟨List.mem_of_getElem? (i := 60) (by decide +kernel), by decide +kernel⟩⟩
theorem nX12_find : iNp mX12_find 2 := by unfold iNp; decide +kernel
set_option maxRecDepth 100000 in
theorem kX12_takesGift : iMk mX12_takesGift := ⟨List.mem_filter.mpr ⟨List.mem_of_getElem? (i := 1718) rfl, rfl⟩, w_RX12, by decide, h_RX12.1, h_RX12.2⟩
theorem iX12_takesGift : iMi mX12_takesGift := ⟨List.mem_filter.mpr ⟨List.mem_of_getElem? (i := 1717) (by decide +kernel), by decide +kernel⟩, List.mem_filter.mpr ⟨List.mem_of_getElem? (i := 61) (by decide +kernel), by decide +kernel⟩⟩
theorem nX12_takesGift : iNp mX12_takesGift 0 := by unfold iNp; decide +kernel
set_option maxRecDepth 100000 in
theorem kX12_giftWord : iMk mX12_giftWord := ⟨List.mem_filter.mpr ⟨List.mem_of_getElem? (i := 1722) rfl, rfl⟩, w_RX12, by decide, h_RX12.1, h_RX12.2⟩
theorem iX12_giftWord : iMi mX12_giftWord := ⟨List.mem_filter.mpr ⟨List.mem_of_getElem? (i := 1721) (by decide +kernel), by decide +kernel⟩, List.mem_filter.mpr ⟨List.mem_of_getElem? (i := 62) (by decide +kernel), by decide +kernel⟩⟩
theorem nX12_giftWord : iNp mX12_giftWord 0 := by unfold iNp; decide +kernel
set_option maxRecDepth 100000 in
theorem kX12_puts : iMk mX12_puts := ⟨List.mem_filter.mpr ⟨List.mem_of_getElem? (i := 1726) rfl, rfl⟩, w_RX12, by decide, h_RX12.1, h_RX12.2⟩
theorem iX12_puts : iMi mX12_puts := ⟨List.mem_filter.mpr ⟨List.mem_of_getElem? (i := 1725) (by decide +kernel), by decide +kernel⟩, List.mem_filter.mpr ⟨List.mem_of_getElem? (i := 63) (by decide +kernel), by decide +kernel⟩⟩
theorem nX12_puts : iNp mX12_puts 3 := by unfold iNp; decide +kernel
set_option maxRecDepth 100000 in
theorem kX12_takes : iMk mX12_takes := ⟨List.mem_filter.mpr ⟨List.mem_of_getElem? (i := 1730) rfl, rfl⟩, w_RX12, by decide, h_RX12.1, h_RX12.2⟩
theorem iX12_takes : iMi mX12_takes := ⟨List.mem_filter.mpr ⟨List.mem_of_getElem? (i := 1729) (by decide +kernel), by decide +kernel⟩, List.mem_filter.mpr ⟨List.mem_of_getElem? (i := 64) (by decide +kernel), by decide +kernel⟩⟩
theorem nX12_takes : iNp mX12_takes 2 := by unfold iNp; decide +kernel
set_option maxRecDepth 100000 in
theorem kX12_isIn : iMk mX12_isIn := ⟨List.mem_filter.mpr ⟨List.mem_of_getElem? (i := 1733) rfl, rfl⟩, w_RX12, by decide, h_RX12.1, h_RX12.2⟩
theorem sX12_isIn : Cond.static yX12_isIn ∈ igt := List.mem_filter.mpr ⟨List.mem_of_getElem? (i := 1732) (by decide +kernel), by decide +kernel⟩
theorem nX12_isIn : iNp mX12_isIn 3 := by unfold iNp; decide +kernel
set_option maxRecDepth 100000 in
theorem kX12_readLaw : iMk mX12_readLaw := ⟨List.mem_filter.mpr ⟨List.mem_of_getElem? (i := 1737) rfl, rfl⟩, w_RX12, by decide, h_RX12.1, h_RX12.2⟩
theorem iX12_readLaw : iMi mX12_readLaw := ⟨List.mem_filter.mpr ⟨List.mem_of_getElem? (i := 1736) (by decide +kernel), by decide +kernel⟩, List.mem_filter.mpr ⟨List.mem_of_getElem? (i := 65) (by decide +kernel), by decide +kernel⟩⟩
theorem nX12_readLaw : iNp mX12_readLaw 0 := by unfold iNp; decide +kernel
set_option maxRecDepth 100000 in
theorem kX12_readLike : iMk mX12_readLike := ⟨List.mem_filter.mpr ⟨List.mem_of_getElem? (i := 1741) rfl, rfl⟩, w_RX12, by decide, h_RX12.1, h_RX12.2⟩
theorem iX12_readLike : iMi mX12_readLike := ⟨List.mem_filter.mpr ⟨List.mem_of_getElem? (i := 1740) (by decide +kernel), by decide +kernel⟩, List.mem_filter.mpr ⟨List.mem_of_getElem? (i := 66) (by decide +kernel), by decide +kernel⟩⟩
theorem nX12_readLike : iNp mX12_readLike 0 := by unfold iNp; decide +kernel
set_option maxRecDepth 100000 in
theorem kX12_takesName : iMk mX12_takesName := ⟨List.mem_filter.mpr ⟨List.mem_of_getElem? (i := 1745) rfl, rfl⟩, w_RX12, by decide, h_RX12.1, h_RX12.2⟩
theorem iX12_takesName : iMi mX12_takesName := ⟨List.mem_filter.mpr ⟨List.mem_of_getElem? (i := 1744) (by decide +kernel), by decide +kernel⟩, List.mem_filter.mpr ⟨List.mem_of_getElem? (i := 67) (by decide +kernel), by decide +kernel⟩⟩
theorem nX12_takesName : iNp mX12_takesName 2 := by unfold iNp; decide +kernel
set_option maxRecDepth 100000 in
theorem kX12_looksAt : iMk mX12_looksAt := ⟨List.mem_filter.mpr ⟨List.mem_of_getElem? (i := 1749) rfl, rfl⟩, w_RX12, by decide, h_RX12.1, h_RX12.2⟩
theorem iX12_looksAt : iMi mX12_looksAt := ⟨List.mem_filter.mpr ⟨List.mem_of_getElem? (i := 1748) (by decide +kernel), by decide +kernel⟩, List.mem_filter.mpr ⟨List.mem_of_getElem? (i := 68) (by decide +kernel), by decide +kernel⟩⟩
theorem nX12_looksAt : iNp mX12_looksAt 2 := by unfold iNp; decide +kernel
set_option maxRecDepth 100000 in
theorem kX12_once : iMk mX12_once := ⟨List.mem_filter.mpr ⟨List.mem_of_getElem? (i := 1753) rfl, rfl⟩, w_RX12, by decide, h_RX12.1, h_RX12.2⟩
theorem iX12_once : iMi mX12_once := ⟨List.mem_filter.mpr ⟨List.mem_of_getElem? (i := 1752) (by decide +kernel), by decide +kernel⟩, List.mem_filter.mpr ⟨List.mem_of_getElem? (i := 69) (by decide +kernel), by decide +kernel⟩⟩
theorem nX12_once : iNp mX12_once 4 := by unfold iNp; decide +kernel
set_option maxRecDepth 100000 in
theorem kX12_bitOf : iMk mX12_bitOf := ⟨List.mem_filter.mpr ⟨List.mem_of_getElem? (i := 1756) rfl, rfl⟩, w_RX12, by decide, h_RX12.1, h_RX12.2⟩
theorem sX12_bitOf : Cond.static yX12_bitOf ∈ igt := List.mem_filter.mpr ⟨List.mem_of_getElem? (i := 1755) (by decide +kernel), by decide +kernel⟩
theorem nX12_bitOf : iNp mX12_bitOf 2 := by unfold iNp; decide +kernel
set_option maxRecDepth 100000 in
theorem kX12_sign : iMk mX12_sign := ⟨List.mem_filter.mpr ⟨List.mem_of_getElem? (i := 1760) rfl, rfl⟩, w_RX12, by decide, h_RX12.1, h_RX12.2⟩
theorem iX12_sign : iMi mX12_sign := ⟨List.mem_filter.mpr ⟨List.mem_of_getElem? (i := 1759) (by decide +kernel), by decide +kernel⟩, List.mem_filter.mpr ⟨List.mem_of_getElem? (i := 70) (by decide +kernel), by decide +kernel⟩⟩
theorem nX12_sign : iNp mX12_sign 1 := by unfold iNp; decide +kernel
set_option maxRecDepth 100000 in
theorem kX12_isSign : iMk mX12_isSign := ⟨List.mem_filter.mpr ⟨List.mem_of_getElem? (i := 1764) rfl, rfl⟩, w_RX12, by decide, h_RX12.1, h_RX12.2⟩
theorem iX12_isSign : iMi mX12_isSign := ⟨List.mem_filter.mpr ⟨List.mem_of_getElem? (i := 1763) (by decide +kernel), by decide +kernel⟩, List.mem_filter.mpr ⟨List.mem_of_getElem? (i := 71) (by decide +kernel), by decide +kernel⟩⟩
theorem nX12_isSign : iNp mX12_isSign 1 := by unfold iNp; decide +kernel
set_option maxRecDepth 100000 in
theorem kX12_fault : iMk mX12_fault := ⟨List.mem_filter.mpr ⟨List.mem_of_getElem? (i := 1768) rfl, rfl⟩, w_RX12, by decide, h_RX12.1, h_RX12.2⟩
theorem iX12_fault : iMi mX12_fault := ⟨List.mem_filter.mpr ⟨List.mem_of_getElem? (i := 1766) (by decide +kernel), by decide +kernel⟩, List.mem_filter.mpr ⟨List.mem_of_getElem? (i := 1767) (by decide +kernel), by decide +kernel⟩⟩
theorem nX12_fault : iNp mX12_fault 0 := by unfold iNp; decide +kernel
set_option maxRecDepth 100000 in
theorem kX12_child : iMk mX12_child := ⟨List.mem_filter.mpr ⟨List.mem_of_getElem? (i := 1772) rfl, rfl⟩, w_RX12, by decide, h_RX12.1, h_RX12.2⟩
theorem iX12_child : iMi mX12_child := ⟨List.mem_filter.mpr ⟨List.mem_of_getElem? (i := 1770) (by decide +kernel), by decide +kernel⟩, List.mem_filter.mpr ⟨List.mem_of_getElem? (i := 1771) (by decide +kernel), by decide +kernel⟩⟩
theorem nX12_child : iNp mX12_child 2 := by unfold iNp; decide +kernel
set_option maxRecDepth 100000 in
theorem kX12_isChild : iMk mX12_isChild := ⟨List.mem_filter.mpr ⟨List.mem_of_getElem? (i := 1776) rfl, rfl⟩, w_RX12, by decide, h_RX12.1, h_RX12.2⟩
theorem iX12_isChild : iMi mX12_isChild := ⟨List.mem_filter.mpr ⟨List.mem_of_getElem? (i := 1775) (by decide +kernel), by decide +kernel⟩, List.mem_filter.mpr ⟨List.mem_of_getElem? (i := 72) (by decide +kernel), by decide +kernel⟩⟩
theorem nX12_isChild : iNp mX12_isChild 1 := by unfold iNp; decide +kernel
set_option maxRecDepth 100000 in
theorem kX12_throwsIf : iMk mX12_throwsIf := ⟨List.mem_filter.mpr ⟨List.mem_of_getElem? (i := 1780) rfl, rfl⟩, w_RX12, by decide, h_RX12.1, h_RX12.2⟩
theorem iX12_throwsIf : iMi mX12_throwsIf := ⟨List.mem_filter.mpr ⟨List.mem_of_getElem? (i := 1779) (by decide +kernel), by decide +kernel⟩, List.mem_filter.mpr ⟨List.mem_of_getElem? (i := 73) (by decide +kernel), by decide +kernel⟩⟩
theorem nX12_throwsIf : iNp mX12_throwsIf 1 := by unfold iNp; decide +kernel
set_option maxRecDepth 100000 in
theorem kX12_lacksOf : iMk mX12_lacksOf := ⟨List.mem_filter.mpr ⟨List.mem_of_getElem? (i := 1784) rfl, rfl⟩, w_RX12, by decide, h_RX12.1, h_RX12.2⟩
theorem iX12_lacksOf : iMi mX12_lacksOf := ⟨List.mem_filter.mpr ⟨List.mem_of_getElem? (i := 1783) (by decide +kernel), by decide +kernel⟩, List.mem_filter.mpr ⟨List.mem_of_getElem? (i := 74) (by decide +kernel), by decide +kernel⟩⟩
theorem nX12_lacksOf : iNp mX12_lacksOf 1 := by unfold iNp; decide +kernel
set_option maxRecDepth 100000 in
theorem kX12_haves : iMk mX12_haves := ⟨List.mem_filter.mpr ⟨List.mem_of_getElem? (i := 1788) rfl, rfl⟩, w_RX12, by decide, h_RX12.1, h_RX12.2⟩
theorem iX12_haves : iMi mX12_haves := ⟨List.mem_filter.mpr ⟨List.mem_of_getElem? (i := 1787) (by decide +kernel), by decide +kernel⟩, List.mem_filter.mpr ⟨List.mem_of_getElem? (i := 75) (by decide +kernel), by decide +kernel⟩⟩
theorem nX12_haves : iNp mX12_haves 2 := by unfold iNp; decide +kernel
set_option maxRecDepth 100000 in
theorem kX12_nearTo : iMk mX12_nearTo := ⟨List.mem_filter.mpr ⟨List.mem_of_getElem? (i := 1792) rfl, rfl⟩, w_RX12, by decide, h_RX12.1, h_RX12.2⟩
theorem iX12_nearTo : iMi mX12_nearTo := ⟨List.mem_filter.mpr ⟨List.mem_of_getElem? (i := 1791) (by decide +kernel), by decide +kernel⟩, List.mem_filter.mpr ⟨List.mem_of_getElem? (i := 76) (by decide +kernel), by decide +kernel⟩⟩
theorem nX12_nearTo : iNp mX12_nearTo 1 := by unfold iNp; decide +kernel
set_option maxRecDepth 100000 in
theorem kX12_areNear : iMk mX12_areNear := ⟨List.mem_filter.mpr ⟨List.mem_of_getElem? (i := 1796) rfl, rfl⟩, w_RX12, by decide, h_RX12.1, h_RX12.2⟩
theorem iX12_areNear : iMi mX12_areNear := ⟨List.mem_filter.mpr ⟨List.mem_of_getElem? (i := 1795) (by decide +kernel), by decide +kernel⟩, List.mem_filter.mpr ⟨List.mem_of_getElem? (i := 77) (by decide +kernel), by decide +kernel⟩⟩
theorem nX12_areNear : iNp mX12_areNear 2 := by unfold iNp; decide +kernel
set_option maxRecDepth 100000 in
theorem kX12_absolute : iMk mX12_absolute := ⟨List.mem_filter.mpr ⟨List.mem_of_getElem? (i := 1799) rfl, rfl⟩, w_RX12, by decide, h_RX12.1, h_RX12.2⟩
theorem sX12_absolute : Cond.static yX12_absolute ∈ igt := List.mem_filter.mpr ⟨List.mem_of_getElem? (i := 1798) (by decide +kernel), by decide +kernel⟩
theorem nX12_absolute : iNp mX12_absolute 1 := by unfold iNp; decide +kernel
set_option maxRecDepth 100000 in
theorem kX12_has : iMk mX12_has := ⟨List.mem_filter.mpr ⟨List.mem_of_getElem? (i := 1803) rfl, rfl⟩, w_RX12, by decide, h_RX12.1, h_RX12.2⟩
theorem iX12_has : iMi mX12_has := ⟨List.mem_filter.mpr ⟨List.mem_of_getElem? (i := 1801) (by decide +kernel), by decide +kernel⟩, List.mem_filter.mpr ⟨List.mem_of_getElem? (i := 1802) (by decide +kernel), by decide +kernel⟩⟩
theorem nX12_has : iNp mX12_has 2 := by unfold iNp; decide +kernel
set_option maxRecDepth 100000 in
theorem kX12_floor : iMk mX12_floor := ⟨List.mem_filter.mpr ⟨List.mem_of_getElem? (i := 1807) rfl, rfl⟩, w_RX12, by decide, h_RX12.1, h_RX12.2⟩
theorem iX12_floor : iMi mX12_floor := ⟨List.mem_filter.mpr ⟨List.mem_of_getElem? (i := 1805) (by decide +kernel), by decide +kernel⟩, List.mem_filter.mpr ⟨List.mem_of_getElem? (i := 1806) (by decide +kernel), by decide +kernel⟩⟩
theorem nX12_floor : iNp mX12_floor 2 := by unfold iNp; decide +kernel
set_option maxRecDepth 100000 in
theorem kX12_isFloor : iMk mX12_isFloor := ⟨List.mem_filter.mpr ⟨List.mem_of_getElem? (i := 1811) rfl, rfl⟩, w_RX12, by decide, h_RX12.1, h_RX12.2⟩
theorem iX12_isFloor : iMi mX12_isFloor := ⟨List.mem_filter.mpr ⟨List.mem_of_getElem? (i := 1810) (by decide +kernel), by decide +kernel⟩, List.mem_filter.mpr ⟨List.mem_of_getElem? (i := 78) (by decide +kernel), by decide +kernel⟩⟩
theorem nX12_isFloor : iNp mX12_isFloor 1 := by unfold iNp; decide +kernel
set_option maxRecDepth 100000 in
theorem kX12_onFloor : iMk mX12_onFloor := ⟨List.mem_filter.mpr ⟨List.mem_of_getElem? (i := 1815) rfl, rfl⟩, w_RX12, by decide, h_RX12.1, h_RX12.2⟩
theorem iX12_onFloor : iMi mX12_onFloor := ⟨List.mem_filter.mpr ⟨List.mem_of_getElem? (i := 1814) (by decide +kernel), by decide +kernel⟩, List.mem_filter.mpr ⟨List.mem_of_getElem? (i := 79) (by decide +kernel), by decide +kernel⟩⟩
theorem nX12_onFloor : iNp mX12_onFloor 1 := by unfold iNp; decide +kernel
set_option maxRecDepth 100000 in
theorem kX12_uncle : iMk mX12_uncle := ⟨List.mem_filter.mpr ⟨List.mem_of_getElem? (i := 1819) rfl, rfl⟩, w_RX12, by decide, h_RX12.1, h_RX12.2⟩
theorem iX12_uncle : iMi mX12_uncle := ⟨List.mem_filter.mpr ⟨List.mem_of_getElem? (i := 1817) (by decide +kernel), by decide +kernel⟩, List.mem_filter.mpr ⟨List.mem_of_getElem? (i := 1818) (by decide +kernel), by decide +kernel⟩⟩
theorem nX12_uncle : iNp mX12_uncle 2 := by unfold iNp; decide +kernel
set_option maxRecDepth 100000 in
theorem kX12_isUncle : iMk mX12_isUncle := ⟨List.mem_filter.mpr ⟨List.mem_of_getElem? (i := 1823) rfl, rfl⟩, w_RX12, by decide, h_RX12.1, h_RX12.2⟩
theorem iX12_isUncle : iMi mX12_isUncle := ⟨List.mem_filter.mpr ⟨List.mem_of_getElem? (i := 1822) (by decide +kernel), by decide +kernel⟩, List.mem_filter.mpr ⟨List.mem_of_getElem? (i := 80) (by decide +kernel), by decide +kernel⟩⟩
theorem nX12_isUncle : iNp mX12_isUncle 1 := by unfold iNp; decide +kernel
set_option maxRecDepth 100000 in
theorem kX12_law : iMk mX12_law := ⟨List.mem_filter.mpr ⟨List.mem_of_getElem? (i := 1827) rfl, rfl⟩, w_RX12, by decide, h_RX12.1, h_RX12.2⟩
theorem iX12_law : iMi mX12_law := ⟨List.mem_filter.mpr ⟨List.mem_of_getElem? (i := 1825) (by decide +kernel), by decide +kernel⟩, List.mem_filter.mpr ⟨List.mem_of_getElem? (i := 1826) (by decide +kernel), by decide +kernel⟩⟩
theorem nX12_law : iNp mX12_law 1 := by unfold iNp; decide +kernel
