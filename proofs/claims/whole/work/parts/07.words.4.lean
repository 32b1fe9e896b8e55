set_option maxRecDepth 100000 in
theorem kX12_now : iMk mX12_now := ⟨List.mem_filter.mpr ⟨List.mem_of_getElem? (i := 1831) rfl, rfl⟩, w_RX12, by decide, h_RX12.1, h_RX12.2⟩
theorem iX12_now : iMi mX12_now := ⟨List.mem_filter.mpr ⟨List.mem_of_getElem? (i := 1829) (by decide +kernel), by decide +kernel⟩, List.mem_filter.mpr ⟨List.mem_of_getElem? (i := 1830) (by decide +kernel), by decide +kernel⟩⟩
theorem nX12_now : iNp mX12_now 1 := by unfold iNp; decide +kernel
set_option maxRecDepth 100000 in
theorem kX12_isServed : iMk mX12_isServed := ⟨List.mem_filter.mpr ⟨List.mem_of_getElem? (i := 1835) rfl, rfl⟩, w_RX12, by decide, h_RX12.1, h_RX12.2⟩
theorem iX12_isServed : iMi mX12_isServed := ⟨List.mem_filter.mpr ⟨List.mem_of_getElem? (i := 1834) (by decide +kernel), by decide +kernel⟩, List.mem_filter.mpr ⟨List.mem_of_getElem? (i := 81) (by decide +kernel), by decide +kernel⟩⟩
theorem nX12_isServed : iNp mX12_isServed 1 := by unfold iNp; decide +kernel
set_option maxRecDepth 100000 in
theorem kX12_balanceOf : iMk mX12_balanceOf := ⟨List.mem_filter.mpr ⟨List.mem_of_getElem? (i := 1839) rfl, rfl⟩, w_RX12, by decide, h_RX12.1, h_RX12.2⟩
theorem iX12_balanceOf : iMi mX12_balanceOf := ⟨List.mem_filter.mpr ⟨List.mem_of_getElem? (i := 1838) (by decide +kernel), by decide +kernel⟩, List.mem_filter.mpr ⟨List.mem_of_getElem? (i := 82) (by decide +kernel), by decide +kernel⟩⟩
theorem nX12_balanceOf : iNp mX12_balanceOf 1 := by unfold iNp; decide +kernel
set_option maxRecDepth 100000 in
theorem kX12_servedSet : iMk mX12_servedSet := ⟨List.mem_filter.mpr ⟨List.mem_of_getElem? (i := 1843) rfl, rfl⟩, w_RX12, by decide, h_RX12.1, h_RX12.2⟩
theorem iX12_servedSet : iMi mX12_servedSet := ⟨List.mem_filter.mpr ⟨List.mem_of_getElem? (i := 1842) (by decide +kernel), by decide +kernel⟩, List.mem_filter.mpr ⟨List.mem_of_getElem? (i := 83) (by decide +kernel), by decide +kernel⟩⟩
theorem nX12_servedSet : iNp mX12_servedSet 0 := by unfold iNp; decide +kernel
set_option maxRecDepth 100000 in
theorem kX12_send : iMk mX12_send := ⟨List.mem_filter.mpr ⟨List.mem_of_getElem? (i := 1847) rfl, rfl⟩, w_RX12, by decide, h_RX12.1, h_RX12.2⟩
theorem iX12_send : iMi mX12_send := ⟨List.mem_filter.mpr ⟨List.mem_of_getElem? (i := 1845) (by decide +kernel), by decide +kernel⟩, List.mem_filter.mpr ⟨List.mem_of_getElem? (i := 1846) (by decide +kernel), by decide +kernel⟩⟩
theorem nX12_send : iNp mX12_send 2 := by unfold iNp; decide +kernel
set_option maxRecDepth 100000 in
theorem kX12_whySend : iMk mX12_whySend := ⟨List.mem_filter.mpr ⟨List.mem_of_getElem? (i := 1851) rfl, rfl⟩, w_RX12, by decide, h_RX12.1, h_RX12.2⟩
theorem iX12_whySend : iMi mX12_whySend := ⟨List.mem_filter.mpr ⟨List.mem_of_getElem? (i := 1850) (by decide +kernel), by decide +kernel⟩, List.mem_filter.mpr ⟨List.mem_of_getElem? (i := 84) (by decide +kernel), by decide +kernel⟩⟩
theorem nX12_whySend : iNp mX12_whySend 2 := by unfold iNp; decide +kernel
set_option maxRecDepth 100000 in
theorem kX12_keep : iMk mX12_keep := ⟨List.mem_filter.mpr ⟨List.mem_of_getElem? (i := 1855) rfl, rfl⟩, w_RX12, by decide, h_RX12.1, h_RX12.2⟩
theorem iX12_keep : iMi mX12_keep := ⟨List.mem_filter.mpr ⟨List.mem_of_getElem? (i := 1854) (by decide +kernel), by decide +kernel⟩, List.mem_filter.mpr ⟨List.mem_of_getElem? (i := 85) (by decide +kernel), by decide +kernel⟩⟩
theorem nX12_keep : iNp mX12_keep 0 := by unfold iNp; decide +kernel
set_option maxRecDepth 100000 in
theorem kX12_sends : iMk mX12_sends := ⟨List.mem_filter.mpr ⟨List.mem_of_getElem? (i := 1859) rfl, rfl⟩, w_RX12, by decide, h_RX12.1, h_RX12.2⟩
theorem iX12_sends : iMi mX12_sends := ⟨List.mem_filter.mpr ⟨List.mem_of_getElem? (i := 1858) (by decide +kernel), by decide +kernel⟩, List.mem_filter.mpr ⟨List.mem_of_getElem? (i := 86) (by decide +kernel), by decide +kernel⟩⟩
theorem nX12_sends : iNp mX12_sends 2 := by unfold iNp; decide +kernel
set_option maxRecDepth 100000 in
theorem kX12_lesser : iMk mX12_lesser := ⟨List.mem_filter.mpr ⟨List.mem_of_getElem? (i := 1862) rfl, rfl⟩, w_RX12, by decide, h_RX12.1, h_RX12.2⟩
theorem sX12_lesser : Cond.static yX12_lesser ∈ igt := List.mem_filter.mpr ⟨List.mem_of_getElem? (i := 1861) (by decide +kernel), by decide +kernel⟩
theorem nX12_lesser : iNp mX12_lesser 2 := by unfold iNp; decide +kernel
set_option maxRecDepth 100000 in
theorem kX12_hang : iMk mX12_hang := ⟨List.mem_filter.mpr ⟨List.mem_of_getElem? (i := 1866) rfl, rfl⟩, w_RX12, by decide, h_RX12.1, h_RX12.2⟩
theorem iX12_hang : iMi mX12_hang := ⟨List.mem_filter.mpr ⟨List.mem_of_getElem? (i := 1864) (by decide +kernel), by decide +kernel⟩, List.mem_filter.mpr ⟨List.mem_of_getElem? (i := 1865) (by decide +kernel), by decide +kernel⟩⟩
theorem nX12_hang : iNp mX12_hang 1 := by unfold iNp; decide +kernel
set_option maxRecDepth 100000 in
theorem kX12_turns : iMk mX12_turns := ⟨List.mem_filter.mpr ⟨List.mem_of_getElem? (i := 1870) rfl, rfl⟩, w_RX12, by decide, h_RX12.1, h_RX12.2⟩
theorem iX12_turns : iMi mX12_turns := ⟨List.mem_filter.mpr ⟨List.mem_of_getElem? (i := 1869) (by decide +kernel), by decide +kernel⟩, List.mem_filter.mpr ⟨List.mem_of_getElem? (i := 87) (by decide +kernel), by decide +kernel⟩⟩
theorem nX12_turns : iNp mX12_turns 2 := by unfold iNp; decide +kernel
set_option maxRecDepth 100000 in
theorem kX12_take : iMk mX12_take := ⟨List.mem_filter.mpr ⟨List.mem_of_getElem? (i := 1874) rfl, rfl⟩, w_RX12, by decide, h_RX12.1, h_RX12.2⟩
theorem iX12_take : iMi mX12_take := ⟨List.mem_filter.mpr ⟨List.mem_of_getElem? (i := 1872) (by decide +kernel), by decide +kernel⟩, List.mem_filter.mpr ⟨List.mem_of_getElem? (i := 1873) (by decide +kernel), by decide +kernel⟩⟩
theorem nX12_take : iNp mX12_take 1 := by unfold iNp; decide +kernel
set_option maxRecDepth 100000 in
theorem kX12_serve : iMk mX12_serve := ⟨List.mem_filter.mpr ⟨List.mem_of_getElem? (i := 1878) rfl, rfl⟩, w_RX12, by decide, h_RX12.1, h_RX12.2⟩
theorem iX12_serve : iMi mX12_serve := ⟨List.mem_filter.mpr ⟨List.mem_of_getElem? (i := 1876) (by decide +kernel), by decide +kernel⟩, List.mem_filter.mpr ⟨List.mem_of_getElem? (i := 1877) (by decide +kernel), by decide +kernel⟩⟩
theorem nX12_serve : iNp mX12_serve 1 := by unfold iNp; decide +kernel
set_option maxRecDepth 100000 in
theorem kX12_whyServe : iMk mX12_whyServe := ⟨List.mem_filter.mpr ⟨List.mem_of_getElem? (i := 1882) rfl, rfl⟩, w_RX12, by decide, h_RX12.1, h_RX12.2⟩
theorem iX12_whyServe : iMi mX12_whyServe := ⟨List.mem_filter.mpr ⟨List.mem_of_getElem? (i := 1881) (by decide +kernel), by decide +kernel⟩, List.mem_filter.mpr ⟨List.mem_of_getElem? (i := 88) (by decide +kernel), by decide +kernel⟩⟩
theorem nX12_whyServe : iNp mX12_whyServe 1 := by unfold iNp; decide +kernel
set_option maxRecDepth 100000 in
theorem kX12_back : iMk mX12_back := ⟨List.mem_filter.mpr ⟨List.mem_of_getElem? (i := 1886) rfl, rfl⟩, w_RX12, by decide, h_RX12.1, h_RX12.2⟩
theorem iX12_back : iMi mX12_back := ⟨List.mem_filter.mpr ⟨List.mem_of_getElem? (i := 1884) (by decide +kernel), by decide +kernel⟩, List.mem_filter.mpr ⟨List.mem_of_getElem? (i := 1885) (by decide +kernel), by decide +kernel⟩⟩
theorem nX12_back : iNp mX12_back 1 := by unfold iNp; decide +kernel
set_option maxRecDepth 100000 in
theorem kX12_returns : iMk mX12_returns := ⟨List.mem_filter.mpr ⟨List.mem_of_getElem? (i := 1890) rfl, rfl⟩, w_RX12, by decide, h_RX12.1, h_RX12.2⟩
theorem iX12_returns : iMi mX12_returns := ⟨List.mem_filter.mpr ⟨List.mem_of_getElem? (i := 1889) (by decide +kernel), by decide +kernel⟩, List.mem_filter.mpr ⟨List.mem_of_getElem? (i := 89) (by decide +kernel), by decide +kernel⟩⟩
theorem nX12_returns : iNp mX12_returns 1 := by unfold iNp; decide +kernel
set_option maxRecDepth 100000 in
theorem kX12_hours : iMk mX12_hours := ⟨List.mem_filter.mpr ⟨List.mem_of_getElem? (i := 1894) rfl, rfl⟩, w_RX12, by decide, h_RX12.1, h_RX12.2⟩
theorem iX12_hours : iMi mX12_hours := ⟨List.mem_filter.mpr ⟨List.mem_of_getElem? (i := 1892) (by decide +kernel), by decide +kernel⟩, List.mem_filter.mpr ⟨List.mem_of_getElem? (i := 1893) (by decide +kernel), by decide +kernel⟩⟩
theorem nX12_hours : iNp mX12_hours 1 := by unfold iNp; decide +kernel
set_option maxRecDepth 100000 in
theorem kX12_goesOn : iMk mX12_goesOn := ⟨List.mem_filter.mpr ⟨List.mem_of_getElem? (i := 1898) rfl, rfl⟩, w_RX12, by decide, h_RX12.1, h_RX12.2⟩
theorem iX12_goesOn : iMi mX12_goesOn := ⟨List.mem_filter.mpr ⟨List.mem_of_getElem? (i := 1897) (by decide +kernel), by decide +kernel⟩, List.mem_filter.mpr ⟨List.mem_of_getElem? (i := 90) (by decide +kernel), by decide +kernel⟩⟩
theorem nX12_goesOn : iNp mX12_goesOn 1 := by unfold iNp; decide +kernel
set_option maxRecDepth 100000 in
theorem kX12_hour : iMk mX12_hour := ⟨List.mem_filter.mpr ⟨List.mem_of_getElem? (i := 1902) rfl, rfl⟩, w_RX12, by decide, h_RX12.1, h_RX12.2⟩
theorem iX12_hour : iMi mX12_hour := ⟨List.mem_filter.mpr ⟨List.mem_of_getElem? (i := 1901) (by decide +kernel), by decide +kernel⟩, List.mem_filter.mpr ⟨List.mem_of_getElem? (i := 91) (by decide +kernel), by decide +kernel⟩⟩
theorem nX12_hour : iNp mX12_hour 0 := by unfold iNp; decide +kernel
set_option maxRecDepth 100000 in
theorem kX12_more : iMk mX12_more := ⟨List.mem_filter.mpr ⟨List.mem_of_getElem? (i := 1906) rfl, rfl⟩, w_RX12, by decide, h_RX12.1, h_RX12.2⟩
theorem iX12_more : iMi mX12_more := ⟨List.mem_filter.mpr ⟨List.mem_of_getElem? (i := 1905) (by decide +kernel), by decide +kernel⟩, List.mem_filter.mpr ⟨List.mem_of_getElem? (i := 92) (by decide +kernel), by decide +kernel⟩⟩
theorem nX12_more : iNp mX12_more 3 := by unfold iNp; decide +kernel
set_option maxRecDepth 100000 in
theorem kX12_talk : iMk mX12_talk := ⟨List.mem_filter.mpr ⟨List.mem_of_getElem? (i := 1910) rfl, rfl⟩, w_RX12, by decide, h_RX12.1, h_RX12.2⟩
theorem iX12_talk : iMi mX12_talk := ⟨List.mem_filter.mpr ⟨List.mem_of_getElem? (i := 1909) (by decide +kernel), by decide +kernel⟩, List.mem_filter.mpr ⟨List.mem_of_getElem? (i := 93) (by decide +kernel), by decide +kernel⟩⟩
theorem nX12_talk : iNp mX12_talk 2 := by unfold iNp; decide +kernel
set_option maxRecDepth 100000 in
theorem kX12_undo : iMk mX12_undo := ⟨List.mem_filter.mpr ⟨List.mem_of_getElem? (i := 1914) rfl, rfl⟩, w_RX12, by decide, h_RX12.1, h_RX12.2⟩
theorem iX12_undo : iMi mX12_undo := ⟨List.mem_filter.mpr ⟨List.mem_of_getElem? (i := 1912) (by decide +kernel), by decide +kernel⟩, List.mem_filter.mpr ⟨List.mem_of_getElem? (i := 1913) (by decide +kernel), by decide +kernel⟩⟩
theorem nX12_undo : iNp mX12_undo 0 := by unfold iNp; decide +kernel
set_option maxRecDepth 100000 in
theorem kX12_when : iMk mX12_when := ⟨List.mem_filter.mpr ⟨List.mem_of_getElem? (i := 1918) rfl, rfl⟩, w_RX12, by decide, h_RX12.1, h_RX12.2⟩
theorem iX12_when : iMi mX12_when := ⟨List.mem_filter.mpr ⟨List.mem_of_getElem? (i := 1916) (by decide +kernel), by decide +kernel⟩, List.mem_filter.mpr ⟨List.mem_of_getElem? (i := 1917) (by decide +kernel), by decide +kernel⟩⟩
theorem nX12_when : iNp mX12_when 1 := by unfold iNp; decide +kernel
set_option maxRecDepth 100000 in
theorem kX12_tries : iMk mX12_tries := ⟨List.mem_filter.mpr ⟨List.mem_of_getElem? (i := 1922) rfl, rfl⟩, w_RX12, by decide, h_RX12.1, h_RX12.2⟩
theorem iX12_tries : iMi mX12_tries := ⟨List.mem_filter.mpr ⟨List.mem_of_getElem? (i := 1921) (by decide +kernel), by decide +kernel⟩, List.mem_filter.mpr ⟨List.mem_of_getElem? (i := 94) (by decide +kernel), by decide +kernel⟩⟩
theorem nX12_tries : iNp mX12_tries 0 := by unfold iNp; decide +kernel
set_option maxRecDepth 100000 in
theorem kX12_recalls : iMk mX12_recalls := ⟨List.mem_filter.mpr ⟨List.mem_of_getElem? (i := 1926) rfl, rfl⟩, w_RX12, by decide, h_RX12.1, h_RX12.2⟩
theorem iX12_recalls : iMi mX12_recalls := ⟨List.mem_filter.mpr ⟨List.mem_of_getElem? (i := 1925) (by decide +kernel), by decide +kernel⟩, List.mem_filter.mpr ⟨List.mem_of_getElem? (i := 95) (by decide +kernel), by decide +kernel⟩⟩
theorem nX12_recalls : iNp mX12_recalls 0 := by unfold iNp; decide +kernel
set_option maxRecDepth 100000 in
theorem kX12_plan : iMk mX12_plan := ⟨List.mem_filter.mpr ⟨List.mem_of_getElem? (i := 1930) rfl, rfl⟩, w_RX12, by decide, h_RX12.1, h_RX12.2⟩
theorem iX12_plan : iMi mX12_plan := ⟨List.mem_filter.mpr ⟨List.mem_of_getElem? (i := 1928) (by decide +kernel), by decide +kernel⟩, List.mem_filter.mpr ⟨List.mem_of_getElem? (i := 1929) (by decide +kernel), by decide +kernel⟩⟩
theorem nX12_plan : iNp mX12_plan 1 := by unfold iNp; decide +kernel
set_option maxRecDepth 100000 in
theorem kX12_floorFor : iMk mX12_floorFor := ⟨List.mem_filter.mpr ⟨List.mem_of_getElem? (i := 1934) rfl, rfl⟩, w_RX12, by decide, h_RX12.1, h_RX12.2⟩
theorem iX12_floorFor : iMi mX12_floorFor := ⟨List.mem_filter.mpr ⟨List.mem_of_getElem? (i := 1933) (by decide +kernel), by decide +kernel⟩, List.mem_filter.mpr ⟨List.mem_of_getElem? (i := 96) (by decide +kernel), by decide +kernel⟩⟩
theorem nX12_floorFor : iNp mX12_floorFor 1 := by unfold iNp; decide +kernel
set_option maxRecDepth 100000 in
theorem kX12_power : iMk mX12_power := ⟨List.mem_filter.mpr ⟨List.mem_of_getElem? (i := 1937) rfl, rfl⟩, w_RX12, by decide, h_RX12.1, h_RX12.2⟩
theorem sX12_power : Cond.static yX12_power ∈ igt := List.mem_filter.mpr ⟨List.mem_of_getElem? (i := 1936) (by decide +kernel), by decide +kernel⟩
theorem nX12_power : iNp mX12_power 2 := by unfold iNp; decide +kernel
set_option maxRecDepth 100000 in
theorem kX12_passedBy : iMk mX12_passedBy := ⟨List.mem_filter.mpr ⟨List.mem_of_getElem? (i := 1941) rfl, rfl⟩, w_RX12, by decide, h_RX12.1, h_RX12.2⟩
theorem iX12_passedBy : iMi mX12_passedBy := ⟨List.mem_filter.mpr ⟨List.mem_of_getElem? (i := 1940) (by decide +kernel), by decide +kernel⟩, List.mem_filter.mpr ⟨List.mem_of_getElem? (i := 97) (by decide +kernel), by decide +kernel⟩⟩
theorem nX12_passedBy : iNp mX12_passedBy 3 := by unfold iNp; decide +kernel
set_option maxRecDepth 100000 in
theorem kX12_digit : iMk mX12_digit := ⟨List.mem_filter.mpr ⟨List.mem_of_getElem? (i := 1944) rfl, rfl⟩, w_RX12, by decide, h_RX12.1, h_RX12.2⟩
theorem sX12_digit : Cond.static yX12_digit ∈ igt := List.mem_filter.mpr ⟨List.mem_of_getElem? (i := 1943) (by decide +kernel), by decide +kernel⟩
theorem nX12_digit : iNp mX12_digit 4 := by unfold iNp; decide +kernel
set_option maxRecDepth 100000 in
theorem kX12_bits : iMk mX12_bits := ⟨List.mem_filter.mpr ⟨List.mem_of_getElem? (i := 1947) rfl, rfl⟩, w_RX12, by decide, h_RX12.1, h_RX12.2⟩
theorem sX12_bits : Cond.static yX12_bits ∈ igt := List.mem_filter.mpr ⟨List.mem_of_getElem? (i := 1946) (by decide +kernel), by decide +kernel⟩
theorem nX12_bits : iNp mX12_bits 1 := by unfold iNp; decide +kernel
set_option maxRecDepth 100000 in
theorem kX12_planAt : iMk mX12_planAt := ⟨List.mem_filter.mpr ⟨List.mem_of_getElem? (i := 1952) rfl, rfl⟩, w_RX12, by decide, h_RX12.1, h_RX12.2⟩
theorem iX12_planAt : iMi mX12_planAt := ⟨List.mem_filter.mpr ⟨List.mem_of_getElem? (i := 1950) (by decide +kernel), by decide +kernel⟩, List.mem_filter.mpr ⟨List.mem_of_getElem? (i := 1951) (by decide +kernel), by decide +kernel⟩⟩
theorem nX12_planAt : iNp mX12_planAt 1 := by unfold iNp; decide +kernel
set_option maxRecDepth 100000 in
theorem kX12_passes : iMk mX12_passes := ⟨List.mem_filter.mpr ⟨List.mem_of_getElem? (i := 1956) rfl, rfl⟩, w_RX12, by decide, h_RX12.1, h_RX12.2⟩
theorem iX12_passes : iMi mX12_passes := ⟨List.mem_filter.mpr ⟨List.mem_of_getElem? (i := 1954) (by decide +kernel), by decide +kernel⟩, List.mem_filter.mpr ⟨List.mem_of_getElem? (i := 1955) (by decide +kernel), by decide +kernel⟩⟩
theorem nX12_passes : iNp mX12_passes 0 := by unfold iNp; decide +kernel
set_option maxRecDepth 100000 in
theorem kX12_been : iMk mX12_been := ⟨List.mem_filter.mpr ⟨List.mem_of_getElem? (i := 1960) rfl, rfl⟩, w_RX12, by decide, h_RX12.1, h_RX12.2⟩
theorem iX12_been : iMi mX12_been := ⟨List.mem_filter.mpr ⟨List.mem_of_getElem? (i := 1958) (by decide +kernel), by decide +kernel⟩, List.mem_filter.mpr ⟨List.mem_of_getElem? (i := 1959) (by decide +kernel), by decide +kernel⟩⟩
theorem nX12_been : iNp mX12_been 1 := by unfold iNp; decide +kernel
set_option maxRecDepth 100000 in
theorem kX12_isBeen : iMk mX12_isBeen := ⟨List.mem_filter.mpr ⟨List.mem_of_getElem? (i := 1964) rfl, rfl⟩, w_RX12, by decide, h_RX12.1, h_RX12.2⟩
theorem iX12_isBeen : iMi mX12_isBeen := ⟨List.mem_filter.mpr ⟨List.mem_of_getElem? (i := 1963) (by decide +kernel), by decide +kernel⟩, List.mem_filter.mpr ⟨List.mem_of_getElem? (i := 98) (by decide +kernel), by decide +kernel⟩⟩
theorem nX12_isBeen : iNp mX12_isBeen 2 := by unfold iNp; decide +kernel
set_option maxRecDepth 100000 in
theorem kX12_octet : iMk mX12_octet := ⟨List.mem_filter.mpr ⟨List.mem_of_getElem? (i := 1968) rfl, rfl⟩, w_RX12, by decide, h_RX12.1, h_RX12.2⟩
theorem iX12_octet : iMi mX12_octet := ⟨List.mem_filter.mpr ⟨List.mem_of_getElem? (i := 1967) (by decide +kernel), by decide +kernel⟩, List.mem_filter.mpr ⟨List.mem_of_getElem? (i := 99) (by decide +kernel), by decide +kernel⟩⟩
theorem nX12_octet : iNp mX12_octet 1 := by unfold iNp; decide +kernel
set_option maxRecDepth 100000 in
theorem kX12_leftBy : iMk mX12_leftBy := ⟨List.mem_filter.mpr ⟨List.mem_of_getElem? (i := 1972) rfl, rfl⟩, w_RX12, by decide, h_RX12.1, h_RX12.2⟩
theorem iX12_leftBy : iMi mX12_leftBy := ⟨List.mem_filter.mpr ⟨List.mem_of_getElem? (i := 1971) (by decide +kernel), by decide +kernel⟩, List.mem_filter.mpr ⟨List.mem_of_getElem? (i := 100) (by decide +kernel), by decide +kernel⟩⟩
theorem nX12_leftBy : iNp mX12_leftBy 2 := by unfold iNp; decide +kernel
set_option maxRecDepth 100000 in
theorem kX12_greater : iMk mX12_greater := ⟨List.mem_filter.mpr ⟨List.mem_of_getElem? (i := 1975) rfl, rfl⟩, w_RX12, by decide, h_RX12.1, h_RX12.2⟩
theorem sX12_greater : Cond.static yX12_greater ∈ igt := List.mem_filter.mpr ⟨List.mem_of_getElem? (i := 1974) (by decide +kernel), by decide +kernel⟩
theorem nX12_greater : iNp mX12_greater 2 := by unfold iNp; decide +kernel
set_option maxRecDepth 100000 in
theorem kX12_beenAt : iMk mX12_beenAt := ⟨List.mem_filter.mpr ⟨List.mem_of_getElem? (i := 1979) rfl, rfl⟩, w_RX12, by decide, h_RX12.1, h_RX12.2⟩
theorem iX12_beenAt : iMi mX12_beenAt := ⟨List.mem_filter.mpr ⟨List.mem_of_getElem? (i := 1977) (by decide +kernel), by decide +kernel⟩, List.mem_filter.mpr ⟨List.mem_of_getElem? (i := 1978) (by decide +kernel), by decide +kernel⟩⟩
theorem nX12_beenAt : iNp mX12_beenAt 1 := by unfold iNp; decide +kernel
set_option maxRecDepth 100000 in
theorem kX12_ask : iMk mX12_ask := ⟨List.mem_filter.mpr ⟨List.mem_of_getElem? (i := 1983) rfl, rfl⟩, w_RX12, by decide, h_RX12.1, h_RX12.2⟩
theorem iX12_ask : iMi mX12_ask := ⟨List.mem_filter.mpr ⟨List.mem_of_getElem? (i := 1981) (by decide +kernel), by decide +kernel⟩, List.mem_filter.mpr ⟨List.mem_of_getElem? (i := 1982) (by decide +kernel), by decide +kernel⟩⟩
theorem nX12_ask : iNp mX12_ask 0 := by unfold iNp; decide +kernel
set_option maxRecDepth 100000 in
theorem kX12_hung : iMk mX12_hung := ⟨List.mem_filter.mpr ⟨List.mem_of_getElem? (i := 1987) rfl, rfl⟩, w_RX12, by decide, h_RX12.1, h_RX12.2⟩
theorem iX12_hung : iMi mX12_hung := ⟨List.mem_filter.mpr ⟨List.mem_of_getElem? (i := 1985) (by decide +kernel), by decide +kernel⟩, List.mem_filter.mpr ⟨List.mem_of_getElem? (i := 1986) (by decide +kernel), by decide +kernel⟩⟩
theorem nX12_hung : iNp mX12_hung 1 := by unfold iNp; decide +kernel
set_option maxRecDepth 100000 in
theorem kX12_hanging : iMk mX12_hanging := ⟨List.mem_filter.mpr ⟨List.mem_of_getElem? (i := 1991) rfl, rfl⟩, w_RX12, by decide, h_RX12.1, h_RX12.2⟩
theorem iX12_hanging : iMi mX12_hanging := ⟨List.mem_filter.mpr ⟨List.mem_of_getElem? (i := 1989) (by decide +kernel), by decide +kernel⟩, List.mem_filter.mpr ⟨List.mem_of_getElem? (i := 1990) (by decide +kernel), by decide +kernel⟩⟩
theorem nX12_hanging : iNp mX12_hanging 0 := by unfold iNp; decide +kernel
set_option maxRecDepth 100000 in
theorem kX12_holds : iMk mX12_holds := ⟨List.mem_filter.mpr ⟨List.mem_of_getElem? (i := 1995) rfl, rfl⟩, w_RX12, by decide, h_RX12.1, h_RX12.2⟩
theorem iX12_holds : iMi mX12_holds := ⟨List.mem_filter.mpr ⟨List.mem_of_getElem? (i := 1993) (by decide +kernel), by decide +kernel⟩, List.mem_filter.mpr ⟨List.mem_of_getElem? (i := 1994) (by decide +kernel), by decide +kernel⟩⟩
theorem nX12_holds : iNp mX12_holds 2 := by unfold iNp; decide +kernel
set_option maxRecDepth 100000 in
theorem kX12_web : iMk mX12_web := ⟨List.mem_filter.mpr ⟨List.mem_of_getElem? (i := 1999) rfl, rfl⟩, w_RX12, by decide, h_RX12.1, h_RX12.2⟩
theorem iX12_web : iMi mX12_web := ⟨List.mem_filter.mpr ⟨List.mem_of_getElem? (i := 1997) (by decide +kernel), by decide +kernel⟩, List.mem_filter.mpr ⟨List.mem_of_getElem? (i := 1998) (by decide +kernel), by decide +kernel⟩⟩
theorem nX12_web : iNp mX12_web 1 := by unfold iNp; decide +kernel
set_option maxRecDepth 100000 in
theorem kX12_bargain : iMk mX12_bargain := ⟨List.mem_filter.mpr ⟨List.mem_of_getElem? (i := 2003) rfl, rfl⟩, w_RX12, by decide, h_RX12.1, h_RX12.2⟩
theorem iX12_bargain : iMi mX12_bargain := ⟨List.mem_filter.mpr ⟨List.mem_of_getElem? (i := 2001) (by decide +kernel), by decide +kernel⟩, List.mem_filter.mpr ⟨List.mem_of_getElem? (i := 2002) (by decide +kernel), by decide +kernel⟩⟩
theorem nX12_bargain : iNp mX12_bargain 0 := by unfold iNp; decide +kernel
set_option maxRecDepth 100000 in
theorem kX12_asks : iMk mX12_asks := ⟨List.mem_filter.mpr ⟨List.mem_of_getElem? (i := 2007) rfl, rfl⟩, w_RX12, by decide, h_RX12.1, h_RX12.2⟩
theorem iX12_asks : iMi mX12_asks := ⟨List.mem_filter.mpr ⟨List.mem_of_getElem? (i := 2006) (by decide +kernel), by decide +kernel⟩, List.mem_filter.mpr ⟨List.mem_of_getElem? (i := 101) (by decide +kernel), by decide +kernel⟩⟩
theorem nX12_asks : iNp mX12_asks 1 := by unfold iNp; decide +kernel
set_option maxRecDepth 100000 in
theorem kX12_likesFloor : iMk mX12_likesFloor := ⟨List.mem_filter.mpr ⟨List.mem_of_getElem? (i := 2011) rfl, rfl⟩, w_RX12, by decide, h_RX12.1, h_RX12.2⟩
theorem iX12_likesFloor : iMi mX12_likesFloor := ⟨List.mem_filter.mpr ⟨List.mem_of_getElem? (i := 2010) (by decide +kernel), by decide +kernel⟩, List.mem_filter.mpr ⟨List.mem_of_getElem? (i := 102) (by decide +kernel), by decide +kernel⟩⟩
theorem nX12_likesFloor : iNp mX12_likesFloor 2 := by unfold iNp; decide +kernel
set_option maxRecDepth 100000 in
theorem kX12_holderOf : iMk mX12_holderOf := ⟨List.mem_filter.mpr ⟨List.mem_of_getElem? (i := 2015) rfl, rfl⟩, w_RX12, by decide, h_RX12.1, h_RX12.2⟩
theorem iX12_holderOf : iMi mX12_holderOf := ⟨List.mem_filter.mpr ⟨List.mem_of_getElem? (i := 2014) (by decide +kernel), by decide +kernel⟩, List.mem_filter.mpr ⟨List.mem_of_getElem? (i := 103) (by decide +kernel), by decide +kernel⟩⟩
theorem nX12_holderOf : iNp mX12_holderOf 1 := by unfold iNp; decide +kernel
set_option maxRecDepth 100000 in
theorem kX12_likesChild : iMk mX12_likesChild := ⟨List.mem_filter.mpr ⟨List.mem_of_getElem? (i := 2019) rfl, rfl⟩, w_RX12, by decide, h_RX12.1, h_RX12.2⟩
theorem iX12_likesChild : iMi mX12_likesChild := ⟨List.mem_filter.mpr ⟨List.mem_of_getElem? (i := 2018) (by decide +kernel), by decide +kernel⟩, List.mem_filter.mpr ⟨List.mem_of_getElem? (i := 104) (by decide +kernel), by decide +kernel⟩⟩
theorem nX12_likesChild : iNp mX12_likesChild 2 := by unfold iNp; decide +kernel
set_option maxRecDepth 100000 in
theorem kX12_bargained : iMk mX12_bargained := ⟨List.mem_filter.mpr ⟨List.mem_of_getElem? (i := 2023) rfl, rfl⟩, w_RX12, by decide, h_RX12.1, h_RX12.2⟩
theorem iX12_bargained : iMi mX12_bargained := ⟨List.mem_filter.mpr ⟨List.mem_of_getElem? (i := 2021) (by decide +kernel), by decide +kernel⟩, List.mem_filter.mpr ⟨List.mem_of_getElem? (i := 2022) (by decide +kernel), by decide +kernel⟩⟩
theorem nX12_bargained : iNp mX12_bargained 1 := by unfold iNp; decide +kernel
set_option maxRecDepth 100000 in
theorem kX12_cover : iMk mX12_cover := ⟨List.mem_filter.mpr ⟨List.mem_of_getElem? (i := 2027) rfl, rfl⟩, w_RX12, by decide, h_RX12.1, h_RX12.2⟩
theorem iX12_cover : iMi mX12_cover := ⟨List.mem_filter.mpr ⟨List.mem_of_getElem? (i := 2025) (by decide +kernel), by decide +kernel⟩, List.mem_filter.mpr ⟨List.mem_of_getElem? (i := 2026) (by decide +kernel), by decide +kernel⟩⟩
theorem nX12_cover : iNp mX12_cover 1 := by unfold iNp; decide +kernel
set_option maxRecDepth 100000 in
theorem kX12_spells : iMk mX12_spells := ⟨List.mem_filter.mpr ⟨List.mem_of_getElem? (i := 2031) rfl, rfl⟩, w_RX12, by decide, h_RX12.1, h_RX12.2⟩
theorem iX12_spells : iMi mX12_spells := ⟨List.mem_filter.mpr ⟨List.mem_of_getElem? (i := 2030) (by decide +kernel), by decide +kernel⟩, List.mem_filter.mpr ⟨List.mem_of_getElem? (i := 105) (by decide +kernel), by decide +kernel⟩⟩
theorem nX12_spells : iNp mX12_spells 1 := by unfold iNp; decide +kernel
set_option maxRecDepth 100000 in
theorem kX12_lays : iMk mX12_lays := ⟨List.mem_filter.mpr ⟨List.mem_of_getElem? (i := 2036) rfl, rfl⟩, w_RX12, by decide, h_RX12.1, h_RX12.2⟩
theorem iX12_lays : iMi mX12_lays := ⟨List.mem_filter.mpr ⟨List.mem_of_getElem? (i := 2035) (by decide +kernel), by decide +kernel⟩, List.mem_filter.mpr ⟨List.mem_of_getElem? (i := 106) (by decide +kernel), by decide +kernel⟩⟩
theorem nX12_lays : iNp mX12_lays 1 := by unfold iNp; decide +kernel
set_option maxRecDepth 100000 in
theorem kX12_says : iMk mX12_says := ⟨List.mem_filter.mpr ⟨List.mem_of_getElem? (i := 2040) rfl, rfl⟩, w_RX12, by decide, h_RX12.1, h_RX12.2⟩
theorem iX12_says : iMi mX12_says := ⟨List.mem_filter.mpr ⟨List.mem_of_getElem? (i := 2039) (by decide +kernel), by decide +kernel⟩, List.mem_filter.mpr ⟨List.mem_of_getElem? (i := 107) (by decide +kernel), by decide +kernel⟩⟩
theorem nX12_says : iNp mX12_says 1 := by unfold iNp; decide +kernel
set_option maxRecDepth 100000 in
theorem kX12_byteAt : iMk mX12_byteAt := ⟨List.mem_filter.mpr ⟨List.mem_of_getElem? (i := 2045) rfl, rfl⟩, w_RX12, by decide, h_RX12.1, h_RX12.2⟩
theorem iX12_byteAt : iMi mX12_byteAt := ⟨List.mem_filter.mpr ⟨List.mem_of_getElem? (i := 2043) (by decide +kernel), by decide +kernel⟩, List.mem_filter.mpr ⟨List.mem_of_getElem? (i := 2044) (by decide +kernel), by decide +kernel⟩⟩
theorem nX12_byteAt : iNp mX12_byteAt 1 := by unfold iNp; decide +kernel
set_option maxRecDepth 100000 in
theorem kX12_drawn : iMk mX12_drawn := ⟨List.mem_filter.mpr ⟨List.mem_of_getElem? (i := 2049) rfl, rfl⟩, w_RX12, by decide, h_RX12.1, h_RX12.2⟩
theorem iX12_drawn : iMi mX12_drawn := ⟨List.mem_filter.mpr ⟨List.mem_of_getElem? (i := 2047) (by decide +kernel), by decide +kernel⟩, List.mem_filter.mpr ⟨List.mem_of_getElem? (i := 2048) (by decide +kernel), by decide +kernel⟩⟩
theorem nX12_drawn : iNp mX12_drawn 2 := by unfold iNp; decide +kernel
set_option maxRecDepth 100000 in
theorem kX12_draws : iMk mX12_draws := ⟨List.mem_filter.mpr ⟨List.mem_of_getElem? (i := 2053) rfl, rfl⟩, w_RX12, by decide, h_RX12.1, h_RX12.2⟩
theorem iX12_draws : iMi mX12_draws := ⟨List.mem_filter.mpr ⟨List.mem_of_getElem? (i := 2052) (by decide +kernel), by decide +kernel⟩, List.mem_filter.mpr ⟨List.mem_of_getElem? (i := 108) (by decide +kernel), by decide +kernel⟩⟩
theorem nX12_draws : iNp mX12_draws 2 := by unfold iNp; decide +kernel
set_option maxRecDepth 100000 in
theorem kX12_draw : iMk mX12_draw := ⟨List.mem_filter.mpr ⟨List.mem_of_getElem? (i := 2057) rfl, rfl⟩, w_RX12, by decide, h_RX12.1, h_RX12.2⟩
theorem iX12_draw : iMi mX12_draw := ⟨List.mem_filter.mpr ⟨List.mem_of_getElem? (i := 2056) (by decide +kernel), by decide +kernel⟩, List.mem_filter.mpr ⟨List.mem_of_getElem? (i := 109) (by decide +kernel), by decide +kernel⟩⟩
theorem nX12_draw : iNp mX12_draw 1 := by unfold iNp; decide +kernel
set_option maxRecDepth 100000 in
theorem kX12_odds : iMk mX12_odds := ⟨List.mem_filter.mpr ⟨List.mem_of_getElem? (i := 2062) rfl, rfl⟩, w_RX12, by decide, h_RX12.1, h_RX12.2⟩
theorem iX12_odds : iMi mX12_odds := ⟨List.mem_filter.mpr ⟨List.mem_of_getElem? (i := 2060) (by decide +kernel), by decide +kernel⟩, List.mem_filter.mpr ⟨List.mem_of_getElem? (i := 2061) (by decide +kernel), by decide +kernel⟩⟩
theorem nX12_odds : iNp mX12_odds 3 := by unfold iNp; decide +kernel
set_option maxRecDepth 100000 in
theorem kX12_book : iMk mX12_book := ⟨List.mem_filter.mpr ⟨List.mem_of_getElem? (i := 2066) rfl, rfl⟩, w_RX12, by decide, h_RX12.1, h_RX12.2⟩
theorem iX12_book : iMi mX12_book := ⟨List.mem_filter.mpr ⟨List.mem_of_getElem? (i := 2064) (by decide +kernel), by decide +kernel⟩, List.mem_filter.mpr ⟨List.mem_of_getElem? (i := 2065) (by decide +kernel), by decide +kernel⟩⟩
theorem nX12_book : iNp mX12_book 1 := by unfold iNp; decide +kernel
set_option maxRecDepth 100000 in
theorem kX12_bookLine : iMk mX12_bookLine := ⟨List.mem_filter.mpr ⟨List.mem_of_getElem? (i := 2070) rfl, rfl⟩, w_RX12, by decide, h_RX12.1, h_RX12.2⟩
theorem iX12_bookLine : iMi mX12_bookLine := ⟨List.mem_filter.mpr ⟨List.mem_of_getElem? (i := 2069) (by decide +kernel), by decide +kernel⟩, List.mem_filter.mpr ⟨List.mem_of_getElem? (i := 110) (by decide +kernel), by decide +kernel⟩⟩
theorem nX12_bookLine : iNp mX12_bookLine 0 := by unfold iNp; decide +kernel
set_option maxRecDepth 100000 in
theorem kX12_takesTo : iMk mX12_takesTo := ⟨List.mem_filter.mpr ⟨List.mem_of_getElem? (i := 2074) rfl, rfl⟩, w_RX12, by decide, h_RX12.1, h_RX12.2⟩
theorem iX12_takesTo : iMi mX12_takesTo := ⟨List.mem_filter.mpr ⟨List.mem_of_getElem? (i := 2073) (by decide +kernel), by decide +kernel⟩, List.mem_filter.mpr ⟨List.mem_of_getElem? (i := 111) (by decide +kernel), by decide +kernel⟩⟩
theorem nX12_takesTo : iNp mX12_takesTo 0 := by unfold iNp; decide +kernel
set_option maxRecDepth 100000 in
theorem kX12_does : iMk mX12_does := ⟨List.mem_filter.mpr ⟨List.mem_of_getElem? (i := 2078) rfl, rfl⟩, w_RX12, by decide, h_RX12.1, h_RX12.2⟩
theorem iX12_does : iMi mX12_does := ⟨List.mem_filter.mpr ⟨List.mem_of_getElem? (i := 2077) (by decide +kernel), by decide +kernel⟩, List.mem_filter.mpr ⟨List.mem_of_getElem? (i := 112) (by decide +kernel), by decide +kernel⟩⟩
theorem nX12_does : iNp mX12_does 3 := by unfold iNp; decide +kernel
set_option maxRecDepth 100000 in
theorem kX12_told : iMk mX12_told := ⟨List.mem_filter.mpr ⟨List.mem_of_getElem? (i := 2082) rfl, rfl⟩, w_RX12, by decide, h_RX12.1, h_RX12.2⟩
theorem iX12_told : iMi mX12_told := ⟨List.mem_filter.mpr ⟨List.mem_of_getElem? (i := 2080) (by decide +kernel), by decide +kernel⟩, List.mem_filter.mpr ⟨List.mem_of_getElem? (i := 2081) (by decide +kernel), by decide +kernel⟩⟩
theorem nX12_told : iNp mX12_told 1 := by unfold iNp; decide +kernel
set_option maxRecDepth 100000 in
theorem kX12_sentence : iMk mX12_sentence := ⟨List.mem_filter.mpr ⟨List.mem_of_getElem? (i := 2086) rfl, rfl⟩, w_RX12, by decide, h_RX12.1, h_RX12.2⟩
theorem iX12_sentence : iMi mX12_sentence := ⟨List.mem_filter.mpr ⟨List.mem_of_getElem? (i := 2084) (by decide +kernel), by decide +kernel⟩, List.mem_filter.mpr ⟨List.mem_of_getElem? (i := 2085) (by decide +kernel), by decide +kernel⟩⟩
theorem nX12_sentence : iNp mX12_sentence 0 := by unfold iNp; decide +kernel
set_option maxRecDepth 100000 in
theorem kX12_nots : iMk mX12_nots := ⟨List.mem_filter.mpr ⟨List.mem_of_getElem? (i := 2090) rfl, rfl⟩, w_RX12, by decide, h_RX12.1, h_RX12.2⟩
theorem iX12_nots : iMi mX12_nots := ⟨List.mem_filter.mpr ⟨List.mem_of_getElem? (i := 2089) (by decide +kernel), by decide +kernel⟩, List.mem_filter.mpr ⟨List.mem_of_getElem? (i := 113) (by decide +kernel), by decide +kernel⟩⟩
theorem nX12_nots : iNp mX12_nots 0 := by unfold iNp; decide +kernel
set_option maxRecDepth 100000 in
theorem kX12_code : iMk mX12_code := ⟨List.mem_filter.mpr ⟨List.mem_of_getElem? (i := 2094) rfl, rfl⟩, w_RX12, by decide, h_RX12.1, h_RX12.2⟩
theorem iX12_code : iMi mX12_code := ⟨List.mem_filter.mpr ⟨List.mem_of_getElem? (i := 2093) (by decide +kernel), by decide +kernel⟩, List.mem_filter.mpr ⟨List.mem_of_getElem? (i := 114) (by decide +kernel), by decide +kernel⟩⟩
theorem nX12_code : iNp mX12_code 3 := by unfold iNp; decide +kernel
set_option maxRecDepth 100000 in
theorem kX12_joins : iMk mX12_joins := ⟨List.mem_filter.mpr ⟨List.mem_of_getElem? (i := 2098) rfl, rfl⟩, w_RX12, by decide, h_RX12.1, h_RX12.2⟩
theorem iX12_joins : iMi mX12_joins := ⟨List.mem_filter.mpr ⟨List.mem_of_getElem? (i := 2097) (by decide +kernel), by decide +kernel⟩, List.mem_filter.mpr ⟨List.mem_of_getElem? (i := 115) (by decide +kernel), by decide +kernel⟩⟩
theorem nX12_joins : iNp mX12_joins 1 := by unfold iNp; decide +kernel
set_option maxRecDepth 100000 in
theorem kX12_behind : iMk mX12_behind := ⟨List.mem_filter.mpr ⟨List.mem_of_getElem? (i := 2102) rfl, rfl⟩, w_RX12, by decide, h_RX12.1, h_RX12.2⟩
theorem iX12_behind : iMi mX12_behind := ⟨List.mem_filter.mpr ⟨List.mem_of_getElem? (i := 2101) (by decide +kernel), by decide +kernel⟩, List.mem_filter.mpr ⟨List.mem_of_getElem? (i := 116) (by decide +kernel), by decide +kernel⟩⟩
theorem nX12_behind : iNp mX12_behind 0 := by unfold iNp; decide +kernel
set_option maxRecDepth 100000 in
theorem kX12_operand : iMk mX12_operand := ⟨List.mem_filter.mpr ⟨List.mem_of_getElem? (i := 2106) rfl, rfl⟩, w_RX12, by decide, h_RX12.1, h_RX12.2⟩
theorem iX12_operand : iMi mX12_operand := ⟨List.mem_filter.mpr ⟨List.mem_of_getElem? (i := 2105) (by decide +kernel), by decide +kernel⟩, List.mem_filter.mpr ⟨List.mem_of_getElem? (i := 117) (by decide +kernel), by decide +kernel⟩⟩
theorem nX12_operand : iNp mX12_operand 0 := by unfold iNp; decide +kernel
set_option maxRecDepth 100000 in
theorem kX12_leafOf : iMk mX12_leafOf := ⟨List.mem_filter.mpr ⟨List.mem_of_getElem? (i := 2110) rfl, rfl⟩, w_RX12, by decide, h_RX12.1, h_RX12.2⟩
theorem iX12_leafOf : iMi mX12_leafOf := ⟨List.mem_filter.mpr ⟨List.mem_of_getElem? (i := 2109) (by decide +kernel), by decide +kernel⟩, List.mem_filter.mpr ⟨List.mem_of_getElem? (i := 118) (by decide +kernel), by decide +kernel⟩⟩
theorem nX12_leafOf : iNp mX12_leafOf 0 := by unfold iNp; decide +kernel
set_option maxRecDepth 100000 in
theorem kX12_said : iMk mX12_said := ⟨List.mem_filter.mpr ⟨List.mem_of_getElem? (i := 2114) rfl, rfl⟩, w_RX12, by decide, h_RX12.1, h_RX12.2⟩
theorem iX12_said : iMi mX12_said := ⟨List.mem_filter.mpr ⟨List.mem_of_getElem? (i := 2112) (by decide +kernel), by decide +kernel⟩, List.mem_filter.mpr ⟨List.mem_of_getElem? (i := 2113) (by decide +kernel), by decide +kernel⟩⟩
theorem nX12_said : iNp mX12_said 1 := by unfold iNp; decide +kernel
set_option maxRecDepth 100000 in
theorem kX12_isSaid : iMk mX12_isSaid := ⟨List.mem_filter.mpr ⟨List.mem_of_getElem? (i := 2118) rfl, rfl⟩, w_RX12, by decide, h_RX12.1, h_RX12.2⟩
theorem iX12_isSaid : iMi mX12_isSaid := ⟨List.mem_filter.mpr ⟨List.mem_of_getElem? (i := 2117) (by decide +kernel), by decide +kernel⟩, List.mem_filter.mpr ⟨List.mem_of_getElem? (i := 119) (by decide +kernel), by decide +kernel⟩⟩
theorem nX12_isSaid : iNp mX12_isSaid 1 := by unfold iNp; decide +kernel
set_option maxRecDepth 100000 in
theorem kX12_isLeaf : iMk mX12_isLeaf := ⟨List.mem_filter.mpr ⟨List.mem_of_getElem? (i := 2122) rfl, rfl⟩, w_RX12, by decide, h_RX12.1, h_RX12.2⟩
theorem iX12_isLeaf : iMi mX12_isLeaf := ⟨List.mem_filter.mpr ⟨List.mem_of_getElem? (i := 2121) (by decide +kernel), by decide +kernel⟩, List.mem_filter.mpr ⟨List.mem_of_getElem? (i := 120) (by decide +kernel), by decide +kernel⟩⟩
theorem nX12_isLeaf : iNp mX12_isLeaf 4 := by unfold iNp; decide +kernel
set_option maxRecDepth 100000 in
theorem kX12_image : iMk mX12_image := ⟨List.mem_filter.mpr ⟨List.mem_of_getElem? (i := 2126) rfl, rfl⟩, w_RX12, by decide, h_RX12.1, h_RX12.2⟩
theorem iX12_image : iMi mX12_image := ⟨List.mem_filter.mpr ⟨List.mem_of_getElem? (i := 2124) (by decide +kernel), by decide +kernel⟩, List.mem_filter.mpr ⟨List.mem_of_getElem? (i := 2125) (by decide +kernel), by decide +kernel⟩⟩
theorem nX12_image : iNp mX12_image 1 := by unfold iNp; decide +kernel
set_option maxRecDepth 100000 in
theorem kX12_restore : iMk mX12_restore := ⟨List.mem_filter.mpr ⟨List.mem_of_getElem? (i := 2130) rfl, rfl⟩, w_RX12, by decide, h_RX12.1, h_RX12.2⟩
theorem iX12_restore : iMi mX12_restore := ⟨List.mem_filter.mpr ⟨List.mem_of_getElem? (i := 2128) (by decide +kernel), by decide +kernel⟩, List.mem_filter.mpr ⟨List.mem_of_getElem? (i := 2129) (by decide +kernel), by decide +kernel⟩⟩
theorem nX12_restore : iNp mX12_restore 1 := by unfold iNp; decide +kernel
set_option maxRecDepth 100000 in
theorem kX12_count : iMk mX12_count := ⟨List.mem_filter.mpr ⟨List.mem_of_getElem? (i := 2134) rfl, rfl⟩, w_RX12, by decide, h_RX12.1, h_RX12.2⟩
theorem iX12_count : iMi mX12_count := ⟨List.mem_filter.mpr ⟨List.mem_of_getElem? (i := 2132) (by decide +kernel), by decide +kernel⟩, List.mem_filter.mpr ⟨List.mem_of_getElem? (i := 2133) (by decide +kernel), by decide +kernel⟩⟩
theorem nX12_count : iNp mX12_count 1 := by unfold iNp; decide +kernel
