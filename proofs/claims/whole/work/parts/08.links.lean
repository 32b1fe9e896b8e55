theorem o_RL_8 : Cond.classLink RL 8 RX11 ∈ igt := List.mem_filter.mpr ⟨List.mem_of_getElem? (i := 148) (by decide +kernel), by decide +kernel⟩
theorem v_RX11 : Cond.instantiable RX11 19 ∈ igt := List.mem_filter.mpr ⟨List.mem_of_getElem? (i := 149) (by decide +kernel), by decide +kernel⟩
theorem l_RL_15 : Cond.methodLink RL 15 yX11_init ∈ igt := List.mem_filter.mpr ⟨List.mem_of_getElem? (i := 150) (by decide +kernel), by decide +kernel⟩
theorem l_RX11_1 : Cond.methodLink RX11 1 objectInit ∈ igt := List.mem_filter.mpr ⟨List.mem_of_getElem? (i := 153) (by decide +kernel), by decide +kernel⟩
theorem o_RX11_17 : Cond.classLink RX11 17 RX5 ∈ igt := List.mem_filter.mpr ⟨List.mem_of_getElem? (i := 156) (by decide +kernel), by decide +kernel⟩
theorem v_RX5 : Cond.instantiable RX5 9 ∈ igt := List.mem_filter.mpr ⟨List.mem_of_getElem? (i := 157) (by decide +kernel), by decide +kernel⟩
theorem l_RX5_3 : Cond.methodLink RX5 3 objectInit ∈ igt := List.mem_filter.mpr ⟨List.mem_of_getElem? (i := 161) (by decide +kernel), by decide +kernel⟩
theorem o_RX5_22 : Cond.classLink RX5 22 RX10 ∈ igt := List.mem_filter.mpr ⟨List.mem_of_getElem? (i := 162) (by decide +kernel), by decide +kernel⟩
theorem f_RX5_9 : iFd RX5 9 5 0 := ⟨_, rfl, by decide, List.mem_filter.mpr ⟨List.mem_of_getElem? (i := 164) (by decide +kernel), by decide +kernel⟩⟩
theorem f_RX5_15 : iFd RX5 15 5 1 := ⟨_, rfl, by decide, List.mem_filter.mpr ⟨List.mem_of_getElem? (i := 165) (by decide +kernel), by decide +kernel⟩⟩
theorem f_RX5_18 : iFd RX5 18 5 2 := ⟨_, rfl, by decide, List.mem_filter.mpr ⟨List.mem_of_getElem? (i := 166) (by decide +kernel), by decide +kernel⟩⟩
theorem f_RX5_24 : iFd RX5 24 5 3 := ⟨_, rfl, by decide, List.mem_filter.mpr ⟨List.mem_of_getElem? (i := 167) (by decide +kernel), by decide +kernel⟩⟩
theorem f_RX5_28 : iFd RX5 28 5 4 := ⟨_, rfl, by decide, List.mem_filter.mpr ⟨List.mem_of_getElem? (i := 168) (by decide +kernel), by decide +kernel⟩⟩
theorem f_RX5_32 : iFd RX5 32 5 5 := ⟨_, rfl, by decide, List.mem_filter.mpr ⟨List.mem_of_getElem? (i := 169) (by decide +kernel), by decide +kernel⟩⟩
theorem f_RX5_41 : iFd RX5 41 5 6 := ⟨_, rfl, by decide, List.mem_filter.mpr ⟨List.mem_of_getElem? (i := 170) (by decide +kernel), by decide +kernel⟩⟩
theorem f_RX5_35 : iFd RX5 35 5 7 := ⟨_, rfl, by decide, List.mem_filter.mpr ⟨List.mem_of_getElem? (i := 171) (by decide +kernel), by decide +kernel⟩⟩
theorem f_RX11_123 : iFd RX11 123 5 7 := ⟨_, rfl, by decide, List.mem_filter.mpr ⟨List.mem_of_getElem? (i := 172) (by decide +kernel), by decide +kernel⟩⟩
theorem f_RX5_38 : iFd RX5 38 5 8 := ⟨_, rfl, by decide, List.mem_filter.mpr ⟨List.mem_of_getElem? (i := 173) (by decide +kernel), by decide +kernel⟩⟩
theorem f_RX11_128 : iFd RX11 128 5 8 := ⟨_, rfl, by decide, List.mem_filter.mpr ⟨List.mem_of_getElem? (i := 174) (by decide +kernel), by decide +kernel⟩⟩
theorem ac_int : Cond.arrayClass .int ∈ igt := List.mem_filter.mpr ⟨List.mem_of_getElem? (i := 194) (by decide +kernel), by decide +kernel⟩
theorem ac_long : Cond.arrayClass .long ∈ igt := List.mem_filter.mpr ⟨List.mem_of_getElem? (i := 195) (by decide +kernel), by decide +kernel⟩
theorem o_RX11_27 : Cond.classLink RX11 27 RX8 ∈ igt := List.mem_filter.mpr ⟨List.mem_of_getElem? (i := 196) (by decide +kernel), by decide +kernel⟩
theorem v_RX8 : Cond.instantiable RX8 15 ∈ igt := List.mem_filter.mpr ⟨List.mem_of_getElem? (i := 197) (by decide +kernel), by decide +kernel⟩
theorem l_RX8_3 : Cond.methodLink RX8 3 objectInit ∈ igt := List.mem_filter.mpr ⟨List.mem_of_getElem? (i := 201) (by decide +kernel), by decide +kernel⟩
theorem f_RX8_9 : iFd RX8 9 8 0 := ⟨_, rfl, by decide, List.mem_filter.mpr ⟨List.mem_of_getElem? (i := 202) (by decide +kernel), by decide +kernel⟩⟩
theorem f_RX4_60 : iFd RX4 60 8 0 := ⟨_, rfl, by decide, List.mem_filter.mpr ⟨List.mem_of_getElem? (i := 203) (by decide +kernel), by decide +kernel⟩⟩
theorem f_RX9_52 : iFd RX9 52 8 0 := ⟨_, rfl, by decide, List.mem_filter.mpr ⟨List.mem_of_getElem? (i := 204) (by decide +kernel), by decide +kernel⟩⟩
theorem f_RX0_54 : iFd RX0 54 8 0 := ⟨_, rfl, by decide, List.mem_filter.mpr ⟨List.mem_of_getElem? (i := 205) (by decide +kernel), by decide +kernel⟩⟩
theorem f_RX11_145 : iFd RX11 145 8 0 := ⟨_, rfl, by decide, List.mem_filter.mpr ⟨List.mem_of_getElem? (i := 206) (by decide +kernel), by decide +kernel⟩⟩
theorem f_RX7_157 : iFd RX7 157 8 0 := ⟨_, rfl, by decide, List.mem_filter.mpr ⟨List.mem_of_getElem? (i := 207) (by decide +kernel), by decide +kernel⟩⟩
theorem f_RX8_15 : iFd RX8 15 8 1 := ⟨_, rfl, by decide, List.mem_filter.mpr ⟨List.mem_of_getElem? (i := 208) (by decide +kernel), by decide +kernel⟩⟩
theorem f_RX4_63 : iFd RX4 63 8 1 := ⟨_, rfl, by decide, List.mem_filter.mpr ⟨List.mem_of_getElem? (i := 209) (by decide +kernel), by decide +kernel⟩⟩
theorem f_RX9_57 : iFd RX9 57 8 1 := ⟨_, rfl, by decide, List.mem_filter.mpr ⟨List.mem_of_getElem? (i := 210) (by decide +kernel), by decide +kernel⟩⟩
theorem f_RX0_57 : iFd RX0 57 8 1 := ⟨_, rfl, by decide, List.mem_filter.mpr ⟨List.mem_of_getElem? (i := 211) (by decide +kernel), by decide +kernel⟩⟩
theorem f_RX11_187 : iFd RX11 187 8 1 := ⟨_, rfl, by decide, List.mem_filter.mpr ⟨List.mem_of_getElem? (i := 212) (by decide +kernel), by decide +kernel⟩⟩
theorem f_RX7_136 : iFd RX7 136 8 1 := ⟨_, rfl, by decide, List.mem_filter.mpr ⟨List.mem_of_getElem? (i := 213) (by decide +kernel), by decide +kernel⟩⟩
theorem f_RX8_19 : iFd RX8 19 8 2 := ⟨_, rfl, by decide, List.mem_filter.mpr ⟨List.mem_of_getElem? (i := 214) (by decide +kernel), by decide +kernel⟩⟩
theorem f_RX4_37 : iFd RX4 37 8 2 := ⟨_, rfl, by decide, List.mem_filter.mpr ⟨List.mem_of_getElem? (i := 215) (by decide +kernel), by decide +kernel⟩⟩
theorem f_RX9_60 : iFd RX9 60 8 2 := ⟨_, rfl, by decide, List.mem_filter.mpr ⟨List.mem_of_getElem? (i := 216) (by decide +kernel), by decide +kernel⟩⟩
theorem f_RX0_60 : iFd RX0 60 8 2 := ⟨_, rfl, by decide, List.mem_filter.mpr ⟨List.mem_of_getElem? (i := 217) (by decide +kernel), by decide +kernel⟩⟩
theorem f_RX11_190 : iFd RX11 190 8 2 := ⟨_, rfl, by decide, List.mem_filter.mpr ⟨List.mem_of_getElem? (i := 218) (by decide +kernel), by decide +kernel⟩⟩
theorem f_RX7_139 : iFd RX7 139 8 2 := ⟨_, rfl, by decide, List.mem_filter.mpr ⟨List.mem_of_getElem? (i := 219) (by decide +kernel), by decide +kernel⟩⟩
theorem f_RX8_22 : iFd RX8 22 8 3 := ⟨_, rfl, by decide, List.mem_filter.mpr ⟨List.mem_of_getElem? (i := 220) (by decide +kernel), by decide +kernel⟩⟩
theorem f_RX11_193 : iFd RX11 193 8 3 := ⟨_, rfl, by decide, List.mem_filter.mpr ⟨List.mem_of_getElem? (i := 221) (by decide +kernel), by decide +kernel⟩⟩
theorem f_RX7_142 : iFd RX7 142 8 3 := ⟨_, rfl, by decide, List.mem_filter.mpr ⟨List.mem_of_getElem? (i := 222) (by decide +kernel), by decide +kernel⟩⟩
theorem f_RX8_25 : iFd RX8 25 8 4 := ⟨_, rfl, by decide, List.mem_filter.mpr ⟨List.mem_of_getElem? (i := 223) (by decide +kernel), by decide +kernel⟩⟩
theorem f_RX11_336 : iFd RX11 336 8 4 := ⟨_, rfl, by decide, List.mem_filter.mpr ⟨List.mem_of_getElem? (i := 224) (by decide +kernel), by decide +kernel⟩⟩
theorem f_RX8_29 : iFd RX8 29 8 5 := ⟨_, rfl, by decide, List.mem_filter.mpr ⟨List.mem_of_getElem? (i := 225) (by decide +kernel), by decide +kernel⟩⟩
theorem f_RX0_31 : iFd RX0 31 8 5 := ⟨_, rfl, by decide, List.mem_filter.mpr ⟨List.mem_of_getElem? (i := 226) (by decide +kernel), by decide +kernel⟩⟩
theorem f_RX11_142 : iFd RX11 142 8 5 := ⟨_, rfl, by decide, List.mem_filter.mpr ⟨List.mem_of_getElem? (i := 227) (by decide +kernel), by decide +kernel⟩⟩
theorem f_RX7_79 : iFd RX7 79 8 5 := ⟨_, rfl, by decide, List.mem_filter.mpr ⟨List.mem_of_getElem? (i := 228) (by decide +kernel), by decide +kernel⟩⟩
theorem f_RX8_32 : iFd RX8 32 8 6 := ⟨_, rfl, by decide, List.mem_filter.mpr ⟨List.mem_of_getElem? (i := 229) (by decide +kernel), by decide +kernel⟩⟩
theorem f_RX7_52 : iFd RX7 52 8 6 := ⟨_, rfl, by decide, List.mem_filter.mpr ⟨List.mem_of_getElem? (i := 230) (by decide +kernel), by decide +kernel⟩⟩
theorem f_RX8_35 : iFd RX8 35 8 7 := ⟨_, rfl, by decide, List.mem_filter.mpr ⟨List.mem_of_getElem? (i := 231) (by decide +kernel), by decide +kernel⟩⟩
theorem f_RX11_320 : iFd RX11 320 8 7 := ⟨_, rfl, by decide, List.mem_filter.mpr ⟨List.mem_of_getElem? (i := 232) (by decide +kernel), by decide +kernel⟩⟩
theorem f_RX8_38 : iFd RX8 38 8 8 := ⟨_, rfl, by decide, List.mem_filter.mpr ⟨List.mem_of_getElem? (i := 233) (by decide +kernel), by decide +kernel⟩⟩
theorem f_RX11_148 : iFd RX11 148 8 8 := ⟨_, rfl, by decide, List.mem_filter.mpr ⟨List.mem_of_getElem? (i := 234) (by decide +kernel), by decide +kernel⟩⟩
theorem f_RX8_41 : iFd RX8 41 8 9 := ⟨_, rfl, by decide, List.mem_filter.mpr ⟨List.mem_of_getElem? (i := 235) (by decide +kernel), by decide +kernel⟩⟩
theorem f_RX11_202 : iFd RX11 202 8 9 := ⟨_, rfl, by decide, List.mem_filter.mpr ⟨List.mem_of_getElem? (i := 236) (by decide +kernel), by decide +kernel⟩⟩
theorem f_RX8_44 : iFd RX8 44 8 10 := ⟨_, rfl, by decide, List.mem_filter.mpr ⟨List.mem_of_getElem? (i := 237) (by decide +kernel), by decide +kernel⟩⟩
theorem f_RX8_47 : iFd RX8 47 8 11 := ⟨_, rfl, by decide, List.mem_filter.mpr ⟨List.mem_of_getElem? (i := 238) (by decide +kernel), by decide +kernel⟩⟩
theorem f_RX4_46 : iFd RX4 46 8 11 := ⟨_, rfl, by decide, List.mem_filter.mpr ⟨List.mem_of_getElem? (i := 239) (by decide +kernel), by decide +kernel⟩⟩
theorem f_RX7_76 : iFd RX7 76 8 11 := ⟨_, rfl, by decide, List.mem_filter.mpr ⟨List.mem_of_getElem? (i := 240) (by decide +kernel), by decide +kernel⟩⟩
theorem f_RX11_208 : iFd RX11 208 8 11 := ⟨_, rfl, by decide, List.mem_filter.mpr ⟨List.mem_of_getElem? (i := 241) (by decide +kernel), by decide +kernel⟩⟩
theorem f_RX8_50 : iFd RX8 50 8 12 := ⟨_, rfl, by decide, List.mem_filter.mpr ⟨List.mem_of_getElem? (i := 242) (by decide +kernel), by decide +kernel⟩⟩
theorem f_RX8_53 : iFd RX8 53 8 13 := ⟨_, rfl, by decide, List.mem_filter.mpr ⟨List.mem_of_getElem? (i := 243) (by decide +kernel), by decide +kernel⟩⟩
theorem f_RX7_119 : iFd RX7 119 8 13 := ⟨_, rfl, by decide, List.mem_filter.mpr ⟨List.mem_of_getElem? (i := 244) (by decide +kernel), by decide +kernel⟩⟩
theorem f_RX11_310 : iFd RX11 310 8 13 := ⟨_, rfl, by decide, List.mem_filter.mpr ⟨List.mem_of_getElem? (i := 245) (by decide +kernel), by decide +kernel⟩⟩
theorem f_RX8_56 : iFd RX8 56 8 14 := ⟨_, rfl, by decide, List.mem_filter.mpr ⟨List.mem_of_getElem? (i := 246) (by decide +kernel), by decide +kernel⟩⟩
theorem f_RX7_145 : iFd RX7 145 8 14 := ⟨_, rfl, by decide, List.mem_filter.mpr ⟨List.mem_of_getElem? (i := 247) (by decide +kernel), by decide +kernel⟩⟩
theorem f_RX11_415 : iFd RX11 415 8 14 := ⟨_, rfl, by decide, List.mem_filter.mpr ⟨List.mem_of_getElem? (i := 248) (by decide +kernel), by decide +kernel⟩⟩
theorem o_RX11_37 : Cond.classLink RX11 37 RX7 ∈ igt := List.mem_filter.mpr ⟨List.mem_of_getElem? (i := 280) (by decide +kernel), by decide +kernel⟩
theorem v_RX7 : Cond.instantiable RX7 11 ∈ igt := List.mem_filter.mpr ⟨List.mem_of_getElem? (i := 281) (by decide +kernel), by decide +kernel⟩
theorem l_RX7_3 : Cond.methodLink RX7 3 objectInit ∈ igt := List.mem_filter.mpr ⟨List.mem_of_getElem? (i := 285) (by decide +kernel), by decide +kernel⟩
theorem f_RX7_9 : iFd RX7 9 7 0 := ⟨_, rfl, by decide, List.mem_filter.mpr ⟨List.mem_of_getElem? (i := 286) (by decide +kernel), by decide +kernel⟩⟩
theorem f_RX4_53 : iFd RX4 53 7 0 := ⟨_, rfl, by decide, List.mem_filter.mpr ⟨List.mem_of_getElem? (i := 287) (by decide +kernel), by decide +kernel⟩⟩
theorem f_RX0_37 : iFd RX0 37 7 0 := ⟨_, rfl, by decide, List.mem_filter.mpr ⟨List.mem_of_getElem? (i := 288) (by decide +kernel), by decide +kernel⟩⟩
theorem f_RX6_141 : iFd RX6 141 7 0 := ⟨_, rfl, by decide, List.mem_filter.mpr ⟨List.mem_of_getElem? (i := 289) (by decide +kernel), by decide +kernel⟩⟩
theorem f_RX11_158 : iFd RX11 158 7 0 := ⟨_, rfl, by decide, List.mem_filter.mpr ⟨List.mem_of_getElem? (i := 290) (by decide +kernel), by decide +kernel⟩⟩
theorem f_RX7_15 : iFd RX7 15 7 1 := ⟨_, rfl, by decide, List.mem_filter.mpr ⟨List.mem_of_getElem? (i := 291) (by decide +kernel), by decide +kernel⟩⟩
theorem f_RX11_161 : iFd RX11 161 7 1 := ⟨_, rfl, by decide, List.mem_filter.mpr ⟨List.mem_of_getElem? (i := 292) (by decide +kernel), by decide +kernel⟩⟩
theorem f_RX6_161 : iFd RX6 161 7 1 := ⟨_, rfl, by decide, List.mem_filter.mpr ⟨List.mem_of_getElem? (i := 293) (by decide +kernel), by decide +kernel⟩⟩
theorem f_RX7_18 : iFd RX7 18 7 2 := ⟨_, rfl, by decide, List.mem_filter.mpr ⟨List.mem_of_getElem? (i := 294) (by decide +kernel), by decide +kernel⟩⟩
theorem f_RX11_164 : iFd RX11 164 7 2 := ⟨_, rfl, by decide, List.mem_filter.mpr ⟨List.mem_of_getElem? (i := 295) (by decide +kernel), by decide +kernel⟩⟩
theorem f_RX7_21 : iFd RX7 21 7 3 := ⟨_, rfl, by decide, List.mem_filter.mpr ⟨List.mem_of_getElem? (i := 296) (by decide +kernel), by decide +kernel⟩⟩
theorem f_RX11_167 : iFd RX11 167 7 3 := ⟨_, rfl, by decide, List.mem_filter.mpr ⟨List.mem_of_getElem? (i := 297) (by decide +kernel), by decide +kernel⟩⟩
theorem f_RX6_164 : iFd RX6 164 7 3 := ⟨_, rfl, by decide, List.mem_filter.mpr ⟨List.mem_of_getElem? (i := 298) (by decide +kernel), by decide +kernel⟩⟩
theorem f_RX7_24 : iFd RX7 24 7 4 := ⟨_, rfl, by decide, List.mem_filter.mpr ⟨List.mem_of_getElem? (i := 299) (by decide +kernel), by decide +kernel⟩⟩
theorem f_RX11_170 : iFd RX11 170 7 4 := ⟨_, rfl, by decide, List.mem_filter.mpr ⟨List.mem_of_getElem? (i := 300) (by decide +kernel), by decide +kernel⟩⟩
theorem f_RX6_167 : iFd RX6 167 7 4 := ⟨_, rfl, by decide, List.mem_filter.mpr ⟨List.mem_of_getElem? (i := 301) (by decide +kernel), by decide +kernel⟩⟩
theorem f_RX7_27 : iFd RX7 27 7 5 := ⟨_, rfl, by decide, List.mem_filter.mpr ⟨List.mem_of_getElem? (i := 302) (by decide +kernel), by decide +kernel⟩⟩
theorem f_RX7_30 : iFd RX7 30 7 6 := ⟨_, rfl, by decide, List.mem_filter.mpr ⟨List.mem_of_getElem? (i := 303) (by decide +kernel), by decide +kernel⟩⟩
theorem f_RX7_34 : iFd RX7 34 7 7 := ⟨_, rfl, by decide, List.mem_filter.mpr ⟨List.mem_of_getElem? (i := 304) (by decide +kernel), by decide +kernel⟩⟩
theorem f_RX11_214 : iFd RX11 214 7 7 := ⟨_, rfl, by decide, List.mem_filter.mpr ⟨List.mem_of_getElem? (i := 305) (by decide +kernel), by decide +kernel⟩⟩
theorem f_RX7_37 : iFd RX7 37 7 8 := ⟨_, rfl, by decide, List.mem_filter.mpr ⟨List.mem_of_getElem? (i := 306) (by decide +kernel), by decide +kernel⟩⟩
theorem f_RX11_217 : iFd RX11 217 7 8 := ⟨_, rfl, by decide, List.mem_filter.mpr ⟨List.mem_of_getElem? (i := 307) (by decide +kernel), by decide +kernel⟩⟩
theorem f_RX7_40 : iFd RX7 40 7 9 := ⟨_, rfl, by decide, List.mem_filter.mpr ⟨List.mem_of_getElem? (i := 308) (by decide +kernel), by decide +kernel⟩⟩
theorem f_RX11_233 : iFd RX11 233 7 9 := ⟨_, rfl, by decide, List.mem_filter.mpr ⟨List.mem_of_getElem? (i := 309) (by decide +kernel), by decide +kernel⟩⟩
theorem f_RX7_43 : iFd RX7 43 7 10 := ⟨_, rfl, by decide, List.mem_filter.mpr ⟨List.mem_of_getElem? (i := 310) (by decide +kernel), by decide +kernel⟩⟩
theorem f_RX1_122 : iFd RX1 122 7 10 := ⟨_, rfl, by decide, List.mem_filter.mpr ⟨List.mem_of_getElem? (i := 311) (by decide +kernel), by decide +kernel⟩⟩
theorem f_RX11_211 : iFd RX11 211 7 10 := ⟨_, rfl, by decide, List.mem_filter.mpr ⟨List.mem_of_getElem? (i := 312) (by decide +kernel), by decide +kernel⟩⟩
theorem o_RX11_47 : Cond.classLink RX11 47 RX6 ∈ igt := List.mem_filter.mpr ⟨List.mem_of_getElem? (i := 336) (by decide +kernel), by decide +kernel⟩
theorem v_RX6 : Cond.instantiable RX6 6 ∈ igt := List.mem_filter.mpr ⟨List.mem_of_getElem? (i := 337) (by decide +kernel), by decide +kernel⟩
theorem l_RX6_5 : Cond.methodLink RX6 5 objectInit ∈ igt := List.mem_filter.mpr ⟨List.mem_of_getElem? (i := 341) (by decide +kernel), by decide +kernel⟩
theorem f_RX6_11 : iFd RX6 11 6 0 := ⟨_, rfl, by decide, List.mem_filter.mpr ⟨List.mem_of_getElem? (i := 342) (by decide +kernel), by decide +kernel⟩⟩
theorem f_RX6_15 : iFd RX6 15 6 1 := ⟨_, rfl, by decide, List.mem_filter.mpr ⟨List.mem_of_getElem? (i := 343) (by decide +kernel), by decide +kernel⟩⟩
theorem f_RX6_18 : iFd RX6 18 6 2 := ⟨_, rfl, by decide, List.mem_filter.mpr ⟨List.mem_of_getElem? (i := 344) (by decide +kernel), by decide +kernel⟩⟩
theorem f_RX6_21 : iFd RX6 21 6 3 := ⟨_, rfl, by decide, List.mem_filter.mpr ⟨List.mem_of_getElem? (i := 345) (by decide +kernel), by decide +kernel⟩⟩
theorem f_RX6_24 : iFd RX6 24 6 4 := ⟨_, rfl, by decide, List.mem_filter.mpr ⟨List.mem_of_getElem? (i := 346) (by decide +kernel), by decide +kernel⟩⟩
theorem f_RX11_399 : iFd RX11 399 6 4 := ⟨_, rfl, by decide, List.mem_filter.mpr ⟨List.mem_of_getElem? (i := 347) (by decide +kernel), by decide +kernel⟩⟩
theorem f_RX6_28 : iFd RX6 28 6 5 := ⟨_, rfl, by decide, List.mem_filter.mpr ⟨List.mem_of_getElem? (i := 348) (by decide +kernel), by decide +kernel⟩⟩
theorem f_RX11_396 : iFd RX11 396 6 5 := ⟨_, rfl, by decide, List.mem_filter.mpr ⟨List.mem_of_getElem? (i := 349) (by decide +kernel), by decide +kernel⟩⟩
theorem o_RX11_57 : Cond.classLink RX11 57 RX2 ∈ igt := List.mem_filter.mpr ⟨List.mem_of_getElem? (i := 363) (by decide +kernel), by decide +kernel⟩
theorem v_RX2 : Cond.instantiable RX2 3 ∈ igt := List.mem_filter.mpr ⟨List.mem_of_getElem? (i := 364) (by decide +kernel), by decide +kernel⟩
theorem l_RX11_59 : Cond.methodLink RX11 59 yX2_init ∈ igt := List.mem_filter.mpr ⟨List.mem_of_getElem? (i := 365) (by decide +kernel), by decide +kernel⟩
theorem l_RX2_1 : Cond.methodLink RX2 1 objectInit ∈ igt := List.mem_filter.mpr ⟨List.mem_of_getElem? (i := 368) (by decide +kernel), by decide +kernel⟩
theorem o_RX2_9 : Cond.classLink RX2 9 RX7 ∈ igt := List.mem_filter.mpr ⟨List.mem_of_getElem? (i := 369) (by decide +kernel), by decide +kernel⟩
theorem f_RX2_11 : iFd RX2 11 2 0 := ⟨_, rfl, by decide, List.mem_filter.mpr ⟨List.mem_of_getElem? (i := 372) (by decide +kernel), by decide +kernel⟩⟩
theorem f_RX2_15 : iFd RX2 15 2 1 := ⟨_, rfl, by decide, List.mem_filter.mpr ⟨List.mem_of_getElem? (i := 373) (by decide +kernel), by decide +kernel⟩⟩
theorem f_RX2_19 : iFd RX2 19 2 2 := ⟨_, rfl, by decide, List.mem_filter.mpr ⟨List.mem_of_getElem? (i := 374) (by decide +kernel), by decide +kernel⟩⟩
theorem f_RX11_261 : iFd RX11 261 2 2 := ⟨_, rfl, by decide, List.mem_filter.mpr ⟨List.mem_of_getElem? (i := 375) (by decide +kernel), by decide +kernel⟩⟩
theorem o_RX11_64 : Cond.classLink RX11 64 RX3 ∈ igt := List.mem_filter.mpr ⟨List.mem_of_getElem? (i := 383) (by decide +kernel), by decide +kernel⟩
theorem v_RX3 : Cond.instantiable RX3 4 ∈ igt := List.mem_filter.mpr ⟨List.mem_of_getElem? (i := 385) (by decide +kernel), by decide +kernel⟩
theorem l_RX3_1 : Cond.methodLink RX3 1 objectInit ∈ igt := List.mem_filter.mpr ⟨List.mem_of_getElem? (i := 389) (by decide +kernel), by decide +kernel⟩
theorem o_RX3_7 : Cond.classLink RX3 7 RX8 ∈ igt := List.mem_filter.mpr ⟨List.mem_of_getElem? (i := 390) (by decide +kernel), by decide +kernel⟩
theorem o_RX3_16 : Cond.classLink RX3 16 RX7 ∈ igt := List.mem_filter.mpr ⟨List.mem_of_getElem? (i := 392) (by decide +kernel), by decide +kernel⟩
theorem o_RX3_23 : Cond.classLink RX3 23 RX6 ∈ igt := List.mem_filter.mpr ⟨List.mem_of_getElem? (i := 394) (by decide +kernel), by decide +kernel⟩
theorem f_RX3_10 : iFd RX3 10 3 0 := ⟨_, rfl, by decide, List.mem_filter.mpr ⟨List.mem_of_getElem? (i := 396) (by decide +kernel), by decide +kernel⟩⟩
theorem f_RX3_19 : iFd RX3 19 3 1 := ⟨_, rfl, by decide, List.mem_filter.mpr ⟨List.mem_of_getElem? (i := 397) (by decide +kernel), by decide +kernel⟩⟩
theorem f_RX3_26 : iFd RX3 26 3 2 := ⟨_, rfl, by decide, List.mem_filter.mpr ⟨List.mem_of_getElem? (i := 398) (by decide +kernel), by decide +kernel⟩⟩
theorem f_RX3_30 : iFd RX3 30 3 3 := ⟨_, rfl, by decide, List.mem_filter.mpr ⟨List.mem_of_getElem? (i := 399) (by decide +kernel), by decide +kernel⟩⟩
theorem f_RX11_408 : iFd RX11 408 3 3 := ⟨_, rfl, by decide, List.mem_filter.mpr ⟨List.mem_of_getElem? (i := 400) (by decide +kernel), by decide +kernel⟩⟩
theorem o_RX11_71 : Cond.classLink RX11 71 RX4 ∈ igt := List.mem_filter.mpr ⟨List.mem_of_getElem? (i := 410) (by decide +kernel), by decide +kernel⟩
theorem v_RX4 : Cond.instantiable RX4 5 ∈ igt := List.mem_filter.mpr ⟨List.mem_of_getElem? (i := 411) (by decide +kernel), by decide +kernel⟩
theorem l_RX4_3 : Cond.methodLink RX4 3 objectInit ∈ igt := List.mem_filter.mpr ⟨List.mem_of_getElem? (i := 415) (by decide +kernel), by decide +kernel⟩
theorem f_RX4_9 : iFd RX4 9 4 0 := ⟨_, rfl, by decide, List.mem_filter.mpr ⟨List.mem_of_getElem? (i := 416) (by decide +kernel), by decide +kernel⟩⟩
theorem f_RX4_15 : iFd RX4 15 4 1 := ⟨_, rfl, by decide, List.mem_filter.mpr ⟨List.mem_of_getElem? (i := 417) (by decide +kernel), by decide +kernel⟩⟩
theorem f_RX4_18 : iFd RX4 18 4 2 := ⟨_, rfl, by decide, List.mem_filter.mpr ⟨List.mem_of_getElem? (i := 418) (by decide +kernel), by decide +kernel⟩⟩
theorem f_RX11_276 : iFd RX11 276 4 2 := ⟨_, rfl, by decide, List.mem_filter.mpr ⟨List.mem_of_getElem? (i := 419) (by decide +kernel), by decide +kernel⟩⟩
theorem f_RX4_21 : iFd RX4 21 4 3 := ⟨_, rfl, by decide, List.mem_filter.mpr ⟨List.mem_of_getElem? (i := 420) (by decide +kernel), by decide +kernel⟩⟩
theorem f_RX11_273 : iFd RX11 273 4 3 := ⟨_, rfl, by decide, List.mem_filter.mpr ⟨List.mem_of_getElem? (i := 421) (by decide +kernel), by decide +kernel⟩⟩
theorem f_RX4_25 : iFd RX4 25 4 4 := ⟨_, rfl, by decide, List.mem_filter.mpr ⟨List.mem_of_getElem? (i := 422) (by decide +kernel), by decide +kernel⟩⟩
theorem f_RX11_279 : iFd RX11 279 4 4 := ⟨_, rfl, by decide, List.mem_filter.mpr ⟨List.mem_of_getElem? (i := 423) (by decide +kernel), by decide +kernel⟩⟩
theorem o_RX11_78 : Cond.classLink RX11 78 RX9 ∈ igt := List.mem_filter.mpr ⟨List.mem_of_getElem? (i := 435) (by decide +kernel), by decide +kernel⟩
theorem v_RX9 : Cond.instantiable RX9 7 ∈ igt := List.mem_filter.mpr ⟨List.mem_of_getElem? (i := 436) (by decide +kernel), by decide +kernel⟩
theorem l_RX9_3 : Cond.methodLink RX9 3 objectInit ∈ igt := List.mem_filter.mpr ⟨List.mem_of_getElem? (i := 440) (by decide +kernel), by decide +kernel⟩
theorem f_RX9_9 : iFd RX9 9 9 0 := ⟨_, rfl, by decide, List.mem_filter.mpr ⟨List.mem_of_getElem? (i := 441) (by decide +kernel), by decide +kernel⟩⟩
theorem f_RX9_15 : iFd RX9 15 9 1 := ⟨_, rfl, by decide, List.mem_filter.mpr ⟨List.mem_of_getElem? (i := 442) (by decide +kernel), by decide +kernel⟩⟩
theorem f_RX9_18 : iFd RX9 18 9 2 := ⟨_, rfl, by decide, List.mem_filter.mpr ⟨List.mem_of_getElem? (i := 443) (by decide +kernel), by decide +kernel⟩⟩
theorem f_RX9_21 : iFd RX9 21 9 3 := ⟨_, rfl, by decide, List.mem_filter.mpr ⟨List.mem_of_getElem? (i := 444) (by decide +kernel), by decide +kernel⟩⟩
theorem f_RX9_25 : iFd RX9 25 9 4 := ⟨_, rfl, by decide, List.mem_filter.mpr ⟨List.mem_of_getElem? (i := 445) (by decide +kernel), by decide +kernel⟩⟩
theorem f_RX11_289 : iFd RX11 289 9 4 := ⟨_, rfl, by decide, List.mem_filter.mpr ⟨List.mem_of_getElem? (i := 446) (by decide +kernel), by decide +kernel⟩⟩
theorem f_RX9_28 : iFd RX9 28 9 5 := ⟨_, rfl, by decide, List.mem_filter.mpr ⟨List.mem_of_getElem? (i := 447) (by decide +kernel), by decide +kernel⟩⟩
theorem f_RX11_286 : iFd RX11 286 9 5 := ⟨_, rfl, by decide, List.mem_filter.mpr ⟨List.mem_of_getElem? (i := 448) (by decide +kernel), by decide +kernel⟩⟩
theorem f_RX9_31 : iFd RX9 31 9 6 := ⟨_, rfl, by decide, List.mem_filter.mpr ⟨List.mem_of_getElem? (i := 449) (by decide +kernel), by decide +kernel⟩⟩
theorem f_RX11_292 : iFd RX11 292 9 6 := ⟨_, rfl, by decide, List.mem_filter.mpr ⟨List.mem_of_getElem? (i := 450) (by decide +kernel), by decide +kernel⟩⟩
theorem o_RX11_85 : Cond.classLink RX11 85 RX0 ∈ igt := List.mem_filter.mpr ⟨List.mem_of_getElem? (i := 466) (by decide +kernel), by decide +kernel⟩
theorem v_RX0 : Cond.instantiable RX0 3 ∈ igt := List.mem_filter.mpr ⟨List.mem_of_getElem? (i := 467) (by decide +kernel), by decide +kernel⟩
theorem l_RX11_87 : Cond.methodLink RX11 87 yX0_init ∈ igt := List.mem_filter.mpr ⟨List.mem_of_getElem? (i := 468) (by decide +kernel), by decide +kernel⟩
theorem l_RX0_3 : Cond.methodLink RX0 3 objectInit ∈ igt := List.mem_filter.mpr ⟨List.mem_of_getElem? (i := 471) (by decide +kernel), by decide +kernel⟩
theorem l_RX0_21 : Cond.methodLink RX0 21 yJ7_fill_53178 ∈ igt := List.mem_filter.mpr ⟨List.mem_of_getElem? (i := 472) (by decide +kernel), by decide +kernel⟩
theorem f_RX0_9 : iFd RX0 9 0 0 := ⟨_, rfl, by decide, List.mem_filter.mpr ⟨List.mem_of_getElem? (i := 475) (by decide +kernel), by decide +kernel⟩⟩
theorem f_RX0_15 : iFd RX0 15 0 1 := ⟨_, rfl, by decide, List.mem_filter.mpr ⟨List.mem_of_getElem? (i := 476) (by decide +kernel), by decide +kernel⟩⟩
theorem f_RX0_18 : iFd RX0 18 0 2 := ⟨_, rfl, by decide, List.mem_filter.mpr ⟨List.mem_of_getElem? (i := 477) (by decide +kernel), by decide +kernel⟩⟩
theorem f_RX11_317 : iFd RX11 317 0 2 := ⟨_, rfl, by decide, List.mem_filter.mpr ⟨List.mem_of_getElem? (i := 478) (by decide +kernel), by decide +kernel⟩⟩
theorem o_RX11_92 : Cond.classLink RX11 92 RX1 ∈ igt := List.mem_filter.mpr ⟨List.mem_of_getElem? (i := 486) (by decide +kernel), by decide +kernel⟩
theorem v_RX1 : Cond.instantiable RX1 8 ∈ igt := List.mem_filter.mpr ⟨List.mem_of_getElem? (i := 487) (by decide +kernel), by decide +kernel⟩
theorem l_RX1_3 : Cond.methodLink RX1 3 objectInit ∈ igt := List.mem_filter.mpr ⟨List.mem_of_getElem? (i := 491) (by decide +kernel), by decide +kernel⟩
theorem f_RX1_11 : iFd RX1 11 1 0 := ⟨_, rfl, by decide, List.mem_filter.mpr ⟨List.mem_of_getElem? (i := 492) (by decide +kernel), by decide +kernel⟩⟩
theorem f_RX1_15 : iFd RX1 15 1 1 := ⟨_, rfl, by decide, List.mem_filter.mpr ⟨List.mem_of_getElem? (i := 493) (by decide +kernel), by decide +kernel⟩⟩
theorem f_RX1_18 : iFd RX1 18 1 2 := ⟨_, rfl, by decide, List.mem_filter.mpr ⟨List.mem_of_getElem? (i := 494) (by decide +kernel), by decide +kernel⟩⟩
theorem f_RX1_21 : iFd RX1 21 1 3 := ⟨_, rfl, by decide, List.mem_filter.mpr ⟨List.mem_of_getElem? (i := 495) (by decide +kernel), by decide +kernel⟩⟩
theorem f_RX1_25 : iFd RX1 25 1 4 := ⟨_, rfl, by decide, List.mem_filter.mpr ⟨List.mem_of_getElem? (i := 496) (by decide +kernel), by decide +kernel⟩⟩
theorem f_RX11_383 : iFd RX11 383 1 4 := ⟨_, rfl, by decide, List.mem_filter.mpr ⟨List.mem_of_getElem? (i := 497) (by decide +kernel), by decide +kernel⟩⟩
theorem f_RX1_28 : iFd RX1 28 1 5 := ⟨_, rfl, by decide, List.mem_filter.mpr ⟨List.mem_of_getElem? (i := 498) (by decide +kernel), by decide +kernel⟩⟩
theorem f_RX11_380 : iFd RX11 380 1 5 := ⟨_, rfl, by decide, List.mem_filter.mpr ⟨List.mem_of_getElem? (i := 499) (by decide +kernel), by decide +kernel⟩⟩
theorem f_RX1_31 : iFd RX1 31 1 6 := ⟨_, rfl, by decide, List.mem_filter.mpr ⟨List.mem_of_getElem? (i := 500) (by decide +kernel), by decide +kernel⟩⟩
theorem f_RX11_386 : iFd RX11 386 1 6 := ⟨_, rfl, by decide, List.mem_filter.mpr ⟨List.mem_of_getElem? (i := 501) (by decide +kernel), by decide +kernel⟩⟩
theorem f_RX1_34 : iFd RX1 34 1 7 := ⟨_, rfl, by decide, List.mem_filter.mpr ⟨List.mem_of_getElem? (i := 502) (by decide +kernel), by decide +kernel⟩⟩
theorem f_RX11_389 : iFd RX11 389 1 7 := ⟨_, rfl, by decide, List.mem_filter.mpr ⟨List.mem_of_getElem? (i := 503) (by decide +kernel), by decide +kernel⟩⟩
theorem f_RX11_9 : iFd RX11 9 10 0 := ⟨_, rfl, by decide, List.mem_filter.mpr ⟨List.mem_of_getElem? (i := 521) (by decide +kernel), by decide +kernel⟩⟩
theorem f_RX11_13 : iFd RX11 13 10 1 := ⟨_, rfl, by decide, List.mem_filter.mpr ⟨List.mem_of_getElem? (i := 522) (by decide +kernel), by decide +kernel⟩⟩
theorem f_RX11_20 : iFd RX11 20 10 2 := ⟨_, rfl, by decide, List.mem_filter.mpr ⟨List.mem_of_getElem? (i := 523) (by decide +kernel), by decide +kernel⟩⟩
theorem f_RX11_24 : iFd RX11 24 10 3 := ⟨_, rfl, by decide, List.mem_filter.mpr ⟨List.mem_of_getElem? (i := 524) (by decide +kernel), by decide +kernel⟩⟩
theorem f_RX11_30 : iFd RX11 30 10 4 := ⟨_, rfl, by decide, List.mem_filter.mpr ⟨List.mem_of_getElem? (i := 525) (by decide +kernel), by decide +kernel⟩⟩
theorem f_RX11_34 : iFd RX11 34 10 5 := ⟨_, rfl, by decide, List.mem_filter.mpr ⟨List.mem_of_getElem? (i := 526) (by decide +kernel), by decide +kernel⟩⟩
theorem f_RX11_40 : iFd RX11 40 10 6 := ⟨_, rfl, by decide, List.mem_filter.mpr ⟨List.mem_of_getElem? (i := 527) (by decide +kernel), by decide +kernel⟩⟩
theorem f_RX11_44 : iFd RX11 44 10 7 := ⟨_, rfl, by decide, List.mem_filter.mpr ⟨List.mem_of_getElem? (i := 528) (by decide +kernel), by decide +kernel⟩⟩
theorem f_RX11_50 : iFd RX11 50 10 8 := ⟨_, rfl, by decide, List.mem_filter.mpr ⟨List.mem_of_getElem? (i := 529) (by decide +kernel), by decide +kernel⟩⟩
theorem f_RX11_54 : iFd RX11 54 10 9 := ⟨_, rfl, by decide, List.mem_filter.mpr ⟨List.mem_of_getElem? (i := 530) (by decide +kernel), by decide +kernel⟩⟩
theorem f_RX11_60 : iFd RX11 60 10 10 := ⟨_, rfl, by decide, List.mem_filter.mpr ⟨List.mem_of_getElem? (i := 531) (by decide +kernel), by decide +kernel⟩⟩
theorem f_RX11_67 : iFd RX11 67 10 11 := ⟨_, rfl, by decide, List.mem_filter.mpr ⟨List.mem_of_getElem? (i := 532) (by decide +kernel), by decide +kernel⟩⟩
theorem f_RX11_74 : iFd RX11 74 10 12 := ⟨_, rfl, by decide, List.mem_filter.mpr ⟨List.mem_of_getElem? (i := 533) (by decide +kernel), by decide +kernel⟩⟩
theorem f_RX11_81 : iFd RX11 81 10 13 := ⟨_, rfl, by decide, List.mem_filter.mpr ⟨List.mem_of_getElem? (i := 534) (by decide +kernel), by decide +kernel⟩⟩
theorem f_RX11_88 : iFd RX11 88 10 14 := ⟨_, rfl, by decide, List.mem_filter.mpr ⟨List.mem_of_getElem? (i := 535) (by decide +kernel), by decide +kernel⟩⟩
theorem f_RX11_95 : iFd RX11 95 10 15 := ⟨_, rfl, by decide, List.mem_filter.mpr ⟨List.mem_of_getElem? (i := 536) (by decide +kernel), by decide +kernel⟩⟩
theorem f_RX11_99 : iFd RX11 99 10 16 := ⟨_, rfl, by decide, List.mem_filter.mpr ⟨List.mem_of_getElem? (i := 537) (by decide +kernel), by decide +kernel⟩⟩
theorem f_RX11_102 : iFd RX11 102 10 17 := ⟨_, rfl, by decide, List.mem_filter.mpr ⟨List.mem_of_getElem? (i := 538) (by decide +kernel), by decide +kernel⟩⟩
theorem f_RX11_105 : iFd RX11 105 10 18 := ⟨_, rfl, by decide, List.mem_filter.mpr ⟨List.mem_of_getElem? (i := 539) (by decide +kernel), by decide +kernel⟩⟩
theorem l_RL_19 : Cond.methodLink RL 19 yX11_feed ∈ igt := List.mem_filter.mpr ⟨List.mem_of_getElem? (i := 579) (by decide +kernel), by decide +kernel⟩
theorem l_RX11_108 : Cond.methodLink RX11 108 yX11_feedOne ∈ igt := List.mem_filter.mpr ⟨List.mem_of_getElem? (i := 583) (by decide +kernel), by decide +kernel⟩
theorem l_RL_24 : Cond.methodLink RL 24 yX11_end ∈ igt := List.mem_filter.mpr ⟨List.mem_of_getElem? (i := 587) (by decide +kernel), by decide +kernel⟩
theorem l_RL_29 : Cond.methodLink RL 29 yX11_tower ∈ igt := List.mem_filter.mpr ⟨List.mem_of_getElem? (i := 591) (by decide +kernel), by decide +kernel⟩
theorem l_RX11_116 : Cond.methodLink RX11 116 yX11_openTape ∈ igt := List.mem_filter.mpr ⟨List.mem_of_getElem? (i := 595) (by decide +kernel), by decide +kernel⟩
theorem l_RX11_112 : Cond.methodLink RX11 112 yX5_open ∈ igt := List.mem_filter.mpr ⟨List.mem_of_getElem? (i := 599) (by decide +kernel), by decide +kernel⟩
theorem l_RX5_45 : Cond.methodLink RX5 45 yJ9_min_7cf53 ∈ igt := List.mem_filter.mpr ⟨List.mem_of_getElem? (i := 603) (by decide +kernel), by decide +kernel⟩
theorem l_RX5_51 : Cond.methodLink RX5 51 yX5_isBlank ∈ igt := List.mem_filter.mpr ⟨List.mem_of_getElem? (i := 606) (by decide +kernel), by decide +kernel⟩
theorem l_RX5_55 : Cond.methodLink RX5 55 yX5_isLetter ∈ igt := List.mem_filter.mpr ⟨List.mem_of_getElem? (i := 609) (by decide +kernel), by decide +kernel⟩
theorem l_RX5_58 : Cond.methodLink RX5 58 yX5_isDigit ∈ igt := List.mem_filter.mpr ⟨List.mem_of_getElem? (i := 612) (by decide +kernel), by decide +kernel⟩
theorem l_RX5_61 : Cond.methodLink RX5 61 yX5_scanRun ∈ igt := List.mem_filter.mpr ⟨List.mem_of_getElem? (i := 615) (by decide +kernel), by decide +kernel⟩
theorem l_RX5_72 : Cond.methodLink RX5 72 yX10_find ∈ igt := List.mem_filter.mpr ⟨List.mem_of_getElem? (i := 619) (by decide +kernel), by decide +kernel⟩
theorem z_RX10_140 : Cond.fieldLink RX10 140 RX10 "ALL" "[LDumbwaiterYoung$Word;" ∈ igt := List.mem_filter.mpr ⟨List.mem_of_getElem? (i := 622) (by decide +kernel), by decide +kernel⟩
theorem l_RX5_68 : Cond.methodLink RX5 68 yX5_add ∈ igt := List.mem_filter.mpr ⟨List.mem_of_getElem? (i := 624) (by decide +kernel), by decide +kernel⟩
theorem l_RX5_65 : Cond.methodLink RX5 65 yX5_isSign ∈ igt := List.mem_filter.mpr ⟨List.mem_of_getElem? (i := 628) (by decide +kernel), by decide +kernel⟩
theorem l_RX11_119 : Cond.methodLink RX11 119 yX8_readFrom ∈ igt := List.mem_filter.mpr ⟨List.mem_of_getElem? (i := 631) (by decide +kernel), by decide +kernel⟩
theorem l_RX8_65 : Cond.methodLink RX8 65 yJ7_fill_53178 ∈ igt := List.mem_filter.mpr ⟨List.mem_of_getElem? (i := 635) (by decide +kernel), by decide +kernel⟩
theorem l_RX8_71 : Cond.methodLink RX8 71 yX5_failed ∈ igt := List.mem_filter.mpr ⟨List.mem_of_getElem? (i := 636) (by decide +kernel), by decide +kernel⟩
theorem l_RX8_77 : Cond.methodLink RX8 77 yX5_atEnd ∈ igt := List.mem_filter.mpr ⟨List.mem_of_getElem? (i := 640) (by decide +kernel), by decide +kernel⟩
theorem l_RX8_80 : Cond.methodLink RX8 80 yX8_readLine ∈ igt := List.mem_filter.mpr ⟨List.mem_of_getElem? (i := 644) (by decide +kernel), by decide +kernel⟩
theorem z_RX8_91 : Cond.fieldLink RX8 91 RX10 "FLOOR" "LDumbwaiterYoung$Word;" ∈ igt := List.mem_filter.mpr ⟨List.mem_of_getElem? (i := 648) (by decide +kernel), by decide +kernel⟩
theorem l_RX8_97 : Cond.methodLink RX8 97 yX5_isWord ∈ igt := List.mem_filter.mpr ⟨List.mem_of_getElem? (i := 650) (by decide +kernel), by decide +kernel⟩
theorem l_RX8_101 : Cond.methodLink RX8 101 yX8_readFloor ∈ igt := List.mem_filter.mpr ⟨List.mem_of_getElem? (i := 654) (by decide +kernel), by decide +kernel⟩
theorem l_RX8_138 : Cond.methodLink RX8 138 yX5_fail ∈ igt := List.mem_filter.mpr ⟨List.mem_of_getElem? (i := 658) (by decide +kernel), by decide +kernel⟩
theorem l_RX8_142 : Cond.methodLink RX8 142 yX5_skipWord ∈ igt := List.mem_filter.mpr ⟨List.mem_of_getElem? (i := 662) (by decide +kernel), by decide +kernel⟩
theorem l_RX5_83 : Cond.methodLink RX5 83 yX5_failed ∈ igt := List.mem_filter.mpr ⟨List.mem_of_getElem? (i := 666) (by decide +kernel), by decide +kernel⟩
theorem l_RX5_87 : Cond.methodLink RX5 87 yX5_isWord ∈ igt := List.mem_filter.mpr ⟨List.mem_of_getElem? (i := 667) (by decide +kernel), by decide +kernel⟩
theorem l_RX5_91 : Cond.methodLink RX5 91 yX5_next ∈ igt := List.mem_filter.mpr ⟨List.mem_of_getElem? (i := 668) (by decide +kernel), by decide +kernel⟩
theorem l_RX8_145 : Cond.methodLink RX8 145 yX8_takeNewName ∈ igt := List.mem_filter.mpr ⟨List.mem_of_getElem? (i := 672) (by decide +kernel), by decide +kernel⟩
theorem l_RX8_167 : Cond.methodLink RX8 167 yX5_nameNow ∈ igt := List.mem_filter.mpr ⟨List.mem_of_getElem? (i := 676) (by decide +kernel), by decide +kernel⟩
theorem l_RX8_182 : Cond.methodLink RX8 182 yX8_floorNamed ∈ igt := List.mem_filter.mpr ⟨List.mem_of_getElem? (i := 680) (by decide +kernel), by decide +kernel⟩
theorem l_RX8_171 : Cond.methodLink RX8 171 yX8_childNamed ∈ igt := List.mem_filter.mpr ⟨List.mem_of_getElem? (i := 684) (by decide +kernel), by decide +kernel⟩
theorem l_RX8_185 : Cond.methodLink RX8 185 yX8_uncleNamed ∈ igt := List.mem_filter.mpr ⟨List.mem_of_getElem? (i := 688) (by decide +kernel), by decide +kernel⟩
theorem l_RX8_178 : Cond.methodLink RX8 178 yX5_takeName ∈ igt := List.mem_filter.mpr ⟨List.mem_of_getElem? (i := 692) (by decide +kernel), by decide +kernel⟩
theorem l_RX5_98 : Cond.methodLink RX5 98 yX5_fail ∈ igt := List.mem_filter.mpr ⟨List.mem_of_getElem? (i := 696) (by decide +kernel), by decide +kernel⟩
theorem l_RX8_149 : Cond.methodLink RX8 149 yX5_takeGift ∈ igt := List.mem_filter.mpr ⟨List.mem_of_getElem? (i := 697) (by decide +kernel), by decide +kernel⟩
theorem l_RX5_102 : Cond.methodLink RX5 102 yX5_giftNow ∈ igt := List.mem_filter.mpr ⟨List.mem_of_getElem? (i := 701) (by decide +kernel), by decide +kernel⟩
theorem l_RX5_79 : Cond.methodLink RX5 79 yX5_subjectNow ∈ igt := List.mem_filter.mpr ⟨List.mem_of_getElem? (i := 705) (by decide +kernel), by decide +kernel⟩
theorem l_RX8_153 : Cond.methodLink RX8 153 yX5_takeNumber ∈ igt := List.mem_filter.mpr ⟨List.mem_of_getElem? (i := 709) (by decide +kernel), by decide +kernel⟩
theorem z_RX8_157 : Cond.fieldLink RX8 157 RX10 "COLD" "LDumbwaiterYoung$Word;" ∈ igt := List.mem_filter.mpr ⟨List.mem_of_getElem? (i := 713) (by decide +kernel), by decide +kernel⟩
theorem z_RX8_104 : Cond.fieldLink RX8 104 RX10 "CHILD" "LDumbwaiterYoung$Word;" ∈ igt := List.mem_filter.mpr ⟨List.mem_of_getElem? (i := 715) (by decide +kernel), by decide +kernel⟩
theorem l_RX8_107 : Cond.methodLink RX8 107 yX8_readChild ∈ igt := List.mem_filter.mpr ⟨List.mem_of_getElem? (i := 717) (by decide +kernel), by decide +kernel⟩
theorem z_RX8_110 : Cond.fieldLink RX8 110 RX10 "UNCLE" "LDumbwaiterYoung$Word;" ∈ igt := List.mem_filter.mpr ⟨List.mem_of_getElem? (i := 721) (by decide +kernel), by decide +kernel⟩
theorem l_RX8_113 : Cond.methodLink RX8 113 yX8_readUncle ∈ igt := List.mem_filter.mpr ⟨List.mem_of_getElem? (i := 723) (by decide +kernel), by decide +kernel⟩
theorem z_RX8_116 : Cond.fieldLink RX8 116 RX10 "LAW" "LDumbwaiterYoung$Word;" ∈ igt := List.mem_filter.mpr ⟨List.mem_of_getElem? (i := 727) (by decide +kernel), by decide +kernel⟩
theorem l_RX8_119 : Cond.methodLink RX8 119 yX8_readLaw ∈ igt := List.mem_filter.mpr ⟨List.mem_of_getElem? (i := 729) (by decide +kernel), by decide +kernel⟩
theorem l_RX8_160 : Cond.methodLink RX8 160 yX5_giftNow ∈ igt := List.mem_filter.mpr ⟨List.mem_of_getElem? (i := 733) (by decide +kernel), by decide +kernel⟩
theorem z_RX8_122 : Cond.fieldLink RX8 122 RX10 "LIKES" "LDumbwaiterYoung$Word;" ∈ igt := List.mem_filter.mpr ⟨List.mem_of_getElem? (i := 734) (by decide +kernel), by decide +kernel⟩
theorem l_RX8_125 : Cond.methodLink RX8 125 yX8_readLikes ∈ igt := List.mem_filter.mpr ⟨List.mem_of_getElem? (i := 736) (by decide +kernel), by decide +kernel⟩
theorem l_RX8_163 : Cond.methodLink RX8 163 yX8_takeFloor ∈ igt := List.mem_filter.mpr ⟨List.mem_of_getElem? (i := 740) (by decide +kernel), by decide +kernel⟩
theorem l_RX8_175 : Cond.methodLink RX8 175 yX8_liking ∈ igt := List.mem_filter.mpr ⟨List.mem_of_getElem? (i := 744) (by decide +kernel), by decide +kernel⟩
theorem z_RX8_128 : Cond.fieldLink RX8 128 RX10 "ROPE" "LDumbwaiterYoung$Word;" ∈ igt := List.mem_filter.mpr ⟨List.mem_of_getElem? (i := 748) (by decide +kernel), by decide +kernel⟩
theorem l_RX8_131 : Cond.methodLink RX8 131 yX8_readOnce ∈ igt := List.mem_filter.mpr ⟨List.mem_of_getElem? (i := 750) (by decide +kernel), by decide +kernel⟩
theorem z_RX8_135 : Cond.fieldLink RX8 135 RX10 "GROW" "LDumbwaiterYoung$Word;" ∈ igt := List.mem_filter.mpr ⟨List.mem_of_getElem? (i := 753) (by decide +kernel), by decide +kernel⟩
theorem l_RX8_84 : Cond.methodLink RX8 84 yX5_takeSign ∈ igt := List.mem_filter.mpr ⟨List.mem_of_getElem? (i := 755) (by decide +kernel), by decide +kernel⟩
theorem l_RX5_94 : Cond.methodLink RX5 94 yX5_isSignNow ∈ igt := List.mem_filter.mpr ⟨List.mem_of_getElem? (i := 759) (by decide +kernel), by decide +kernel⟩
theorem l_RX8_88 : Cond.methodLink RX8 88 yX5_finish ∈ igt := List.mem_filter.mpr ⟨List.mem_of_getElem? (i := 763) (by decide +kernel), by decide +kernel⟩
theorem l_RX5_105 : Cond.methodLink RX5 105 yX5_atEnd ∈ igt := List.mem_filter.mpr ⟨List.mem_of_getElem? (i := 767) (by decide +kernel), by decide +kernel⟩
theorem l_RX11_124 : Cond.methodLink RX11 124 yX5_failed ∈ igt := List.mem_filter.mpr ⟨List.mem_of_getElem? (i := 768) (by decide +kernel), by decide +kernel⟩
theorem l_RX11_131 : Cond.methodLink RX11 131 yX8_copyFrom ∈ igt := List.mem_filter.mpr ⟨List.mem_of_getElem? (i := 769) (by decide +kernel), by decide +kernel⟩
theorem l_RX8_59 : Cond.methodLink RX8 59 arraycopyName ∈ igt := List.mem_filter.mpr ⟨List.mem_of_getElem? (i := 773) (by decide +kernel), by decide +kernel⟩
theorem l_RX11_135 : Cond.methodLink RX11 135 yX7_begin ∈ igt := List.mem_filter.mpr ⟨List.mem_of_getElem? (i := 776) (by decide +kernel), by decide +kernel⟩
theorem l_RX7_46 : Cond.methodLink RX7 46 yJ7_fill_53178 ∈ igt := List.mem_filter.mpr ⟨List.mem_of_getElem? (i := 780) (by decide +kernel), by decide +kernel⟩
theorem l_RX7_57 : Cond.methodLink RX7 57 arraycopyName ∈ igt := List.mem_filter.mpr ⟨List.mem_of_getElem? (i := 781) (by decide +kernel), by decide +kernel⟩
theorem l_RX11_138 : Cond.methodLink RX11 138 yX6_clear ∈ igt := List.mem_filter.mpr ⟨List.mem_of_getElem? (i := 782) (by decide +kernel), by decide +kernel⟩
theorem l_RX11_141 : Cond.methodLink RX11 141 yX2_clear ∈ igt := List.mem_filter.mpr ⟨List.mem_of_getElem? (i := 786) (by decide +kernel), by decide +kernel⟩
theorem l_RL_34 : Cond.methodLink RL 34 yX11_fault ∈ igt := List.mem_filter.mpr ⟨List.mem_of_getElem? (i := 790) (by decide +kernel), by decide +kernel⟩
theorem l_RL_47 : Cond.methodLink RL 47 yX11_has ∈ igt := List.mem_filter.mpr ⟨List.mem_of_getElem? (i := 794) (by decide +kernel), by decide +kernel⟩
theorem l_RX11_151 : Cond.methodLink RX11 151 yX11_isChild ∈ igt := List.mem_filter.mpr ⟨List.mem_of_getElem? (i := 798) (by decide +kernel), by decide +kernel⟩
theorem l_RX11_180 : Cond.methodLink RX11 180 yX7_amount ∈ igt := List.mem_filter.mpr ⟨List.mem_of_getElem? (i := 802) (by decide +kernel), by decide +kernel⟩
theorem l_RL_51 : Cond.methodLink RL 51 yX11_floor ∈ igt := List.mem_filter.mpr ⟨List.mem_of_getElem? (i := 806) (by decide +kernel), by decide +kernel⟩
theorem l_RX11_184 : Cond.methodLink RX11 184 yX11_isFloor ∈ igt := List.mem_filter.mpr ⟨List.mem_of_getElem? (i := 810) (by decide +kernel), by decide +kernel⟩
theorem l_RX11_196 : Cond.methodLink RX11 196 yX7_childOn ∈ igt := List.mem_filter.mpr ⟨List.mem_of_getElem? (i := 814) (by decide +kernel), by decide +kernel⟩
theorem l_RL_55 : Cond.methodLink RL 55 yX11_uncle ∈ igt := List.mem_filter.mpr ⟨List.mem_of_getElem? (i := 818) (by decide +kernel), by decide +kernel⟩
theorem l_RX11_199 : Cond.methodLink RX11 199 yX11_isUncle ∈ igt := List.mem_filter.mpr ⟨List.mem_of_getElem? (i := 822) (by decide +kernel), by decide +kernel⟩
theorem l_RX11_205 : Cond.methodLink RX11 205 yX7_hangs ∈ igt := List.mem_filter.mpr ⟨List.mem_of_getElem? (i := 826) (by decide +kernel), by decide +kernel⟩
theorem l_RL_59 : Cond.methodLink RL 59 yX11_law ∈ igt := List.mem_filter.mpr ⟨List.mem_of_getElem? (i := 830) (by decide +kernel), by decide +kernel⟩
theorem l_RL_64 : Cond.methodLink RL 64 yX11_now ∈ igt := List.mem_filter.mpr ⟨List.mem_of_getElem? (i := 834) (by decide +kernel), by decide +kernel⟩
theorem l_RX11_220 : Cond.methodLink RX11 220 yX7_balance ∈ igt := List.mem_filter.mpr ⟨List.mem_of_getElem? (i := 838) (by decide +kernel), by decide +kernel⟩
theorem l_RX7_63 : Cond.methodLink RX7 63 yX8_weightOf ∈ igt := List.mem_filter.mpr ⟨List.mem_of_getElem? (i := 842) (by decide +kernel), by decide +kernel⟩
theorem l_RX11_224 : Cond.methodLink RX11 224 yX7_servedBits ∈ igt := List.mem_filter.mpr ⟨List.mem_of_getElem? (i := 846) (by decide +kernel), by decide +kernel⟩
theorem l_RX11_227 : Cond.methodLink RX11 227 yX7_readyBits ∈ igt := List.mem_filter.mpr ⟨List.mem_of_getElem? (i := 850) (by decide +kernel), by decide +kernel⟩
theorem l_RX7_86 : Cond.methodLink RX7 86 yX7_lacking ∈ igt := List.mem_filter.mpr ⟨List.mem_of_getElem? (i := 854) (by decide +kernel), by decide +kernel⟩
theorem l_RX7_72 : Cond.methodLink RX7 72 yX7_amount ∈ igt := List.mem_filter.mpr ⟨List.mem_of_getElem? (i := 858) (by decide +kernel), by decide +kernel⟩
theorem l_RX11_230 : Cond.methodLink RX11 230 yX7_upstairsBits ∈ igt := List.mem_filter.mpr ⟨List.mem_of_getElem? (i := 859) (by decide +kernel), by decide +kernel⟩
theorem l_RL_68 : Cond.methodLink RL 68 yX11_send ∈ igt := List.mem_filter.mpr ⟨List.mem_of_getElem? (i := 863) (by decide +kernel), by decide +kernel⟩
theorem l_RX11_236 : Cond.methodLink RX11 236 yX11_perform ∈ igt := List.mem_filter.mpr ⟨List.mem_of_getElem? (i := 867) (by decide +kernel), by decide +kernel⟩
theorem l_RX11_245 : Cond.methodLink RX11 245 yX7_whyNot ∈ igt := List.mem_filter.mpr ⟨List.mem_of_getElem? (i := 871) (by decide +kernel), by decide +kernel⟩
theorem l_RX7_90 : Cond.methodLink RX7 90 yX7_whyNotSent ∈ igt := List.mem_filter.mpr ⟨List.mem_of_getElem? (i := 875) (by decide +kernel), by decide +kernel⟩
theorem l_RX7_101 : Cond.methodLink RX7 101 yX7_childOn ∈ igt := List.mem_filter.mpr ⟨List.mem_of_getElem? (i := 879) (by decide +kernel), by decide +kernel⟩
theorem l_RX7_94 : Cond.methodLink RX7 94 yX7_hangs ∈ igt := List.mem_filter.mpr ⟨List.mem_of_getElem? (i := 880) (by decide +kernel), by decide +kernel⟩
theorem l_RX7_98 : Cond.methodLink RX7 98 yX7_whyNotServed ∈ igt := List.mem_filter.mpr ⟨List.mem_of_getElem? (i := 881) (by decide +kernel), by decide +kernel⟩
theorem l_RX11_249 : Cond.methodLink RX11 249 yX2_push ∈ igt := List.mem_filter.mpr ⟨List.mem_of_getElem? (i := 885) (by decide +kernel), by decide +kernel⟩
theorem l_RX2_23 : Cond.methodLink RX2 23 yX7_copyFrom ∈ igt := List.mem_filter.mpr ⟨List.mem_of_getElem? (i := 889) (by decide +kernel), by decide +kernel⟩
theorem l_RX2_27 : Cond.methodLink RX2 27 yJ9_min_7cf53 ∈ igt := List.mem_filter.mpr ⟨List.mem_of_getElem? (i := 893) (by decide +kernel), by decide +kernel⟩
theorem l_RX11_253 : Cond.methodLink RX11 253 yX7_act ∈ igt := List.mem_filter.mpr ⟨List.mem_of_getElem? (i := 894) (by decide +kernel), by decide +kernel⟩
theorem l_RX7_104 : Cond.methodLink RX7 104 yX7_moveTo ∈ igt := List.mem_filter.mpr ⟨List.mem_of_getElem? (i := 898) (by decide +kernel), by decide +kernel⟩
theorem l_RX7_67 : Cond.methodLink RX7 67 yJ9_abs_0f7a4 ∈ igt := List.mem_filter.mpr ⟨List.mem_of_getElem? (i := 902) (by decide +kernel), by decide +kernel⟩
theorem l_RX7_116 : Cond.methodLink RX7 116 yX7_offBalance ∈ igt := List.mem_filter.mpr ⟨List.mem_of_getElem? (i := 905) (by decide +kernel), by decide +kernel⟩
theorem l_RX7_122 : Cond.methodLink RX7 122 yJ9_min_7cf53 ∈ igt := List.mem_filter.mpr ⟨List.mem_of_getElem? (i := 909) (by decide +kernel), by decide +kernel⟩
theorem l_RX7_108 : Cond.methodLink RX7 108 yX7_bringBack ∈ igt := List.mem_filter.mpr ⟨List.mem_of_getElem? (i := 910) (by decide +kernel), by decide +kernel⟩
theorem l_RX7_112 : Cond.methodLink RX7 112 yX7_passHour ∈ igt := List.mem_filter.mpr ⟨List.mem_of_getElem? (i := 914) (by decide +kernel), by decide +kernel⟩
theorem l_RX7_125 : Cond.methodLink RX7 125 yX7_receive ∈ igt := List.mem_filter.mpr ⟨List.mem_of_getElem? (i := 918) (by decide +kernel), by decide +kernel⟩
theorem l_RX7_82 : Cond.methodLink RX7 82 yX7_areNeighbours ∈ igt := List.mem_filter.mpr ⟨List.mem_of_getElem? (i := 922) (by decide +kernel), by decide +kernel⟩
theorem l_RX7_128 : Cond.methodLink RX7 128 yX7_talk ∈ igt := List.mem_filter.mpr ⟨List.mem_of_getElem? (i := 926) (by decide +kernel), by decide +kernel⟩
theorem l_RX7_132 : Cond.methodLink RX7 132 yX7_growOlder ∈ igt := List.mem_filter.mpr ⟨List.mem_of_getElem? (i := 930) (by decide +kernel), by decide +kernel⟩
theorem l_RL_72 : Cond.methodLink RL 72 yX11_hang ∈ igt := List.mem_filter.mpr ⟨List.mem_of_getElem? (i := 934) (by decide +kernel), by decide +kernel⟩
theorem l_RL_76 : Cond.methodLink RL 76 yX11_take ∈ igt := List.mem_filter.mpr ⟨List.mem_of_getElem? (i := 938) (by decide +kernel), by decide +kernel⟩
theorem l_RL_80 : Cond.methodLink RL 80 yX11_serve ∈ igt := List.mem_filter.mpr ⟨List.mem_of_getElem? (i := 942) (by decide +kernel), by decide +kernel⟩
theorem l_RL_84 : Cond.methodLink RL 84 yX11_back ∈ igt := List.mem_filter.mpr ⟨List.mem_of_getElem? (i := 946) (by decide +kernel), by decide +kernel⟩
theorem l_RL_88 : Cond.methodLink RL 88 yX11_hours ∈ igt := List.mem_filter.mpr ⟨List.mem_of_getElem? (i := 950) (by decide +kernel), by decide +kernel⟩
theorem l_RX11_240 : Cond.methodLink RX11 240 yJ9_min_7cf53 ∈ igt := List.mem_filter.mpr ⟨List.mem_of_getElem? (i := 954) (by decide +kernel), by decide +kernel⟩
theorem l_RL_92 : Cond.methodLink RL 92 yX11_undo ∈ igt := List.mem_filter.mpr ⟨List.mem_of_getElem? (i := 955) (by decide +kernel), by decide +kernel⟩
theorem l_RX11_257 : Cond.methodLink RX11 257 yX2_pop ∈ igt := List.mem_filter.mpr ⟨List.mem_of_getElem? (i := 959) (by decide +kernel), by decide +kernel⟩
theorem l_RL_96 : Cond.methodLink RL 96 yX11_when ∈ igt := List.mem_filter.mpr ⟨List.mem_of_getElem? (i := 963) (by decide +kernel), by decide +kernel⟩
theorem l_RX11_264 : Cond.methodLink RX11 264 yX7_copyFrom ∈ igt := List.mem_filter.mpr ⟨List.mem_of_getElem? (i := 967) (by decide +kernel), by decide +kernel⟩
theorem l_RX11_173 : Cond.methodLink RX11 173 yX7_lacking ∈ igt := List.mem_filter.mpr ⟨List.mem_of_getElem? (i := 968) (by decide +kernel), by decide +kernel⟩
theorem l_RX11_266 : Cond.methodLink RX11 266 yX7_passHour ∈ igt := List.mem_filter.mpr ⟨List.mem_of_getElem? (i := 969) (by decide +kernel), by decide +kernel⟩
theorem l_RL_100 : Cond.methodLink RL 100 yX11_plan ∈ igt := List.mem_filter.mpr ⟨List.mem_of_getElem? (i := 970) (by decide +kernel), by decide +kernel⟩
theorem l_RX11_269 : Cond.methodLink RX11 269 yX4_make ∈ igt := List.mem_filter.mpr ⟨List.mem_of_getElem? (i := 974) (by decide +kernel), by decide +kernel⟩
theorem l_RX4_28 : Cond.methodLink RX4 28 yX7_lacking ∈ igt := List.mem_filter.mpr ⟨List.mem_of_getElem? (i := 978) (by decide +kernel), by decide +kernel⟩
theorem l_RX4_34 : Cond.methodLink RX4 34 yX4_richestFloor ∈ igt := List.mem_filter.mpr ⟨List.mem_of_getElem? (i := 979) (by decide +kernel), by decide +kernel⟩
theorem l_RX4_42 : Cond.methodLink RX4 42 yX4_insert ∈ igt := List.mem_filter.mpr ⟨List.mem_of_getElem? (i := 982) (by decide +kernel), by decide +kernel⟩
theorem l_RX4_49 : Cond.methodLink RX4 49 yX7_amount ∈ igt := List.mem_filter.mpr ⟨List.mem_of_getElem? (i := 986) (by decide +kernel), by decide +kernel⟩
theorem l_RX4_56 : Cond.methodLink RX4 56 yX4_findOrder ∈ igt := List.mem_filter.mpr ⟨List.mem_of_getElem? (i := 987) (by decide +kernel), by decide +kernel⟩
theorem l_RX4_66 : Cond.methodLink RX4 66 yX4_pick ∈ igt := List.mem_filter.mpr ⟨List.mem_of_getElem? (i := 991) (by decide +kernel), by decide +kernel⟩
theorem l_RX4_80 : Cond.methodLink RX4 80 yJ6_bitCount_0f7a4 ∈ igt := List.mem_filter.mpr ⟨List.mem_of_getElem? (i := 995) (by decide +kernel), by decide +kernel⟩
theorem q_RJ6_265 : Cond.constant RJ6 265 (1431655765) ∈ igt := List.mem_filter.mpr ⟨List.mem_of_getElem? (i := 998) (by decide +kernel), by decide +kernel⟩
theorem q_RJ6_266 : Cond.constant RJ6 266 (858993459) ∈ igt := List.mem_filter.mpr ⟨List.mem_of_getElem? (i := 999) (by decide +kernel), by decide +kernel⟩
theorem q_RJ6_267 : Cond.constant RJ6 267 (252645135) ∈ igt := List.mem_filter.mpr ⟨List.mem_of_getElem? (i := 1000) (by decide +kernel), by decide +kernel⟩
theorem l_RX4_70 : Cond.methodLink RX4 70 yX4_pickedLength ∈ igt := List.mem_filter.mpr ⟨List.mem_of_getElem? (i := 1001) (by decide +kernel), by decide +kernel⟩
theorem l_RX4_85 : Cond.methodLink RX4 85 yJ9_abs_0f7a4 ∈ igt := List.mem_filter.mpr ⟨List.mem_of_getElem? (i := 1005) (by decide +kernel), by decide +kernel⟩
theorem l_RX4_74 : Cond.methodLink RX4 74 arraycopyName ∈ igt := List.mem_filter.mpr ⟨List.mem_of_getElem? (i := 1006) (by decide +kernel), by decide +kernel⟩
theorem l_RL_104 : Cond.methodLink RL 104 yX11_planAt ∈ igt := List.mem_filter.mpr ⟨List.mem_of_getElem? (i := 1007) (by decide +kernel), by decide +kernel⟩
theorem l_RL_108 : Cond.methodLink RL 108 yX11_passes ∈ igt := List.mem_filter.mpr ⟨List.mem_of_getElem? (i := 1011) (by decide +kernel), by decide +kernel⟩
theorem l_RL_112 : Cond.methodLink RL 112 yX11_been ∈ igt := List.mem_filter.mpr ⟨List.mem_of_getElem? (i := 1015) (by decide +kernel), by decide +kernel⟩
theorem l_RX11_282 : Cond.methodLink RX11 282 yX9_search ∈ igt := List.mem_filter.mpr ⟨List.mem_of_getElem? (i := 1019) (by decide +kernel), by decide +kernel⟩
theorem l_RX9_34 : Cond.methodLink RX9 34 yJ7_fill_53178 ∈ igt := List.mem_filter.mpr ⟨List.mem_of_getElem? (i := 1023) (by decide +kernel), by decide +kernel⟩
theorem l_RX9_40 : Cond.methodLink RX9 40 yX9_walk ∈ igt := List.mem_filter.mpr ⟨List.mem_of_getElem? (i := 1024) (by decide +kernel), by decide +kernel⟩
theorem l_RX9_48 : Cond.methodLink RX9 48 yX9_noteRow ∈ igt := List.mem_filter.mpr ⟨List.mem_of_getElem? (i := 1028) (by decide +kernel), by decide +kernel⟩
theorem l_RX9_63 : Cond.methodLink RX9 63 arraycopyName ∈ igt := List.mem_filter.mpr ⟨List.mem_of_getElem? (i := 1032) (by decide +kernel), by decide +kernel⟩
theorem l_RX9_44 : Cond.methodLink RX9 44 yX9_bestQuestion ∈ igt := List.mem_filter.mpr ⟨List.mem_of_getElem? (i := 1033) (by decide +kernel), by decide +kernel⟩
theorem l_RX9_69 : Cond.methodLink RX9 69 yJ9_max_7cf53 ∈ igt := List.mem_filter.mpr ⟨List.mem_of_getElem? (i := 1037) (by decide +kernel), by decide +kernel⟩
theorem l_RL_116 : Cond.methodLink RL 116 yX11_beenAt ∈ igt := List.mem_filter.mpr ⟨List.mem_of_getElem? (i := 1040) (by decide +kernel), by decide +kernel⟩
theorem l_RL_120 : Cond.methodLink RL 120 yX11_ask ∈ igt := List.mem_filter.mpr ⟨List.mem_of_getElem? (i := 1044) (by decide +kernel), by decide +kernel⟩
theorem l_RL_124 : Cond.methodLink RL 124 yX11_hung ∈ igt := List.mem_filter.mpr ⟨List.mem_of_getElem? (i := 1048) (by decide +kernel), by decide +kernel⟩
theorem l_RX11_295 : Cond.methodLink RX11 295 yX8_weightOf ∈ igt := List.mem_filter.mpr ⟨List.mem_of_getElem? (i := 1052) (by decide +kernel), by decide +kernel⟩
theorem l_RX11_299 : Cond.methodLink RX11 299 yJ9_abs_0f7a4 ∈ igt := List.mem_filter.mpr ⟨List.mem_of_getElem? (i := 1053) (by decide +kernel), by decide +kernel⟩
theorem l_RX11_302 : Cond.methodLink RX11 302 yJ6_bitCount_0f7a4 ∈ igt := List.mem_filter.mpr ⟨List.mem_of_getElem? (i := 1054) (by decide +kernel), by decide +kernel⟩
theorem l_RL_128 : Cond.methodLink RL 128 yX11_hanging ∈ igt := List.mem_filter.mpr ⟨List.mem_of_getElem? (i := 1055) (by decide +kernel), by decide +kernel⟩
theorem l_RL_132 : Cond.methodLink RL 132 yX11_holds ∈ igt := List.mem_filter.mpr ⟨List.mem_of_getElem? (i := 1059) (by decide +kernel), by decide +kernel⟩
theorem l_RX11_307 : Cond.methodLink RX11 307 yX7_offBalance ∈ igt := List.mem_filter.mpr ⟨List.mem_of_getElem? (i := 1063) (by decide +kernel), by decide +kernel⟩
theorem l_RL_136 : Cond.methodLink RL 136 yX11_web ∈ igt := List.mem_filter.mpr ⟨List.mem_of_getElem? (i := 1064) (by decide +kernel), by decide +kernel⟩
theorem l_RX11_177 : Cond.methodLink RX11 177 yX7_neighbours ∈ igt := List.mem_filter.mpr ⟨List.mem_of_getElem? (i := 1068) (by decide +kernel), by decide +kernel⟩
theorem l_RL_140 : Cond.methodLink RL 140 yX11_bargain ∈ igt := List.mem_filter.mpr ⟨List.mem_of_getElem? (i := 1072) (by decide +kernel), by decide +kernel⟩
theorem l_RX11_313 : Cond.methodLink RX11 313 yX0_settle ∈ igt := List.mem_filter.mpr ⟨List.mem_of_getElem? (i := 1076) (by decide +kernel), by decide +kernel⟩
theorem l_RX0_27 : Cond.methodLink RX0 27 yX0_makeOffer ∈ igt := List.mem_filter.mpr ⟨List.mem_of_getElem? (i := 1080) (by decide +kernel), by decide +kernel⟩
theorem l_RX0_42 : Cond.methodLink RX0 42 yX7_lacking ∈ igt := List.mem_filter.mpr ⟨List.mem_of_getElem? (i := 1084) (by decide +kernel), by decide +kernel⟩
theorem l_RX0_46 : Cond.methodLink RX0 46 yX0_dearestFloor ∈ igt := List.mem_filter.mpr ⟨List.mem_of_getElem? (i := 1085) (by decide +kernel), by decide +kernel⟩
theorem l_RX0_50 : Cond.methodLink RX0 50 yX0_choose ∈ igt := List.mem_filter.mpr ⟨List.mem_of_getElem? (i := 1088) (by decide +kernel), by decide +kernel⟩
theorem l_RX0_63 : Cond.methodLink RX0 63 yX8_liking ∈ igt := List.mem_filter.mpr ⟨List.mem_of_getElem? (i := 1092) (by decide +kernel), by decide +kernel⟩
theorem l_RL_144 : Cond.methodLink RL 144 yX11_bargained ∈ igt := List.mem_filter.mpr ⟨List.mem_of_getElem? (i := 1093) (by decide +kernel), by decide +kernel⟩
theorem l_RL_148 : Cond.methodLink RL 148 yX11_cover ∈ igt := List.mem_filter.mpr ⟨List.mem_of_getElem? (i := 1097) (by decide +kernel), by decide +kernel⟩
theorem l_RX11_324 : Cond.methodLink RX11 324 yX11_chalkName ∈ igt := List.mem_filter.mpr ⟨List.mem_of_getElem? (i := 1101) (by decide +kernel), by decide +kernel⟩
theorem q_RX11_368 : Cond.constantLong RX11 368 (255) ∈ igt := List.mem_filter.mpr ⟨List.mem_of_getElem? (i := 1105) (by decide +kernel), by decide +kernel⟩
theorem l_RX11_365 : Cond.methodLink RX11 365 yX11_chalkByte ∈ igt := List.mem_filter.mpr ⟨List.mem_of_getElem? (i := 1106) (by decide +kernel), by decide +kernel⟩
theorem l_RX11_330 : Cond.methodLink RX11 330 yX11_chalkText ∈ igt := List.mem_filter.mpr ⟨List.mem_of_getElem? (i := 1111) (by decide +kernel), by decide +kernel⟩
theorem l_RX11_356 : Cond.methodLink RX11 356 yJ0_length_8abf5 ∈ igt := List.mem_filter.mpr ⟨List.mem_of_getElem? (i := 1115) (by decide +kernel), by decide +kernel⟩
theorem l_RJ0_335 : Cond.methodLink RJ0 335 yJ0_coder_7d493 ∈ igt := List.mem_filter.mpr ⟨List.mem_of_getElem? (i := 1119) (by decide +kernel), by decide +kernel⟩
theorem z_RJ0_38 : Cond.fieldLink RJ0 38 RJ0 "COMPACT_STRINGS" "Z" ∈ igt := List.mem_filter.mpr ⟨List.mem_of_getElem? (i := 1123) (by decide +kernel), by decide +kernel⟩
theorem l_RX11_361 : Cond.methodLink RX11 361 yJ0_charAt_5068e ∈ igt := List.mem_filter.mpr ⟨List.mem_of_getElem? (i := 1125) (by decide +kernel), by decide +kernel⟩
theorem l_RJ0_492 : Cond.methodLink RJ0 492 yJ0_isLatin1_aae02 ∈ igt := List.mem_filter.mpr ⟨List.mem_of_getElem? (i := 1129) (by decide +kernel), by decide +kernel⟩
theorem l_RJ0_495 : Cond.methodLink RJ0 495 yJ1_charAt_3b067 ∈ igt := List.mem_filter.mpr ⟨List.mem_of_getElem? (i := 1133) (by decide +kernel), by decide +kernel⟩
theorem l_RJ1_9 : Cond.methodLink RJ1 9 yJ0_checkIndex_df160 ∈ igt := List.mem_filter.mpr ⟨List.mem_of_getElem? (i := 1136) (by decide +kernel), by decide +kernel⟩
theorem z_RJ0_1053 : Cond.fieldLink RJ0 1053 RJ3 "SIOOBE_FORMATTER" "Ljava/util/function/BiFunction;" ∈ igt := List.mem_filter.mpr ⟨List.mem_of_getElem? (i := 1139) (by decide +kernel), by decide +kernel⟩
theorem l_RJ0_1059 : Cond.methodLink RJ0 1059 yJ3_checkIndex_8e157 ∈ igt := List.mem_filter.mpr ⟨List.mem_of_getElem? (i := 1141) (by decide +kernel), by decide +kernel⟩
theorem l_RJ0_498 : Cond.methodLink RJ0 498 yJ2_charAt_3b067 ∈ igt := List.mem_filter.mpr ⟨List.mem_of_getElem? (i := 1144) (by decide +kernel), by decide +kernel⟩
theorem l_RJ2_67 : Cond.methodLink RJ2 67 yJ2_checkIndex_2214a ∈ igt := List.mem_filter.mpr ⟨List.mem_of_getElem? (i := 1147) (by decide +kernel), by decide +kernel⟩
theorem l_RJ2_48 : Cond.methodLink RJ2 48 yJ2_length_9d52b ∈ igt := List.mem_filter.mpr ⟨List.mem_of_getElem? (i := 1150) (by decide +kernel), by decide +kernel⟩
theorem l_RJ2_414 : Cond.methodLink RJ2 414 yJ0_checkIndex_df160 ∈ igt := List.mem_filter.mpr ⟨List.mem_of_getElem? (i := 1153) (by decide +kernel), by decide +kernel⟩
theorem l_RJ2_71 : Cond.methodLink RJ2 71 yJ2_getChar_3b067 ∈ igt := List.mem_filter.mpr ⟨List.mem_of_getElem? (i := 1154) (by decide +kernel), by decide +kernel⟩
theorem z_RJ2_44 : Cond.fieldLink RJ2 44 RJ2 "$assertionsDisabled" "Z" ∈ igt := List.mem_filter.mpr ⟨List.mem_of_getElem? (i := 1157) (by decide +kernel), by decide +kernel⟩
theorem z_RJ2_59 : Cond.fieldLink RJ2 59 RJ2 "HI_BYTE_SHIFT" "I" ∈ igt := List.mem_filter.mpr ⟨List.mem_of_getElem? (i := 1159) (by decide +kernel), by decide +kernel⟩
theorem z_RJ2_63 : Cond.fieldLink RJ2 63 RJ2 "LO_BYTE_SHIFT" "I" ∈ igt := List.mem_filter.mpr ⟨List.mem_of_getElem? (i := 1161) (by decide +kernel), by decide +kernel⟩
theorem l_RX11_341 : Cond.methodLink RX11 341 yX11_chalkLacking ∈ igt := List.mem_filter.mpr ⟨List.mem_of_getElem? (i := 1165) (by decide +kernel), by decide +kernel⟩
theorem l_RX11_350 : Cond.methodLink RX11 350 yX10_packedGift ∈ igt := List.mem_filter.mpr ⟨List.mem_of_getElem? (i := 1172) (by decide +kernel), by decide +kernel⟩
theorem ac_byte : Cond.arrayClass .byte ∈ igt := List.mem_filter.mpr ⟨List.mem_of_getElem? (i := 1175) (by decide +kernel), by decide +kernel⟩
theorem l_RL_152 : Cond.methodLink RL 152 yX11_byteAt ∈ igt := List.mem_filter.mpr ⟨List.mem_of_getElem? (i := 1176) (by decide +kernel), by decide +kernel⟩
theorem l_RL_156 : Cond.methodLink RL 156 yX11_drawn ∈ igt := List.mem_filter.mpr ⟨List.mem_of_getElem? (i := 1180) (by decide +kernel), by decide +kernel⟩
theorem l_RX11_370 : Cond.methodLink RX11 370 yX7_drawHours ∈ igt := List.mem_filter.mpr ⟨List.mem_of_getElem? (i := 1184) (by decide +kernel), by decide +kernel⟩
theorem l_RX7_148 : Cond.methodLink RX7 148 yX7_drawDeeds ∈ igt := List.mem_filter.mpr ⟨List.mem_of_getElem? (i := 1188) (by decide +kernel), by decide +kernel⟩
theorem l_RX7_151 : Cond.methodLink RX7 151 yX7_nextDraw ∈ igt := List.mem_filter.mpr ⟨List.mem_of_getElem? (i := 1192) (by decide +kernel), by decide +kernel⟩
theorem q_RX7_160 : Cond.constant RX7 160 (1103515245) ∈ igt := List.mem_filter.mpr ⟨List.mem_of_getElem? (i := 1195) (by decide +kernel), by decide +kernel⟩
theorem l_RX7_154 : Cond.methodLink RX7 154 yX7_drawOf ∈ igt := List.mem_filter.mpr ⟨List.mem_of_getElem? (i := 1196) (by decide +kernel), by decide +kernel⟩
theorem l_RL_160 : Cond.methodLink RL 160 yX11_odds ∈ igt := List.mem_filter.mpr ⟨List.mem_of_getElem? (i := 1199) (by decide +kernel), by decide +kernel⟩
theorem l_RL_165 : Cond.methodLink RL 165 yX11_book ∈ igt := List.mem_filter.mpr ⟨List.mem_of_getElem? (i := 1203) (by decide +kernel), by decide +kernel⟩
theorem l_RX11_374 : Cond.methodLink RX11 374 yX1_readFrom ∈ igt := List.mem_filter.mpr ⟨List.mem_of_getElem? (i := 1207) (by decide +kernel), by decide +kernel⟩
theorem l_RX1_37 : Cond.methodLink RX1 37 yX5_failed ∈ igt := List.mem_filter.mpr ⟨List.mem_of_getElem? (i := 1211) (by decide +kernel), by decide +kernel⟩
theorem l_RX1_43 : Cond.methodLink RX1 43 yX5_atEnd ∈ igt := List.mem_filter.mpr ⟨List.mem_of_getElem? (i := 1212) (by decide +kernel), by decide +kernel⟩
theorem l_RX1_46 : Cond.methodLink RX1 46 yX1_readLine ∈ igt := List.mem_filter.mpr ⟨List.mem_of_getElem? (i := 1213) (by decide +kernel), by decide +kernel⟩
theorem l_RX1_57 : Cond.methodLink RX1 57 yX1_deedNow ∈ igt := List.mem_filter.mpr ⟨List.mem_of_getElem? (i := 1217) (by decide +kernel), by decide +kernel⟩
theorem z_RX1_77 : Cond.fieldLink RX1 77 RX10 "SEND" "LDumbwaiterYoung$Word;" ∈ igt := List.mem_filter.mpr ⟨List.mem_of_getElem? (i := 1220) (by decide +kernel), by decide +kernel⟩
theorem l_RX1_83 : Cond.methodLink RX1 83 yX5_isWord ∈ igt := List.mem_filter.mpr ⟨List.mem_of_getElem? (i := 1222) (by decide +kernel), by decide +kernel⟩
theorem z_RX1_87 : Cond.fieldLink RX1 87 RX10 "HANG" "LDumbwaiterYoung$Word;" ∈ igt := List.mem_filter.mpr ⟨List.mem_of_getElem? (i := 1223) (by decide +kernel), by decide +kernel⟩
theorem z_RX1_90 : Cond.fieldLink RX1 90 RX10 "TAKE" "LDumbwaiterYoung$Word;" ∈ igt := List.mem_filter.mpr ⟨List.mem_of_getElem? (i := 1225) (by decide +kernel), by decide +kernel⟩
theorem z_RX1_93 : Cond.fieldLink RX1 93 RX10 "SERVE" "LDumbwaiterYoung$Word;" ∈ igt := List.mem_filter.mpr ⟨List.mem_of_getElem? (i := 1227) (by decide +kernel), by decide +kernel⟩
theorem z_RX1_96 : Cond.fieldLink RX1 96 RX10 "BACK" "LDumbwaiterYoung$Word;" ∈ igt := List.mem_filter.mpr ⟨List.mem_of_getElem? (i := 1229) (by decide +kernel), by decide +kernel⟩
theorem z_RX1_99 : Cond.fieldLink RX1 99 RX10 "HOUR" "LDumbwaiterYoung$Word;" ∈ igt := List.mem_filter.mpr ⟨List.mem_of_getElem? (i := 1231) (by decide +kernel), by decide +kernel⟩
theorem l_RX1_61 : Cond.methodLink RX1 61 yX5_fail ∈ igt := List.mem_filter.mpr ⟨List.mem_of_getElem? (i := 1233) (by decide +kernel), by decide +kernel⟩
theorem l_RX1_68 : Cond.methodLink RX1 68 yX1_takeWho ∈ igt := List.mem_filter.mpr ⟨List.mem_of_getElem? (i := 1235) (by decide +kernel), by decide +kernel⟩
theorem l_RX1_102 : Cond.methodLink RX1 102 yX5_takeNumber ∈ igt := List.mem_filter.mpr ⟨List.mem_of_getElem? (i := 1238) (by decide +kernel), by decide +kernel⟩
theorem l_RX1_106 : Cond.methodLink RX1 106 yX8_takeUncle ∈ igt := List.mem_filter.mpr ⟨List.mem_of_getElem? (i := 1239) (by decide +kernel), by decide +kernel⟩
theorem l_RX1_109 : Cond.methodLink RX1 109 yX8_takeChild ∈ igt := List.mem_filter.mpr ⟨List.mem_of_getElem? (i := 1243) (by decide +kernel), by decide +kernel⟩
theorem l_RX1_72 : Cond.methodLink RX1 72 yX8_takeFloorOrCellar ∈ igt := List.mem_filter.mpr ⟨List.mem_of_getElem? (i := 1247) (by decide +kernel), by decide +kernel⟩
theorem z_RX8_188 : Cond.fieldLink RX8 188 RX10 "CELLAR" "LDumbwaiterYoung$Word;" ∈ igt := List.mem_filter.mpr ⟨List.mem_of_getElem? (i := 1251) (by decide +kernel), by decide +kernel⟩
theorem l_RX1_50 : Cond.methodLink RX1 50 yX5_takeSign ∈ igt := List.mem_filter.mpr ⟨List.mem_of_getElem? (i := 1253) (by decide +kernel), by decide +kernel⟩
theorem l_RX1_54 : Cond.methodLink RX1 54 yX5_finish ∈ igt := List.mem_filter.mpr ⟨List.mem_of_getElem? (i := 1254) (by decide +kernel), by decide +kernel⟩
theorem l_RX11_377 : Cond.methodLink RX11 377 yX1_live ∈ igt := List.mem_filter.mpr ⟨List.mem_of_getElem? (i := 1255) (by decide +kernel), by decide +kernel⟩
theorem l_RX1_112 : Cond.methodLink RX1 112 yX7_whyNot ∈ igt := List.mem_filter.mpr ⟨List.mem_of_getElem? (i := 1259) (by decide +kernel), by decide +kernel⟩
theorem l_RX1_118 : Cond.methodLink RX1 118 yX7_act ∈ igt := List.mem_filter.mpr ⟨List.mem_of_getElem? (i := 1260) (by decide +kernel), by decide +kernel⟩
theorem l_RX1_125 : Cond.methodLink RX1 125 yX7_servedBits ∈ igt := List.mem_filter.mpr ⟨List.mem_of_getElem? (i := 1261) (by decide +kernel), by decide +kernel⟩
theorem l_RL_169 : Cond.methodLink RL 169 yX11_told ∈ igt := List.mem_filter.mpr ⟨List.mem_of_getElem? (i := 1262) (by decide +kernel), by decide +kernel⟩
theorem l_RL_173 : Cond.methodLink RL 173 yX11_sentence ∈ igt := List.mem_filter.mpr ⟨List.mem_of_getElem? (i := 1266) (by decide +kernel), by decide +kernel⟩
theorem l_RX11_392 : Cond.methodLink RX11 392 yX6_readFrom ∈ igt := List.mem_filter.mpr ⟨List.mem_of_getElem? (i := 1270) (by decide +kernel), by decide +kernel⟩
theorem l_RX6_37 : Cond.methodLink RX6 37 yX6_clear ∈ igt := List.mem_filter.mpr ⟨List.mem_of_getElem? (i := 1274) (by decide +kernel), by decide +kernel⟩
theorem l_RX6_40 : Cond.methodLink RX6 40 yX6_readCondition ∈ igt := List.mem_filter.mpr ⟨List.mem_of_getElem? (i := 1275) (by decide +kernel), by decide +kernel⟩
theorem l_RX6_49 : Cond.methodLink RX6 49 yX5_failed ∈ igt := List.mem_filter.mpr ⟨List.mem_of_getElem? (i := 1279) (by decide +kernel), by decide +kernel⟩
theorem l_RX6_53 : Cond.methodLink RX6 53 yX6_readOne ∈ igt := List.mem_filter.mpr ⟨List.mem_of_getElem? (i := 1280) (by decide +kernel), by decide +kernel⟩
theorem l_RX6_73 : Cond.methodLink RX6 73 yX6_beginsOne ∈ igt := List.mem_filter.mpr ⟨List.mem_of_getElem? (i := 1284) (by decide +kernel), by decide +kernel⟩
theorem l_RX6_84 : Cond.methodLink RX6 84 yX5_isSignNow ∈ igt := List.mem_filter.mpr ⟨List.mem_of_getElem? (i := 1287) (by decide +kernel), by decide +kernel⟩
theorem z_RX6_81 : Cond.fieldLink RX6 81 RX10 "NOT" "LDumbwaiterYoung$Word;" ∈ igt := List.mem_filter.mpr ⟨List.mem_of_getElem? (i := 1288) (by decide +kernel), by decide +kernel⟩
theorem l_RX6_96 : Cond.methodLink RX6 96 yX5_isWord ∈ igt := List.mem_filter.mpr ⟨List.mem_of_getElem? (i := 1290) (by decide +kernel), by decide +kernel⟩
theorem z_RX6_99 : Cond.fieldLink RX6 99 RX10 "SERVED" "LDumbwaiterYoung$Word;" ∈ igt := List.mem_filter.mpr ⟨List.mem_of_getElem? (i := 1291) (by decide +kernel), by decide +kernel⟩
theorem z_RX6_102 : Cond.fieldLink RX6 102 RX10 "READY" "LDumbwaiterYoung$Word;" ∈ igt := List.mem_filter.mpr ⟨List.mem_of_getElem? (i := 1293) (by decide +kernel), by decide +kernel⟩
theorem z_RX6_105 : Cond.fieldLink RX6 105 RX10 "TALKS" "LDumbwaiterYoung$Word;" ∈ igt := List.mem_filter.mpr ⟨List.mem_of_getElem? (i := 1295) (by decide +kernel), by decide +kernel⟩
theorem z_RX6_108 : Cond.fieldLink RX6 108 RX10 "ON" "LDumbwaiterYoung$Word;" ∈ igt := List.mem_filter.mpr ⟨List.mem_of_getElem? (i := 1297) (by decide +kernel), by decide +kernel⟩
theorem z_RX6_111 : Cond.fieldLink RX6 111 RX10 "LACKS" "LDumbwaiterYoung$Word;" ∈ igt := List.mem_filter.mpr ⟨List.mem_of_getElem? (i := 1299) (by decide +kernel), by decide +kernel⟩
theorem l_RX6_114 : Cond.methodLink RX6 114 yX5_subjectNow ∈ igt := List.mem_filter.mpr ⟨List.mem_of_getElem? (i := 1301) (by decide +kernel), by decide +kernel⟩
theorem l_RX6_77 : Cond.methodLink RX6 77 yX5_fail ∈ igt := List.mem_filter.mpr ⟨List.mem_of_getElem? (i := 1302) (by decide +kernel), by decide +kernel⟩
theorem l_RX6_66 : Cond.methodLink RX6 66 yX5_skipWord ∈ igt := List.mem_filter.mpr ⟨List.mem_of_getElem? (i := 1303) (by decide +kernel), by decide +kernel⟩
theorem l_RX6_56 : Cond.methodLink RX6 56 yX6_add ∈ igt := List.mem_filter.mpr ⟨List.mem_of_getElem? (i := 1304) (by decide +kernel), by decide +kernel⟩
theorem l_RX6_88 : Cond.methodLink RX6 88 yX5_takeSign ∈ igt := List.mem_filter.mpr ⟨List.mem_of_getElem? (i := 1308) (by decide +kernel), by decide +kernel⟩
theorem l_RX6_92 : Cond.methodLink RX6 92 yX6_readSimple ∈ igt := List.mem_filter.mpr ⟨List.mem_of_getElem? (i := 1309) (by decide +kernel), by decide +kernel⟩
theorem l_RX6_118 : Cond.methodLink RX6 118 yX8_takeFloorOrCellar ∈ igt := List.mem_filter.mpr ⟨List.mem_of_getElem? (i := 1313) (by decide +kernel), by decide +kernel⟩
theorem l_RX6_124 : Cond.methodLink RX6 124 yX5_takeGift ∈ igt := List.mem_filter.mpr ⟨List.mem_of_getElem? (i := 1314) (by decide +kernel), by decide +kernel⟩
theorem l_RX6_130 : Cond.methodLink RX6 130 yX5_takeComparison ∈ igt := List.mem_filter.mpr ⟨List.mem_of_getElem? (i := 1316) (by decide +kernel), by decide +kernel⟩
theorem l_RX6_133 : Cond.methodLink RX6 133 yX5_takeNumber ∈ igt := List.mem_filter.mpr ⟨List.mem_of_getElem? (i := 1320) (by decide +kernel), by decide +kernel⟩
theorem z_RX6_60 : Cond.fieldLink RX6 60 RX10 "AND" "LDumbwaiterYoung$Word;" ∈ igt := List.mem_filter.mpr ⟨List.mem_of_getElem? (i := 1321) (by decide +kernel), by decide +kernel⟩
theorem z_RX6_70 : Cond.fieldLink RX6 70 RX10 "OR" "LDumbwaiterYoung$Word;" ∈ igt := List.mem_filter.mpr ⟨List.mem_of_getElem? (i := 1323) (by decide +kernel), by decide +kernel⟩
theorem l_RX6_44 : Cond.methodLink RX6 44 yX5_finish ∈ igt := List.mem_filter.mpr ⟨List.mem_of_getElem? (i := 1325) (by decide +kernel), by decide +kernel⟩
theorem l_RX11_393 : Cond.methodLink RX11 393 yX6_copyFrom ∈ igt := List.mem_filter.mpr ⟨List.mem_of_getElem? (i := 1326) (by decide +kernel), by decide +kernel⟩
theorem l_RX6_31 : Cond.methodLink RX6 31 arraycopyName ∈ igt := List.mem_filter.mpr ⟨List.mem_of_getElem? (i := 1330) (by decide +kernel), by decide +kernel⟩
theorem l_RL_177 : Cond.methodLink RL 177 yX11_said ∈ igt := List.mem_filter.mpr ⟨List.mem_of_getElem? (i := 1331) (by decide +kernel), by decide +kernel⟩
theorem l_RX11_400 : Cond.methodLink RX11 400 yX6_holdsOf ∈ igt := List.mem_filter.mpr ⟨List.mem_of_getElem? (i := 1335) (by decide +kernel), by decide +kernel⟩
theorem l_RX6_137 : Cond.methodLink RX6 137 yX6_isTrue ∈ igt := List.mem_filter.mpr ⟨List.mem_of_getElem? (i := 1339) (by decide +kernel), by decide +kernel⟩
theorem l_RX6_146 : Cond.methodLink RX6 146 yX7_lacking ∈ igt := List.mem_filter.mpr ⟨List.mem_of_getElem? (i := 1343) (by decide +kernel), by decide +kernel⟩
theorem l_RX6_150 : Cond.methodLink RX6 150 yX7_neighbours ∈ igt := List.mem_filter.mpr ⟨List.mem_of_getElem? (i := 1344) (by decide +kernel), by decide +kernel⟩
theorem l_RX6_153 : Cond.methodLink RX6 153 yX6_amountOf ∈ igt := List.mem_filter.mpr ⟨List.mem_of_getElem? (i := 1345) (by decide +kernel), by decide +kernel⟩
theorem l_RX6_170 : Cond.methodLink RX6 170 yX7_amount ∈ igt := List.mem_filter.mpr ⟨List.mem_of_getElem? (i := 1348) (by decide +kernel), by decide +kernel⟩
theorem l_RX6_157 : Cond.methodLink RX6 157 yX6_compares ∈ igt := List.mem_filter.mpr ⟨List.mem_of_getElem? (i := 1349) (by decide +kernel), by decide +kernel⟩
theorem l_RL_181 : Cond.methodLink RL 181 yX11_image ∈ igt := List.mem_filter.mpr ⟨List.mem_of_getElem? (i := 1352) (by decide +kernel), by decide +kernel⟩
theorem l_RX11_404 : Cond.methodLink RX11 404 yX3_keep ∈ igt := List.mem_filter.mpr ⟨List.mem_of_getElem? (i := 1356) (by decide +kernel), by decide +kernel⟩
theorem l_RX3_34 : Cond.methodLink RX3 34 yX8_copyFrom ∈ igt := List.mem_filter.mpr ⟨List.mem_of_getElem? (i := 1360) (by decide +kernel), by decide +kernel⟩
theorem l_RX3_38 : Cond.methodLink RX3 38 yX7_copyFrom ∈ igt := List.mem_filter.mpr ⟨List.mem_of_getElem? (i := 1361) (by decide +kernel), by decide +kernel⟩
theorem l_RX3_41 : Cond.methodLink RX3 41 yX6_copyFrom ∈ igt := List.mem_filter.mpr ⟨List.mem_of_getElem? (i := 1362) (by decide +kernel), by decide +kernel⟩
theorem l_RL_185 : Cond.methodLink RL 185 yX11_restore ∈ igt := List.mem_filter.mpr ⟨List.mem_of_getElem? (i := 1363) (by decide +kernel), by decide +kernel⟩
theorem l_RX11_412 : Cond.methodLink RX11 412 yX3_giveBack ∈ igt := List.mem_filter.mpr ⟨List.mem_of_getElem? (i := 1367) (by decide +kernel), by decide +kernel⟩
theorem l_RL_189 : Cond.methodLink RL 189 yX11_count ∈ igt := List.mem_filter.mpr ⟨List.mem_of_getElem? (i := 1371) (by decide +kernel), by decide +kernel⟩
theorem l_RL_38 : Cond.methodLink RL 38 yL_child ∈ igt := List.mem_filter.mpr ⟨List.mem_of_getElem? (i := 1375) (by decide +kernel), by decide +kernel⟩
theorem l_RL_7 : Cond.methodLink RL 7 yX11_child ∈ igt := List.mem_filter.mpr ⟨List.mem_of_getElem? (i := 1379) (by decide +kernel), by decide +kernel⟩
theorem l_RL_44 : Cond.methodLink RL 44 yX12_thrown ∈ igt := List.mem_filter.mpr ⟨List.mem_of_getElem? (i := 1444) (by decide +kernel), by decide +kernel⟩
theorem l_RL_23 : Cond.methodLink RL 23 yX12_feed ∈ igt := List.mem_filter.mpr ⟨List.mem_of_getElem? (i := 1448) (by decide +kernel), by decide +kernel⟩
theorem l_RX12_10 : Cond.methodLink RX12 10 yX12_four ∈ igt := List.mem_filter.mpr ⟨List.mem_of_getElem? (i := 1452) (by decide +kernel), by decide +kernel⟩
theorem v_RX12 : Cond.instantiable RX12 54 ∈ igt := List.mem_filter.mpr ⟨List.mem_of_getElem? (i := 1455) (by decide +kernel), by decide +kernel⟩
theorem l_RL_28 : Cond.methodLink RL 28 yX12_end ∈ igt := List.mem_filter.mpr ⟨List.mem_of_getElem? (i := 1457) (by decide +kernel), by decide +kernel⟩
theorem o_RL_16 : Cond.classLink RL 16 RX12 ∈ igt := List.mem_filter.mpr ⟨List.mem_of_getElem? (i := 1461) (by decide +kernel), by decide +kernel⟩
theorem l_RL_18 : Cond.methodLink RL 18 yX12_init ∈ igt := List.mem_filter.mpr ⟨List.mem_of_getElem? (i := 1462) (by decide +kernel), by decide +kernel⟩
theorem l_RX12_27 : Cond.methodLink RX12 27 objectInit ∈ igt := List.mem_filter.mpr ⟨List.mem_of_getElem? (i := 1465) (by decide +kernel), by decide +kernel⟩
theorem q_RX12_114 : Cond.constantLong RX12 114 (439905906546) ∈ igt := List.mem_filter.mpr ⟨List.mem_of_getElem? (i := 1466) (by decide +kernel), by decide +kernel⟩
theorem q_RX12_116 : Cond.constantLong RX12 116 (1668246628) ∈ igt := List.mem_filter.mpr ⟨List.mem_of_getElem? (i := 1467) (by decide +kernel), by decide +kernel⟩
theorem q_RX12_118 : Cond.constantLong RX12 118 (426953501796) ∈ igt := List.mem_filter.mpr ⟨List.mem_of_getElem? (i := 1468) (by decide +kernel), by decide +kernel⟩
theorem q_RX12_120 : Cond.constantLong RX12 120 (504363183205) ∈ igt := List.mem_filter.mpr ⟨List.mem_of_getElem? (i := 1469) (by decide +kernel), by decide +kernel⟩
theorem q_RX12_122 : Cond.constantLong RX12 122 (7102839) ∈ igt := List.mem_filter.mpr ⟨List.mem_of_getElem? (i := 1470) (by decide +kernel), by decide +kernel⟩
theorem q_RX12_124 : Cond.constantLong RX12 124 (465625113971) ∈ igt := List.mem_filter.mpr ⟨List.mem_of_getElem? (i := 1471) (by decide +kernel), by decide +kernel⟩
theorem q_RX12_126 : Cond.constantLong RX12 126 (1919905893) ∈ igt := List.mem_filter.mpr ⟨List.mem_of_getElem? (i := 1472) (by decide +kernel), by decide +kernel⟩
theorem q_RX12_128 : Cond.constantLong RX12 128 (1735552887) ∈ igt := List.mem_filter.mpr ⟨List.mem_of_getElem? (i := 1473) (by decide +kernel), by decide +kernel⟩
theorem q_RX12_130 : Cond.constantLong RX12 130 (30787899387900531) ∈ igt := List.mem_filter.mpr ⟨List.mem_of_getElem? (i := 1474) (by decide +kernel), by decide +kernel⟩
theorem q_RX12_132 : Cond.constantLong RX12 132 (470121933155) ∈ igt := List.mem_filter.mpr ⟨List.mem_of_getElem? (i := 1475) (by decide +kernel), by decide +kernel⟩
theorem q_RX12_134 : Cond.constantLong RX12 134 (439720965224) ∈ igt := List.mem_filter.mpr ⟨List.mem_of_getElem? (i := 1476) (by decide +kernel), by decide +kernel⟩
theorem q_RX12_136 : Cond.constantLong RX12 136 (30510848328168051) ∈ igt := List.mem_filter.mpr ⟨List.mem_of_getElem? (i := 1477) (by decide +kernel), by decide +kernel⟩
theorem q_RX12_138 : Cond.constantLong RX12 138 (1936027236) ∈ igt := List.mem_filter.mpr ⟨List.mem_of_getElem? (i := 1478) (by decide +kernel), by decide +kernel⟩
theorem q_RX12_140 : Cond.constantLong RX12 140 (109287261888882) ∈ igt := List.mem_filter.mpr ⟨List.mem_of_getElem? (i := 1479) (by decide +kernel), by decide +kernel⟩
theorem q_RX12_142 : Cond.constantLong RX12 142 (1751215719) ∈ igt := List.mem_filter.mpr ⟨List.mem_of_getElem? (i := 1480) (by decide +kernel), by decide +kernel⟩
theorem q_RX12_144 : Cond.constantLong RX12 144 (1952541541) ∈ igt := List.mem_filter.mpr ⟨List.mem_of_getElem? (i := 1481) (by decide +kernel), by decide +kernel⟩
theorem q_RX12_146 : Cond.constantLong RX12 146 (495623239269) ∈ igt := List.mem_filter.mpr ⟨List.mem_of_getElem? (i := 1482) (by decide +kernel), by decide +kernel⟩
theorem q_RX12_148 : Cond.constantLong RX12 148 (1650549611) ∈ igt := List.mem_filter.mpr ⟨List.mem_of_getElem? (i := 1483) (by decide +kernel), by decide +kernel⟩
theorem q_RX12_150 : Cond.constantLong RX12 150 (1752135026) ∈ igt := List.mem_filter.mpr ⟨List.mem_of_getElem? (i := 1484) (by decide +kernel), by decide +kernel⟩
theorem q_RX12_152 : Cond.constantLong RX12 152 (28530) ∈ igt := List.mem_filter.mpr ⟨List.mem_of_getElem? (i := 1485) (by decide +kernel), by decide +kernel⟩
theorem q_RX12_154 : Cond.constantLong RX12 154 (6385252) ∈ igt := List.mem_filter.mpr ⟨List.mem_of_getElem? (i := 1486) (by decide +kernel), by decide +kernel⟩
theorem q_RX12_156 : Cond.constantLong RX12 156 (7237492) ∈ igt := List.mem_filter.mpr ⟨List.mem_of_getElem? (i := 1487) (by decide +kernel), by decide +kernel⟩
theorem q_RX12_158 : Cond.constantLong RX12 158 (126879549252964) ∈ igt := List.mem_filter.mpr ⟨List.mem_of_getElem? (i := 1488) (by decide +kernel), by decide +kernel⟩
theorem q_RX12_160 : Cond.constantLong RX12 160 (491327153273) ∈ igt := List.mem_filter.mpr ⟨List.mem_of_getElem? (i := 1489) (by decide +kernel), by decide +kernel⟩
theorem q_RX12_162 : Cond.constantLong RX12 162 (499850701683) ∈ igt := List.mem_filter.mpr ⟨List.mem_of_getElem? (i := 1490) (by decide +kernel), by decide +kernel⟩
theorem q_RX12_164 : Cond.constantLong RX12 164 (28526) ∈ igt := List.mem_filter.mpr ⟨List.mem_of_getElem? (i := 1491) (by decide +kernel), by decide +kernel⟩
theorem q_RX12_166 : Cond.constantLong RX12 166 (465490373491) ∈ igt := List.mem_filter.mpr ⟨List.mem_of_getElem? (i := 1492) (by decide +kernel), by decide +kernel⟩
theorem q_RX12_168 : Cond.constantLong RX12 168 (131277443786868) ∈ igt := List.mem_filter.mpr ⟨List.mem_of_getElem? (i := 1493) (by decide +kernel), by decide +kernel⟩
theorem q_RX12_170 : Cond.constantLong RX12 170 (7563385) ∈ igt := List.mem_filter.mpr ⟨List.mem_of_getElem? (i := 1494) (by decide +kernel), by decide +kernel⟩
theorem q_RX12_172 : Cond.constantLong RX12 172 (1717922924) ∈ igt := List.mem_filter.mpr ⟨List.mem_of_getElem? (i := 1495) (by decide +kernel), by decide +kernel⟩
theorem q_RX12_174 : Cond.constantLong RX12 174 (121450625394034) ∈ igt := List.mem_filter.mpr ⟨List.mem_of_getElem? (i := 1496) (by decide +kernel), by decide +kernel⟩
theorem l_RX12_176 : Cond.methodLink RX12 176 yX12_clears ∈ igt := List.mem_filter.mpr ⟨List.mem_of_getElem? (i := 1497) (by decide +kernel), by decide +kernel⟩
theorem f_RX12_1 : iFd RX12 1 11 0 := ⟨_, rfl, by decide, List.mem_filter.mpr ⟨List.mem_of_getElem? (i := 1501) (by decide +kernel), by decide +kernel⟩⟩
theorem f_RX12_14 : iFd RX12 14 11 1 := ⟨_, rfl, by decide, List.mem_filter.mpr ⟨List.mem_of_getElem? (i := 1502) (by decide +kernel), by decide +kernel⟩⟩
theorem f_RX12_7 : iFd RX12 7 11 2 := ⟨_, rfl, by decide, List.mem_filter.mpr ⟨List.mem_of_getElem? (i := 1503) (by decide +kernel), by decide +kernel⟩⟩
theorem f_RX12_18 : iFd RX12 18 11 3 := ⟨_, rfl, by decide, List.mem_filter.mpr ⟨List.mem_of_getElem? (i := 1504) (by decide +kernel), by decide +kernel⟩⟩
theorem f_RX12_21 : iFd RX12 21 11 4 := ⟨_, rfl, by decide, List.mem_filter.mpr ⟨List.mem_of_getElem? (i := 1505) (by decide +kernel), by decide +kernel⟩⟩
theorem f_RX12_24 : iFd RX12 24 11 5 := ⟨_, rfl, by decide, List.mem_filter.mpr ⟨List.mem_of_getElem? (i := 1506) (by decide +kernel), by decide +kernel⟩⟩
theorem f_RX12_33 : iFd RX12 33 11 6 := ⟨_, rfl, by decide, List.mem_filter.mpr ⟨List.mem_of_getElem? (i := 1507) (by decide +kernel), by decide +kernel⟩⟩
theorem f_RX12_37 : iFd RX12 37 11 7 := ⟨_, rfl, by decide, List.mem_filter.mpr ⟨List.mem_of_getElem? (i := 1508) (by decide +kernel), by decide +kernel⟩⟩
theorem f_RX12_40 : iFd RX12 40 11 8 := ⟨_, rfl, by decide, List.mem_filter.mpr ⟨List.mem_of_getElem? (i := 1509) (by decide +kernel), by decide +kernel⟩⟩
theorem f_RX12_43 : iFd RX12 43 11 9 := ⟨_, rfl, by decide, List.mem_filter.mpr ⟨List.mem_of_getElem? (i := 1510) (by decide +kernel), by decide +kernel⟩⟩
theorem f_RX12_47 : iFd RX12 47 11 10 := ⟨_, rfl, by decide, List.mem_filter.mpr ⟨List.mem_of_getElem? (i := 1511) (by decide +kernel), by decide +kernel⟩⟩
theorem f_RX12_189 : iFd RX12 189 11 11 := ⟨_, rfl, by decide, List.mem_filter.mpr ⟨List.mem_of_getElem? (i := 1512) (by decide +kernel), by decide +kernel⟩⟩
theorem f_RX12_183 : iFd RX12 183 11 12 := ⟨_, rfl, by decide, List.mem_filter.mpr ⟨List.mem_of_getElem? (i := 1513) (by decide +kernel), by decide +kernel⟩⟩
theorem f_RX12_186 : iFd RX12 186 11 13 := ⟨_, rfl, by decide, List.mem_filter.mpr ⟨List.mem_of_getElem? (i := 1514) (by decide +kernel), by decide +kernel⟩⟩
theorem f_RX12_199 : iFd RX12 199 11 14 := ⟨_, rfl, by decide, List.mem_filter.mpr ⟨List.mem_of_getElem? (i := 1515) (by decide +kernel), by decide +kernel⟩⟩
theorem f_RX12_206 : iFd RX12 206 11 15 := ⟨_, rfl, by decide, List.mem_filter.mpr ⟨List.mem_of_getElem? (i := 1516) (by decide +kernel), by decide +kernel⟩⟩
theorem f_RX12_209 : iFd RX12 209 11 16 := ⟨_, rfl, by decide, List.mem_filter.mpr ⟨List.mem_of_getElem? (i := 1517) (by decide +kernel), by decide +kernel⟩⟩
theorem f_RX12_202 : iFd RX12 202 11 17 := ⟨_, rfl, by decide, List.mem_filter.mpr ⟨List.mem_of_getElem? (i := 1518) (by decide +kernel), by decide +kernel⟩⟩
theorem f_RX12_225 : iFd RX12 225 11 18 := ⟨_, rfl, by decide, List.mem_filter.mpr ⟨List.mem_of_getElem? (i := 1519) (by decide +kernel), by decide +kernel⟩⟩
theorem f_RX12_284 : iFd RX12 284 11 19 := ⟨_, rfl, by decide, List.mem_filter.mpr ⟨List.mem_of_getElem? (i := 1520) (by decide +kernel), by decide +kernel⟩⟩
theorem f_RX12_253 : iFd RX12 253 11 20 := ⟨_, rfl, by decide, List.mem_filter.mpr ⟨List.mem_of_getElem? (i := 1521) (by decide +kernel), by decide +kernel⟩⟩
theorem f_RX12_50 : iFd RX12 50 11 21 := ⟨_, rfl, by decide, List.mem_filter.mpr ⟨List.mem_of_getElem? (i := 1522) (by decide +kernel), by decide +kernel⟩⟩
theorem f_RX12_53 : iFd RX12 53 11 22 := ⟨_, rfl, by decide, List.mem_filter.mpr ⟨List.mem_of_getElem? (i := 1523) (by decide +kernel), by decide +kernel⟩⟩
theorem f_RX12_293 : iFd RX12 293 11 23 := ⟨_, rfl, by decide, List.mem_filter.mpr ⟨List.mem_of_getElem? (i := 1524) (by decide +kernel), by decide +kernel⟩⟩
theorem f_RX12_56 : iFd RX12 56 11 24 := ⟨_, rfl, by decide, List.mem_filter.mpr ⟨List.mem_of_getElem? (i := 1525) (by decide +kernel), by decide +kernel⟩⟩
theorem f_RX12_59 : iFd RX12 59 11 25 := ⟨_, rfl, by decide, List.mem_filter.mpr ⟨List.mem_of_getElem? (i := 1526) (by decide +kernel), by decide +kernel⟩⟩
theorem f_RX12_62 : iFd RX12 62 11 26 := ⟨_, rfl, by decide, List.mem_filter.mpr ⟨List.mem_of_getElem? (i := 1527) (by decide +kernel), by decide +kernel⟩⟩
theorem f_RX12_65 : iFd RX12 65 11 27 := ⟨_, rfl, by decide, List.mem_filter.mpr ⟨List.mem_of_getElem? (i := 1528) (by decide +kernel), by decide +kernel⟩⟩
theorem f_RX12_68 : iFd RX12 68 11 28 := ⟨_, rfl, by decide, List.mem_filter.mpr ⟨List.mem_of_getElem? (i := 1529) (by decide +kernel), by decide +kernel⟩⟩
theorem f_RX12_71 : iFd RX12 71 11 29 := ⟨_, rfl, by decide, List.mem_filter.mpr ⟨List.mem_of_getElem? (i := 1530) (by decide +kernel), by decide +kernel⟩⟩
theorem f_RX12_74 : iFd RX12 74 11 30 := ⟨_, rfl, by decide, List.mem_filter.mpr ⟨List.mem_of_getElem? (i := 1531) (by decide +kernel), by decide +kernel⟩⟩
theorem f_RX12_77 : iFd RX12 77 11 31 := ⟨_, rfl, by decide, List.mem_filter.mpr ⟨List.mem_of_getElem? (i := 1532) (by decide +kernel), by decide +kernel⟩⟩
theorem f_RX12_80 : iFd RX12 80 11 32 := ⟨_, rfl, by decide, List.mem_filter.mpr ⟨List.mem_of_getElem? (i := 1533) (by decide +kernel), by decide +kernel⟩⟩
theorem f_RX12_412 : iFd RX12 412 11 33 := ⟨_, rfl, by decide, List.mem_filter.mpr ⟨List.mem_of_getElem? (i := 1534) (by decide +kernel), by decide +kernel⟩⟩
theorem f_RX12_408 : iFd RX12 408 11 34 := ⟨_, rfl, by decide, List.mem_filter.mpr ⟨List.mem_of_getElem? (i := 1535) (by decide +kernel), by decide +kernel⟩⟩
theorem f_RX12_83 : iFd RX12 83 11 35 := ⟨_, rfl, by decide, List.mem_filter.mpr ⟨List.mem_of_getElem? (i := 1536) (by decide +kernel), by decide +kernel⟩⟩
theorem f_RX12_86 : iFd RX12 86 11 36 := ⟨_, rfl, by decide, List.mem_filter.mpr ⟨List.mem_of_getElem? (i := 1537) (by decide +kernel), by decide +kernel⟩⟩
theorem f_RX12_89 : iFd RX12 89 11 37 := ⟨_, rfl, by decide, List.mem_filter.mpr ⟨List.mem_of_getElem? (i := 1538) (by decide +kernel), by decide +kernel⟩⟩
theorem f_RX12_92 : iFd RX12 92 11 38 := ⟨_, rfl, by decide, List.mem_filter.mpr ⟨List.mem_of_getElem? (i := 1539) (by decide +kernel), by decide +kernel⟩⟩
theorem f_RX12_427 : iFd RX12 427 11 39 := ⟨_, rfl, by decide, List.mem_filter.mpr ⟨List.mem_of_getElem? (i := 1540) (by decide +kernel), by decide +kernel⟩⟩
theorem f_RX12_444 : iFd RX12 444 11 40 := ⟨_, rfl, by decide, List.mem_filter.mpr ⟨List.mem_of_getElem? (i := 1541) (by decide +kernel), by decide +kernel⟩⟩
theorem f_RX12_454 : iFd RX12 454 11 41 := ⟨_, rfl, by decide, List.mem_filter.mpr ⟨List.mem_of_getElem? (i := 1542) (by decide +kernel), by decide +kernel⟩⟩
theorem f_RX12_95 : iFd RX12 95 11 42 := ⟨_, rfl, by decide, List.mem_filter.mpr ⟨List.mem_of_getElem? (i := 1543) (by decide +kernel), by decide +kernel⟩⟩
theorem f_RX12_466 : iFd RX12 466 11 43 := ⟨_, rfl, by decide, List.mem_filter.mpr ⟨List.mem_of_getElem? (i := 1544) (by decide +kernel), by decide +kernel⟩⟩
theorem f_RX12_98 : iFd RX12 98 11 44 := ⟨_, rfl, by decide, List.mem_filter.mpr ⟨List.mem_of_getElem? (i := 1545) (by decide +kernel), by decide +kernel⟩⟩
theorem f_RX12_469 : iFd RX12 469 11 45 := ⟨_, rfl, by decide, List.mem_filter.mpr ⟨List.mem_of_getElem? (i := 1546) (by decide +kernel), by decide +kernel⟩⟩
theorem f_RX12_484 : iFd RX12 484 11 46 := ⟨_, rfl, by decide, List.mem_filter.mpr ⟨List.mem_of_getElem? (i := 1547) (by decide +kernel), by decide +kernel⟩⟩
theorem f_RX12_472 : iFd RX12 472 11 47 := ⟨_, rfl, by decide, List.mem_filter.mpr ⟨List.mem_of_getElem? (i := 1548) (by decide +kernel), by decide +kernel⟩⟩
theorem f_RX12_478 : iFd RX12 478 11 48 := ⟨_, rfl, by decide, List.mem_filter.mpr ⟨List.mem_of_getElem? (i := 1549) (by decide +kernel), by decide +kernel⟩⟩
theorem f_RX12_487 : iFd RX12 487 11 49 := ⟨_, rfl, by decide, List.mem_filter.mpr ⟨List.mem_of_getElem? (i := 1550) (by decide +kernel), by decide +kernel⟩⟩
theorem f_RX12_101 : iFd RX12 101 11 50 := ⟨_, rfl, by decide, List.mem_filter.mpr ⟨List.mem_of_getElem? (i := 1551) (by decide +kernel), by decide +kernel⟩⟩
theorem f_RX12_105 : iFd RX12 105 11 51 := ⟨_, rfl, by decide, List.mem_filter.mpr ⟨List.mem_of_getElem? (i := 1552) (by decide +kernel), by decide +kernel⟩⟩
theorem f_RX12_108 : iFd RX12 108 11 52 := ⟨_, rfl, by decide, List.mem_filter.mpr ⟨List.mem_of_getElem? (i := 1553) (by decide +kernel), by decide +kernel⟩⟩
theorem f_RX12_111 : iFd RX12 111 11 53 := ⟨_, rfl, by decide, List.mem_filter.mpr ⟨List.mem_of_getElem? (i := 1554) (by decide +kernel), by decide +kernel⟩⟩
theorem ac_boolean : Cond.arrayClass .boolean ∈ igt := List.mem_filter.mpr ⟨List.mem_of_getElem? (i := 1664) (by decide +kernel), by decide +kernel⟩
theorem l_RL_33 : Cond.methodLink RL 33 yX12_tower ∈ igt := List.mem_filter.mpr ⟨List.mem_of_getElem? (i := 1665) (by decide +kernel), by decide +kernel⟩
theorem l_RX12_281 : Cond.methodLink RX12 281 yX12_taken ∈ igt := List.mem_filter.mpr ⟨List.mem_of_getElem? (i := 1669) (by decide +kernel), by decide +kernel⟩
theorem l_RX12_218 : Cond.methodLink RX12 218 yX12_next ∈ igt := List.mem_filter.mpr ⟨List.mem_of_getElem? (i := 1673) (by decide +kernel), by decide +kernel⟩
theorem l_RX12_179 : Cond.methodLink RX12 179 yX12_peek ∈ igt := List.mem_filter.mpr ⟨List.mem_of_getElem? (i := 1677) (by decide +kernel), by decide +kernel⟩
theorem l_RX12_192 : Cond.methodLink RX12 192 yX12_isSmall ∈ igt := List.mem_filter.mpr ⟨List.mem_of_getElem? (i := 1681) (by decide +kernel), by decide +kernel⟩
theorem l_RX12_196 : Cond.methodLink RX12 196 yX12_isDigit ∈ igt := List.mem_filter.mpr ⟨List.mem_of_getElem? (i := 1684) (by decide +kernel), by decide +kernel⟩
theorem l_RX12_287 : Cond.methodLink RX12 287 yX12_line ∈ igt := List.mem_filter.mpr ⟨List.mem_of_getElem? (i := 1687) (by decide +kernel), by decide +kernel⟩
theorem l_RX12_246 : Cond.methodLink RX12 246 yX12_isWord ∈ igt := List.mem_filter.mpr ⟨List.mem_of_getElem? (i := 1691) (by decide +kernel), by decide +kernel⟩
theorem l_RX12_262 : Cond.methodLink RX12 262 yX12_readFloor ∈ igt := List.mem_filter.mpr ⟨List.mem_of_getElem? (i := 1695) (by decide +kernel), by decide +kernel⟩
theorem l_RX12_215 : Cond.methodLink RX12 215 yX12_bad ∈ igt := List.mem_filter.mpr ⟨List.mem_of_getElem? (i := 1699) (by decide +kernel), by decide +kernel⟩
theorem l_RX12_265 : Cond.methodLink RX12 265 yX12_fresh ∈ igt := List.mem_filter.mpr ⟨List.mem_of_getElem? (i := 1703) (by decide +kernel), by decide +kernel⟩
theorem l_RX12_235 : Cond.methodLink RX12 235 yX12_isName ∈ igt := List.mem_filter.mpr ⟨List.mem_of_getElem? (i := 1707) (by decide +kernel), by decide +kernel⟩
theorem l_RX12_239 : Cond.methodLink RX12 239 yX12_find ∈ igt := List.mem_filter.mpr ⟨List.mem_of_getElem? (i := 1711) (by decide +kernel), by decide +kernel⟩
theorem l_RX12_278 : Cond.methodLink RX12 278 yX12_takesGift ∈ igt := List.mem_filter.mpr ⟨List.mem_of_getElem? (i := 1715) (by decide +kernel), by decide +kernel⟩
theorem l_RX12_232 : Cond.methodLink RX12 232 yX12_giftWord ∈ igt := List.mem_filter.mpr ⟨List.mem_of_getElem? (i := 1719) (by decide +kernel), by decide +kernel⟩
theorem l_RX12_259 : Cond.methodLink RX12 259 yX12_puts ∈ igt := List.mem_filter.mpr ⟨List.mem_of_getElem? (i := 1723) (by decide +kernel), by decide +kernel⟩
theorem l_RX12_228 : Cond.methodLink RX12 228 yX12_takes ∈ igt := List.mem_filter.mpr ⟨List.mem_of_getElem? (i := 1727) (by decide +kernel), by decide +kernel⟩
theorem l_RX12_221 : Cond.methodLink RX12 221 yX12_isIn ∈ igt := List.mem_filter.mpr ⟨List.mem_of_getElem? (i := 1731) (by decide +kernel), by decide +kernel⟩
theorem l_RX12_268 : Cond.methodLink RX12 268 yX12_readLaw ∈ igt := List.mem_filter.mpr ⟨List.mem_of_getElem? (i := 1734) (by decide +kernel), by decide +kernel⟩
theorem l_RX12_271 : Cond.methodLink RX12 271 yX12_readLike ∈ igt := List.mem_filter.mpr ⟨List.mem_of_getElem? (i := 1738) (by decide +kernel), by decide +kernel⟩
theorem l_RX12_250 : Cond.methodLink RX12 250 yX12_takesName ∈ igt := List.mem_filter.mpr ⟨List.mem_of_getElem? (i := 1742) (by decide +kernel), by decide +kernel⟩
theorem l_RX12_243 : Cond.methodLink RX12 243 yX12_looksAt ∈ igt := List.mem_filter.mpr ⟨List.mem_of_getElem? (i := 1746) (by decide +kernel), by decide +kernel⟩
theorem l_RX12_274 : Cond.methodLink RX12 274 yX12_once ∈ igt := List.mem_filter.mpr ⟨List.mem_of_getElem? (i := 1750) (by decide +kernel), by decide +kernel⟩
theorem l_RX12_256 : Cond.methodLink RX12 256 yX12_bitOf ∈ igt := List.mem_filter.mpr ⟨List.mem_of_getElem? (i := 1754) (by decide +kernel), by decide +kernel⟩
theorem l_RX12_290 : Cond.methodLink RX12 290 yX12_sign ∈ igt := List.mem_filter.mpr ⟨List.mem_of_getElem? (i := 1757) (by decide +kernel), by decide +kernel⟩
theorem l_RX12_212 : Cond.methodLink RX12 212 yX12_isSign ∈ igt := List.mem_filter.mpr ⟨List.mem_of_getElem? (i := 1761) (by decide +kernel), by decide +kernel⟩
theorem l_RL_37 : Cond.methodLink RL 37 yX12_fault ∈ igt := List.mem_filter.mpr ⟨List.mem_of_getElem? (i := 1765) (by decide +kernel), by decide +kernel⟩
theorem l_RL_43 : Cond.methodLink RL 43 yX12_child ∈ igt := List.mem_filter.mpr ⟨List.mem_of_getElem? (i := 1769) (by decide +kernel), by decide +kernel⟩
theorem l_RX12_306 : Cond.methodLink RX12 306 yX12_isChild ∈ igt := List.mem_filter.mpr ⟨List.mem_of_getElem? (i := 1773) (by decide +kernel), by decide +kernel⟩
theorem l_RX12_309 : Cond.methodLink RX12 309 yX12_throwsIf ∈ igt := List.mem_filter.mpr ⟨List.mem_of_getElem? (i := 1777) (by decide +kernel), by decide +kernel⟩
theorem l_RX12_313 : Cond.methodLink RX12 313 yX12_lacksOf ∈ igt := List.mem_filter.mpr ⟨List.mem_of_getElem? (i := 1781) (by decide +kernel), by decide +kernel⟩
theorem l_RX12_296 : Cond.methodLink RX12 296 yX12_haves ∈ igt := List.mem_filter.mpr ⟨List.mem_of_getElem? (i := 1785) (by decide +kernel), by decide +kernel⟩
theorem l_RX12_316 : Cond.methodLink RX12 316 yX12_nearTo ∈ igt := List.mem_filter.mpr ⟨List.mem_of_getElem? (i := 1789) (by decide +kernel), by decide +kernel⟩
theorem l_RX12_303 : Cond.methodLink RX12 303 yX12_areNear ∈ igt := List.mem_filter.mpr ⟨List.mem_of_getElem? (i := 1793) (by decide +kernel), by decide +kernel⟩
theorem l_RX12_299 : Cond.methodLink RX12 299 yX12_absolute ∈ igt := List.mem_filter.mpr ⟨List.mem_of_getElem? (i := 1797) (by decide +kernel), by decide +kernel⟩
theorem l_RL_50 : Cond.methodLink RL 50 yX12_has ∈ igt := List.mem_filter.mpr ⟨List.mem_of_getElem? (i := 1800) (by decide +kernel), by decide +kernel⟩
theorem l_RL_54 : Cond.methodLink RL 54 yX12_floor ∈ igt := List.mem_filter.mpr ⟨List.mem_of_getElem? (i := 1804) (by decide +kernel), by decide +kernel⟩
theorem l_RX12_319 : Cond.methodLink RX12 319 yX12_isFloor ∈ igt := List.mem_filter.mpr ⟨List.mem_of_getElem? (i := 1808) (by decide +kernel), by decide +kernel⟩
theorem l_RX12_322 : Cond.methodLink RX12 322 yX12_onFloor ∈ igt := List.mem_filter.mpr ⟨List.mem_of_getElem? (i := 1812) (by decide +kernel), by decide +kernel⟩
theorem l_RL_58 : Cond.methodLink RL 58 yX12_uncle ∈ igt := List.mem_filter.mpr ⟨List.mem_of_getElem? (i := 1816) (by decide +kernel), by decide +kernel⟩
theorem l_RX12_325 : Cond.methodLink RX12 325 yX12_isUncle ∈ igt := List.mem_filter.mpr ⟨List.mem_of_getElem? (i := 1820) (by decide +kernel), by decide +kernel⟩
theorem l_RL_63 : Cond.methodLink RL 63 yX12_law ∈ igt := List.mem_filter.mpr ⟨List.mem_of_getElem? (i := 1824) (by decide +kernel), by decide +kernel⟩
theorem l_RL_67 : Cond.methodLink RL 67 yX12_now ∈ igt := List.mem_filter.mpr ⟨List.mem_of_getElem? (i := 1828) (by decide +kernel), by decide +kernel⟩
theorem l_RX12_328 : Cond.methodLink RX12 328 yX12_isServed ∈ igt := List.mem_filter.mpr ⟨List.mem_of_getElem? (i := 1832) (by decide +kernel), by decide +kernel⟩
theorem l_RX12_331 : Cond.methodLink RX12 331 yX12_balanceOf ∈ igt := List.mem_filter.mpr ⟨List.mem_of_getElem? (i := 1836) (by decide +kernel), by decide +kernel⟩
theorem l_RX12_334 : Cond.methodLink RX12 334 yX12_servedSet ∈ igt := List.mem_filter.mpr ⟨List.mem_of_getElem? (i := 1840) (by decide +kernel), by decide +kernel⟩
theorem l_RL_71 : Cond.methodLink RL 71 yX12_send ∈ igt := List.mem_filter.mpr ⟨List.mem_of_getElem? (i := 1844) (by decide +kernel), by decide +kernel⟩
theorem l_RX12_351 : Cond.methodLink RX12 351 yX12_whySend ∈ igt := List.mem_filter.mpr ⟨List.mem_of_getElem? (i := 1848) (by decide +kernel), by decide +kernel⟩
theorem l_RX12_354 : Cond.methodLink RX12 354 yX12_keep ∈ igt := List.mem_filter.mpr ⟨List.mem_of_getElem? (i := 1852) (by decide +kernel), by decide +kernel⟩
theorem l_RX12_357 : Cond.methodLink RX12 357 yX12_sends ∈ igt := List.mem_filter.mpr ⟨List.mem_of_getElem? (i := 1856) (by decide +kernel), by decide +kernel⟩
theorem l_RX12_337 : Cond.methodLink RX12 337 yX12_lesser ∈ igt := List.mem_filter.mpr ⟨List.mem_of_getElem? (i := 1860) (by decide +kernel), by decide +kernel⟩
theorem l_RL_75 : Cond.methodLink RL 75 yX12_hang ∈ igt := List.mem_filter.mpr ⟨List.mem_of_getElem? (i := 1863) (by decide +kernel), by decide +kernel⟩
theorem l_RX12_360 : Cond.methodLink RX12 360 yX12_turns ∈ igt := List.mem_filter.mpr ⟨List.mem_of_getElem? (i := 1867) (by decide +kernel), by decide +kernel⟩
theorem l_RL_79 : Cond.methodLink RL 79 yX12_take ∈ igt := List.mem_filter.mpr ⟨List.mem_of_getElem? (i := 1871) (by decide +kernel), by decide +kernel⟩
theorem l_RL_83 : Cond.methodLink RL 83 yX12_serve ∈ igt := List.mem_filter.mpr ⟨List.mem_of_getElem? (i := 1875) (by decide +kernel), by decide +kernel⟩
theorem l_RX12_363 : Cond.methodLink RX12 363 yX12_whyServe ∈ igt := List.mem_filter.mpr ⟨List.mem_of_getElem? (i := 1879) (by decide +kernel), by decide +kernel⟩
theorem l_RL_87 : Cond.methodLink RL 87 yX12_back ∈ igt := List.mem_filter.mpr ⟨List.mem_of_getElem? (i := 1883) (by decide +kernel), by decide +kernel⟩
theorem l_RX12_366 : Cond.methodLink RX12 366 yX12_returns ∈ igt := List.mem_filter.mpr ⟨List.mem_of_getElem? (i := 1887) (by decide +kernel), by decide +kernel⟩
theorem l_RL_91 : Cond.methodLink RL 91 yX12_hours ∈ igt := List.mem_filter.mpr ⟨List.mem_of_getElem? (i := 1891) (by decide +kernel), by decide +kernel⟩
theorem l_RX12_369 : Cond.methodLink RX12 369 yX12_goesOn ∈ igt := List.mem_filter.mpr ⟨List.mem_of_getElem? (i := 1895) (by decide +kernel), by decide +kernel⟩
theorem l_RX12_348 : Cond.methodLink RX12 348 yX12_hour ∈ igt := List.mem_filter.mpr ⟨List.mem_of_getElem? (i := 1899) (by decide +kernel), by decide +kernel⟩
theorem l_RX12_340 : Cond.methodLink RX12 340 yX12_more ∈ igt := List.mem_filter.mpr ⟨List.mem_of_getElem? (i := 1903) (by decide +kernel), by decide +kernel⟩
theorem l_RX12_344 : Cond.methodLink RX12 344 yX12_talk ∈ igt := List.mem_filter.mpr ⟨List.mem_of_getElem? (i := 1907) (by decide +kernel), by decide +kernel⟩
theorem l_RL_95 : Cond.methodLink RL 95 yX12_undo ∈ igt := List.mem_filter.mpr ⟨List.mem_of_getElem? (i := 1911) (by decide +kernel), by decide +kernel⟩
theorem l_RL_99 : Cond.methodLink RL 99 yX12_when ∈ igt := List.mem_filter.mpr ⟨List.mem_of_getElem? (i := 1915) (by decide +kernel), by decide +kernel⟩
theorem l_RX12_372 : Cond.methodLink RX12 372 yX12_tries ∈ igt := List.mem_filter.mpr ⟨List.mem_of_getElem? (i := 1919) (by decide +kernel), by decide +kernel⟩
theorem l_RX12_375 : Cond.methodLink RX12 375 yX12_recalls ∈ igt := List.mem_filter.mpr ⟨List.mem_of_getElem? (i := 1923) (by decide +kernel), by decide +kernel⟩
theorem l_RL_103 : Cond.methodLink RL 103 yX12_plan ∈ igt := List.mem_filter.mpr ⟨List.mem_of_getElem? (i := 1927) (by decide +kernel), by decide +kernel⟩
theorem l_RX12_386 : Cond.methodLink RX12 386 yX12_floorFor ∈ igt := List.mem_filter.mpr ⟨List.mem_of_getElem? (i := 1931) (by decide +kernel), by decide +kernel⟩
theorem l_RX12_389 : Cond.methodLink RX12 389 yX12_power ∈ igt := List.mem_filter.mpr ⟨List.mem_of_getElem? (i := 1935) (by decide +kernel), by decide +kernel⟩
theorem l_RX12_392 : Cond.methodLink RX12 392 yX12_passedBy ∈ igt := List.mem_filter.mpr ⟨List.mem_of_getElem? (i := 1938) (by decide +kernel), by decide +kernel⟩
theorem l_RX12_378 : Cond.methodLink RX12 378 yX12_digit ∈ igt := List.mem_filter.mpr ⟨List.mem_of_getElem? (i := 1942) (by decide +kernel), by decide +kernel⟩
theorem l_RX12_382 : Cond.methodLink RX12 382 yX12_bits ∈ igt := List.mem_filter.mpr ⟨List.mem_of_getElem? (i := 1945) (by decide +kernel), by decide +kernel⟩
theorem q_RX12_385 : Cond.constant RX12 385 (1000000) ∈ igt := List.mem_filter.mpr ⟨List.mem_of_getElem? (i := 1948) (by decide +kernel), by decide +kernel⟩
theorem l_RL_107 : Cond.methodLink RL 107 yX12_planAt ∈ igt := List.mem_filter.mpr ⟨List.mem_of_getElem? (i := 1949) (by decide +kernel), by decide +kernel⟩
theorem l_RL_111 : Cond.methodLink RL 111 yX12_passes ∈ igt := List.mem_filter.mpr ⟨List.mem_of_getElem? (i := 1953) (by decide +kernel), by decide +kernel⟩
theorem l_RL_115 : Cond.methodLink RL 115 yX12_been ∈ igt := List.mem_filter.mpr ⟨List.mem_of_getElem? (i := 1957) (by decide +kernel), by decide +kernel⟩
theorem l_RX12_399 : Cond.methodLink RX12 399 yX12_isBeen ∈ igt := List.mem_filter.mpr ⟨List.mem_of_getElem? (i := 1961) (by decide +kernel), by decide +kernel⟩
theorem l_RX12_396 : Cond.methodLink RX12 396 yX12_octet ∈ igt := List.mem_filter.mpr ⟨List.mem_of_getElem? (i := 1965) (by decide +kernel), by decide +kernel⟩
theorem l_RX12_405 : Cond.methodLink RX12 405 yX12_leftBy ∈ igt := List.mem_filter.mpr ⟨List.mem_of_getElem? (i := 1969) (by decide +kernel), by decide +kernel⟩
theorem l_RX12_402 : Cond.methodLink RX12 402 yX12_greater ∈ igt := List.mem_filter.mpr ⟨List.mem_of_getElem? (i := 1973) (by decide +kernel), by decide +kernel⟩
theorem l_RL_119 : Cond.methodLink RL 119 yX12_beenAt ∈ igt := List.mem_filter.mpr ⟨List.mem_of_getElem? (i := 1976) (by decide +kernel), by decide +kernel⟩
theorem l_RL_123 : Cond.methodLink RL 123 yX12_ask ∈ igt := List.mem_filter.mpr ⟨List.mem_of_getElem? (i := 1980) (by decide +kernel), by decide +kernel⟩
theorem l_RL_127 : Cond.methodLink RL 127 yX12_hung ∈ igt := List.mem_filter.mpr ⟨List.mem_of_getElem? (i := 1984) (by decide +kernel), by decide +kernel⟩
theorem l_RL_131 : Cond.methodLink RL 131 yX12_hanging ∈ igt := List.mem_filter.mpr ⟨List.mem_of_getElem? (i := 1988) (by decide +kernel), by decide +kernel⟩
theorem l_RL_135 : Cond.methodLink RL 135 yX12_holds ∈ igt := List.mem_filter.mpr ⟨List.mem_of_getElem? (i := 1992) (by decide +kernel), by decide +kernel⟩
theorem l_RL_139 : Cond.methodLink RL 139 yX12_web ∈ igt := List.mem_filter.mpr ⟨List.mem_of_getElem? (i := 1996) (by decide +kernel), by decide +kernel⟩
theorem l_RL_143 : Cond.methodLink RL 143 yX12_bargain ∈ igt := List.mem_filter.mpr ⟨List.mem_of_getElem? (i := 2000) (by decide +kernel), by decide +kernel⟩
theorem l_RX12_424 : Cond.methodLink RX12 424 yX12_asks ∈ igt := List.mem_filter.mpr ⟨List.mem_of_getElem? (i := 2004) (by decide +kernel), by decide +kernel⟩
theorem l_RX12_415 : Cond.methodLink RX12 415 yX12_likesFloor ∈ igt := List.mem_filter.mpr ⟨List.mem_of_getElem? (i := 2008) (by decide +kernel), by decide +kernel⟩
theorem l_RX12_418 : Cond.methodLink RX12 418 yX12_holderOf ∈ igt := List.mem_filter.mpr ⟨List.mem_of_getElem? (i := 2012) (by decide +kernel), by decide +kernel⟩
theorem l_RX12_421 : Cond.methodLink RX12 421 yX12_likesChild ∈ igt := List.mem_filter.mpr ⟨List.mem_of_getElem? (i := 2016) (by decide +kernel), by decide +kernel⟩
theorem l_RL_147 : Cond.methodLink RL 147 yX12_bargained ∈ igt := List.mem_filter.mpr ⟨List.mem_of_getElem? (i := 2020) (by decide +kernel), by decide +kernel⟩
theorem l_RL_151 : Cond.methodLink RL 151 yX12_cover ∈ igt := List.mem_filter.mpr ⟨List.mem_of_getElem? (i := 2024) (by decide +kernel), by decide +kernel⟩
theorem l_RX12_435 : Cond.methodLink RX12 435 yX12_spells ∈ igt := List.mem_filter.mpr ⟨List.mem_of_getElem? (i := 2028) (by decide +kernel), by decide +kernel⟩
theorem q_RX12_430 : Cond.constantLong RX12 430 (255) ∈ igt := List.mem_filter.mpr ⟨List.mem_of_getElem? (i := 2032) (by decide +kernel), by decide +kernel⟩
theorem l_RX12_432 : Cond.methodLink RX12 432 yX12_lays ∈ igt := List.mem_filter.mpr ⟨List.mem_of_getElem? (i := 2033) (by decide +kernel), by decide +kernel⟩
theorem l_RX12_439 : Cond.methodLink RX12 439 yX12_says ∈ igt := List.mem_filter.mpr ⟨List.mem_of_getElem? (i := 2037) (by decide +kernel), by decide +kernel⟩
theorem q_RX12_442 : Cond.constantLong RX12 442 (26990) ∈ igt := List.mem_filter.mpr ⟨List.mem_of_getElem? (i := 2041) (by decide +kernel), by decide +kernel⟩
theorem l_RL_155 : Cond.methodLink RL 155 yX12_byteAt ∈ igt := List.mem_filter.mpr ⟨List.mem_of_getElem? (i := 2042) (by decide +kernel), by decide +kernel⟩
theorem l_RL_159 : Cond.methodLink RL 159 yX12_drawn ∈ igt := List.mem_filter.mpr ⟨List.mem_of_getElem? (i := 2046) (by decide +kernel), by decide +kernel⟩
theorem l_RX12_451 : Cond.methodLink RX12 451 yX12_draws ∈ igt := List.mem_filter.mpr ⟨List.mem_of_getElem? (i := 2050) (by decide +kernel), by decide +kernel⟩
theorem l_RX12_448 : Cond.methodLink RX12 448 yX12_draw ∈ igt := List.mem_filter.mpr ⟨List.mem_of_getElem? (i := 2054) (by decide +kernel), by decide +kernel⟩
theorem q_RX12_447 : Cond.constant RX12 447 (1103515245) ∈ igt := List.mem_filter.mpr ⟨List.mem_of_getElem? (i := 2058) (by decide +kernel), by decide +kernel⟩
theorem l_RL_164 : Cond.methodLink RL 164 yX12_odds ∈ igt := List.mem_filter.mpr ⟨List.mem_of_getElem? (i := 2059) (by decide +kernel), by decide +kernel⟩
theorem l_RL_168 : Cond.methodLink RL 168 yX12_book ∈ igt := List.mem_filter.mpr ⟨List.mem_of_getElem? (i := 2063) (by decide +kernel), by decide +kernel⟩
theorem l_RX12_460 : Cond.methodLink RX12 460 yX12_bookLine ∈ igt := List.mem_filter.mpr ⟨List.mem_of_getElem? (i := 2067) (by decide +kernel), by decide +kernel⟩
theorem l_RX12_457 : Cond.methodLink RX12 457 yX12_takesTo ∈ igt := List.mem_filter.mpr ⟨List.mem_of_getElem? (i := 2071) (by decide +kernel), by decide +kernel⟩
theorem l_RX12_463 : Cond.methodLink RX12 463 yX12_does ∈ igt := List.mem_filter.mpr ⟨List.mem_of_getElem? (i := 2075) (by decide +kernel), by decide +kernel⟩
theorem l_RL_172 : Cond.methodLink RL 172 yX12_told ∈ igt := List.mem_filter.mpr ⟨List.mem_of_getElem? (i := 2079) (by decide +kernel), by decide +kernel⟩
theorem l_RL_176 : Cond.methodLink RL 176 yX12_sentence ∈ igt := List.mem_filter.mpr ⟨List.mem_of_getElem? (i := 2083) (by decide +kernel), by decide +kernel⟩
theorem l_RX12_490 : Cond.methodLink RX12 490 yX12_nots ∈ igt := List.mem_filter.mpr ⟨List.mem_of_getElem? (i := 2087) (by decide +kernel), by decide +kernel⟩
theorem l_RX12_475 : Cond.methodLink RX12 475 yX12_code ∈ igt := List.mem_filter.mpr ⟨List.mem_of_getElem? (i := 2091) (by decide +kernel), by decide +kernel⟩
theorem l_RX12_493 : Cond.methodLink RX12 493 yX12_joins ∈ igt := List.mem_filter.mpr ⟨List.mem_of_getElem? (i := 2095) (by decide +kernel), by decide +kernel⟩
theorem l_RX12_496 : Cond.methodLink RX12 496 yX12_behind ∈ igt := List.mem_filter.mpr ⟨List.mem_of_getElem? (i := 2099) (by decide +kernel), by decide +kernel⟩
theorem l_RX12_499 : Cond.methodLink RX12 499 yX12_operand ∈ igt := List.mem_filter.mpr ⟨List.mem_of_getElem? (i := 2103) (by decide +kernel), by decide +kernel⟩
theorem l_RX12_481 : Cond.methodLink RX12 481 yX12_leafOf ∈ igt := List.mem_filter.mpr ⟨List.mem_of_getElem? (i := 2107) (by decide +kernel), by decide +kernel⟩
theorem l_RL_180 : Cond.methodLink RL 180 yX12_said ∈ igt := List.mem_filter.mpr ⟨List.mem_of_getElem? (i := 2111) (by decide +kernel), by decide +kernel⟩
theorem l_RX12_505 : Cond.methodLink RX12 505 yX12_isSaid ∈ igt := List.mem_filter.mpr ⟨List.mem_of_getElem? (i := 2115) (by decide +kernel), by decide +kernel⟩
theorem l_RX12_502 : Cond.methodLink RX12 502 yX12_isLeaf ∈ igt := List.mem_filter.mpr ⟨List.mem_of_getElem? (i := 2119) (by decide +kernel), by decide +kernel⟩
theorem l_RL_184 : Cond.methodLink RL 184 yX12_image ∈ igt := List.mem_filter.mpr ⟨List.mem_of_getElem? (i := 2123) (by decide +kernel), by decide +kernel⟩
theorem l_RL_188 : Cond.methodLink RL 188 yX12_restore ∈ igt := List.mem_filter.mpr ⟨List.mem_of_getElem? (i := 2127) (by decide +kernel), by decide +kernel⟩
theorem l_RL_192 : Cond.methodLink RL 192 yX12_count ∈ igt := List.mem_filter.mpr ⟨List.mem_of_getElem? (i := 2131) (by decide +kernel), by decide +kernel⟩
theorem z_RX10_122 : Cond.fieldLink RX10 122 RX10 "packed" "J" ∈ igt := List.mem_filter.mpr ⟨List.mem_of_getElem? (i := 2152) (by decide +kernel), by decide +kernel⟩
theorem z_RX5_76 : Cond.fieldLink RX5 76 RX10 "subject" "I" ∈ igt := List.mem_filter.mpr ⟨List.mem_of_getElem? (i := 2153) (by decide +kernel), by decide +kernel⟩
theorem z_RJ0_9 : Cond.fieldLink RJ0 9 RJ0 "value" "[B" ∈ igt := List.mem_filter.mpr ⟨List.mem_of_getElem? (i := 2154) (by decide +kernel), by decide +kernel⟩
theorem z_RJ0_15 : Cond.fieldLink RJ0 15 RJ0 "coder" "B" ∈ igt := List.mem_filter.mpr ⟨List.mem_of_getElem? (i := 2155) (by decide +kernel), by decide +kernel⟩
theorem z_RX10_126 : Cond.fieldLink RX10 126 RX10 "subject" "I" ∈ igt := List.mem_filter.mpr ⟨List.mem_of_getElem? (i := 2156) (by decide +kernel), by decide +kernel⟩
theorem w_copy : Cond.native arraycopyName ∈ igt ∧ Cond.static arraycopyName ∈ igt ∧ Cond.initialized "java/lang/System" ∈ igt := ⟨List.mem_filter.mpr ⟨List.mem_of_getElem? (i := 775) (by decide +kernel), by decide +kernel⟩, List.mem_filter.mpr ⟨List.mem_of_getElem? (i := 774) (by decide +kernel), by decide +kernel⟩, List.mem_filter.mpr ⟨List.mem_of_getElem? (i := 138) (by decide +kernel), by decide +kernel⟩⟩
theorem w_obj : Cond.instanceMethod objectInit ∈ igt ∧ Cond.code objectInit ⟨#[0xb1]⟩ 1 none ∈ igt := ⟨List.mem_filter.mpr ⟨List.mem_of_getElem? (i := 154) (by decide +kernel), by decide +kernel⟩, List.mem_filter.mpr ⟨List.mem_of_getElem? (i := 155) (by decide +kernel), by decide +kernel⟩⟩
theorem u_X0 : iCl (RX0, TX0, 3) := by
  refine ⟨fun w h => ?_, ⟨tyX0, tyX0_ok⟩, nmX0⟩
  have h1 : wsX00 = [479, 481, 483].filterMap (fun i => lw_tbl[i]?) := by decide +kernel
  have h2 : wsX00.all goodWord = true := by decide +kernel
  exact List.mem_filter.mpr ⟨(goodIn_r wsX00 [479, 481, 483] h1 h2 w h).1, List.all_eq_true.mp h2 w h⟩
theorem u_X1 : iCl (RX1, TX1, 8) := by
  refine ⟨fun w h => ?_, ⟨tyX1, tyX1_ok⟩, nmX1⟩
  have h1 : wsX10 = [504, 506, 508, 510, 512, 514, 516, 518].filterMap (fun i => lw_tbl[i]?) := by decide +kernel
  have h2 : wsX10.all goodWord = true := by decide +kernel
  exact List.mem_filter.mpr ⟨(goodIn_r wsX10 [504, 506, 508, 510, 512, 514, 516, 518] h1 h2 w h).1, List.all_eq_true.mp h2 w h⟩
theorem u_X2 : iCl (RX2, TX2, 3) := by
  refine ⟨fun w h => ?_, ⟨tyX2, tyX2_ok⟩, nmX2⟩
  have h1 : wsX20 = [376, 378, 380].filterMap (fun i => lw_tbl[i]?) := by decide +kernel
  have h2 : wsX20.all goodWord = true := by decide +kernel
  exact List.mem_filter.mpr ⟨(goodIn_r wsX20 [376, 378, 380] h1 h2 w h).1, List.all_eq_true.mp h2 w h⟩
theorem u_X3 : iCl (RX3, TX3, 4) := by
  refine ⟨fun w h => ?_, ⟨tyX3, tyX3_ok⟩, nmX3⟩
  have h1 : wsX30 = [401, 403, 405, 407].filterMap (fun i => lw_tbl[i]?) := by decide +kernel
  have h2 : wsX30.all goodWord = true := by decide +kernel
  exact List.mem_filter.mpr ⟨(goodIn_r wsX30 [401, 403, 405, 407] h1 h2 w h).1, List.all_eq_true.mp h2 w h⟩
theorem u_X4 : iCl (RX4, TX4, 5) := by
  refine ⟨fun w h => ?_, ⟨tyX4, tyX4_ok⟩, nmX4⟩
  have h1 : wsX40 = [424, 426, 428, 430, 432].filterMap (fun i => lw_tbl[i]?) := by decide +kernel
  have h2 : wsX40.all goodWord = true := by decide +kernel
  exact List.mem_filter.mpr ⟨(goodIn_r wsX40 [424, 426, 428, 430, 432] h1 h2 w h).1, List.all_eq_true.mp h2 w h⟩
theorem u_X5 : iCl (RX5, TX5, 9) := by
  refine ⟨fun w h => ?_, ⟨tyX5, tyX5_ok⟩, nmX5⟩
  have h1 : wsX50 = [175, 177, 179, 181, 183, 185, 187, 189, 191].filterMap (fun i => lw_tbl[i]?) := by decide +kernel
  have h2 : wsX50.all goodWord = true := by decide +kernel
  exact List.mem_filter.mpr ⟨(goodIn_r wsX50 [175, 177, 179, 181, 183, 185, 187, 189, 191] h1 h2 w h).1, List.all_eq_true.mp h2 w h⟩
theorem u_X6 : iCl (RX6, TX6, 6) := by
  refine ⟨fun w h => ?_, ⟨tyX6, tyX6_ok⟩, nmX6⟩
  have h1 : wsX60 = [350, 352, 354, 356, 358, 360].filterMap (fun i => lw_tbl[i]?) := by decide +kernel
  have h2 : wsX60.all goodWord = true := by decide +kernel
  exact List.mem_filter.mpr ⟨(goodIn_r wsX60 [350, 352, 354, 356, 358, 360] h1 h2 w h).1, List.all_eq_true.mp h2 w h⟩
theorem u_X7 : iCl (RX7, TX7, 11) := by
  refine ⟨fun w h => ?_, ⟨tyX7, tyX7_ok⟩, nmX7⟩
  have h1 : wsX70 = [313, 315, 317, 319, 321, 323, 325, 327, 329, 331, 333].filterMap (fun i => lw_tbl[i]?) := by decide +kernel
  have h2 : wsX70.all goodWord = true := by decide +kernel
  exact List.mem_filter.mpr ⟨(goodIn_r wsX70 [313, 315, 317, 319, 321, 323, 325, 327, 329, 331, 333] h1 h2 w h).1, List.all_eq_true.mp h2 w h⟩
theorem u_X8 : iCl (RX8, TX8, 15) := by
  refine ⟨fun w h => ?_, ⟨tyX8, tyX8_ok⟩, nmX8⟩
  have h1 : wsX80 = [249, 251, 253, 255, 257, 259, 261, 263, 265, 267, 269, 271, 273, 275, 277].filterMap (fun i => lw_tbl[i]?) := by decide +kernel
  have h2 : wsX80.all goodWord = true := by decide +kernel
  exact List.mem_filter.mpr ⟨(goodIn_r wsX80 [249, 251, 253, 255, 257, 259, 261, 263, 265, 267, 269, 271, 273, 275, 277] h1 h2 w h).1, List.all_eq_true.mp h2 w h⟩
theorem u_X9 : iCl (RX9, TX9, 7) := by
  refine ⟨fun w h => ?_, ⟨tyX9, tyX9_ok⟩, nmX9⟩
  have h1 : wsX90 = [451, 453, 455, 457, 459, 461, 463].filterMap (fun i => lw_tbl[i]?) := by decide +kernel
  have h2 : wsX90.all goodWord = true := by decide +kernel
  exact List.mem_filter.mpr ⟨(goodIn_r wsX90 [451, 453, 455, 457, 459, 461, 463] h1 h2 w h).1, List.all_eq_true.mp h2 w h⟩
theorem u_X11 : iCl (RX11, TX11, 19) := by
  refine ⟨fun w h => ?_, ⟨tyX11, tyX11_ok⟩, nmX11⟩
  have h1 : wsX110 = [540, 542, 544, 546, 548, 550, 552, 554, 556, 558, 560, 562, 564, 566, 568, 570, 572, 574, 576].filterMap (fun i => lw_tbl[i]?) := by decide +kernel
  have h2 : wsX110.all goodWord = true := by decide +kernel
  exact List.mem_filter.mpr ⟨(goodIn_r wsX110 [540, 542, 544, 546, 548, 550, 552, 554, 556, 558, 560, 562, 564, 566, 568, 570, 572, 574, 576] h1 h2 w h).1, List.all_eq_true.mp h2 w h⟩
theorem u_X12 : iCl (RX12, TX12, 54) := by
  refine ⟨fun w h => ?_, ⟨tyX12, tyX12_ok⟩, nmX12⟩
  have h1 : wsX120 = [1555, 1557, 1559, 1561, 1563, 1565, 1567, 1569, 1571, 1573, 1575, 1577, 1579, 1581, 1583, 1585, 1587, 1589, 1591, 1593, 1595, 1597, 1599, 1601, 1603, 1605, 1607, 1609, 1611, 1613, 1615, 1617, 1619, 1621, 1623, 1625, 1627, 1629, 1631, 1633, 1635, 1637, 1639, 1641, 1643, 1645, 1647, 1649, 1651, 1653, 1655, 1657, 1659, 1661].filterMap (fun i => lw_tbl[i]?) := by decide +kernel
  have h2 : wsX120.all goodWord = true := by decide +kernel
  exact List.mem_filter.mpr ⟨(goodIn_r wsX120 [1555, 1557, 1559, 1561, 1563, 1565, 1567, 1569, 1571, 1573, 1575, 1577, 1579, 1581, 1583, 1585, 1587, 1589, 1591, 1593, 1595, 1597, 1599, 1601, 1603, 1605, 1607, 1609, 1611, 1613, 1615, 1617, 1619, 1621, 1623, 1625, 1627, 1629, 1631, 1633, 1635, 1637, 1639, 1641, 1643, 1645, 1647, 1649, 1651, 1653, 1655, 1657, 1659, 1661] h1 h2 w h).1, List.all_eq_true.mp h2 w h⟩
theorem uCl : ∀ r ∈ vwCl, iCl r := by
  intro r hr
  simp only [vwCl, List.mem_cons, List.not_mem_nil, or_false] at hr
  rcases hr with rfl | rfl | rfl | rfl | rfl | rfl | rfl | rfl | rfl | rfl | rfl | rfl
  · exact u_X0
  · exact u_X1
  · exact u_X2
  · exact u_X3
  · exact u_X4
  · exact u_X5
  · exact u_X6
  · exact u_X7
  · exact u_X8
  · exact u_X9
  · exact u_X11
  · exact u_X12
