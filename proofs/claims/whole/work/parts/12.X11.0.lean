theorem eX11_init_0 : ino mX11_init 0 = some (.aload_n 0, 1) := by decide +kernel
theorem eX11_init_1 : ino mX11_init 1 = some (.invokespecial 1, 4) := by decide +kernel
theorem eX11_init_4 : ino mX11_init 4 = some (.aload_n 0, 5) := by decide +kernel
theorem eX11_init_5 : ino mX11_init 5 = some (.sipush 940, 8) := by decide +kernel
theorem eX11_init_8 : ino mX11_init 8 = some (.newarray .int, 10) := by decide +kernel
theorem eX11_init_10 : ino mX11_init 10 = some (.putfield 9, 13) := by decide +kernel
theorem eX11_init_13 : ino mX11_init 13 = some (.aload_n 0, 14) := by decide +kernel
theorem eX11_init_14 : ino mX11_init 14 = some (.iconst 0, 15) := by decide +kernel
theorem eX11_init_15 : ino mX11_init 15 = some (.putfield 13, 18) := by decide +kernel
theorem eX11_init_18 : ino mX11_init 18 = some (.aload_n 0, 19) := by decide +kernel
theorem eX11_init_19 : ino mX11_init 19 = some (.new 17, 22) := by decide +kernel
theorem eX11_init_22 : ino mX11_init 22 = some (.dup, 23) := by decide +kernel
theorem eX11_init_23 : ino mX11_init 23 = some (.invokespecial 19, 26) := by decide +kernel
theorem eX11_init_26 : ino mX11_init 26 = some (.putfield 20, 29) := by decide +kernel
theorem eX11_init_29 : ino mX11_init 29 = some (.aload_n 0, 30) := by decide +kernel
theorem eX11_init_30 : ino mX11_init 30 = some (.iconst 0, 31) := by decide +kernel
theorem eX11_init_31 : ino mX11_init 31 = some (.putfield 24, 34) := by decide +kernel
theorem eX11_init_34 : ino mX11_init 34 = some (.aload_n 0, 35) := by decide +kernel
theorem eX11_init_35 : ino mX11_init 35 = some (.new 27, 38) := by decide +kernel
theorem eX11_init_38 : ino mX11_init 38 = some (.dup, 39) := by decide +kernel
theorem eX11_init_39 : ino mX11_init 39 = some (.invokespecial 29, 42) := by decide +kernel
theorem eX11_init_42 : ino mX11_init 42 = some (.putfield 30, 45) := by decide +kernel
theorem eX11_init_45 : ino mX11_init 45 = some (.aload_n 0, 46) := by decide +kernel
theorem eX11_init_46 : ino mX11_init 46 = some (.new 27, 49) := by decide +kernel
theorem eX11_init_49 : ino mX11_init 49 = some (.dup, 50) := by decide +kernel
theorem eX11_init_50 : ino mX11_init 50 = some (.invokespecial 29, 53) := by decide +kernel
theorem eX11_init_53 : ino mX11_init 53 = some (.putfield 34, 56) := by decide +kernel
theorem eX11_init_56 : ino mX11_init 56 = some (.aload_n 0, 57) := by decide +kernel
theorem eX11_init_57 : ino mX11_init 57 = some (.new 37, 60) := by decide +kernel
theorem eX11_init_60 : ino mX11_init 60 = some (.dup, 61) := by decide +kernel
theorem eX11_init_61 : ino mX11_init 61 = some (.invokespecial 39, 64) := by decide +kernel
theorem eX11_init_64 : ino mX11_init 64 = some (.putfield 40, 67) := by decide +kernel
theorem eX11_init_67 : ino mX11_init 67 = some (.aload_n 0, 68) := by decide +kernel
theorem eX11_init_68 : ino mX11_init 68 = some (.new 37, 71) := by decide +kernel
theorem eX11_init_71 : ino mX11_init 71 = some (.dup, 72) := by decide +kernel
theorem eX11_init_72 : ino mX11_init 72 = some (.invokespecial 39, 75) := by decide +kernel
theorem eX11_init_75 : ino mX11_init 75 = some (.putfield 44, 78) := by decide +kernel
theorem eX11_init_78 : ino mX11_init 78 = some (.aload_n 0, 79) := by decide +kernel
theorem eX11_init_79 : ino mX11_init 79 = some (.new 47, 82) := by decide +kernel
theorem eX11_init_82 : ino mX11_init 82 = some (.dup, 83) := by decide +kernel
theorem eX11_init_83 : ino mX11_init 83 = some (.invokespecial 49, 86) := by decide +kernel
theorem eX11_init_86 : ino mX11_init 86 = some (.putfield 50, 89) := by decide +kernel
theorem eX11_init_89 : ino mX11_init 89 = some (.aload_n 0, 90) := by decide +kernel
theorem eX11_init_90 : ino mX11_init 90 = some (.new 47, 93) := by decide +kernel
theorem eX11_init_93 : ino mX11_init 93 = some (.dup, 94) := by decide +kernel
theorem eX11_init_94 : ino mX11_init 94 = some (.invokespecial 49, 97) := by decide +kernel
theorem eX11_init_97 : ino mX11_init 97 = some (.putfield 54, 100) := by decide +kernel
theorem eX11_init_100 : ino mX11_init 100 = some (.aload_n 0, 101) := by decide +kernel
theorem eX11_init_101 : ino mX11_init 101 = some (.new 57, 104) := by decide +kernel
theorem eX11_init_104 : ino mX11_init 104 = some (.dup, 105) := by decide +kernel
theorem eX11_init_105 : ino mX11_init 105 = some (.invokespecial 59, 108) := by decide +kernel
theorem eX11_init_108 : ino mX11_init 108 = some (.putfield 60, 111) := by decide +kernel
theorem eX11_init_111 : ino mX11_init 111 = some (.aload_n 0, 112) := by decide +kernel
theorem eX11_init_112 : ino mX11_init 112 = some (.iconst 2, 113) := by decide +kernel
theorem eX11_init_113 : ino mX11_init 113 = some (.anewarray 64, 116) := by decide +kernel
theorem eX11_init_116 : ino mX11_init 116 = some (.dup, 117) := by decide +kernel
theorem eX11_init_117 : ino mX11_init 117 = some (.iconst 0, 118) := by decide +kernel
theorem eX11_init_118 : ino mX11_init 118 = some (.new 64, 121) := by decide +kernel
theorem eX11_init_121 : ino mX11_init 121 = some (.dup, 122) := by decide +kernel
theorem eX11_init_122 : ino mX11_init 122 = some (.invokespecial 66, 125) := by decide +kernel
theorem eX11_init_125 : ino mX11_init 125 = some (.aastore, 126) := by decide +kernel
theorem eX11_init_126 : ino mX11_init 126 = some (.dup, 127) := by decide +kernel
theorem eX11_init_127 : ino mX11_init 127 = some (.iconst 1, 128) := by decide +kernel
theorem eX11_init_128 : ino mX11_init 128 = some (.new 64, 131) := by decide +kernel
theorem eX11_init_131 : ino mX11_init 131 = some (.dup, 132) := by decide +kernel
theorem eX11_init_132 : ino mX11_init 132 = some (.invokespecial 66, 135) := by decide +kernel
theorem eX11_init_135 : ino mX11_init 135 = some (.aastore, 136) := by decide +kernel
theorem eX11_init_136 : ino mX11_init 136 = some (.putfield 67, 139) := by decide +kernel
theorem eX11_init_139 : ino mX11_init 139 = some (.aload_n 0, 140) := by decide +kernel
theorem eX11_init_140 : ino mX11_init 140 = some (.new 71, 143) := by decide +kernel
theorem eX11_init_143 : ino mX11_init 143 = some (.dup, 144) := by decide +kernel
theorem eX11_init_144 : ino mX11_init 144 = some (.invokespecial 73, 147) := by decide +kernel
theorem eX11_init_147 : ino mX11_init 147 = some (.putfield 74, 150) := by decide +kernel
theorem eX11_init_150 : ino mX11_init 150 = some (.aload_n 0, 151) := by decide +kernel
theorem eX11_init_151 : ino mX11_init 151 = some (.new 78, 154) := by decide +kernel
theorem eX11_init_154 : ino mX11_init 154 = some (.dup, 155) := by decide +kernel
theorem eX11_init_155 : ino mX11_init 155 = some (.invokespecial 80, 158) := by decide +kernel
theorem eX11_init_158 : ino mX11_init 158 = some (.putfield 81, 161) := by decide +kernel
theorem eX11_init_161 : ino mX11_init 161 = some (.aload_n 0, 162) := by decide +kernel
theorem eX11_init_162 : ino mX11_init 162 = some (.new 85, 165) := by decide +kernel
theorem eX11_init_165 : ino mX11_init 165 = some (.dup, 166) := by decide +kernel
theorem eX11_init_166 : ino mX11_init 166 = some (.invokespecial 87, 169) := by decide +kernel
theorem eX11_init_169 : ino mX11_init 169 = some (.putfield 88, 172) := by decide +kernel
theorem eX11_init_172 : ino mX11_init 172 = some (.aload_n 0, 173) := by decide +kernel
theorem eX11_init_173 : ino mX11_init 173 = some (.new 92, 176) := by decide +kernel
theorem eX11_init_176 : ino mX11_init 176 = some (.dup, 177) := by decide +kernel
theorem eX11_init_177 : ino mX11_init 177 = some (.invokespecial 94, 180) := by decide +kernel
theorem eX11_init_180 : ino mX11_init 180 = some (.putfield 95, 183) := by decide +kernel
theorem eX11_init_183 : ino mX11_init 183 = some (.aload_n 0, 184) := by decide +kernel
theorem eX11_init_184 : ino mX11_init 184 = some (.iconst (-1), 185) := by decide +kernel
theorem eX11_init_185 : ino mX11_init 185 = some (.putfield 99, 188) := by decide +kernel
theorem eX11_init_188 : ino mX11_init 188 = some (.aload_n 0, 189) := by decide +kernel
theorem eX11_init_189 : ino mX11_init 189 = some (.bipush 64, 191) := by decide +kernel
theorem eX11_init_191 : ino mX11_init 191 = some (.newarray .int, 193) := by decide +kernel
theorem eX11_init_193 : ino mX11_init 193 = some (.putfield 102, 196) := by decide +kernel
theorem eX11_init_196 : ino mX11_init 196 = some (.aload_n 0, 197) := by decide +kernel
theorem eX11_init_197 : ino mX11_init 197 = some (.iconst 0, 198) := by decide +kernel
theorem eX11_init_198 : ino mX11_init 198 = some (.putfield 105, 201) := by decide +kernel
theorem eX11_init_201 : ino mX11_init 201 = some (.return_, 202) := by decide +kernel
theorem eX11_feed_0 : ino mX11_feed 0 = some (.aload_n 0, 1) := by decide +kernel
theorem eX11_feed_1 : ino mX11_feed 1 = some (.getfield 13, 4) := by decide +kernel
theorem eX11_feed_4 : ino mX11_feed 4 = some (.bipush 20, 6) := by decide +kernel
theorem eX11_feed_6 : ino mX11_feed 6 = some (.iadd, 7) := by decide +kernel
theorem eX11_feed_7 : ino mX11_feed 7 = some (.sipush 940, 10) := by decide +kernel
theorem eX11_feed_10 : ino mX11_feed 10 = some (.if_icmp .le 5, 15) := by decide +kernel
theorem eX11_feed_13 : ino mX11_feed 13 = some (.iconst (-1), 14) := by decide +kernel
theorem eX11_feed_14 : ino mX11_feed 14 = some (.ireturn, 15) := by decide +kernel
theorem eX11_feed_15 : ino mX11_feed 15 = some (.aload_n 0, 16) := by decide +kernel
theorem eX11_feed_16 : ino mX11_feed 16 = some (.iload_n 1, 17) := by decide +kernel
theorem eX11_feed_17 : ino mX11_feed 17 = some (.invokevirtual 108, 20) := by decide +kernel
theorem eX11_feed_20 : ino mX11_feed 20 = some (.aload_n 0, 21) := by decide +kernel
theorem eX11_feed_21 : ino mX11_feed 21 = some (.iload_n 2, 22) := by decide +kernel
theorem eX11_feed_22 : ino mX11_feed 22 = some (.invokevirtual 108, 25) := by decide +kernel
theorem eX11_feed_25 : ino mX11_feed 25 = some (.aload_n 0, 26) := by decide +kernel
theorem eX11_feed_26 : ino mX11_feed 26 = some (.iload_n 3, 27) := by decide +kernel
theorem eX11_feed_27 : ino mX11_feed 27 = some (.invokevirtual 108, 30) := by decide +kernel
theorem eX11_feed_30 : ino mX11_feed 30 = some (.aload_n 0, 31) := by decide +kernel
theorem eX11_feed_31 : ino mX11_feed 31 = some (.iload 4, 33) := by decide +kernel
theorem eX11_feed_33 : ino mX11_feed 33 = some (.invokevirtual 108, 36) := by decide +kernel
theorem eX11_feed_36 : ino mX11_feed 36 = some (.aload_n 0, 37) := by decide +kernel
theorem eX11_feed_37 : ino mX11_feed 37 = some (.iload 5, 39) := by decide +kernel
theorem eX11_feed_39 : ino mX11_feed 39 = some (.invokevirtual 108, 42) := by decide +kernel
theorem eX11_feed_42 : ino mX11_feed 42 = some (.aload_n 0, 43) := by decide +kernel
theorem eX11_feed_43 : ino mX11_feed 43 = some (.getfield 13, 46) := by decide +kernel
theorem eX11_feed_46 : ino mX11_feed 46 = some (.ireturn, 47) := by decide +kernel
theorem eX11_feedOne_0 : ino mX11_feedOne 0 = some (.bipush 24, 2) := by decide +kernel
theorem eX11_feedOne_2 : ino mX11_feedOne 2 = some (.istore_n 2, 3) := by decide +kernel
theorem eX11_feedOne_3 : ino mX11_feedOne 3 = some (.iload_n 2, 4) := by decide +kernel
theorem eX11_feedOne_4 : ino mX11_feedOne 4 = some (.ifCond .lt 45, 49) := by decide +kernel
theorem eX11_feedOne_7 : ino mX11_feedOne 7 = some (.aload_n 0, 8) := by decide +kernel
theorem eX11_feedOne_8 : ino mX11_feedOne 8 = some (.getfield 13, 11) := by decide +kernel
theorem eX11_feedOne_11 : ino mX11_feedOne 11 = some (.sipush 940, 14) := by decide +kernel
theorem eX11_feedOne_14 : ino mX11_feedOne 14 = some (.if_icmp .ge 35, 49) := by decide +kernel
theorem eX11_feedOne_17 : ino mX11_feedOne 17 = some (.aload_n 0, 18) := by decide +kernel
theorem eX11_feedOne_18 : ino mX11_feedOne 18 = some (.getfield 9, 21) := by decide +kernel
theorem eX11_feedOne_21 : ino mX11_feedOne 21 = some (.aload_n 0, 22) := by decide +kernel
theorem eX11_feedOne_22 : ino mX11_feedOne 22 = some (.getfield 13, 25) := by decide +kernel
theorem eX11_feedOne_25 : ino mX11_feedOne 25 = some (.iload_n 1, 26) := by decide +kernel
theorem eX11_feedOne_26 : ino mX11_feedOne 26 = some (.iload_n 2, 27) := by decide +kernel
theorem eX11_feedOne_27 : ino mX11_feedOne 27 = some (.iushr, 28) := by decide +kernel
theorem eX11_feedOne_28 : ino mX11_feedOne 28 = some (.sipush 255, 31) := by decide +kernel
theorem eX11_feedOne_31 : ino mX11_feedOne 31 = some (.iand, 32) := by decide +kernel
theorem eX11_feedOne_32 : ino mX11_feedOne 32 = some (.iastore, 33) := by decide +kernel
theorem eX11_feedOne_33 : ino mX11_feedOne 33 = some (.aload_n 0, 34) := by decide +kernel
theorem eX11_feedOne_34 : ino mX11_feedOne 34 = some (.dup, 35) := by decide +kernel
theorem eX11_feedOne_35 : ino mX11_feedOne 35 = some (.getfield 13, 38) := by decide +kernel
theorem eX11_feedOne_38 : ino mX11_feedOne 38 = some (.iconst 1, 39) := by decide +kernel
theorem eX11_feedOne_39 : ino mX11_feedOne 39 = some (.iadd, 40) := by decide +kernel
theorem eX11_feedOne_40 : ino mX11_feedOne 40 = some (.putfield 13, 43) := by decide +kernel
theorem eX11_feedOne_43 : ino mX11_feedOne 43 = some (.iinc 2 (-8), 46) := by decide +kernel
theorem eX11_feedOne_46 : ino mX11_feedOne 46 = some (.goto (-43), 3) := by decide +kernel
theorem eX11_feedOne_49 : ino mX11_feedOne 49 = some (.return_, 50) := by decide +kernel
theorem eX11_end_0 : ino mX11_end 0 = some (.iload_n 1, 1) := by decide +kernel
theorem eX11_end_1 : ino mX11_end 1 = some (.ifCond .lt 11, 12) := by decide +kernel
theorem eX11_end_4 : ino mX11_end 4 = some (.iload_n 1, 5) := by decide +kernel
theorem eX11_end_5 : ino mX11_end 5 = some (.aload_n 0, 6) := by decide +kernel
theorem eX11_end_6 : ino mX11_end 6 = some (.getfield 13, 9) := by decide +kernel
theorem eX11_end_9 : ino mX11_end 9 = some (.if_icmp .le 5, 14) := by decide +kernel
theorem eX11_end_12 : ino mX11_end 12 = some (.iconst 0, 13) := by decide +kernel
theorem eX11_end_13 : ino mX11_end 13 = some (.ireturn, 14) := by decide +kernel
theorem eX11_end_14 : ino mX11_end 14 = some (.aload_n 0, 15) := by decide +kernel
theorem eX11_end_15 : ino mX11_end 15 = some (.iload_n 1, 16) := by decide +kernel
theorem eX11_end_16 : ino mX11_end 16 = some (.putfield 13, 19) := by decide +kernel
theorem eX11_end_19 : ino mX11_end 19 = some (.iconst 1, 20) := by decide +kernel
theorem eX11_end_20 : ino mX11_end 20 = some (.ireturn, 21) := by decide +kernel
theorem eX11_openTape_0 : ino mX11_openTape 0 = some (.aload_n 0, 1) := by decide +kernel
theorem eX11_openTape_1 : ino mX11_openTape 1 = some (.getfield 20, 4) := by decide +kernel
theorem eX11_openTape_4 : ino mX11_openTape 4 = some (.aload_n 0, 5) := by decide +kernel
theorem eX11_openTape_5 : ino mX11_openTape 5 = some (.getfield 9, 8) := by decide +kernel
theorem eX11_openTape_8 : ino mX11_openTape 8 = some (.aload_n 0, 9) := by decide +kernel
theorem eX11_openTape_9 : ino mX11_openTape 9 = some (.getfield 13, 12) := by decide +kernel
theorem eX11_openTape_12 : ino mX11_openTape 12 = some (.iload_n 1, 13) := by decide +kernel
theorem eX11_openTape_13 : ino mX11_openTape 13 = some (.invokevirtual 112, 16) := by decide +kernel
theorem eX11_openTape_16 : ino mX11_openTape 16 = some (.aload_n 0, 17) := by decide +kernel
theorem eX11_openTape_17 : ino mX11_openTape 17 = some (.iconst 0, 18) := by decide +kernel
theorem eX11_openTape_18 : ino mX11_openTape 18 = some (.putfield 13, 21) := by decide +kernel
theorem eX11_openTape_21 : ino mX11_openTape 21 = some (.return_, 22) := by decide +kernel
theorem eX11_tower_0 : ino mX11_tower 0 = some (.aload_n 0, 1) := by decide +kernel
theorem eX11_tower_1 : ino mX11_tower 1 = some (.sipush 900, 4) := by decide +kernel
theorem eX11_tower_4 : ino mX11_tower 4 = some (.invokevirtual 116, 7) := by decide +kernel
theorem eX11_tower_7 : ino mX11_tower 7 = some (.aload_n 0, 8) := by decide +kernel
theorem eX11_tower_8 : ino mX11_tower 8 = some (.getfield 34, 11) := by decide +kernel
theorem eX11_tower_11 : ino mX11_tower 11 = some (.aload_n 0, 12) := by decide +kernel
theorem eX11_tower_12 : ino mX11_tower 12 = some (.getfield 20, 15) := by decide +kernel
theorem eX11_tower_15 : ino mX11_tower 15 = some (.invokevirtual 119, 18) := by decide +kernel
theorem eX11_tower_18 : ino mX11_tower 18 = some (.istore_n 1, 19) := by decide +kernel
theorem eX11_tower_19 : ino mX11_tower 19 = some (.aload_n 0, 20) := by decide +kernel
theorem eX11_tower_20 : ino mX11_tower 20 = some (.aload_n 0, 21) := by decide +kernel
theorem eX11_tower_21 : ino mX11_tower 21 = some (.getfield 20, 24) := by decide +kernel
theorem eX11_tower_24 : ino mX11_tower 24 = some (.getfield 123, 27) := by decide +kernel
theorem eX11_tower_27 : ino mX11_tower 27 = some (.putfield 24, 30) := by decide +kernel
theorem eX11_tower_30 : ino mX11_tower 30 = some (.aload_n 0, 31) := by decide +kernel
theorem eX11_tower_31 : ino mX11_tower 31 = some (.getfield 20, 34) := by decide +kernel
theorem eX11_tower_34 : ino mX11_tower 34 = some (.invokevirtual 124, 37) := by decide +kernel
theorem eX11_tower_37 : ino mX11_tower 37 = some (.ifCond .eq 13, 50) := by decide +kernel
theorem eX11_tower_40 : ino mX11_tower 40 = some (.iconst (-1), 41) := by decide +kernel
theorem eX11_tower_41 : ino mX11_tower 41 = some (.aload_n 0, 42) := by decide +kernel
theorem eX11_tower_42 : ino mX11_tower 42 = some (.getfield 20, 45) := by decide +kernel
theorem eX11_tower_45 : ino mX11_tower 45 = some (.getfield 128, 48) := by decide +kernel
theorem eX11_tower_48 : ino mX11_tower 48 = some (.isub, 49) := by decide +kernel
theorem eX11_tower_49 : ino mX11_tower 49 = some (.ireturn, 50) := by decide +kernel
theorem eX11_tower_50 : ino mX11_tower 50 = some (.aload_n 0, 51) := by decide +kernel
theorem eX11_tower_51 : ino mX11_tower 51 = some (.getfield 30, 54) := by decide +kernel
theorem eX11_tower_54 : ino mX11_tower 54 = some (.aload_n 0, 55) := by decide +kernel
theorem eX11_tower_55 : ino mX11_tower 55 = some (.getfield 34, 58) := by decide +kernel
theorem eX11_tower_58 : ino mX11_tower 58 = some (.invokevirtual 131, 61) := by decide +kernel
theorem eX11_tower_61 : ino mX11_tower 61 = some (.aload_n 0, 62) := by decide +kernel
theorem eX11_tower_62 : ino mX11_tower 62 = some (.getfield 40, 65) := by decide +kernel
theorem eX11_tower_65 : ino mX11_tower 65 = some (.aload_n 0, 66) := by decide +kernel
theorem eX11_tower_66 : ino mX11_tower 66 = some (.getfield 30, 69) := by decide +kernel
theorem eX11_tower_69 : ino mX11_tower 69 = some (.invokevirtual 135, 72) := by decide +kernel
theorem eX11_tower_72 : ino mX11_tower 72 = some (.aload_n 0, 73) := by decide +kernel
theorem eX11_tower_73 : ino mX11_tower 73 = some (.getfield 50, 76) := by decide +kernel
theorem eX11_tower_76 : ino mX11_tower 76 = some (.invokevirtual 138, 79) := by decide +kernel
theorem eX11_tower_79 : ino mX11_tower 79 = some (.aload_n 0, 80) := by decide +kernel
theorem eX11_tower_80 : ino mX11_tower 80 = some (.getfield 60, 83) := by decide +kernel
theorem eX11_tower_83 : ino mX11_tower 83 = some (.invokevirtual 141, 86) := by decide +kernel
theorem eX11_tower_86 : ino mX11_tower 86 = some (.iload_n 1, 87) := by decide +kernel
theorem eX11_tower_87 : ino mX11_tower 87 = some (.ireturn, 88) := by decide +kernel
theorem eX11_fault_0 : ino mX11_fault 0 = some (.aload_n 0, 1) := by decide +kernel
theorem eX11_fault_1 : ino mX11_fault 1 = some (.getfield 24, 4) := by decide +kernel
theorem eX11_fault_4 : ino mX11_fault 4 = some (.ireturn, 5) := by decide +kernel
theorem eX11_isChild_0 : ino mX11_isChild 0 = some (.iload_n 1, 1) := by decide +kernel
theorem eX11_isChild_1 : ino mX11_isChild 1 = some (.ifCond .lt 18, 19) := by decide +kernel
theorem eX11_isChild_4 : ino mX11_isChild 4 = some (.iload_n 1, 5) := by decide +kernel
theorem eX11_isChild_5 : ino mX11_isChild 5 = some (.aload_n 0, 6) := by decide +kernel
theorem eX11_isChild_6 : ino mX11_isChild 6 = some (.getfield 30, 9) := by decide +kernel
theorem eX11_isChild_9 : ino mX11_isChild 9 = some (.getfield 142, 12) := by decide +kernel
theorem eX11_isChild_12 : ino mX11_isChild 12 = some (.if_icmp .ge 7, 19) := by decide +kernel
theorem eX11_isChild_15 : ino mX11_isChild 15 = some (.iconst 1, 16) := by decide +kernel
theorem eX11_isChild_16 : ino mX11_isChild 16 = some (.goto 4, 20) := by decide +kernel
theorem eX11_isChild_19 : ino mX11_isChild 19 = some (.iconst 0, 20) := by decide +kernel
theorem eX11_isChild_20 : ino mX11_isChild 20 = some (.ireturn, 21) := by decide +kernel
theorem eX11_isFloor_0 : ino mX11_isFloor 0 = some (.iload_n 1, 1) := by decide +kernel
theorem eX11_isFloor_1 : ino mX11_isFloor 1 = some (.iconst 1, 2) := by decide +kernel
theorem eX11_isFloor_2 : ino mX11_isFloor 2 = some (.if_icmp .lt 18, 20) := by decide +kernel
theorem eX11_isFloor_5 : ino mX11_isFloor 5 = some (.iload_n 1, 6) := by decide +kernel
theorem eX11_isFloor_6 : ino mX11_isFloor 6 = some (.aload_n 0, 7) := by decide +kernel
theorem eX11_isFloor_7 : ino mX11_isFloor 7 = some (.getfield 30, 10) := by decide +kernel
theorem eX11_isFloor_10 : ino mX11_isFloor 10 = some (.getfield 145, 13) := by decide +kernel
theorem eX11_isFloor_13 : ino mX11_isFloor 13 = some (.if_icmp .gt 7, 20) := by decide +kernel
theorem eX11_isFloor_16 : ino mX11_isFloor 16 = some (.iconst 1, 17) := by decide +kernel
theorem eX11_isFloor_17 : ino mX11_isFloor 17 = some (.goto 4, 21) := by decide +kernel
theorem eX11_isFloor_20 : ino mX11_isFloor 20 = some (.iconst 0, 21) := by decide +kernel
theorem eX11_isFloor_21 : ino mX11_isFloor 21 = some (.ireturn, 22) := by decide +kernel
theorem eX11_isUncle_0 : ino mX11_isUncle 0 = some (.iload_n 1, 1) := by decide +kernel
theorem eX11_isUncle_1 : ino mX11_isUncle 1 = some (.ifCond .lt 18, 19) := by decide +kernel
theorem eX11_isUncle_4 : ino mX11_isUncle 4 = some (.iload_n 1, 5) := by decide +kernel
theorem eX11_isUncle_5 : ino mX11_isUncle 5 = some (.aload_n 0, 6) := by decide +kernel
theorem eX11_isUncle_6 : ino mX11_isUncle 6 = some (.getfield 30, 9) := by decide +kernel
theorem eX11_isUncle_9 : ino mX11_isUncle 9 = some (.getfield 148, 12) := by decide +kernel
theorem eX11_isUncle_12 : ino mX11_isUncle 12 = some (.if_icmp .ge 7, 19) := by decide +kernel
theorem eX11_isUncle_15 : ino mX11_isUncle 15 = some (.iconst 1, 16) := by decide +kernel
theorem eX11_isUncle_16 : ino mX11_isUncle 16 = some (.goto 4, 20) := by decide +kernel
theorem eX11_isUncle_19 : ino mX11_isUncle 19 = some (.iconst 0, 20) := by decide +kernel
theorem eX11_isUncle_20 : ino mX11_isUncle 20 = some (.ireturn, 21) := by decide +kernel
theorem eX11_child_0 : ino mX11_child 0 = some (.aload_n 0, 1) := by decide +kernel
theorem eX11_child_1 : ino mX11_child 1 = some (.iload_n 1, 2) := by decide +kernel
theorem eX11_child_2 : ino mX11_child 2 = some (.invokevirtual 151, 5) := by decide +kernel
theorem eX11_child_5 : ino mX11_child 5 = some (.ifCond .eq 13, 18) := by decide +kernel
theorem eX11_child_8 : ino mX11_child 8 = some (.iload_n 2, 9) := by decide +kernel
theorem eX11_child_9 : ino mX11_child 9 = some (.ifCond .lt 9, 18) := by decide +kernel
theorem eX11_child_12 : ino mX11_child 12 = some (.iload_n 2, 13) := by decide +kernel
theorem eX11_child_13 : ino mX11_child 13 = some (.bipush 6, 15) := by decide +kernel
theorem eX11_child_15 : ino mX11_child 15 = some (.if_icmp .le 11, 26) := by decide +kernel
theorem eX11_child_18 : ino mX11_child 18 = some (.new 155, 21) := by decide +kernel
theorem eX11_child_21 : ino mX11_child 21 = some (.dup, 22) := by decide +kernel
theorem eX11_child_22 : ino mX11_child 22 = some (.invokespecial 157, 25) := by decide +kernel
theorem eX11_child_25 : ino mX11_child 25 = some (.athrow, 26) := by decide +kernel
theorem eX11_child_26 : ino mX11_child 26 = some (.iload_n 2, 27) := by decide +kernel
theorem eX11_child_27 : decode mX11_child.2.1 27 = .ok (.tableswitch 100 0 5 #[37, 47, 57, 67, 77, 87], 37) := by decide +kernel
theorem eX11_child_64 : ino mX11_child 64 = some (.aload_n 0, 65) := by decide +kernel
theorem eX11_child_65 : ino mX11_child 65 = some (.getfield 40, 68) := by decide +kernel
theorem eX11_child_68 : ino mX11_child 68 = some (.getfield 158, 71) := by decide +kernel
theorem eX11_child_71 : ino mX11_child 71 = some (.iload_n 1, 72) := by decide +kernel
theorem eX11_child_72 : ino mX11_child 72 = some (.iaload, 73) := by decide +kernel
theorem eX11_child_73 : ino mX11_child 73 = some (.ireturn, 74) := by decide +kernel
theorem eX11_child_74 : ino mX11_child 74 = some (.aload_n 0, 75) := by decide +kernel
theorem eX11_child_75 : ino mX11_child 75 = some (.getfield 40, 78) := by decide +kernel
theorem eX11_child_78 : ino mX11_child 78 = some (.getfield 161, 81) := by decide +kernel
theorem eX11_child_81 : ino mX11_child 81 = some (.iload_n 1, 82) := by decide +kernel
theorem eX11_child_82 : ino mX11_child 82 = some (.iaload, 83) := by decide +kernel
theorem eX11_child_83 : ino mX11_child 83 = some (.ireturn, 84) := by decide +kernel
theorem eX11_child_84 : ino mX11_child 84 = some (.aload_n 0, 85) := by decide +kernel
theorem eX11_child_85 : ino mX11_child 85 = some (.getfield 40, 88) := by decide +kernel
theorem eX11_child_88 : ino mX11_child 88 = some (.getfield 164, 91) := by decide +kernel
theorem eX11_child_91 : ino mX11_child 91 = some (.iload_n 1, 92) := by decide +kernel
theorem eX11_child_92 : ino mX11_child 92 = some (.iaload, 93) := by decide +kernel
theorem eX11_child_93 : ino mX11_child 93 = some (.ireturn, 94) := by decide +kernel
theorem eX11_child_94 : ino mX11_child 94 = some (.aload_n 0, 95) := by decide +kernel
theorem eX11_child_95 : ino mX11_child 95 = some (.getfield 40, 98) := by decide +kernel
theorem eX11_child_98 : ino mX11_child 98 = some (.getfield 167, 101) := by decide +kernel
theorem eX11_child_101 : ino mX11_child 101 = some (.iload_n 1, 102) := by decide +kernel
theorem eX11_child_102 : ino mX11_child 102 = some (.iaload, 103) := by decide +kernel
theorem eX11_child_103 : ino mX11_child 103 = some (.ireturn, 104) := by decide +kernel
theorem eX11_child_104 : ino mX11_child 104 = some (.aload_n 0, 105) := by decide +kernel
theorem eX11_child_105 : ino mX11_child 105 = some (.getfield 40, 108) := by decide +kernel
theorem eX11_child_108 : ino mX11_child 108 = some (.getfield 170, 111) := by decide +kernel
theorem eX11_child_111 : ino mX11_child 111 = some (.iload_n 1, 112) := by decide +kernel
theorem eX11_child_112 : ino mX11_child 112 = some (.iaload, 113) := by decide +kernel
theorem eX11_child_113 : ino mX11_child 113 = some (.ireturn, 114) := by decide +kernel
theorem eX11_child_114 : ino mX11_child 114 = some (.aload_n 0, 115) := by decide +kernel
theorem eX11_child_115 : ino mX11_child 115 = some (.getfield 40, 118) := by decide +kernel
theorem eX11_child_118 : ino mX11_child 118 = some (.aload_n 0, 119) := by decide +kernel
theorem eX11_child_119 : ino mX11_child 119 = some (.getfield 30, 122) := by decide +kernel
theorem eX11_child_122 : ino mX11_child 122 = some (.iload_n 1, 123) := by decide +kernel
theorem eX11_child_123 : ino mX11_child 123 = some (.invokevirtual 173, 126) := by decide +kernel
theorem eX11_child_126 : ino mX11_child 126 = some (.ireturn, 127) := by decide +kernel
theorem eX11_child_127 : ino mX11_child 127 = some (.aload_n 0, 128) := by decide +kernel
theorem eX11_child_128 : ino mX11_child 128 = some (.getfield 40, 131) := by decide +kernel
theorem eX11_child_131 : ino mX11_child 131 = some (.aload_n 0, 132) := by decide +kernel
theorem eX11_child_132 : ino mX11_child 132 = some (.getfield 30, 135) := by decide +kernel
theorem eX11_child_135 : ino mX11_child 135 = some (.iload_n 1, 136) := by decide +kernel
theorem eX11_child_136 : ino mX11_child 136 = some (.invokevirtual 177, 139) := by decide +kernel
theorem eX11_child_139 : ino mX11_child 139 = some (.ireturn, 140) := by decide +kernel
theorem eX11_has_0 : ino mX11_has 0 = some (.aload_n 0, 1) := by decide +kernel
theorem eX11_has_1 : ino mX11_has 1 = some (.iload_n 1, 2) := by decide +kernel
theorem eX11_has_2 : ino mX11_has 2 = some (.invokevirtual 151, 5) := by decide +kernel
theorem eX11_has_5 : ino mX11_has 5 = some (.ifCond .eq 12, 17) := by decide +kernel
theorem eX11_has_8 : ino mX11_has 8 = some (.iload_n 2, 9) := by decide +kernel
theorem eX11_has_9 : ino mX11_has 9 = some (.ifCond .lt 8, 17) := by decide +kernel
theorem eX11_has_12 : ino mX11_has 12 = some (.iload_n 2, 13) := by decide +kernel
theorem eX11_has_13 : ino mX11_has 13 = some (.iconst 4, 14) := by decide +kernel
theorem eX11_has_14 : ino mX11_has 14 = some (.if_icmp .lt 5, 19) := by decide +kernel
theorem eX11_has_17 : ino mX11_has 17 = some (.iconst (-1), 18) := by decide +kernel
theorem eX11_has_18 : ino mX11_has 18 = some (.ireturn, 19) := by decide +kernel
theorem eX11_has_19 : ino mX11_has 19 = some (.aload_n 0, 20) := by decide +kernel
theorem eX11_has_20 : ino mX11_has 20 = some (.getfield 40, 23) := by decide +kernel
theorem eX11_has_23 : ino mX11_has 23 = some (.iload_n 1, 24) := by decide +kernel
theorem eX11_has_24 : ino mX11_has 24 = some (.iload_n 2, 25) := by decide +kernel
theorem eX11_has_25 : ino mX11_has 25 = some (.invokevirtual 180, 28) := by decide +kernel
theorem eX11_has_28 : ino mX11_has 28 = some (.ireturn, 29) := by decide +kernel
theorem eX11_floor_0 : ino mX11_floor 0 = some (.aload_n 0, 1) := by decide +kernel
theorem eX11_floor_1 : ino mX11_floor 1 = some (.iload_n 1, 2) := by decide +kernel
theorem eX11_floor_2 : ino mX11_floor 2 = some (.invokevirtual 184, 5) := by decide +kernel
theorem eX11_floor_5 : ino mX11_floor 5 = some (.ifCond .ne 5, 10) := by decide +kernel
theorem eX11_floor_8 : ino mX11_floor 8 = some (.iconst (-1), 9) := by decide +kernel
theorem eX11_floor_9 : ino mX11_floor 9 = some (.ireturn, 10) := by decide +kernel
theorem eX11_floor_10 : ino mX11_floor 10 = some (.iload_n 2, 11) := by decide +kernel
theorem eX11_floor_11 : decode mX11_floor.2.1 11 = .ok (.tableswitch 72 0 3 #[29, 39, 49, 59], 29) := by decide +kernel
theorem eX11_floor_40 : ino mX11_floor 40 = some (.aload_n 0, 41) := by decide +kernel
theorem eX11_floor_41 : ino mX11_floor 41 = some (.getfield 30, 44) := by decide +kernel
theorem eX11_floor_44 : ino mX11_floor 44 = some (.getfield 187, 47) := by decide +kernel
theorem eX11_floor_47 : ino mX11_floor 47 = some (.iload_n 1, 48) := by decide +kernel
theorem eX11_floor_48 : ino mX11_floor 48 = some (.iaload, 49) := by decide +kernel
theorem eX11_floor_49 : ino mX11_floor 49 = some (.ireturn, 50) := by decide +kernel
theorem eX11_floor_50 : ino mX11_floor 50 = some (.aload_n 0, 51) := by decide +kernel
theorem eX11_floor_51 : ino mX11_floor 51 = some (.getfield 30, 54) := by decide +kernel
theorem eX11_floor_54 : ino mX11_floor 54 = some (.getfield 190, 57) := by decide +kernel
theorem eX11_floor_57 : ino mX11_floor 57 = some (.iload_n 1, 58) := by decide +kernel
theorem eX11_floor_58 : ino mX11_floor 58 = some (.iaload, 59) := by decide +kernel
theorem eX11_floor_59 : ino mX11_floor 59 = some (.ireturn, 60) := by decide +kernel
theorem eX11_floor_60 : ino mX11_floor 60 = some (.aload_n 0, 61) := by decide +kernel
theorem eX11_floor_61 : ino mX11_floor 61 = some (.getfield 30, 64) := by decide +kernel
theorem eX11_floor_64 : ino mX11_floor 64 = some (.getfield 193, 67) := by decide +kernel
theorem eX11_floor_67 : ino mX11_floor 67 = some (.iload_n 1, 68) := by decide +kernel
theorem eX11_floor_68 : ino mX11_floor 68 = some (.iaload, 69) := by decide +kernel
theorem eX11_floor_69 : ino mX11_floor 69 = some (.ireturn, 70) := by decide +kernel
theorem eX11_floor_70 : ino mX11_floor 70 = some (.aload_n 0, 71) := by decide +kernel
theorem eX11_floor_71 : ino mX11_floor 71 = some (.getfield 40, 74) := by decide +kernel
theorem eX11_floor_74 : ino mX11_floor 74 = some (.aload_n 0, 75) := by decide +kernel
theorem eX11_floor_75 : ino mX11_floor 75 = some (.getfield 30, 78) := by decide +kernel
theorem eX11_floor_78 : ino mX11_floor 78 = some (.iload_n 1, 79) := by decide +kernel
theorem eX11_floor_79 : ino mX11_floor 79 = some (.invokevirtual 196, 82) := by decide +kernel
theorem eX11_floor_82 : ino mX11_floor 82 = some (.ireturn, 83) := by decide +kernel
theorem eX11_floor_83 : ino mX11_floor 83 = some (.iconst (-1), 84) := by decide +kernel
theorem eX11_floor_84 : ino mX11_floor 84 = some (.ireturn, 85) := by decide +kernel
theorem eX11_uncle_0 : ino mX11_uncle 0 = some (.aload_n 0, 1) := by decide +kernel
theorem eX11_uncle_1 : ino mX11_uncle 1 = some (.iload_n 1, 2) := by decide +kernel
theorem eX11_uncle_2 : ino mX11_uncle 2 = some (.invokevirtual 199, 5) := by decide +kernel
theorem eX11_uncle_5 : ino mX11_uncle 5 = some (.ifCond .ne 5, 10) := by decide +kernel
theorem eX11_uncle_8 : ino mX11_uncle 8 = some (.iconst (-1), 9) := by decide +kernel
theorem eX11_uncle_9 : ino mX11_uncle 9 = some (.ireturn, 10) := by decide +kernel
theorem eX11_uncle_10 : ino mX11_uncle 10 = some (.iload_n 2, 11) := by decide +kernel
theorem eX11_uncle_11 : decode mX11_uncle.2.1 11 = .ok (.lookupswitch 52 #[(0, 25), (1, 35)], 25) := by decide +kernel
theorem eX11_uncle_36 : ino mX11_uncle 36 = some (.aload_n 0, 37) := by decide +kernel
theorem eX11_uncle_37 : ino mX11_uncle 37 = some (.getfield 30, 40) := by decide +kernel
theorem eX11_uncle_40 : ino mX11_uncle 40 = some (.getfield 202, 43) := by decide +kernel
theorem eX11_uncle_43 : ino mX11_uncle 43 = some (.iload_n 1, 44) := by decide +kernel
theorem eX11_uncle_44 : ino mX11_uncle 44 = some (.iaload, 45) := by decide +kernel
theorem eX11_uncle_45 : ino mX11_uncle 45 = some (.ireturn, 46) := by decide +kernel
theorem eX11_uncle_46 : ino mX11_uncle 46 = some (.aload_n 0, 47) := by decide +kernel
theorem eX11_uncle_47 : ino mX11_uncle 47 = some (.getfield 40, 50) := by decide +kernel
theorem eX11_uncle_50 : ino mX11_uncle 50 = some (.iload_n 1, 51) := by decide +kernel
theorem eX11_uncle_51 : ino mX11_uncle 51 = some (.invokevirtual 205, 54) := by decide +kernel
theorem eX11_uncle_54 : ino mX11_uncle 54 = some (.ifCond .eq 7, 61) := by decide +kernel
theorem eX11_uncle_57 : ino mX11_uncle 57 = some (.iconst 1, 58) := by decide +kernel
theorem eX11_uncle_58 : ino mX11_uncle 58 = some (.goto 4, 62) := by decide +kernel
theorem eX11_uncle_61 : ino mX11_uncle 61 = some (.iconst 0, 62) := by decide +kernel
theorem eX11_uncle_62 : ino mX11_uncle 62 = some (.ireturn, 63) := by decide +kernel
theorem eX11_uncle_63 : ino mX11_uncle 63 = some (.iconst (-1), 64) := by decide +kernel
theorem eX11_uncle_64 : ino mX11_uncle 64 = some (.ireturn, 65) := by decide +kernel
theorem eX11_law_0 : ino mX11_law 0 = some (.iload_n 1, 1) := by decide +kernel
theorem eX11_law_1 : ino mX11_law 1 = some (.ifCond .lt 20, 21) := by decide +kernel
theorem eX11_law_4 : ino mX11_law 4 = some (.iload_n 1, 5) := by decide +kernel
theorem eX11_law_5 : ino mX11_law 5 = some (.iconst 4, 6) := by decide +kernel
theorem eX11_law_6 : ino mX11_law 6 = some (.if_icmp .ge 15, 21) := by decide +kernel
theorem eX11_law_9 : ino mX11_law 9 = some (.aload_n 0, 10) := by decide +kernel
theorem eX11_law_10 : ino mX11_law 10 = some (.getfield 30, 13) := by decide +kernel
theorem eX11_law_13 : ino mX11_law 13 = some (.getfield 208, 16) := by decide +kernel
theorem eX11_law_16 : ino mX11_law 16 = some (.iload_n 1, 17) := by decide +kernel
theorem eX11_law_17 : ino mX11_law 17 = some (.iaload, 18) := by decide +kernel
theorem eX11_law_18 : ino mX11_law 18 = some (.goto 4, 22) := by decide +kernel
theorem eX11_law_21 : ino mX11_law 21 = some (.iconst (-1), 22) := by decide +kernel
theorem eX11_law_22 : ino mX11_law 22 = some (.ireturn, 23) := by decide +kernel
theorem eX11_now_0 : ino mX11_now 0 = some (.iload_n 1, 1) := by decide +kernel
theorem eX11_now_1 : decode mX11_now.2.1 1 = .ok (.tableswitch 127 0 7 #[47, 55, 63, 71, 83, 95, 107, 119], 47) := by decide +kernel
theorem eX11_now_48 : ino mX11_now 48 = some (.aload_n 0, 49) := by decide +kernel
theorem eX11_now_49 : ino mX11_now 49 = some (.getfield 40, 52) := by decide +kernel
theorem eX11_now_52 : ino mX11_now 52 = some (.getfield 211, 55) := by decide +kernel
theorem eX11_now_55 : ino mX11_now 55 = some (.ireturn, 56) := by decide +kernel
theorem eX11_now_56 : ino mX11_now 56 = some (.aload_n 0, 57) := by decide +kernel
theorem eX11_now_57 : ino mX11_now 57 = some (.getfield 40, 60) := by decide +kernel
theorem eX11_now_60 : ino mX11_now 60 = some (.getfield 214, 63) := by decide +kernel
theorem eX11_now_63 : ino mX11_now 63 = some (.ireturn, 64) := by decide +kernel
theorem eX11_now_64 : ino mX11_now 64 = some (.aload_n 0, 65) := by decide +kernel
theorem eX11_now_65 : ino mX11_now 65 = some (.getfield 40, 68) := by decide +kernel
theorem eX11_now_68 : ino mX11_now 68 = some (.getfield 217, 71) := by decide +kernel
theorem eX11_now_71 : ino mX11_now 71 = some (.ireturn, 72) := by decide +kernel
theorem eX11_now_72 : ino mX11_now 72 = some (.aload_n 0, 73) := by decide +kernel
theorem eX11_now_73 : ino mX11_now 73 = some (.getfield 40, 76) := by decide +kernel
theorem eX11_now_76 : ino mX11_now 76 = some (.aload_n 0, 77) := by decide +kernel
theorem eX11_now_77 : ino mX11_now 77 = some (.getfield 30, 80) := by decide +kernel
theorem eX11_now_80 : ino mX11_now 80 = some (.invokevirtual 220, 83) := by decide +kernel
theorem eX11_now_83 : ino mX11_now 83 = some (.ireturn, 84) := by decide +kernel
theorem eX11_now_84 : ino mX11_now 84 = some (.aload_n 0, 85) := by decide +kernel
theorem eX11_now_85 : ino mX11_now 85 = some (.getfield 40, 88) := by decide +kernel
theorem eX11_now_88 : ino mX11_now 88 = some (.aload_n 0, 89) := by decide +kernel
theorem eX11_now_89 : ino mX11_now 89 = some (.getfield 30, 92) := by decide +kernel
theorem eX11_now_92 : ino mX11_now 92 = some (.invokevirtual 224, 95) := by decide +kernel
theorem eX11_now_95 : ino mX11_now 95 = some (.ireturn, 96) := by decide +kernel
theorem eX11_now_96 : ino mX11_now 96 = some (.aload_n 0, 97) := by decide +kernel
theorem eX11_now_97 : ino mX11_now 97 = some (.getfield 40, 100) := by decide +kernel
theorem eX11_now_100 : ino mX11_now 100 = some (.aload_n 0, 101) := by decide +kernel
theorem eX11_now_101 : ino mX11_now 101 = some (.getfield 30, 104) := by decide +kernel
theorem eX11_now_104 : ino mX11_now 104 = some (.invokevirtual 227, 107) := by decide +kernel
theorem eX11_now_107 : ino mX11_now 107 = some (.ireturn, 108) := by decide +kernel
theorem eX11_now_108 : ino mX11_now 108 = some (.aload_n 0, 109) := by decide +kernel
theorem eX11_now_109 : ino mX11_now 109 = some (.getfield 40, 112) := by decide +kernel
theorem eX11_now_112 : ino mX11_now 112 = some (.aload_n 0, 113) := by decide +kernel
theorem eX11_now_113 : ino mX11_now 113 = some (.getfield 30, 116) := by decide +kernel
theorem eX11_now_116 : ino mX11_now 116 = some (.invokevirtual 230, 119) := by decide +kernel
theorem eX11_now_119 : ino mX11_now 119 = some (.ireturn, 120) := by decide +kernel
theorem eX11_now_120 : ino mX11_now 120 = some (.aload_n 0, 121) := by decide +kernel
theorem eX11_now_121 : ino mX11_now 121 = some (.getfield 40, 124) := by decide +kernel
theorem eX11_now_124 : ino mX11_now 124 = some (.getfield 233, 127) := by decide +kernel
theorem eX11_now_127 : ino mX11_now 127 = some (.ireturn, 128) := by decide +kernel
theorem eX11_now_128 : ino mX11_now 128 = some (.iconst (-1), 129) := by decide +kernel
theorem eX11_now_129 : ino mX11_now 129 = some (.ireturn, 130) := by decide +kernel
theorem eX11_send_0 : ino mX11_send 0 = some (.aload_n 0, 1) := by decide +kernel
theorem eX11_send_1 : ino mX11_send 1 = some (.iload_n 1, 2) := by decide +kernel
theorem eX11_send_2 : ino mX11_send 2 = some (.invokevirtual 151, 5) := by decide +kernel
theorem eX11_send_5 : ino mX11_send 5 = some (.ifCond .eq 15, 20) := by decide +kernel
theorem eX11_send_8 : ino mX11_send 8 = some (.iload_n 2, 9) := by decide +kernel
theorem eX11_send_9 : ino mX11_send 9 = some (.ifCond .eq 13, 22) := by decide +kernel
theorem eX11_send_12 : ino mX11_send 12 = some (.aload_n 0, 13) := by decide +kernel
theorem eX11_send_13 : ino mX11_send 13 = some (.iload_n 2, 14) := by decide +kernel
theorem eX11_send_14 : ino mX11_send 14 = some (.invokevirtual 184, 17) := by decide +kernel
theorem eX11_send_17 : ino mX11_send 17 = some (.ifCond .ne 5, 22) := by decide +kernel
theorem eX11_send_20 : ino mX11_send 20 = some (.iconst (-1), 21) := by decide +kernel
theorem eX11_send_21 : ino mX11_send 21 = some (.ireturn, 22) := by decide +kernel
theorem eX11_send_22 : ino mX11_send 22 = some (.aload_n 0, 23) := by decide +kernel
theorem eX11_send_23 : ino mX11_send 23 = some (.iconst 0, 24) := by decide +kernel
theorem eX11_send_24 : ino mX11_send 24 = some (.iload_n 1, 25) := by decide +kernel
theorem eX11_send_25 : ino mX11_send 25 = some (.iload_n 2, 26) := by decide +kernel
theorem eX11_send_26 : ino mX11_send 26 = some (.invokevirtual 236, 29) := by decide +kernel
theorem eX11_send_29 : ino mX11_send 29 = some (.ireturn, 30) := by decide +kernel
theorem eX11_hang_0 : ino mX11_hang 0 = some (.aload_n 0, 1) := by decide +kernel
theorem eX11_hang_1 : ino mX11_hang 1 = some (.iload_n 1, 2) := by decide +kernel
theorem eX11_hang_2 : ino mX11_hang 2 = some (.invokevirtual 199, 5) := by decide +kernel
theorem eX11_hang_5 : ino mX11_hang 5 = some (.ifCond .eq 13, 18) := by decide +kernel
theorem eX11_hang_8 : ino mX11_hang 8 = some (.aload_n 0, 9) := by decide +kernel
theorem eX11_hang_9 : ino mX11_hang 9 = some (.iconst 1, 10) := by decide +kernel
theorem eX11_hang_10 : ino mX11_hang 10 = some (.iload_n 1, 11) := by decide +kernel
theorem eX11_hang_11 : ino mX11_hang 11 = some (.iconst 0, 12) := by decide +kernel
theorem eX11_hang_12 : ino mX11_hang 12 = some (.invokevirtual 236, 15) := by decide +kernel
theorem eX11_hang_15 : ino mX11_hang 15 = some (.goto 4, 19) := by decide +kernel
theorem eX11_hang_18 : ino mX11_hang 18 = some (.iconst (-1), 19) := by decide +kernel
theorem eX11_hang_19 : ino mX11_hang 19 = some (.ireturn, 20) := by decide +kernel
theorem eX11_take_0 : ino mX11_take 0 = some (.aload_n 0, 1) := by decide +kernel
theorem eX11_take_1 : ino mX11_take 1 = some (.iload_n 1, 2) := by decide +kernel
theorem eX11_take_2 : ino mX11_take 2 = some (.invokevirtual 199, 5) := by decide +kernel
theorem eX11_take_5 : ino mX11_take 5 = some (.ifCond .eq 13, 18) := by decide +kernel
theorem eX11_take_8 : ino mX11_take 8 = some (.aload_n 0, 9) := by decide +kernel
theorem eX11_take_9 : ino mX11_take 9 = some (.iconst 2, 10) := by decide +kernel
theorem eX11_take_10 : ino mX11_take 10 = some (.iload_n 1, 11) := by decide +kernel
theorem eX11_take_11 : ino mX11_take 11 = some (.iconst 0, 12) := by decide +kernel
theorem eX11_take_12 : ino mX11_take 12 = some (.invokevirtual 236, 15) := by decide +kernel
theorem eX11_take_15 : ino mX11_take 15 = some (.goto 4, 19) := by decide +kernel
theorem eX11_take_18 : ino mX11_take 18 = some (.iconst (-1), 19) := by decide +kernel
theorem eX11_take_19 : ino mX11_take 19 = some (.ireturn, 20) := by decide +kernel
theorem eX11_serve_0 : ino mX11_serve 0 = some (.aload_n 0, 1) := by decide +kernel
theorem eX11_serve_1 : ino mX11_serve 1 = some (.iload_n 1, 2) := by decide +kernel
theorem eX11_serve_2 : ino mX11_serve 2 = some (.invokevirtual 151, 5) := by decide +kernel
theorem eX11_serve_5 : ino mX11_serve 5 = some (.ifCond .eq 13, 18) := by decide +kernel
theorem eX11_serve_8 : ino mX11_serve 8 = some (.aload_n 0, 9) := by decide +kernel
theorem eX11_serve_9 : ino mX11_serve 9 = some (.iconst 3, 10) := by decide +kernel
theorem eX11_serve_10 : ino mX11_serve 10 = some (.iload_n 1, 11) := by decide +kernel
theorem eX11_serve_11 : ino mX11_serve 11 = some (.iconst 0, 12) := by decide +kernel
theorem eX11_serve_12 : ino mX11_serve 12 = some (.invokevirtual 236, 15) := by decide +kernel
theorem eX11_serve_15 : ino mX11_serve 15 = some (.goto 4, 19) := by decide +kernel
theorem eX11_serve_18 : ino mX11_serve 18 = some (.iconst (-1), 19) := by decide +kernel
theorem eX11_serve_19 : ino mX11_serve 19 = some (.ireturn, 20) := by decide +kernel
theorem eX11_back_0 : ino mX11_back 0 = some (.aload_n 0, 1) := by decide +kernel
theorem eX11_back_1 : ino mX11_back 1 = some (.iload_n 1, 2) := by decide +kernel
theorem eX11_back_2 : ino mX11_back 2 = some (.invokevirtual 151, 5) := by decide +kernel
theorem eX11_back_5 : ino mX11_back 5 = some (.ifCond .eq 13, 18) := by decide +kernel
theorem eX11_back_8 : ino mX11_back 8 = some (.aload_n 0, 9) := by decide +kernel
theorem eX11_back_9 : ino mX11_back 9 = some (.iconst 4, 10) := by decide +kernel
theorem eX11_back_10 : ino mX11_back 10 = some (.iload_n 1, 11) := by decide +kernel
theorem eX11_back_11 : ino mX11_back 11 = some (.iconst 0, 12) := by decide +kernel
theorem eX11_back_12 : ino mX11_back 12 = some (.invokevirtual 236, 15) := by decide +kernel
theorem eX11_back_15 : ino mX11_back 15 = some (.goto 4, 19) := by decide +kernel
theorem eX11_back_18 : ino mX11_back 18 = some (.iconst (-1), 19) := by decide +kernel
theorem eX11_back_19 : ino mX11_back 19 = some (.ireturn, 20) := by decide +kernel
theorem eX11_hours_0 : ino mX11_hours 0 = some (.iload_n 1, 1) := by decide +kernel
theorem eX11_hours_1 : ino mX11_hours 1 = some (.iconst 1, 2) := by decide +kernel
theorem eX11_hours_2 : ino mX11_hours 2 = some (.if_icmp .lt 9, 11) := by decide +kernel
theorem eX11_hours_5 : ino mX11_hours 5 = some (.iload_n 1, 6) := by decide +kernel
theorem eX11_hours_6 : ino mX11_hours 6 = some (.bipush 60, 8) := by decide +kernel
theorem eX11_hours_8 : ino mX11_hours 8 = some (.if_icmp .le 5, 13) := by decide +kernel
theorem eX11_hours_11 : ino mX11_hours 11 = some (.iconst (-1), 12) := by decide +kernel
theorem eX11_hours_12 : ino mX11_hours 12 = some (.ireturn, 13) := by decide +kernel
theorem eX11_hours_13 : ino mX11_hours 13 = some (.iload_n 1, 14) := by decide +kernel
theorem eX11_hours_14 : ino mX11_hours 14 = some (.sipush 400, 17) := by decide +kernel
theorem eX11_hours_17 : ino mX11_hours 17 = some (.aload_n 0, 18) := by decide +kernel
theorem eX11_hours_18 : ino mX11_hours 18 = some (.getfield 40, 21) := by decide +kernel
theorem eX11_hours_21 : ino mX11_hours 21 = some (.getfield 211, 24) := by decide +kernel
theorem eX11_hours_24 : ino mX11_hours 24 = some (.isub, 25) := by decide +kernel
theorem eX11_hours_25 : ino mX11_hours 25 = some (.invokestatic 240, 28) := by decide +kernel
theorem eX11_hours_28 : ino mX11_hours 28 = some (.istore_n 2, 29) := by decide +kernel
theorem eX11_hours_29 : ino mX11_hours 29 = some (.iload_n 2, 30) := by decide +kernel
theorem eX11_hours_30 : ino mX11_hours 30 = some (.ifCond .gt 5, 35) := by decide +kernel
theorem eX11_hours_33 : ino mX11_hours 33 = some (.iconst 0, 34) := by decide +kernel
theorem eX11_hours_34 : ino mX11_hours 34 = some (.ireturn, 35) := by decide +kernel
theorem eX11_hours_35 : ino mX11_hours 35 = some (.aload_n 0, 36) := by decide +kernel
theorem eX11_hours_36 : ino mX11_hours 36 = some (.iconst 5, 37) := by decide +kernel
theorem eX11_hours_37 : ino mX11_hours 37 = some (.iload_n 2, 38) := by decide +kernel
theorem eX11_hours_38 : ino mX11_hours 38 = some (.iconst 0, 39) := by decide +kernel
theorem eX11_hours_39 : ino mX11_hours 39 = some (.invokevirtual 236, 42) := by decide +kernel
theorem eX11_hours_42 : ino mX11_hours 42 = some (.pop, 43) := by decide +kernel
theorem eX11_hours_43 : ino mX11_hours 43 = some (.iload_n 2, 44) := by decide +kernel
theorem eX11_hours_44 : ino mX11_hours 44 = some (.ireturn, 45) := by decide +kernel
theorem eX11_perform_0 : ino mX11_perform 0 = some (.aload_n 0, 1) := by decide +kernel
theorem eX11_perform_1 : ino mX11_perform 1 = some (.getfield 40, 4) := by decide +kernel
theorem eX11_perform_4 : ino mX11_perform 4 = some (.aload_n 0, 5) := by decide +kernel
theorem eX11_perform_5 : ino mX11_perform 5 = some (.getfield 30, 8) := by decide +kernel
theorem eX11_perform_8 : ino mX11_perform 8 = some (.iload_n 1, 9) := by decide +kernel
theorem eX11_perform_9 : ino mX11_perform 9 = some (.iload_n 2, 10) := by decide +kernel
theorem eX11_perform_10 : ino mX11_perform 10 = some (.iload_n 3, 11) := by decide +kernel
theorem eX11_perform_11 : ino mX11_perform 11 = some (.invokevirtual 245, 14) := by decide +kernel
theorem eX11_perform_14 : ino mX11_perform 14 = some (.istore 4, 16) := by decide +kernel
theorem eX11_perform_16 : ino mX11_perform 16 = some (.iload 4, 18) := by decide +kernel
theorem eX11_perform_18 : ino mX11_perform 18 = some (.ifCond .ne 28, 46) := by decide +kernel
theorem eX11_perform_21 : ino mX11_perform 21 = some (.aload_n 0, 22) := by decide +kernel
theorem eX11_perform_22 : ino mX11_perform 22 = some (.getfield 60, 25) := by decide +kernel
theorem eX11_perform_25 : ino mX11_perform 25 = some (.aload_n 0, 26) := by decide +kernel
theorem eX11_perform_26 : ino mX11_perform 26 = some (.getfield 40, 29) := by decide +kernel
theorem eX11_perform_29 : ino mX11_perform 29 = some (.invokevirtual 249, 32) := by decide +kernel
theorem eX11_perform_32 : ino mX11_perform 32 = some (.aload_n 0, 33) := by decide +kernel
theorem eX11_perform_33 : ino mX11_perform 33 = some (.getfield 40, 36) := by decide +kernel
theorem eX11_perform_36 : ino mX11_perform 36 = some (.aload_n 0, 37) := by decide +kernel
theorem eX11_perform_37 : ino mX11_perform 37 = some (.getfield 30, 40) := by decide +kernel
theorem eX11_perform_40 : ino mX11_perform 40 = some (.iload_n 1, 41) := by decide +kernel
theorem eX11_perform_41 : ino mX11_perform 41 = some (.iload_n 2, 42) := by decide +kernel
theorem eX11_perform_42 : ino mX11_perform 42 = some (.iload_n 3, 43) := by decide +kernel
theorem eX11_perform_43 : ino mX11_perform 43 = some (.invokevirtual 253, 46) := by decide +kernel
theorem eX11_perform_46 : ino mX11_perform 46 = some (.iload 4, 48) := by decide +kernel
theorem eX11_perform_48 : ino mX11_perform 48 = some (.ireturn, 49) := by decide +kernel
theorem eX11_undo_0 : ino mX11_undo 0 = some (.aload_n 0, 1) := by decide +kernel
theorem eX11_undo_1 : ino mX11_undo 1 = some (.getfield 60, 4) := by decide +kernel
theorem eX11_undo_4 : ino mX11_undo 4 = some (.aload_n 0, 5) := by decide +kernel
theorem eX11_undo_5 : ino mX11_undo 5 = some (.getfield 40, 8) := by decide +kernel
theorem eX11_undo_8 : ino mX11_undo 8 = some (.invokevirtual 257, 11) := by decide +kernel
theorem eX11_undo_11 : ino mX11_undo 11 = some (.ifCond .eq 13, 24) := by decide +kernel
theorem eX11_undo_14 : ino mX11_undo 14 = some (.aload_n 0, 15) := by decide +kernel
theorem eX11_undo_15 : ino mX11_undo 15 = some (.getfield 60, 18) := by decide +kernel
theorem eX11_undo_18 : ino mX11_undo 18 = some (.getfield 261, 21) := by decide +kernel
theorem eX11_undo_21 : ino mX11_undo 21 = some (.goto 4, 25) := by decide +kernel
theorem eX11_undo_24 : ino mX11_undo 24 = some (.iconst (-1), 25) := by decide +kernel
theorem eX11_undo_25 : ino mX11_undo 25 = some (.ireturn, 26) := by decide +kernel
theorem eX11_when_0 : ino mX11_when 0 = some (.aload_n 0, 1) := by decide +kernel
theorem eX11_when_1 : ino mX11_when 1 = some (.iload_n 1, 2) := by decide +kernel
theorem eX11_when_2 : ino mX11_when 2 = some (.invokevirtual 151, 5) := by decide +kernel
theorem eX11_when_5 : ino mX11_when 5 = some (.ifCond .eq 16, 21) := by decide +kernel
theorem eX11_when_8 : ino mX11_when 8 = some (.aload_n 0, 9) := by decide +kernel
theorem eX11_when_9 : ino mX11_when 9 = some (.getfield 40, 12) := by decide +kernel
theorem eX11_when_12 : ino mX11_when 12 = some (.getfield 158, 15) := by decide +kernel
theorem eX11_when_15 : ino mX11_when 15 = some (.iload_n 1, 16) := by decide +kernel
theorem eX11_when_16 : ino mX11_when 16 = some (.iaload, 17) := by decide +kernel
theorem eX11_when_17 : ino mX11_when 17 = some (.iconst (-1), 18) := by decide +kernel
theorem eX11_when_18 : ino mX11_when 18 = some (.if_icmp .ne 5, 23) := by decide +kernel
theorem eX11_when_21 : ino mX11_when 21 = some (.iconst (-1), 22) := by decide +kernel
theorem eX11_when_22 : ino mX11_when 22 = some (.ireturn, 23) := by decide +kernel
theorem eX11_when_23 : ino mX11_when 23 = some (.aload_n 0, 24) := by decide +kernel
theorem eX11_when_24 : ino mX11_when 24 = some (.getfield 44, 27) := by decide +kernel
theorem eX11_when_27 : ino mX11_when 27 = some (.aload_n 0, 28) := by decide +kernel
theorem eX11_when_28 : ino mX11_when 28 = some (.getfield 40, 31) := by decide +kernel
theorem eX11_when_31 : ino mX11_when 31 = some (.invokevirtual 264, 34) := by decide +kernel
theorem eX11_when_34 : ino mX11_when 34 = some (.iconst 0, 35) := by decide +kernel
theorem eX11_when_35 : ino mX11_when 35 = some (.istore_n 2, 36) := by decide +kernel
theorem eX11_when_36 : ino mX11_when 36 = some (.iload_n 2, 37) := by decide +kernel
theorem eX11_when_37 : ino mX11_when 37 = some (.sipush 200, 40) := by decide +kernel
theorem eX11_when_40 : ino mX11_when 40 = some (.if_icmp .gt 52, 92) := by decide +kernel
theorem eX11_when_43 : ino mX11_when 43 = some (.aload_n 0, 44) := by decide +kernel
theorem eX11_when_44 : ino mX11_when 44 = some (.getfield 44, 47) := by decide +kernel
theorem eX11_when_47 : ino mX11_when 47 = some (.aload_n 0, 48) := by decide +kernel
theorem eX11_when_48 : ino mX11_when 48 = some (.getfield 30, 51) := by decide +kernel
theorem eX11_when_51 : ino mX11_when 51 = some (.iload_n 1, 52) := by decide +kernel
theorem eX11_when_52 : ino mX11_when 52 = some (.invokevirtual 173, 55) := by decide +kernel
theorem eX11_when_55 : ino mX11_when 55 = some (.ifCond .ne 5, 60) := by decide +kernel
theorem eX11_when_58 : ino mX11_when 58 = some (.iload_n 2, 59) := by decide +kernel
theorem eX11_when_59 : ino mX11_when 59 = some (.ireturn, 60) := by decide +kernel
theorem eX11_when_60 : ino mX11_when 60 = some (.aload_n 0, 61) := by decide +kernel
theorem eX11_when_61 : ino mX11_when 61 = some (.getfield 44, 64) := by decide +kernel
theorem eX11_when_64 : ino mX11_when 64 = some (.getfield 211, 67) := by decide +kernel
theorem eX11_when_67 : ino mX11_when 67 = some (.sipush 400, 70) := by decide +kernel
theorem eX11_when_70 : ino mX11_when 70 = some (.if_icmp .lt 5, 75) := by decide +kernel
theorem eX11_when_73 : ino mX11_when 73 = some (.iconst (-1), 74) := by decide +kernel
theorem eX11_when_74 : ino mX11_when 74 = some (.ireturn, 75) := by decide +kernel
theorem eX11_when_75 : ino mX11_when 75 = some (.aload_n 0, 76) := by decide +kernel
theorem eX11_when_76 : ino mX11_when 76 = some (.getfield 44, 79) := by decide +kernel
theorem eX11_when_79 : ino mX11_when 79 = some (.aload_n 0, 80) := by decide +kernel
theorem eX11_when_80 : ino mX11_when 80 = some (.getfield 30, 83) := by decide +kernel
theorem eX11_when_83 : ino mX11_when 83 = some (.invokevirtual 266, 86) := by decide +kernel
theorem eX11_when_86 : ino mX11_when 86 = some (.iinc 2 1, 89) := by decide +kernel
theorem eX11_when_89 : ino mX11_when 89 = some (.goto (-53), 36) := by decide +kernel
theorem eX11_when_92 : ino mX11_when 92 = some (.iconst (-1), 93) := by decide +kernel
theorem eX11_when_93 : ino mX11_when 93 = some (.ireturn, 94) := by decide +kernel
