theorem eX8_init_0 : ino mX8_init 0 = some (.aload_n 0, 1) := by decide +kernel
theorem eX8_init_1 : ino mX8_init 1 = some (.invokespecial 3, 4) := by decide +kernel
theorem eX8_init_4 : ino mX8_init 4 = some (.aload_n 0, 5) := by decide +kernel
theorem eX8_init_5 : ino mX8_init 5 = some (.iconst 0, 6) := by decide +kernel
theorem eX8_init_6 : ino mX8_init 6 = some (.putfield 9, 9) := by decide +kernel
theorem eX8_init_9 : ino mX8_init 9 = some (.aload_n 0, 10) := by decide +kernel
theorem eX8_init_10 : ino mX8_init 10 = some (.bipush 9, 12) := by decide +kernel
theorem eX8_init_12 : ino mX8_init 12 = some (.newarray .int, 14) := by decide +kernel
theorem eX8_init_14 : ino mX8_init 14 = some (.putfield 15, 17) := by decide +kernel
theorem eX8_init_17 : ino mX8_init 17 = some (.aload_n 0, 18) := by decide +kernel
theorem eX8_init_18 : ino mX8_init 18 = some (.bipush 9, 20) := by decide +kernel
theorem eX8_init_20 : ino mX8_init 20 = some (.newarray .int, 22) := by decide +kernel
theorem eX8_init_22 : ino mX8_init 22 = some (.putfield 19, 25) := by decide +kernel
theorem eX8_init_25 : ino mX8_init 25 = some (.aload_n 0, 26) := by decide +kernel
theorem eX8_init_26 : ino mX8_init 26 = some (.bipush 9, 28) := by decide +kernel
theorem eX8_init_28 : ino mX8_init 28 = some (.newarray .int, 30) := by decide +kernel
theorem eX8_init_30 : ino mX8_init 30 = some (.putfield 22, 33) := by decide +kernel
theorem eX8_init_33 : ino mX8_init 33 = some (.aload_n 0, 34) := by decide +kernel
theorem eX8_init_34 : ino mX8_init 34 = some (.bipush 9, 36) := by decide +kernel
theorem eX8_init_36 : ino mX8_init 36 = some (.newarray .long, 38) := by decide +kernel
theorem eX8_init_38 : ino mX8_init 38 = some (.putfield 25, 41) := by decide +kernel
theorem eX8_init_41 : ino mX8_init 41 = some (.aload_n 0, 42) := by decide +kernel
theorem eX8_init_42 : ino mX8_init 42 = some (.iconst 0, 43) := by decide +kernel
theorem eX8_init_43 : ino mX8_init 43 = some (.putfield 29, 46) := by decide +kernel
theorem eX8_init_46 : ino mX8_init 46 = some (.aload_n 0, 47) := by decide +kernel
theorem eX8_init_47 : ino mX8_init 47 = some (.bipush 6, 49) := by decide +kernel
theorem eX8_init_49 : ino mX8_init 49 = some (.newarray .int, 51) := by decide +kernel
theorem eX8_init_51 : ino mX8_init 51 = some (.putfield 32, 54) := by decide +kernel
theorem eX8_init_54 : ino mX8_init 54 = some (.aload_n 0, 55) := by decide +kernel
theorem eX8_init_55 : ino mX8_init 55 = some (.bipush 6, 57) := by decide +kernel
theorem eX8_init_57 : ino mX8_init 57 = some (.newarray .long, 59) := by decide +kernel
theorem eX8_init_59 : ino mX8_init 59 = some (.putfield 35, 62) := by decide +kernel
theorem eX8_init_62 : ino mX8_init 62 = some (.aload_n 0, 63) := by decide +kernel
theorem eX8_init_63 : ino mX8_init 63 = some (.iconst 0, 64) := by decide +kernel
theorem eX8_init_64 : ino mX8_init 64 = some (.putfield 38, 67) := by decide +kernel
theorem eX8_init_67 : ino mX8_init 67 = some (.aload_n 0, 68) := by decide +kernel
theorem eX8_init_68 : ino mX8_init 68 = some (.iconst 5, 69) := by decide +kernel
theorem eX8_init_69 : ino mX8_init 69 = some (.newarray .int, 71) := by decide +kernel
theorem eX8_init_71 : ino mX8_init 71 = some (.putfield 41, 74) := by decide +kernel
theorem eX8_init_74 : ino mX8_init 74 = some (.aload_n 0, 75) := by decide +kernel
theorem eX8_init_75 : ino mX8_init 75 = some (.iconst 5, 76) := by decide +kernel
theorem eX8_init_76 : ino mX8_init 76 = some (.newarray .long, 78) := by decide +kernel
theorem eX8_init_78 : ino mX8_init 78 = some (.putfield 44, 81) := by decide +kernel
theorem eX8_init_81 : ino mX8_init 81 = some (.aload_n 0, 82) := by decide +kernel
theorem eX8_init_82 : ino mX8_init 82 = some (.iconst 4, 83) := by decide +kernel
theorem eX8_init_83 : ino mX8_init 83 = some (.newarray .int, 85) := by decide +kernel
theorem eX8_init_85 : ino mX8_init 85 = some (.putfield 47, 88) := by decide +kernel
theorem eX8_init_88 : ino mX8_init 88 = some (.aload_n 0, 89) := by decide +kernel
theorem eX8_init_89 : ino mX8_init 89 = some (.bipush 54, 91) := by decide +kernel
theorem eX8_init_91 : ino mX8_init 91 = some (.newarray .int, 93) := by decide +kernel
theorem eX8_init_93 : ino mX8_init 93 = some (.putfield 50, 96) := by decide +kernel
theorem eX8_init_96 : ino mX8_init 96 = some (.aload_n 0, 97) := by decide +kernel
theorem eX8_init_97 : ino mX8_init 97 = some (.bipush 100, 99) := by decide +kernel
theorem eX8_init_99 : ino mX8_init 99 = some (.putfield 53, 102) := by decide +kernel
theorem eX8_init_102 : ino mX8_init 102 = some (.aload_n 0, 103) := by decide +kernel
theorem eX8_init_103 : ino mX8_init 103 = some (.bipush 6, 105) := by decide +kernel
theorem eX8_init_105 : ino mX8_init 105 = some (.putfield 56, 108) := by decide +kernel
theorem eX8_init_108 : ino mX8_init 108 = some (.return_, 109) := by decide +kernel
theorem eX8_copyFrom_0 : ino mX8_copyFrom 0 = some (.aload_n 0, 1) := by decide +kernel
theorem eX8_copyFrom_1 : ino mX8_copyFrom 1 = some (.aload_n 1, 2) := by decide +kernel
theorem eX8_copyFrom_2 : ino mX8_copyFrom 2 = some (.getfield 9, 5) := by decide +kernel
theorem eX8_copyFrom_5 : ino mX8_copyFrom 5 = some (.putfield 9, 8) := by decide +kernel
theorem eX8_copyFrom_8 : ino mX8_copyFrom 8 = some (.aload_n 0, 9) := by decide +kernel
theorem eX8_copyFrom_9 : ino mX8_copyFrom 9 = some (.aload_n 1, 10) := by decide +kernel
theorem eX8_copyFrom_10 : ino mX8_copyFrom 10 = some (.getfield 29, 13) := by decide +kernel
theorem eX8_copyFrom_13 : ino mX8_copyFrom 13 = some (.putfield 29, 16) := by decide +kernel
theorem eX8_copyFrom_16 : ino mX8_copyFrom 16 = some (.aload_n 0, 17) := by decide +kernel
theorem eX8_copyFrom_17 : ino mX8_copyFrom 17 = some (.aload_n 1, 18) := by decide +kernel
theorem eX8_copyFrom_18 : ino mX8_copyFrom 18 = some (.getfield 38, 21) := by decide +kernel
theorem eX8_copyFrom_21 : ino mX8_copyFrom 21 = some (.putfield 38, 24) := by decide +kernel
theorem eX8_copyFrom_24 : ino mX8_copyFrom 24 = some (.aload_n 0, 25) := by decide +kernel
theorem eX8_copyFrom_25 : ino mX8_copyFrom 25 = some (.aload_n 1, 26) := by decide +kernel
theorem eX8_copyFrom_26 : ino mX8_copyFrom 26 = some (.getfield 53, 29) := by decide +kernel
theorem eX8_copyFrom_29 : ino mX8_copyFrom 29 = some (.putfield 53, 32) := by decide +kernel
theorem eX8_copyFrom_32 : ino mX8_copyFrom 32 = some (.aload_n 0, 33) := by decide +kernel
theorem eX8_copyFrom_33 : ino mX8_copyFrom 33 = some (.aload_n 1, 34) := by decide +kernel
theorem eX8_copyFrom_34 : ino mX8_copyFrom 34 = some (.getfield 56, 37) := by decide +kernel
theorem eX8_copyFrom_37 : ino mX8_copyFrom 37 = some (.putfield 56, 40) := by decide +kernel
theorem eX8_copyFrom_40 : ino mX8_copyFrom 40 = some (.aload_n 1, 41) := by decide +kernel
theorem eX8_copyFrom_41 : ino mX8_copyFrom 41 = some (.getfield 15, 44) := by decide +kernel
theorem eX8_copyFrom_44 : ino mX8_copyFrom 44 = some (.iconst 0, 45) := by decide +kernel
theorem eX8_copyFrom_45 : ino mX8_copyFrom 45 = some (.aload_n 0, 46) := by decide +kernel
theorem eX8_copyFrom_46 : ino mX8_copyFrom 46 = some (.getfield 15, 49) := by decide +kernel
theorem eX8_copyFrom_49 : ino mX8_copyFrom 49 = some (.iconst 0, 50) := by decide +kernel
theorem eX8_copyFrom_50 : ino mX8_copyFrom 50 = some (.aload_n 0, 51) := by decide +kernel
theorem eX8_copyFrom_51 : ino mX8_copyFrom 51 = some (.getfield 15, 54) := by decide +kernel
theorem eX8_copyFrom_54 : ino mX8_copyFrom 54 = some (.arraylength, 55) := by decide +kernel
theorem eX8_copyFrom_55 : ino mX8_copyFrom 55 = some (.invokestatic 59, 58) := by decide +kernel
theorem eX8_copyFrom_58 : ino mX8_copyFrom 58 = some (.aload_n 1, 59) := by decide +kernel
theorem eX8_copyFrom_59 : ino mX8_copyFrom 59 = some (.getfield 19, 62) := by decide +kernel
theorem eX8_copyFrom_62 : ino mX8_copyFrom 62 = some (.iconst 0, 63) := by decide +kernel
theorem eX8_copyFrom_63 : ino mX8_copyFrom 63 = some (.aload_n 0, 64) := by decide +kernel
theorem eX8_copyFrom_64 : ino mX8_copyFrom 64 = some (.getfield 19, 67) := by decide +kernel
theorem eX8_copyFrom_67 : ino mX8_copyFrom 67 = some (.iconst 0, 68) := by decide +kernel
theorem eX8_copyFrom_68 : ino mX8_copyFrom 68 = some (.aload_n 0, 69) := by decide +kernel
theorem eX8_copyFrom_69 : ino mX8_copyFrom 69 = some (.getfield 19, 72) := by decide +kernel
theorem eX8_copyFrom_72 : ino mX8_copyFrom 72 = some (.arraylength, 73) := by decide +kernel
theorem eX8_copyFrom_73 : ino mX8_copyFrom 73 = some (.invokestatic 59, 76) := by decide +kernel
theorem eX8_copyFrom_76 : ino mX8_copyFrom 76 = some (.aload_n 1, 77) := by decide +kernel
theorem eX8_copyFrom_77 : ino mX8_copyFrom 77 = some (.getfield 22, 80) := by decide +kernel
theorem eX8_copyFrom_80 : ino mX8_copyFrom 80 = some (.iconst 0, 81) := by decide +kernel
theorem eX8_copyFrom_81 : ino mX8_copyFrom 81 = some (.aload_n 0, 82) := by decide +kernel
theorem eX8_copyFrom_82 : ino mX8_copyFrom 82 = some (.getfield 22, 85) := by decide +kernel
theorem eX8_copyFrom_85 : ino mX8_copyFrom 85 = some (.iconst 0, 86) := by decide +kernel
theorem eX8_copyFrom_86 : ino mX8_copyFrom 86 = some (.aload_n 0, 87) := by decide +kernel
theorem eX8_copyFrom_87 : ino mX8_copyFrom 87 = some (.getfield 22, 90) := by decide +kernel
theorem eX8_copyFrom_90 : ino mX8_copyFrom 90 = some (.arraylength, 91) := by decide +kernel
theorem eX8_copyFrom_91 : ino mX8_copyFrom 91 = some (.invokestatic 59, 94) := by decide +kernel
theorem eX8_copyFrom_94 : ino mX8_copyFrom 94 = some (.aload_n 1, 95) := by decide +kernel
theorem eX8_copyFrom_95 : ino mX8_copyFrom 95 = some (.getfield 25, 98) := by decide +kernel
theorem eX8_copyFrom_98 : ino mX8_copyFrom 98 = some (.iconst 0, 99) := by decide +kernel
theorem eX8_copyFrom_99 : ino mX8_copyFrom 99 = some (.aload_n 0, 100) := by decide +kernel
theorem eX8_copyFrom_100 : ino mX8_copyFrom 100 = some (.getfield 25, 103) := by decide +kernel
theorem eX8_copyFrom_103 : ino mX8_copyFrom 103 = some (.iconst 0, 104) := by decide +kernel
theorem eX8_copyFrom_104 : ino mX8_copyFrom 104 = some (.aload_n 0, 105) := by decide +kernel
theorem eX8_copyFrom_105 : ino mX8_copyFrom 105 = some (.getfield 25, 108) := by decide +kernel
theorem eX8_copyFrom_108 : ino mX8_copyFrom 108 = some (.arraylength, 109) := by decide +kernel
theorem eX8_copyFrom_109 : ino mX8_copyFrom 109 = some (.invokestatic 59, 112) := by decide +kernel
theorem eX8_copyFrom_112 : ino mX8_copyFrom 112 = some (.aload_n 1, 113) := by decide +kernel
theorem eX8_copyFrom_113 : ino mX8_copyFrom 113 = some (.getfield 32, 116) := by decide +kernel
theorem eX8_copyFrom_116 : ino mX8_copyFrom 116 = some (.iconst 0, 117) := by decide +kernel
theorem eX8_copyFrom_117 : ino mX8_copyFrom 117 = some (.aload_n 0, 118) := by decide +kernel
theorem eX8_copyFrom_118 : ino mX8_copyFrom 118 = some (.getfield 32, 121) := by decide +kernel
theorem eX8_copyFrom_121 : ino mX8_copyFrom 121 = some (.iconst 0, 122) := by decide +kernel
theorem eX8_copyFrom_122 : ino mX8_copyFrom 122 = some (.aload_n 0, 123) := by decide +kernel
theorem eX8_copyFrom_123 : ino mX8_copyFrom 123 = some (.getfield 32, 126) := by decide +kernel
theorem eX8_copyFrom_126 : ino mX8_copyFrom 126 = some (.arraylength, 127) := by decide +kernel
theorem eX8_copyFrom_127 : ino mX8_copyFrom 127 = some (.invokestatic 59, 130) := by decide +kernel
theorem eX8_copyFrom_130 : ino mX8_copyFrom 130 = some (.aload_n 1, 131) := by decide +kernel
theorem eX8_copyFrom_131 : ino mX8_copyFrom 131 = some (.getfield 35, 134) := by decide +kernel
theorem eX8_copyFrom_134 : ino mX8_copyFrom 134 = some (.iconst 0, 135) := by decide +kernel
theorem eX8_copyFrom_135 : ino mX8_copyFrom 135 = some (.aload_n 0, 136) := by decide +kernel
theorem eX8_copyFrom_136 : ino mX8_copyFrom 136 = some (.getfield 35, 139) := by decide +kernel
theorem eX8_copyFrom_139 : ino mX8_copyFrom 139 = some (.iconst 0, 140) := by decide +kernel
theorem eX8_copyFrom_140 : ino mX8_copyFrom 140 = some (.aload_n 0, 141) := by decide +kernel
theorem eX8_copyFrom_141 : ino mX8_copyFrom 141 = some (.getfield 35, 144) := by decide +kernel
theorem eX8_copyFrom_144 : ino mX8_copyFrom 144 = some (.arraylength, 145) := by decide +kernel
theorem eX8_copyFrom_145 : ino mX8_copyFrom 145 = some (.invokestatic 59, 148) := by decide +kernel
theorem eX8_copyFrom_148 : ino mX8_copyFrom 148 = some (.aload_n 1, 149) := by decide +kernel
theorem eX8_copyFrom_149 : ino mX8_copyFrom 149 = some (.getfield 41, 152) := by decide +kernel
theorem eX8_copyFrom_152 : ino mX8_copyFrom 152 = some (.iconst 0, 153) := by decide +kernel
theorem eX8_copyFrom_153 : ino mX8_copyFrom 153 = some (.aload_n 0, 154) := by decide +kernel
theorem eX8_copyFrom_154 : ino mX8_copyFrom 154 = some (.getfield 41, 157) := by decide +kernel
theorem eX8_copyFrom_157 : ino mX8_copyFrom 157 = some (.iconst 0, 158) := by decide +kernel
theorem eX8_copyFrom_158 : ino mX8_copyFrom 158 = some (.aload_n 0, 159) := by decide +kernel
theorem eX8_copyFrom_159 : ino mX8_copyFrom 159 = some (.getfield 41, 162) := by decide +kernel
theorem eX8_copyFrom_162 : ino mX8_copyFrom 162 = some (.arraylength, 163) := by decide +kernel
theorem eX8_copyFrom_163 : ino mX8_copyFrom 163 = some (.invokestatic 59, 166) := by decide +kernel
theorem eX8_copyFrom_166 : ino mX8_copyFrom 166 = some (.aload_n 1, 167) := by decide +kernel
theorem eX8_copyFrom_167 : ino mX8_copyFrom 167 = some (.getfield 44, 170) := by decide +kernel
theorem eX8_copyFrom_170 : ino mX8_copyFrom 170 = some (.iconst 0, 171) := by decide +kernel
theorem eX8_copyFrom_171 : ino mX8_copyFrom 171 = some (.aload_n 0, 172) := by decide +kernel
theorem eX8_copyFrom_172 : ino mX8_copyFrom 172 = some (.getfield 44, 175) := by decide +kernel
theorem eX8_copyFrom_175 : ino mX8_copyFrom 175 = some (.iconst 0, 176) := by decide +kernel
theorem eX8_copyFrom_176 : ino mX8_copyFrom 176 = some (.aload_n 0, 177) := by decide +kernel
theorem eX8_copyFrom_177 : ino mX8_copyFrom 177 = some (.getfield 44, 180) := by decide +kernel
theorem eX8_copyFrom_180 : ino mX8_copyFrom 180 = some (.arraylength, 181) := by decide +kernel
theorem eX8_copyFrom_181 : ino mX8_copyFrom 181 = some (.invokestatic 59, 184) := by decide +kernel
theorem eX8_copyFrom_184 : ino mX8_copyFrom 184 = some (.aload_n 1, 185) := by decide +kernel
theorem eX8_copyFrom_185 : ino mX8_copyFrom 185 = some (.getfield 47, 188) := by decide +kernel
theorem eX8_copyFrom_188 : ino mX8_copyFrom 188 = some (.iconst 0, 189) := by decide +kernel
theorem eX8_copyFrom_189 : ino mX8_copyFrom 189 = some (.aload_n 0, 190) := by decide +kernel
theorem eX8_copyFrom_190 : ino mX8_copyFrom 190 = some (.getfield 47, 193) := by decide +kernel
theorem eX8_copyFrom_193 : ino mX8_copyFrom 193 = some (.iconst 0, 194) := by decide +kernel
theorem eX8_copyFrom_194 : ino mX8_copyFrom 194 = some (.aload_n 0, 195) := by decide +kernel
theorem eX8_copyFrom_195 : ino mX8_copyFrom 195 = some (.getfield 47, 198) := by decide +kernel
theorem eX8_copyFrom_198 : ino mX8_copyFrom 198 = some (.arraylength, 199) := by decide +kernel
theorem eX8_copyFrom_199 : ino mX8_copyFrom 199 = some (.invokestatic 59, 202) := by decide +kernel
theorem eX8_copyFrom_202 : ino mX8_copyFrom 202 = some (.aload_n 1, 203) := by decide +kernel
theorem eX8_copyFrom_203 : ino mX8_copyFrom 203 = some (.getfield 50, 206) := by decide +kernel
theorem eX8_copyFrom_206 : ino mX8_copyFrom 206 = some (.iconst 0, 207) := by decide +kernel
theorem eX8_copyFrom_207 : ino mX8_copyFrom 207 = some (.aload_n 0, 208) := by decide +kernel
theorem eX8_copyFrom_208 : ino mX8_copyFrom 208 = some (.getfield 50, 211) := by decide +kernel
theorem eX8_copyFrom_211 : ino mX8_copyFrom 211 = some (.iconst 0, 212) := by decide +kernel
theorem eX8_copyFrom_212 : ino mX8_copyFrom 212 = some (.aload_n 0, 213) := by decide +kernel
theorem eX8_copyFrom_213 : ino mX8_copyFrom 213 = some (.getfield 50, 216) := by decide +kernel
theorem eX8_copyFrom_216 : ino mX8_copyFrom 216 = some (.arraylength, 217) := by decide +kernel
theorem eX8_copyFrom_217 : ino mX8_copyFrom 217 = some (.invokestatic 59, 220) := by decide +kernel
theorem eX8_copyFrom_220 : ino mX8_copyFrom 220 = some (.return_, 221) := by decide +kernel
theorem eX8_liking_0 : ino mX8_liking 0 = some (.aload_n 0, 1) := by decide +kernel
theorem eX8_liking_1 : ino mX8_liking 1 = some (.getfield 50, 4) := by decide +kernel
theorem eX8_liking_4 : ino mX8_liking 4 = some (.iload_n 1, 5) := by decide +kernel
theorem eX8_liking_5 : ino mX8_liking 5 = some (.bipush 6, 7) := by decide +kernel
theorem eX8_liking_7 : ino mX8_liking 7 = some (.imul, 8) := by decide +kernel
theorem eX8_liking_8 : ino mX8_liking 8 = some (.iload_n 2, 9) := by decide +kernel
theorem eX8_liking_9 : ino mX8_liking 9 = some (.iadd, 10) := by decide +kernel
theorem eX8_liking_10 : ino mX8_liking 10 = some (.iaload, 11) := by decide +kernel
theorem eX8_liking_11 : ino mX8_liking 11 = some (.ireturn, 12) := by decide +kernel
theorem eX8_weightOf_0 : ino mX8_weightOf 0 = some (.iconst 0, 1) := by decide +kernel
theorem eX8_weightOf_1 : ino mX8_weightOf 1 = some (.istore_n 2, 2) := by decide +kernel
theorem eX8_weightOf_2 : ino mX8_weightOf 2 = some (.iconst 0, 3) := by decide +kernel
theorem eX8_weightOf_3 : ino mX8_weightOf 3 = some (.istore_n 3, 4) := by decide +kernel
theorem eX8_weightOf_4 : ino mX8_weightOf 4 = some (.iload_n 3, 5) := by decide +kernel
theorem eX8_weightOf_5 : ino mX8_weightOf 5 = some (.aload_n 0, 6) := by decide +kernel
theorem eX8_weightOf_6 : ino mX8_weightOf 6 = some (.getfield 38, 9) := by decide +kernel
theorem eX8_weightOf_9 : ino mX8_weightOf 9 = some (.if_icmp .ge 26, 35) := by decide +kernel
theorem eX8_weightOf_12 : ino mX8_weightOf 12 = some (.iload_n 1, 13) := by decide +kernel
theorem eX8_weightOf_13 : ino mX8_weightOf 13 = some (.iload_n 3, 14) := by decide +kernel
theorem eX8_weightOf_14 : ino mX8_weightOf 14 = some (.ishr, 15) := by decide +kernel
theorem eX8_weightOf_15 : ino mX8_weightOf 15 = some (.iconst 1, 16) := by decide +kernel
theorem eX8_weightOf_16 : ino mX8_weightOf 16 = some (.iand, 17) := by decide +kernel
theorem eX8_weightOf_17 : ino mX8_weightOf 17 = some (.ifCond .eq 12, 29) := by decide +kernel
theorem eX8_weightOf_20 : ino mX8_weightOf 20 = some (.iload_n 2, 21) := by decide +kernel
theorem eX8_weightOf_21 : ino mX8_weightOf 21 = some (.aload_n 0, 22) := by decide +kernel
theorem eX8_weightOf_22 : ino mX8_weightOf 22 = some (.getfield 41, 25) := by decide +kernel
theorem eX8_weightOf_25 : ino mX8_weightOf 25 = some (.iload_n 3, 26) := by decide +kernel
theorem eX8_weightOf_26 : ino mX8_weightOf 26 = some (.iaload, 27) := by decide +kernel
theorem eX8_weightOf_27 : ino mX8_weightOf 27 = some (.iadd, 28) := by decide +kernel
theorem eX8_weightOf_28 : ino mX8_weightOf 28 = some (.istore_n 2, 29) := by decide +kernel
theorem eX8_weightOf_29 : ino mX8_weightOf 29 = some (.iinc 3 1, 32) := by decide +kernel
theorem eX8_weightOf_32 : ino mX8_weightOf 32 = some (.goto (-28), 4) := by decide +kernel
theorem eX8_weightOf_35 : ino mX8_weightOf 35 = some (.iload_n 2, 36) := by decide +kernel
theorem eX8_weightOf_36 : ino mX8_weightOf 36 = some (.ireturn, 37) := by decide +kernel
theorem eX8_readFrom_0 : ino mX8_readFrom 0 = some (.aload_n 0, 1) := by decide +kernel
theorem eX8_readFrom_1 : ino mX8_readFrom 1 = some (.iconst 0, 2) := by decide +kernel
theorem eX8_readFrom_2 : ino mX8_readFrom 2 = some (.putfield 9, 5) := by decide +kernel
theorem eX8_readFrom_5 : ino mX8_readFrom 5 = some (.aload_n 0, 6) := by decide +kernel
theorem eX8_readFrom_6 : ino mX8_readFrom 6 = some (.iconst 0, 7) := by decide +kernel
theorem eX8_readFrom_7 : ino mX8_readFrom 7 = some (.putfield 29, 10) := by decide +kernel
theorem eX8_readFrom_10 : ino mX8_readFrom 10 = some (.aload_n 0, 11) := by decide +kernel
theorem eX8_readFrom_11 : ino mX8_readFrom 11 = some (.iconst 0, 12) := by decide +kernel
theorem eX8_readFrom_12 : ino mX8_readFrom 12 = some (.putfield 38, 15) := by decide +kernel
theorem eX8_readFrom_15 : ino mX8_readFrom 15 = some (.aload_n 0, 16) := by decide +kernel
theorem eX8_readFrom_16 : ino mX8_readFrom 16 = some (.iconst 0, 17) := by decide +kernel
theorem eX8_readFrom_17 : ino mX8_readFrom 17 = some (.putfield 53, 20) := by decide +kernel
theorem eX8_readFrom_20 : ino mX8_readFrom 20 = some (.aload_n 0, 21) := by decide +kernel
theorem eX8_readFrom_21 : ino mX8_readFrom 21 = some (.iconst 0, 22) := by decide +kernel
theorem eX8_readFrom_22 : ino mX8_readFrom 22 = some (.putfield 56, 25) := by decide +kernel
theorem eX8_readFrom_25 : ino mX8_readFrom 25 = some (.aload_n 0, 26) := by decide +kernel
theorem eX8_readFrom_26 : ino mX8_readFrom 26 = some (.getfield 47, 29) := by decide +kernel
theorem eX8_readFrom_29 : ino mX8_readFrom 29 = some (.iconst 0, 30) := by decide +kernel
theorem eX8_readFrom_30 : ino mX8_readFrom 30 = some (.invokestatic 65, 33) := by decide +kernel
theorem eX8_readFrom_33 : ino mX8_readFrom 33 = some (.aload_n 0, 34) := by decide +kernel
theorem eX8_readFrom_34 : ino mX8_readFrom 34 = some (.getfield 50, 37) := by decide +kernel
theorem eX8_readFrom_37 : ino mX8_readFrom 37 = some (.iconst 0, 38) := by decide +kernel
theorem eX8_readFrom_38 : ino mX8_readFrom 38 = some (.invokestatic 65, 41) := by decide +kernel
theorem eX8_readFrom_41 : ino mX8_readFrom 41 = some (.iconst 0, 42) := by decide +kernel
theorem eX8_readFrom_42 : ino mX8_readFrom 42 = some (.istore_n 2, 43) := by decide +kernel
theorem eX8_readFrom_43 : ino mX8_readFrom 43 = some (.iload_n 2, 44) := by decide +kernel
theorem eX8_readFrom_44 : ino mX8_readFrom 44 = some (.sipush 940, 47) := by decide +kernel
theorem eX8_readFrom_47 : ino mX8_readFrom 47 = some (.if_icmp .ge 34, 81) := by decide +kernel
theorem eX8_readFrom_50 : ino mX8_readFrom 50 = some (.aload_n 1, 51) := by decide +kernel
theorem eX8_readFrom_51 : ino mX8_readFrom 51 = some (.invokevirtual 71, 54) := by decide +kernel
theorem eX8_readFrom_54 : ino mX8_readFrom 54 = some (.ifCond .ne 27, 81) := by decide +kernel
theorem eX8_readFrom_57 : ino mX8_readFrom 57 = some (.aload_n 1, 58) := by decide +kernel
theorem eX8_readFrom_58 : ino mX8_readFrom 58 = some (.invokevirtual 77, 61) := by decide +kernel
theorem eX8_readFrom_61 : ino mX8_readFrom 61 = some (.ifCond .ne 20, 81) := by decide +kernel
theorem eX8_readFrom_64 : ino mX8_readFrom 64 = some (.aload_n 0, 65) := by decide +kernel
theorem eX8_readFrom_65 : ino mX8_readFrom 65 = some (.aload_n 1, 66) := by decide +kernel
theorem eX8_readFrom_66 : ino mX8_readFrom 66 = some (.invokevirtual 80, 69) := by decide +kernel
theorem eX8_readFrom_69 : ino mX8_readFrom 69 = some (.aload_n 1, 70) := by decide +kernel
theorem eX8_readFrom_70 : ino mX8_readFrom 70 = some (.bipush 59, 72) := by decide +kernel
theorem eX8_readFrom_72 : ino mX8_readFrom 72 = some (.invokevirtual 84, 75) := by decide +kernel
theorem eX8_readFrom_75 : ino mX8_readFrom 75 = some (.iinc 2 1, 78) := by decide +kernel
theorem eX8_readFrom_78 : ino mX8_readFrom 78 = some (.goto (-35), 43) := by decide +kernel
theorem eX8_readFrom_81 : ino mX8_readFrom 81 = some (.aload_n 1, 82) := by decide +kernel
theorem eX8_readFrom_82 : ino mX8_readFrom 82 = some (.invokevirtual 88, 85) := by decide +kernel
theorem eX8_readFrom_85 : ino mX8_readFrom 85 = some (.aload_n 0, 86) := by decide +kernel
theorem eX8_readFrom_86 : ino mX8_readFrom 86 = some (.getfield 53, 89) := by decide +kernel
theorem eX8_readFrom_89 : ino mX8_readFrom 89 = some (.ifCond .ne 9, 98) := by decide +kernel
theorem eX8_readFrom_92 : ino mX8_readFrom 92 = some (.aload_n 0, 93) := by decide +kernel
theorem eX8_readFrom_93 : ino mX8_readFrom 93 = some (.bipush 100, 95) := by decide +kernel
theorem eX8_readFrom_95 : ino mX8_readFrom 95 = some (.putfield 53, 98) := by decide +kernel
theorem eX8_readFrom_98 : ino mX8_readFrom 98 = some (.aload_n 0, 99) := by decide +kernel
theorem eX8_readFrom_99 : ino mX8_readFrom 99 = some (.getfield 56, 102) := by decide +kernel
theorem eX8_readFrom_102 : ino mX8_readFrom 102 = some (.ifCond .ne 9, 111) := by decide +kernel
theorem eX8_readFrom_105 : ino mX8_readFrom 105 = some (.aload_n 0, 106) := by decide +kernel
theorem eX8_readFrom_106 : ino mX8_readFrom 106 = some (.bipush 6, 108) := by decide +kernel
theorem eX8_readFrom_108 : ino mX8_readFrom 108 = some (.putfield 56, 111) := by decide +kernel
theorem eX8_readFrom_111 : ino mX8_readFrom 111 = some (.iload_n 2, 112) := by decide +kernel
theorem eX8_readFrom_112 : ino mX8_readFrom 112 = some (.ireturn, 113) := by decide +kernel
theorem eX8_readLine_0 : ino mX8_readLine 0 = some (.aload_n 1, 1) := by decide +kernel
theorem eX8_readLine_1 : ino mX8_readLine 1 = some (.getstatic 91, 4) := by decide +kernel
theorem eX8_readLine_4 : ino mX8_readLine 4 = some (.invokevirtual 97, 7) := by decide +kernel
theorem eX8_readLine_7 : ino mX8_readLine 7 = some (.ifCond .eq 11, 18) := by decide +kernel
theorem eX8_readLine_10 : ino mX8_readLine 10 = some (.aload_n 0, 11) := by decide +kernel
theorem eX8_readLine_11 : ino mX8_readLine 11 = some (.aload_n 1, 12) := by decide +kernel
theorem eX8_readLine_12 : ino mX8_readLine 12 = some (.invokevirtual 101, 15) := by decide +kernel
theorem eX8_readLine_15 : ino mX8_readLine 15 = some (.goto 144, 159) := by decide +kernel
theorem eX8_readLine_18 : ino mX8_readLine 18 = some (.aload_n 1, 19) := by decide +kernel
theorem eX8_readLine_19 : ino mX8_readLine 19 = some (.getstatic 104, 22) := by decide +kernel
theorem eX8_readLine_22 : ino mX8_readLine 22 = some (.invokevirtual 97, 25) := by decide +kernel
theorem eX8_readLine_25 : ino mX8_readLine 25 = some (.ifCond .eq 11, 36) := by decide +kernel
theorem eX8_readLine_28 : ino mX8_readLine 28 = some (.aload_n 0, 29) := by decide +kernel
theorem eX8_readLine_29 : ino mX8_readLine 29 = some (.aload_n 1, 30) := by decide +kernel
theorem eX8_readLine_30 : ino mX8_readLine 30 = some (.invokevirtual 107, 33) := by decide +kernel
theorem eX8_readLine_33 : ino mX8_readLine 33 = some (.goto 126, 159) := by decide +kernel
theorem eX8_readLine_36 : ino mX8_readLine 36 = some (.aload_n 1, 37) := by decide +kernel
theorem eX8_readLine_37 : ino mX8_readLine 37 = some (.getstatic 110, 40) := by decide +kernel
theorem eX8_readLine_40 : ino mX8_readLine 40 = some (.invokevirtual 97, 43) := by decide +kernel
theorem eX8_readLine_43 : ino mX8_readLine 43 = some (.ifCond .eq 11, 54) := by decide +kernel
theorem eX8_readLine_46 : ino mX8_readLine 46 = some (.aload_n 0, 47) := by decide +kernel
theorem eX8_readLine_47 : ino mX8_readLine 47 = some (.aload_n 1, 48) := by decide +kernel
theorem eX8_readLine_48 : ino mX8_readLine 48 = some (.invokevirtual 113, 51) := by decide +kernel
theorem eX8_readLine_51 : ino mX8_readLine 51 = some (.goto 108, 159) := by decide +kernel
theorem eX8_readLine_54 : ino mX8_readLine 54 = some (.aload_n 1, 55) := by decide +kernel
theorem eX8_readLine_55 : ino mX8_readLine 55 = some (.getstatic 116, 58) := by decide +kernel
theorem eX8_readLine_58 : ino mX8_readLine 58 = some (.invokevirtual 97, 61) := by decide +kernel
theorem eX8_readLine_61 : ino mX8_readLine 61 = some (.ifCond .eq 11, 72) := by decide +kernel
theorem eX8_readLine_64 : ino mX8_readLine 64 = some (.aload_n 0, 65) := by decide +kernel
theorem eX8_readLine_65 : ino mX8_readLine 65 = some (.aload_n 1, 66) := by decide +kernel
theorem eX8_readLine_66 : ino mX8_readLine 66 = some (.invokevirtual 119, 69) := by decide +kernel
theorem eX8_readLine_69 : ino mX8_readLine 69 = some (.goto 90, 159) := by decide +kernel
theorem eX8_readLine_72 : ino mX8_readLine 72 = some (.aload_n 1, 73) := by decide +kernel
theorem eX8_readLine_73 : ino mX8_readLine 73 = some (.getstatic 122, 76) := by decide +kernel
theorem eX8_readLine_76 : ino mX8_readLine 76 = some (.invokevirtual 97, 79) := by decide +kernel
theorem eX8_readLine_79 : ino mX8_readLine 79 = some (.ifCond .eq 11, 90) := by decide +kernel
theorem eX8_readLine_82 : ino mX8_readLine 82 = some (.aload_n 0, 83) := by decide +kernel
theorem eX8_readLine_83 : ino mX8_readLine 83 = some (.aload_n 1, 84) := by decide +kernel
theorem eX8_readLine_84 : ino mX8_readLine 84 = some (.invokevirtual 125, 87) := by decide +kernel
theorem eX8_readLine_87 : ino mX8_readLine 87 = some (.goto 72, 159) := by decide +kernel
theorem eX8_readLine_90 : ino mX8_readLine 90 = some (.aload_n 1, 91) := by decide +kernel
theorem eX8_readLine_91 : ino mX8_readLine 91 = some (.getstatic 128, 94) := by decide +kernel
theorem eX8_readLine_94 : ino mX8_readLine 94 = some (.invokevirtual 97, 97) := by decide +kernel
theorem eX8_readLine_97 : ino mX8_readLine 97 = some (.ifCond .eq 26, 123) := by decide +kernel
theorem eX8_readLine_100 : ino mX8_readLine 100 = some (.aload_n 0, 101) := by decide +kernel
theorem eX8_readLine_101 : ino mX8_readLine 101 = some (.aload_n 1, 102) := by decide +kernel
theorem eX8_readLine_102 : ino mX8_readLine 102 = some (.getstatic 128, 105) := by decide +kernel
theorem eX8_readLine_105 : ino mX8_readLine 105 = some (.aload_n 0, 106) := by decide +kernel
theorem eX8_readLine_106 : ino mX8_readLine 106 = some (.getfield 53, 109) := by decide +kernel
theorem eX8_readLine_109 : ino mX8_readLine 109 = some (.bipush 10, 111) := by decide +kernel
theorem eX8_readLine_111 : ino mX8_readLine 111 = some (.sipush 500, 114) := by decide +kernel
theorem eX8_readLine_114 : ino mX8_readLine 114 = some (.invokestatic 131, 117) := by decide +kernel
theorem eX8_readLine_117 : ino mX8_readLine 117 = some (.putfield 53, 120) := by decide +kernel
theorem eX8_readLine_120 : ino mX8_readLine 120 = some (.goto 39, 159) := by decide +kernel
theorem eX8_readLine_123 : ino mX8_readLine 123 = some (.aload_n 1, 124) := by decide +kernel
theorem eX8_readLine_124 : ino mX8_readLine 124 = some (.getstatic 135, 127) := by decide +kernel
theorem eX8_readLine_127 : ino mX8_readLine 127 = some (.invokevirtual 97, 130) := by decide +kernel
theorem eX8_readLine_130 : ino mX8_readLine 130 = some (.ifCond .eq 24, 154) := by decide +kernel
theorem eX8_readLine_133 : ino mX8_readLine 133 = some (.aload_n 0, 134) := by decide +kernel
theorem eX8_readLine_134 : ino mX8_readLine 134 = some (.aload_n 1, 135) := by decide +kernel
theorem eX8_readLine_135 : ino mX8_readLine 135 = some (.getstatic 135, 138) := by decide +kernel
theorem eX8_readLine_138 : ino mX8_readLine 138 = some (.aload_n 0, 139) := by decide +kernel
theorem eX8_readLine_139 : ino mX8_readLine 139 = some (.getfield 56, 142) := by decide +kernel
theorem eX8_readLine_142 : ino mX8_readLine 142 = some (.iconst 1, 143) := by decide +kernel
theorem eX8_readLine_143 : ino mX8_readLine 143 = some (.bipush 48, 145) := by decide +kernel
theorem eX8_readLine_145 : ino mX8_readLine 145 = some (.invokestatic 131, 148) := by decide +kernel
theorem eX8_readLine_148 : ino mX8_readLine 148 = some (.putfield 56, 151) := by decide +kernel
theorem eX8_readLine_151 : ino mX8_readLine 151 = some (.goto 8, 159) := by decide +kernel
theorem eX8_readLine_154 : ino mX8_readLine 154 = some (.aload_n 1, 155) := by decide +kernel
theorem eX8_readLine_155 : ino mX8_readLine 155 = some (.iconst 1, 156) := by decide +kernel
theorem eX8_readLine_156 : ino mX8_readLine 156 = some (.invokevirtual 138, 159) := by decide +kernel
theorem eX8_readLine_159 : ino mX8_readLine 159 = some (.return_, 160) := by decide +kernel
theorem eX8_readFloor_0 : ino mX8_readFloor 0 = some (.aload_n 0, 1) := by decide +kernel
theorem eX8_readFloor_1 : ino mX8_readFloor 1 = some (.getfield 9, 4) := by decide +kernel
theorem eX8_readFloor_4 : ino mX8_readFloor 4 = some (.bipush 8, 6) := by decide +kernel
theorem eX8_readFloor_6 : ino mX8_readFloor 6 = some (.if_icmp .lt 8, 14) := by decide +kernel
theorem eX8_readFloor_9 : ino mX8_readFloor 9 = some (.aload_n 1, 10) := by decide +kernel
theorem eX8_readFloor_10 : ino mX8_readFloor 10 = some (.iconst 4, 11) := by decide +kernel
theorem eX8_readFloor_11 : ino mX8_readFloor 11 = some (.invokevirtual 138, 14) := by decide +kernel
theorem eX8_readFloor_14 : ino mX8_readFloor 14 = some (.aload_n 1, 15) := by decide +kernel
theorem eX8_readFloor_15 : ino mX8_readFloor 15 = some (.getstatic 91, 18) := by decide +kernel
theorem eX8_readFloor_18 : ino mX8_readFloor 18 = some (.invokevirtual 142, 21) := by decide +kernel
theorem eX8_readFloor_21 : ino mX8_readFloor 21 = some (.pop, 22) := by decide +kernel
theorem eX8_readFloor_22 : ino mX8_readFloor 22 = some (.aload_n 0, 23) := by decide +kernel
theorem eX8_readFloor_23 : ino mX8_readFloor 23 = some (.aload_n 1, 24) := by decide +kernel
theorem eX8_readFloor_24 : ino mX8_readFloor 24 = some (.invokevirtual 145, 27) := by decide +kernel
theorem eX8_readFloor_27 : ino mX8_readFloor 27 = some (.lstore_n 2, 28) := by decide +kernel
theorem eX8_readFloor_28 : ino mX8_readFloor 28 = some (.aload_n 1, 29) := by decide +kernel
theorem eX8_readFloor_29 : ino mX8_readFloor 29 = some (.invokevirtual 149, 32) := by decide +kernel
theorem eX8_readFloor_32 : ino mX8_readFloor 32 = some (.istore 4, 34) := by decide +kernel
theorem eX8_readFloor_34 : ino mX8_readFloor 34 = some (.aload_n 1, 35) := by decide +kernel
theorem eX8_readFloor_35 : ino mX8_readFloor 35 = some (.iconst 1, 36) := by decide +kernel
theorem eX8_readFloor_36 : ino mX8_readFloor 36 = some (.bipush 9, 38) := by decide +kernel
theorem eX8_readFloor_38 : ino mX8_readFloor 38 = some (.invokevirtual 153, 41) := by decide +kernel
theorem eX8_readFloor_41 : ino mX8_readFloor 41 = some (.istore 5, 43) := by decide +kernel
theorem eX8_readFloor_43 : ino mX8_readFloor 43 = some (.aload_n 1, 44) := by decide +kernel
theorem eX8_readFloor_44 : ino mX8_readFloor 44 = some (.getstatic 157, 47) := by decide +kernel
theorem eX8_readFloor_47 : ino mX8_readFloor 47 = some (.invokevirtual 142, 50) := by decide +kernel
theorem eX8_readFloor_50 : ino mX8_readFloor 50 = some (.istore 6, 52) := by decide +kernel
theorem eX8_readFloor_52 : ino mX8_readFloor 52 = some (.aload_n 1, 53) := by decide +kernel
theorem eX8_readFloor_53 : ino mX8_readFloor 53 = some (.invokevirtual 71, 56) := by decide +kernel
theorem eX8_readFloor_56 : ino mX8_readFloor 56 = some (.ifCond .ne 64, 120) := by decide +kernel
theorem eX8_readFloor_59 : ino mX8_readFloor 59 = some (.aload_n 0, 60) := by decide +kernel
theorem eX8_readFloor_60 : ino mX8_readFloor 60 = some (.dup, 61) := by decide +kernel
theorem eX8_readFloor_61 : ino mX8_readFloor 61 = some (.getfield 9, 64) := by decide +kernel
theorem eX8_readFloor_64 : ino mX8_readFloor 64 = some (.iconst 1, 65) := by decide +kernel
theorem eX8_readFloor_65 : ino mX8_readFloor 65 = some (.iadd, 66) := by decide +kernel
theorem eX8_readFloor_66 : ino mX8_readFloor 66 = some (.putfield 9, 69) := by decide +kernel
theorem eX8_readFloor_69 : ino mX8_readFloor 69 = some (.aload_n 0, 70) := by decide +kernel
theorem eX8_readFloor_70 : ino mX8_readFloor 70 = some (.getfield 25, 73) := by decide +kernel
theorem eX8_readFloor_73 : ino mX8_readFloor 73 = some (.aload_n 0, 74) := by decide +kernel
theorem eX8_readFloor_74 : ino mX8_readFloor 74 = some (.getfield 9, 77) := by decide +kernel
theorem eX8_readFloor_77 : ino mX8_readFloor 77 = some (.lload_n 2, 78) := by decide +kernel
theorem eX8_readFloor_78 : ino mX8_readFloor 78 = some (.lastore, 79) := by decide +kernel
theorem eX8_readFloor_79 : ino mX8_readFloor 79 = some (.aload_n 0, 80) := by decide +kernel
theorem eX8_readFloor_80 : ino mX8_readFloor 80 = some (.getfield 15, 83) := by decide +kernel
theorem eX8_readFloor_83 : ino mX8_readFloor 83 = some (.aload_n 0, 84) := by decide +kernel
theorem eX8_readFloor_84 : ino mX8_readFloor 84 = some (.getfield 9, 87) := by decide +kernel
theorem eX8_readFloor_87 : ino mX8_readFloor 87 = some (.iload 4, 89) := by decide +kernel
theorem eX8_readFloor_89 : ino mX8_readFloor 89 = some (.iastore, 90) := by decide +kernel
theorem eX8_readFloor_90 : ino mX8_readFloor 90 = some (.aload_n 0, 91) := by decide +kernel
theorem eX8_readFloor_91 : ino mX8_readFloor 91 = some (.getfield 19, 94) := by decide +kernel
theorem eX8_readFloor_94 : ino mX8_readFloor 94 = some (.aload_n 0, 95) := by decide +kernel
theorem eX8_readFloor_95 : ino mX8_readFloor 95 = some (.getfield 9, 98) := by decide +kernel
theorem eX8_readFloor_98 : ino mX8_readFloor 98 = some (.iload 5, 100) := by decide +kernel
theorem eX8_readFloor_100 : ino mX8_readFloor 100 = some (.iastore, 101) := by decide +kernel
theorem eX8_readFloor_101 : ino mX8_readFloor 101 = some (.aload_n 0, 102) := by decide +kernel
theorem eX8_readFloor_102 : ino mX8_readFloor 102 = some (.getfield 22, 105) := by decide +kernel
theorem eX8_readFloor_105 : ino mX8_readFloor 105 = some (.aload_n 0, 106) := by decide +kernel
theorem eX8_readFloor_106 : ino mX8_readFloor 106 = some (.getfield 9, 109) := by decide +kernel
theorem eX8_readFloor_109 : ino mX8_readFloor 109 = some (.iload 6, 111) := by decide +kernel
theorem eX8_readFloor_111 : ino mX8_readFloor 111 = some (.ifCond .eq 7, 118) := by decide +kernel
theorem eX8_readFloor_114 : ino mX8_readFloor 114 = some (.iconst 1, 115) := by decide +kernel
theorem eX8_readFloor_115 : ino mX8_readFloor 115 = some (.goto 4, 119) := by decide +kernel
theorem eX8_readFloor_118 : ino mX8_readFloor 118 = some (.iconst 0, 119) := by decide +kernel
theorem eX8_readFloor_119 : ino mX8_readFloor 119 = some (.iastore, 120) := by decide +kernel
theorem eX8_readFloor_120 : ino mX8_readFloor 120 = some (.return_, 121) := by decide +kernel
theorem eX8_readChild_0 : ino mX8_readChild 0 = some (.aload_n 0, 1) := by decide +kernel
theorem eX8_readChild_1 : ino mX8_readChild 1 = some (.getfield 29, 4) := by decide +kernel
theorem eX8_readChild_4 : ino mX8_readChild 4 = some (.bipush 6, 6) := by decide +kernel
theorem eX8_readChild_6 : ino mX8_readChild 6 = some (.if_icmp .lt 8, 14) := by decide +kernel
theorem eX8_readChild_9 : ino mX8_readChild 9 = some (.aload_n 1, 10) := by decide +kernel
theorem eX8_readChild_10 : ino mX8_readChild 10 = some (.iconst 4, 11) := by decide +kernel
theorem eX8_readChild_11 : ino mX8_readChild 11 = some (.invokevirtual 138, 14) := by decide +kernel
theorem eX8_readChild_14 : ino mX8_readChild 14 = some (.aload_n 1, 15) := by decide +kernel
theorem eX8_readChild_15 : ino mX8_readChild 15 = some (.getstatic 104, 18) := by decide +kernel
theorem eX8_readChild_18 : ino mX8_readChild 18 = some (.invokevirtual 142, 21) := by decide +kernel
theorem eX8_readChild_21 : ino mX8_readChild 21 = some (.pop, 22) := by decide +kernel
theorem eX8_readChild_22 : ino mX8_readChild 22 = some (.aload_n 0, 23) := by decide +kernel
theorem eX8_readChild_23 : ino mX8_readChild 23 = some (.aload_n 1, 24) := by decide +kernel
theorem eX8_readChild_24 : ino mX8_readChild 24 = some (.invokevirtual 145, 27) := by decide +kernel
theorem eX8_readChild_27 : ino mX8_readChild 27 = some (.lstore_n 2, 28) := by decide +kernel
theorem eX8_readChild_28 : ino mX8_readChild 28 = some (.aload_n 1, 29) := by decide +kernel
theorem eX8_readChild_29 : ino mX8_readChild 29 = some (.iconst 1, 30) := by decide +kernel
theorem eX8_readChild_30 : ino mX8_readChild 30 = some (.bipush 20, 32) := by decide +kernel
theorem eX8_readChild_32 : ino mX8_readChild 32 = some (.invokevirtual 153, 35) := by decide +kernel
theorem eX8_readChild_35 : ino mX8_readChild 35 = some (.istore 4, 37) := by decide +kernel
theorem eX8_readChild_37 : ino mX8_readChild 37 = some (.aload_n 1, 38) := by decide +kernel
theorem eX8_readChild_38 : ino mX8_readChild 38 = some (.invokevirtual 71, 41) := by decide +kernel
theorem eX8_readChild_41 : ino mX8_readChild 41 = some (.ifCond .ne 34, 75) := by decide +kernel
theorem eX8_readChild_44 : ino mX8_readChild 44 = some (.aload_n 0, 45) := by decide +kernel
theorem eX8_readChild_45 : ino mX8_readChild 45 = some (.getfield 35, 48) := by decide +kernel
theorem eX8_readChild_48 : ino mX8_readChild 48 = some (.aload_n 0, 49) := by decide +kernel
theorem eX8_readChild_49 : ino mX8_readChild 49 = some (.getfield 29, 52) := by decide +kernel
theorem eX8_readChild_52 : ino mX8_readChild 52 = some (.lload_n 2, 53) := by decide +kernel
theorem eX8_readChild_53 : ino mX8_readChild 53 = some (.lastore, 54) := by decide +kernel
theorem eX8_readChild_54 : ino mX8_readChild 54 = some (.aload_n 0, 55) := by decide +kernel
theorem eX8_readChild_55 : ino mX8_readChild 55 = some (.getfield 32, 58) := by decide +kernel
theorem eX8_readChild_58 : ino mX8_readChild 58 = some (.aload_n 0, 59) := by decide +kernel
theorem eX8_readChild_59 : ino mX8_readChild 59 = some (.getfield 29, 62) := by decide +kernel
theorem eX8_readChild_62 : ino mX8_readChild 62 = some (.iload 4, 64) := by decide +kernel
theorem eX8_readChild_64 : ino mX8_readChild 64 = some (.iastore, 65) := by decide +kernel
theorem eX8_readChild_65 : ino mX8_readChild 65 = some (.aload_n 0, 66) := by decide +kernel
theorem eX8_readChild_66 : ino mX8_readChild 66 = some (.dup, 67) := by decide +kernel
theorem eX8_readChild_67 : ino mX8_readChild 67 = some (.getfield 29, 70) := by decide +kernel
theorem eX8_readChild_70 : ino mX8_readChild 70 = some (.iconst 1, 71) := by decide +kernel
theorem eX8_readChild_71 : ino mX8_readChild 71 = some (.iadd, 72) := by decide +kernel
theorem eX8_readChild_72 : ino mX8_readChild 72 = some (.putfield 29, 75) := by decide +kernel
theorem eX8_readChild_75 : ino mX8_readChild 75 = some (.return_, 76) := by decide +kernel
theorem eX8_readUncle_0 : ino mX8_readUncle 0 = some (.aload_n 0, 1) := by decide +kernel
theorem eX8_readUncle_1 : ino mX8_readUncle 1 = some (.getfield 38, 4) := by decide +kernel
theorem eX8_readUncle_4 : ino mX8_readUncle 4 = some (.iconst 5, 5) := by decide +kernel
theorem eX8_readUncle_5 : ino mX8_readUncle 5 = some (.if_icmp .lt 8, 13) := by decide +kernel
theorem eX8_readUncle_8 : ino mX8_readUncle 8 = some (.aload_n 1, 9) := by decide +kernel
theorem eX8_readUncle_9 : ino mX8_readUncle 9 = some (.iconst 4, 10) := by decide +kernel
theorem eX8_readUncle_10 : ino mX8_readUncle 10 = some (.invokevirtual 138, 13) := by decide +kernel
theorem eX8_readUncle_13 : ino mX8_readUncle 13 = some (.aload_n 1, 14) := by decide +kernel
theorem eX8_readUncle_14 : ino mX8_readUncle 14 = some (.getstatic 110, 17) := by decide +kernel
theorem eX8_readUncle_17 : ino mX8_readUncle 17 = some (.invokevirtual 142, 20) := by decide +kernel
theorem eX8_readUncle_20 : ino mX8_readUncle 20 = some (.pop, 21) := by decide +kernel
theorem eX8_readUncle_21 : ino mX8_readUncle 21 = some (.aload_n 0, 22) := by decide +kernel
theorem eX8_readUncle_22 : ino mX8_readUncle 22 = some (.aload_n 1, 23) := by decide +kernel
theorem eX8_readUncle_23 : ino mX8_readUncle 23 = some (.invokevirtual 145, 26) := by decide +kernel
theorem eX8_readUncle_26 : ino mX8_readUncle 26 = some (.lstore_n 2, 27) := by decide +kernel
theorem eX8_readUncle_27 : ino mX8_readUncle 27 = some (.aload_n 1, 28) := by decide +kernel
theorem eX8_readUncle_28 : ino mX8_readUncle 28 = some (.iconst 1, 29) := by decide +kernel
theorem eX8_readUncle_29 : ino mX8_readUncle 29 = some (.bipush 20, 31) := by decide +kernel
theorem eX8_readUncle_31 : ino mX8_readUncle 31 = some (.invokevirtual 153, 34) := by decide +kernel
theorem eX8_readUncle_34 : ino mX8_readUncle 34 = some (.istore 4, 36) := by decide +kernel
theorem eX8_readUncle_36 : ino mX8_readUncle 36 = some (.aload_n 1, 37) := by decide +kernel
theorem eX8_readUncle_37 : ino mX8_readUncle 37 = some (.invokevirtual 71, 40) := by decide +kernel
theorem eX8_readUncle_40 : ino mX8_readUncle 40 = some (.ifCond .ne 34, 74) := by decide +kernel
theorem eX8_readUncle_43 : ino mX8_readUncle 43 = some (.aload_n 0, 44) := by decide +kernel
theorem eX8_readUncle_44 : ino mX8_readUncle 44 = some (.getfield 44, 47) := by decide +kernel
theorem eX8_readUncle_47 : ino mX8_readUncle 47 = some (.aload_n 0, 48) := by decide +kernel
theorem eX8_readUncle_48 : ino mX8_readUncle 48 = some (.getfield 38, 51) := by decide +kernel
theorem eX8_readUncle_51 : ino mX8_readUncle 51 = some (.lload_n 2, 52) := by decide +kernel
theorem eX8_readUncle_52 : ino mX8_readUncle 52 = some (.lastore, 53) := by decide +kernel
theorem eX8_readUncle_53 : ino mX8_readUncle 53 = some (.aload_n 0, 54) := by decide +kernel
theorem eX8_readUncle_54 : ino mX8_readUncle 54 = some (.getfield 41, 57) := by decide +kernel
theorem eX8_readUncle_57 : ino mX8_readUncle 57 = some (.aload_n 0, 58) := by decide +kernel
theorem eX8_readUncle_58 : ino mX8_readUncle 58 = some (.getfield 38, 61) := by decide +kernel
theorem eX8_readUncle_61 : ino mX8_readUncle 61 = some (.iload 4, 63) := by decide +kernel
theorem eX8_readUncle_63 : ino mX8_readUncle 63 = some (.iastore, 64) := by decide +kernel
theorem eX8_readUncle_64 : ino mX8_readUncle 64 = some (.aload_n 0, 65) := by decide +kernel
theorem eX8_readUncle_65 : ino mX8_readUncle 65 = some (.dup, 66) := by decide +kernel
theorem eX8_readUncle_66 : ino mX8_readUncle 66 = some (.getfield 38, 69) := by decide +kernel
theorem eX8_readUncle_69 : ino mX8_readUncle 69 = some (.iconst 1, 70) := by decide +kernel
theorem eX8_readUncle_70 : ino mX8_readUncle 70 = some (.iadd, 71) := by decide +kernel
theorem eX8_readUncle_71 : ino mX8_readUncle 71 = some (.putfield 38, 74) := by decide +kernel
theorem eX8_readUncle_74 : ino mX8_readUncle 74 = some (.return_, 75) := by decide +kernel
theorem eX8_readLaw_0 : ino mX8_readLaw 0 = some (.aload_n 1, 1) := by decide +kernel
theorem eX8_readLaw_1 : ino mX8_readLaw 1 = some (.getstatic 116, 4) := by decide +kernel
theorem eX8_readLaw_4 : ino mX8_readLaw 4 = some (.invokevirtual 142, 7) := by decide +kernel
theorem eX8_readLaw_7 : ino mX8_readLaw 7 = some (.pop, 8) := by decide +kernel
theorem eX8_readLaw_8 : ino mX8_readLaw 8 = some (.aload_n 1, 9) := by decide +kernel
theorem eX8_readLaw_9 : ino mX8_readLaw 9 = some (.invokevirtual 160, 12) := by decide +kernel
theorem eX8_readLaw_12 : ino mX8_readLaw 12 = some (.istore_n 2, 13) := by decide +kernel
theorem eX8_readLaw_13 : ino mX8_readLaw 13 = some (.iload_n 2, 14) := by decide +kernel
theorem eX8_readLaw_14 : ino mX8_readLaw 14 = some (.iconst (-1), 15) := by decide +kernel
theorem eX8_readLaw_15 : ino mX8_readLaw 15 = some (.if_icmp .eq 17, 32) := by decide +kernel
theorem eX8_readLaw_18 : ino mX8_readLaw 18 = some (.aload_n 0, 19) := by decide +kernel
theorem eX8_readLaw_19 : ino mX8_readLaw 19 = some (.getfield 47, 22) := by decide +kernel
theorem eX8_readLaw_22 : ino mX8_readLaw 22 = some (.iload_n 2, 23) := by decide +kernel
theorem eX8_readLaw_23 : ino mX8_readLaw 23 = some (.iaload, 24) := by decide +kernel
theorem eX8_readLaw_24 : ino mX8_readLaw 24 = some (.ifCond .eq 8, 32) := by decide +kernel
theorem eX8_readLaw_27 : ino mX8_readLaw 27 = some (.aload_n 1, 28) := by decide +kernel
theorem eX8_readLaw_28 : ino mX8_readLaw 28 = some (.iconst 3, 29) := by decide +kernel
theorem eX8_readLaw_29 : ino mX8_readLaw 29 = some (.invokevirtual 138, 32) := by decide +kernel
theorem eX8_readLaw_32 : ino mX8_readLaw 32 = some (.aload_n 1, 33) := by decide +kernel
theorem eX8_readLaw_33 : ino mX8_readLaw 33 = some (.invokevirtual 149, 36) := by decide +kernel
theorem eX8_readLaw_36 : ino mX8_readLaw 36 = some (.istore_n 3, 37) := by decide +kernel
theorem eX8_readLaw_37 : ino mX8_readLaw 37 = some (.aload_n 1, 38) := by decide +kernel
theorem eX8_readLaw_38 : ino mX8_readLaw 38 = some (.iconst 1, 39) := by decide +kernel
theorem eX8_readLaw_39 : ino mX8_readLaw 39 = some (.bipush 60, 41) := by decide +kernel
theorem eX8_readLaw_41 : ino mX8_readLaw 41 = some (.invokevirtual 153, 44) := by decide +kernel
theorem eX8_readLaw_44 : ino mX8_readLaw 44 = some (.istore 4, 46) := by decide +kernel
theorem eX8_readLaw_46 : ino mX8_readLaw 46 = some (.aload_n 1, 47) := by decide +kernel
theorem eX8_readLaw_47 : ino mX8_readLaw 47 = some (.invokevirtual 71, 50) := by decide +kernel
theorem eX8_readLaw_50 : ino mX8_readLaw 50 = some (.ifCond .ne 16, 66) := by decide +kernel
theorem eX8_readLaw_53 : ino mX8_readLaw 53 = some (.iload_n 3, 54) := by decide +kernel
theorem eX8_readLaw_54 : ino mX8_readLaw 54 = some (.iconst (-1), 55) := by decide +kernel
theorem eX8_readLaw_55 : ino mX8_readLaw 55 = some (.if_icmp .eq 11, 66) := by decide +kernel
theorem eX8_readLaw_58 : ino mX8_readLaw 58 = some (.aload_n 0, 59) := by decide +kernel
theorem eX8_readLaw_59 : ino mX8_readLaw 59 = some (.getfield 47, 62) := by decide +kernel
theorem eX8_readLaw_62 : ino mX8_readLaw 62 = some (.iload_n 3, 63) := by decide +kernel
theorem eX8_readLaw_63 : ino mX8_readLaw 63 = some (.iload 4, 65) := by decide +kernel
theorem eX8_readLaw_65 : ino mX8_readLaw 65 = some (.iastore, 66) := by decide +kernel
theorem eX8_readLaw_66 : ino mX8_readLaw 66 = some (.return_, 67) := by decide +kernel
theorem eX8_readLikes_0 : ino mX8_readLikes 0 = some (.aload_n 1, 1) := by decide +kernel
theorem eX8_readLikes_1 : ino mX8_readLikes 1 = some (.getstatic 122, 4) := by decide +kernel
theorem eX8_readLikes_4 : ino mX8_readLikes 4 = some (.invokevirtual 142, 7) := by decide +kernel
theorem eX8_readLikes_7 : ino mX8_readLikes 7 = some (.pop, 8) := by decide +kernel
theorem eX8_readLikes_8 : ino mX8_readLikes 8 = some (.aload_n 0, 9) := by decide +kernel
theorem eX8_readLikes_9 : ino mX8_readLikes 9 = some (.aload_n 1, 10) := by decide +kernel
theorem eX8_readLikes_10 : ino mX8_readLikes 10 = some (.invokevirtual 163, 13) := by decide +kernel
theorem eX8_readLikes_13 : ino mX8_readLikes 13 = some (.istore_n 2, 14) := by decide +kernel
theorem eX8_readLikes_14 : ino mX8_readLikes 14 = some (.aload_n 0, 15) := by decide +kernel
theorem eX8_readLikes_15 : ino mX8_readLikes 15 = some (.aload_n 1, 16) := by decide +kernel
theorem eX8_readLikes_16 : ino mX8_readLikes 16 = some (.invokevirtual 167, 19) := by decide +kernel
theorem eX8_readLikes_19 : ino mX8_readLikes 19 = some (.invokevirtual 171, 22) := by decide +kernel
theorem eX8_readLikes_22 : ino mX8_readLikes 22 = some (.istore_n 3, 23) := by decide +kernel
theorem eX8_readLikes_23 : ino mX8_readLikes 23 = some (.aload_n 1, 24) := by decide +kernel
theorem eX8_readLikes_24 : ino mX8_readLikes 24 = some (.iload_n 2, 25) := by decide +kernel
theorem eX8_readLikes_25 : ino mX8_readLikes 25 = some (.iconst (-1), 26) := by decide +kernel
theorem eX8_readLikes_26 : ino mX8_readLikes 26 = some (.if_icmp .eq 21, 47) := by decide +kernel
theorem eX8_readLikes_29 : ino mX8_readLikes 29 = some (.iload_n 3, 30) := by decide +kernel
theorem eX8_readLikes_30 : ino mX8_readLikes 30 = some (.iconst (-1), 31) := by decide +kernel
theorem eX8_readLikes_31 : ino mX8_readLikes 31 = some (.if_icmp .eq 16, 47) := by decide +kernel
theorem eX8_readLikes_34 : ino mX8_readLikes 34 = some (.aload_n 0, 35) := by decide +kernel
theorem eX8_readLikes_35 : ino mX8_readLikes 35 = some (.iload_n 2, 36) := by decide +kernel
theorem eX8_readLikes_36 : ino mX8_readLikes 36 = some (.iload_n 3, 37) := by decide +kernel
theorem eX8_readLikes_37 : ino mX8_readLikes 37 = some (.invokevirtual 175, 40) := by decide +kernel
theorem eX8_readLikes_40 : ino mX8_readLikes 40 = some (.ifCond .ne 7, 47) := by decide +kernel
theorem eX8_readLikes_43 : ino mX8_readLikes 43 = some (.iconst 1, 44) := by decide +kernel
theorem eX8_readLikes_44 : ino mX8_readLikes 44 = some (.goto 4, 48) := by decide +kernel
theorem eX8_readLikes_47 : ino mX8_readLikes 47 = some (.iconst 0, 48) := by decide +kernel
theorem eX8_readLikes_48 : ino mX8_readLikes 48 = some (.invokevirtual 178, 51) := by decide +kernel
theorem eX8_readLikes_51 : ino mX8_readLikes 51 = some (.aload_n 1, 52) := by decide +kernel
theorem eX8_readLikes_52 : ino mX8_readLikes 52 = some (.iconst 1, 53) := by decide +kernel
theorem eX8_readLikes_53 : ino mX8_readLikes 53 = some (.bipush 9, 55) := by decide +kernel
theorem eX8_readLikes_55 : ino mX8_readLikes 55 = some (.invokevirtual 153, 58) := by decide +kernel
theorem eX8_readLikes_58 : ino mX8_readLikes 58 = some (.istore 4, 60) := by decide +kernel
theorem eX8_readLikes_60 : ino mX8_readLikes 60 = some (.aload_n 1, 61) := by decide +kernel
theorem eX8_readLikes_61 : ino mX8_readLikes 61 = some (.invokevirtual 71, 64) := by decide +kernel
theorem eX8_readLikes_64 : ino mX8_readLikes 64 = some (.ifCond .ne 16, 80) := by decide +kernel
theorem eX8_readLikes_67 : ino mX8_readLikes 67 = some (.aload_n 0, 68) := by decide +kernel
theorem eX8_readLikes_68 : ino mX8_readLikes 68 = some (.getfield 50, 71) := by decide +kernel
theorem eX8_readLikes_71 : ino mX8_readLikes 71 = some (.iload_n 2, 72) := by decide +kernel
theorem eX8_readLikes_72 : ino mX8_readLikes 72 = some (.bipush 6, 74) := by decide +kernel
theorem eX8_readLikes_74 : ino mX8_readLikes 74 = some (.imul, 75) := by decide +kernel
theorem eX8_readLikes_75 : ino mX8_readLikes 75 = some (.iload_n 3, 76) := by decide +kernel
theorem eX8_readLikes_76 : ino mX8_readLikes 76 = some (.iadd, 77) := by decide +kernel
theorem eX8_readLikes_77 : ino mX8_readLikes 77 = some (.iload 4, 79) := by decide +kernel
theorem eX8_readLikes_79 : ino mX8_readLikes 79 = some (.iastore, 80) := by decide +kernel
theorem eX8_readLikes_80 : ino mX8_readLikes 80 = some (.return_, 81) := by decide +kernel
theorem eX8_readOnce_0 : ino mX8_readOnce 0 = some (.iload_n 2, 1) := by decide +kernel
theorem eX8_readOnce_1 : ino mX8_readOnce 1 = some (.ifCond .eq 8, 9) := by decide +kernel
theorem eX8_readOnce_4 : ino mX8_readOnce 4 = some (.aload_n 0, 5) := by decide +kernel
theorem eX8_readOnce_5 : ino mX8_readOnce 5 = some (.iconst 3, 6) := by decide +kernel
theorem eX8_readOnce_6 : ino mX8_readOnce 6 = some (.invokevirtual 138, 9) := by decide +kernel
theorem eX8_readOnce_9 : ino mX8_readOnce 9 = some (.aload_n 0, 10) := by decide +kernel
theorem eX8_readOnce_10 : ino mX8_readOnce 10 = some (.aload_n 1, 11) := by decide +kernel
theorem eX8_readOnce_11 : ino mX8_readOnce 11 = some (.invokevirtual 142, 14) := by decide +kernel
theorem eX8_readOnce_14 : ino mX8_readOnce 14 = some (.pop, 15) := by decide +kernel
theorem eX8_readOnce_15 : ino mX8_readOnce 15 = some (.aload_n 0, 16) := by decide +kernel
theorem eX8_readOnce_16 : ino mX8_readOnce 16 = some (.iload_n 3, 17) := by decide +kernel
theorem eX8_readOnce_17 : ino mX8_readOnce 17 = some (.iload 4, 19) := by decide +kernel
theorem eX8_readOnce_19 : ino mX8_readOnce 19 = some (.invokevirtual 153, 22) := by decide +kernel
theorem eX8_readOnce_22 : ino mX8_readOnce 22 = some (.ireturn, 23) := by decide +kernel
theorem eX8_takeNewName_0 : ino mX8_takeNewName 0 = some (.aload_n 1, 1) := by decide +kernel
theorem eX8_takeNewName_1 : ino mX8_takeNewName 1 = some (.invokevirtual 167, 4) := by decide +kernel
theorem eX8_takeNewName_4 : ino mX8_takeNewName 4 = some (.lstore_n 2, 5) := by decide +kernel
theorem eX8_takeNewName_5 : ino mX8_takeNewName 5 = some (.aload_n 1, 6) := by decide +kernel
theorem eX8_takeNewName_6 : ino mX8_takeNewName 6 = some (.aload_n 0, 7) := by decide +kernel
theorem eX8_takeNewName_7 : ino mX8_takeNewName 7 = some (.lload_n 2, 8) := by decide +kernel
theorem eX8_takeNewName_8 : ino mX8_takeNewName 8 = some (.invokevirtual 182, 11) := by decide +kernel
theorem eX8_takeNewName_11 : ino mX8_takeNewName 11 = some (.iconst (-1), 12) := by decide +kernel
theorem eX8_takeNewName_12 : ino mX8_takeNewName 12 = some (.if_icmp .ne 25, 37) := by decide +kernel
theorem eX8_takeNewName_15 : ino mX8_takeNewName 15 = some (.aload_n 0, 16) := by decide +kernel
theorem eX8_takeNewName_16 : ino mX8_takeNewName 16 = some (.lload_n 2, 17) := by decide +kernel
theorem eX8_takeNewName_17 : ino mX8_takeNewName 17 = some (.invokevirtual 171, 20) := by decide +kernel
theorem eX8_takeNewName_20 : ino mX8_takeNewName 20 = some (.iconst (-1), 21) := by decide +kernel
theorem eX8_takeNewName_21 : ino mX8_takeNewName 21 = some (.if_icmp .ne 16, 37) := by decide +kernel
theorem eX8_takeNewName_24 : ino mX8_takeNewName 24 = some (.aload_n 0, 25) := by decide +kernel
theorem eX8_takeNewName_25 : ino mX8_takeNewName 25 = some (.lload_n 2, 26) := by decide +kernel
theorem eX8_takeNewName_26 : ino mX8_takeNewName 26 = some (.invokevirtual 185, 29) := by decide +kernel
theorem eX8_takeNewName_29 : ino mX8_takeNewName 29 = some (.iconst (-1), 30) := by decide +kernel
theorem eX8_takeNewName_30 : ino mX8_takeNewName 30 = some (.if_icmp .ne 7, 37) := by decide +kernel
theorem eX8_takeNewName_33 : ino mX8_takeNewName 33 = some (.iconst 1, 34) := by decide +kernel
theorem eX8_takeNewName_34 : ino mX8_takeNewName 34 = some (.goto 4, 38) := by decide +kernel
theorem eX8_takeNewName_37 : ino mX8_takeNewName 37 = some (.iconst 0, 38) := by decide +kernel
theorem eX8_takeNewName_38 : ino mX8_takeNewName 38 = some (.invokevirtual 178, 41) := by decide +kernel
theorem eX8_takeNewName_41 : ino mX8_takeNewName 41 = some (.lload_n 2, 42) := by decide +kernel
theorem eX8_takeNewName_42 : ino mX8_takeNewName 42 = some (.lreturn, 43) := by decide +kernel
