theorem eX12_odds_0 : ino mX12_odds 0 = some (.aload_n 0, 1) := by decide +kernel
theorem eX12_odds_1 : ino mX12_odds 1 = some (.iconst 0, 2) := by decide +kernel
theorem eX12_odds_2 : ino mX12_odds 2 = some (.putfield 1, 5) := by decide +kernel
theorem eX12_odds_5 : ino mX12_odds 5 = some (.aload_n 0, 6) := by decide +kernel
theorem eX12_odds_6 : ino mX12_odds 6 = some (.iload_n 1, 7) := by decide +kernel
theorem eX12_odds_7 : ino mX12_odds 7 = some (.invokevirtual 306, 10) := by decide +kernel
theorem eX12_odds_10 : ino mX12_odds 10 = some (.ifCond .eq 13, 23) := by decide +kernel
theorem eX12_odds_13 : ino mX12_odds 13 = some (.iload_n 2, 14) := by decide +kernel
theorem eX12_odds_14 : ino mX12_odds 14 = some (.iconst 1, 15) := by decide +kernel
theorem eX12_odds_15 : ino mX12_odds 15 = some (.bipush 30, 17) := by decide +kernel
theorem eX12_odds_17 : ino mX12_odds 17 = some (.invokestatic 221, 20) := by decide +kernel
theorem eX12_odds_20 : ino mX12_odds 20 = some (.ifCond .ne 5, 25) := by decide +kernel
theorem eX12_odds_23 : ino mX12_odds 23 = some (.iconst (-1), 24) := by decide +kernel
theorem eX12_odds_24 : ino mX12_odds 24 = some (.ireturn, 25) := by decide +kernel
theorem eX12_odds_25 : ino mX12_odds 25 = some (.aload_n 0, 26) := by decide +kernel
theorem eX12_odds_26 : ino mX12_odds 26 = some (.invokevirtual 372, 29) := by decide +kernel
theorem eX12_odds_29 : ino mX12_odds 29 = some (.iconst 0, 30) := by decide +kernel
theorem eX12_odds_30 : ino mX12_odds 30 = some (.istore 4, 32) := by decide +kernel
theorem eX12_odds_32 : ino mX12_odds 32 = some (.iconst 0, 33) := by decide +kernel
theorem eX12_odds_33 : ino mX12_odds 33 = some (.istore 5, 35) := by decide +kernel
theorem eX12_odds_35 : ino mX12_odds 35 = some (.iload 5, 37) := by decide +kernel
theorem eX12_odds_37 : ino mX12_odds 37 = some (.iload_n 2, 38) := by decide +kernel
theorem eX12_odds_38 : ino mX12_odds 38 = some (.if_icmp .ge 42, 80) := by decide +kernel
theorem eX12_odds_41 : ino mX12_odds 41 = some (.aload_n 0, 42) := by decide +kernel
theorem eX12_odds_42 : ino mX12_odds 42 = some (.bipush 30, 44) := by decide +kernel
theorem eX12_odds_44 : ino mX12_odds 44 = some (.iload_n 3, 45) := by decide +kernel
theorem eX12_odds_45 : ino mX12_odds 45 = some (.iload 5, 47) := by decide +kernel
theorem eX12_odds_47 : ino mX12_odds 47 = some (.iadd, 48) := by decide +kernel
theorem eX12_odds_48 : ino mX12_odds 48 = some (.invokevirtual 451, 51) := by decide +kernel
theorem eX12_odds_51 : ino mX12_odds 51 = some (.pop, 52) := by decide +kernel
theorem eX12_odds_52 : ino mX12_odds 52 = some (.iload 4, 54) := by decide +kernel
theorem eX12_odds_54 : ino mX12_odds 54 = some (.aload_n 0, 55) := by decide +kernel
theorem eX12_odds_55 : ino mX12_odds 55 = some (.iload_n 1, 56) := by decide +kernel
theorem eX12_odds_56 : ino mX12_odds 56 = some (.invokevirtual 328, 59) := by decide +kernel
theorem eX12_odds_59 : ino mX12_odds 59 = some (.ifCond .eq 7, 66) := by decide +kernel
theorem eX12_odds_62 : ino mX12_odds 62 = some (.iconst 1, 63) := by decide +kernel
theorem eX12_odds_63 : ino mX12_odds 63 = some (.goto 4, 67) := by decide +kernel
theorem eX12_odds_66 : ino mX12_odds 66 = some (.iconst 0, 67) := by decide +kernel
theorem eX12_odds_67 : ino mX12_odds 67 = some (.iadd, 68) := by decide +kernel
theorem eX12_odds_68 : ino mX12_odds 68 = some (.istore 4, 70) := by decide +kernel
theorem eX12_odds_70 : ino mX12_odds 70 = some (.aload_n 0, 71) := by decide +kernel
theorem eX12_odds_71 : ino mX12_odds 71 = some (.invokevirtual 375, 74) := by decide +kernel
theorem eX12_odds_74 : ino mX12_odds 74 = some (.iinc 5 1, 77) := by decide +kernel
theorem eX12_odds_77 : ino mX12_odds 77 = some (.goto (-42), 35) := by decide +kernel
theorem eX12_odds_80 : ino mX12_odds 80 = some (.iload 4, 82) := by decide +kernel
theorem eX12_odds_82 : ino mX12_odds 82 = some (.ireturn, 83) := by decide +kernel
theorem eX12_bookLine_0 : ino mX12_bookLine 0 = some (.iconst 3, 1) := by decide +kernel
theorem eX12_bookLine_1 : ino mX12_bookLine 1 = some (.aload_n 0, 2) := by decide +kernel
theorem eX12_bookLine_2 : ino mX12_bookLine 2 = some (.getfield 454, 5) := by decide +kernel
theorem eX12_bookLine_5 : ino mX12_bookLine 5 = some (.imul, 6) := by decide +kernel
theorem eX12_bookLine_6 : ino mX12_bookLine 6 = some (.istore_n 1, 7) := by decide +kernel
theorem eX12_bookLine_7 : ino mX12_bookLine 7 = some (.aload_n 0, 8) := by decide +kernel
theorem eX12_bookLine_8 : ino mX12_bookLine 8 = some (.ldc2_w 138, 11) := by decide +kernel
theorem eX12_bookLine_11 : ino mX12_bookLine 11 = some (.invokevirtual 246, 14) := by decide +kernel
theorem eX12_bookLine_14 : ino mX12_bookLine 14 = some (.ifCond .eq 7, 21) := by decide +kernel
theorem eX12_bookLine_17 : ino mX12_bookLine 17 = some (.iconst 0, 18) := by decide +kernel
theorem eX12_bookLine_18 : ino mX12_bookLine 18 = some (.goto 74, 92) := by decide +kernel
theorem eX12_bookLine_21 : ino mX12_bookLine 21 = some (.aload_n 0, 22) := by decide +kernel
theorem eX12_bookLine_22 : ino mX12_bookLine 22 = some (.ldc2_w 142, 25) := by decide +kernel
theorem eX12_bookLine_25 : ino mX12_bookLine 25 = some (.invokevirtual 246, 28) := by decide +kernel
theorem eX12_bookLine_28 : ino mX12_bookLine 28 = some (.ifCond .eq 7, 35) := by decide +kernel
theorem eX12_bookLine_31 : ino mX12_bookLine 31 = some (.iconst 1, 32) := by decide +kernel
theorem eX12_bookLine_32 : ino mX12_bookLine 32 = some (.goto 60, 92) := by decide +kernel
theorem eX12_bookLine_35 : ino mX12_bookLine 35 = some (.aload_n 0, 36) := by decide +kernel
theorem eX12_bookLine_36 : ino mX12_bookLine 36 = some (.ldc2_w 144, 39) := by decide +kernel
theorem eX12_bookLine_39 : ino mX12_bookLine 39 = some (.invokevirtual 246, 42) := by decide +kernel
theorem eX12_bookLine_42 : ino mX12_bookLine 42 = some (.ifCond .eq 7, 49) := by decide +kernel
theorem eX12_bookLine_45 : ino mX12_bookLine 45 = some (.iconst 2, 46) := by decide +kernel
theorem eX12_bookLine_46 : ino mX12_bookLine 46 = some (.goto 46, 92) := by decide +kernel
theorem eX12_bookLine_49 : ino mX12_bookLine 49 = some (.aload_n 0, 50) := by decide +kernel
theorem eX12_bookLine_50 : ino mX12_bookLine 50 = some (.ldc2_w 146, 53) := by decide +kernel
theorem eX12_bookLine_53 : ino mX12_bookLine 53 = some (.invokevirtual 246, 56) := by decide +kernel
theorem eX12_bookLine_56 : ino mX12_bookLine 56 = some (.ifCond .eq 7, 63) := by decide +kernel
theorem eX12_bookLine_59 : ino mX12_bookLine 59 = some (.iconst 3, 60) := by decide +kernel
theorem eX12_bookLine_60 : ino mX12_bookLine 60 = some (.goto 32, 92) := by decide +kernel
theorem eX12_bookLine_63 : ino mX12_bookLine 63 = some (.aload_n 0, 64) := by decide +kernel
theorem eX12_bookLine_64 : ino mX12_bookLine 64 = some (.ldc2_w 148, 67) := by decide +kernel
theorem eX12_bookLine_67 : ino mX12_bookLine 67 = some (.invokevirtual 246, 70) := by decide +kernel
theorem eX12_bookLine_70 : ino mX12_bookLine 70 = some (.ifCond .eq 7, 77) := by decide +kernel
theorem eX12_bookLine_73 : ino mX12_bookLine 73 = some (.iconst 4, 74) := by decide +kernel
theorem eX12_bookLine_74 : ino mX12_bookLine 74 = some (.goto 18, 92) := by decide +kernel
theorem eX12_bookLine_77 : ino mX12_bookLine 77 = some (.aload_n 0, 78) := by decide +kernel
theorem eX12_bookLine_78 : ino mX12_bookLine 78 = some (.ldc2_w 150, 81) := by decide +kernel
theorem eX12_bookLine_81 : ino mX12_bookLine 81 = some (.invokevirtual 246, 84) := by decide +kernel
theorem eX12_bookLine_84 : ino mX12_bookLine 84 = some (.ifCond .eq 7, 91) := by decide +kernel
theorem eX12_bookLine_87 : ino mX12_bookLine 87 = some (.iconst 5, 88) := by decide +kernel
theorem eX12_bookLine_88 : ino mX12_bookLine 88 = some (.goto 4, 92) := by decide +kernel
theorem eX12_bookLine_91 : ino mX12_bookLine 91 = some (.iconst (-1), 92) := by decide +kernel
theorem eX12_bookLine_92 : ino mX12_bookLine 92 = some (.istore_n 2, 93) := by decide +kernel
theorem eX12_bookLine_93 : ino mX12_bookLine 93 = some (.iload_n 2, 94) := by decide +kernel
theorem eX12_bookLine_94 : ino mX12_bookLine 94 = some (.ifCond .ge 9, 103) := by decide +kernel
theorem eX12_bookLine_97 : ino mX12_bookLine 97 = some (.aload_n 0, 98) := by decide +kernel
theorem eX12_bookLine_98 : ino mX12_bookLine 98 = some (.iconst 1, 99) := by decide +kernel
theorem eX12_bookLine_99 : ino mX12_bookLine 99 = some (.invokevirtual 215, 102) := by decide +kernel
theorem eX12_bookLine_102 : ino mX12_bookLine 102 = some (.ireturn, 103) := by decide +kernel
theorem eX12_bookLine_103 : ino mX12_bookLine 103 = some (.aload_n 0, 104) := by decide +kernel
theorem eX12_bookLine_104 : ino mX12_bookLine 104 = some (.getfield 454, 107) := by decide +kernel
theorem eX12_bookLine_107 : ino mX12_bookLine 107 = some (.bipush 40, 109) := by decide +kernel
theorem eX12_bookLine_109 : ino mX12_bookLine 109 = some (.if_icmp .ne 9, 118) := by decide +kernel
theorem eX12_bookLine_112 : ino mX12_bookLine 112 = some (.aload_n 0, 113) := by decide +kernel
theorem eX12_bookLine_113 : ino mX12_bookLine 113 = some (.iconst 4, 114) := by decide +kernel
theorem eX12_bookLine_114 : ino mX12_bookLine 114 = some (.invokevirtual 215, 117) := by decide +kernel
theorem eX12_bookLine_117 : ino mX12_bookLine 117 = some (.ireturn, 118) := by decide +kernel
theorem eX12_bookLine_118 : ino mX12_bookLine 118 = some (.aload_n 0, 119) := by decide +kernel
theorem eX12_bookLine_119 : ino mX12_bookLine 119 = some (.invokevirtual 218, 122) := by decide +kernel
theorem eX12_bookLine_122 : ino mX12_bookLine 122 = some (.aload_n 0, 123) := by decide +kernel
theorem eX12_bookLine_123 : ino mX12_bookLine 123 = some (.getfield 40, 126) := by decide +kernel
theorem eX12_bookLine_126 : ino mX12_bookLine 126 = some (.iload_n 1, 127) := by decide +kernel
theorem eX12_bookLine_127 : ino mX12_bookLine 127 = some (.iload_n 2, 128) := by decide +kernel
theorem eX12_bookLine_128 : ino mX12_bookLine 128 = some (.iastore, 129) := by decide +kernel
theorem eX12_bookLine_129 : ino mX12_bookLine 129 = some (.iload_n 2, 130) := by decide +kernel
theorem eX12_bookLine_130 : ino mX12_bookLine 130 = some (.iconst 5, 131) := by decide +kernel
theorem eX12_bookLine_131 : ino mX12_bookLine 131 = some (.if_icmp .ne 13, 144) := by decide +kernel
theorem eX12_bookLine_134 : ino mX12_bookLine 134 = some (.aload_n 0, 135) := by decide +kernel
theorem eX12_bookLine_135 : ino mX12_bookLine 135 = some (.iconst 1, 136) := by decide +kernel
theorem eX12_bookLine_136 : ino mX12_bookLine 136 = some (.bipush 60, 138) := by decide +kernel
theorem eX12_bookLine_138 : ino mX12_bookLine 138 = some (.invokevirtual 228, 141) := by decide +kernel
theorem eX12_bookLine_141 : ino mX12_bookLine 141 = some (.goto 40, 181) := by decide +kernel
theorem eX12_bookLine_144 : ino mX12_bookLine 144 = some (.iload_n 2, 145) := by decide +kernel
theorem eX12_bookLine_145 : ino mX12_bookLine 145 = some (.iconst 1, 146) := by decide +kernel
theorem eX12_bookLine_146 : ino mX12_bookLine 146 = some (.if_icmp .eq 8, 154) := by decide +kernel
theorem eX12_bookLine_149 : ino mX12_bookLine 149 = some (.iload_n 2, 150) := by decide +kernel
theorem eX12_bookLine_150 : ino mX12_bookLine 150 = some (.iconst 2, 151) := by decide +kernel
theorem eX12_bookLine_151 : ino mX12_bookLine 151 = some (.if_icmp .ne 18, 169) := by decide +kernel
theorem eX12_bookLine_154 : ino mX12_bookLine 154 = some (.aload_n 0, 155) := by decide +kernel
theorem eX12_bookLine_155 : ino mX12_bookLine 155 = some (.bipush 14, 157) := by decide +kernel
theorem eX12_bookLine_157 : ino mX12_bookLine 157 = some (.aload_n 0, 158) := by decide +kernel
theorem eX12_bookLine_158 : ino mX12_bookLine 158 = some (.getfield 33, 161) := by decide +kernel
theorem eX12_bookLine_161 : ino mX12_bookLine 161 = some (.iconst 2, 162) := by decide +kernel
theorem eX12_bookLine_162 : ino mX12_bookLine 162 = some (.iaload, 163) := by decide +kernel
theorem eX12_bookLine_163 : ino mX12_bookLine 163 = some (.invokevirtual 250, 166) := by decide +kernel
theorem eX12_bookLine_166 : ino mX12_bookLine 166 = some (.goto 15, 181) := by decide +kernel
theorem eX12_bookLine_169 : ino mX12_bookLine 169 = some (.aload_n 0, 170) := by decide +kernel
theorem eX12_bookLine_170 : ino mX12_bookLine 170 = some (.bipush 8, 172) := by decide +kernel
theorem eX12_bookLine_172 : ino mX12_bookLine 172 = some (.aload_n 0, 173) := by decide +kernel
theorem eX12_bookLine_173 : ino mX12_bookLine 173 = some (.getfield 33, 176) := by decide +kernel
theorem eX12_bookLine_176 : ino mX12_bookLine 176 = some (.iconst 1, 177) := by decide +kernel
theorem eX12_bookLine_177 : ino mX12_bookLine 177 = some (.iaload, 178) := by decide +kernel
theorem eX12_bookLine_178 : ino mX12_bookLine 178 = some (.invokevirtual 250, 181) := by decide +kernel
theorem eX12_bookLine_181 : ino mX12_bookLine 181 = some (.istore_n 3, 182) := by decide +kernel
theorem eX12_bookLine_182 : ino mX12_bookLine 182 = some (.iload_n 3, 183) := by decide +kernel
theorem eX12_bookLine_183 : ino mX12_bookLine 183 = some (.ifCond .ne 5, 188) := by decide +kernel
theorem eX12_bookLine_186 : ino mX12_bookLine 186 = some (.iconst 0, 187) := by decide +kernel
theorem eX12_bookLine_187 : ino mX12_bookLine 187 = some (.ireturn, 188) := by decide +kernel
theorem eX12_bookLine_188 : ino mX12_bookLine 188 = some (.aload_n 0, 189) := by decide +kernel
theorem eX12_bookLine_189 : ino mX12_bookLine 189 = some (.getfield 40, 192) := by decide +kernel
theorem eX12_bookLine_192 : ino mX12_bookLine 192 = some (.iload_n 1, 193) := by decide +kernel
theorem eX12_bookLine_193 : ino mX12_bookLine 193 = some (.iconst 1, 194) := by decide +kernel
theorem eX12_bookLine_194 : ino mX12_bookLine 194 = some (.iadd, 195) := by decide +kernel
theorem eX12_bookLine_195 : ino mX12_bookLine 195 = some (.aload_n 0, 196) := by decide +kernel
theorem eX12_bookLine_196 : ino mX12_bookLine 196 = some (.getfield 225, 199) := by decide +kernel
theorem eX12_bookLine_199 : ino mX12_bookLine 199 = some (.iastore, 200) := by decide +kernel
theorem eX12_bookLine_200 : ino mX12_bookLine 200 = some (.iload_n 2, 201) := by decide +kernel
theorem eX12_bookLine_201 : ino mX12_bookLine 201 = some (.ifCond .le 5, 206) := by decide +kernel
theorem eX12_bookLine_204 : ino mX12_bookLine 204 = some (.iconst 1, 205) := by decide +kernel
theorem eX12_bookLine_205 : ino mX12_bookLine 205 = some (.ireturn, 206) := by decide +kernel
theorem eX12_bookLine_206 : ino mX12_bookLine 206 = some (.aload_n 0, 207) := by decide +kernel
theorem eX12_bookLine_207 : ino mX12_bookLine 207 = some (.invokevirtual 457, 210) := by decide +kernel
theorem eX12_bookLine_210 : ino mX12_bookLine 210 = some (.ifCond .ne 5, 215) := by decide +kernel
theorem eX12_bookLine_213 : ino mX12_bookLine 213 = some (.iconst 0, 214) := by decide +kernel
theorem eX12_bookLine_214 : ino mX12_bookLine 214 = some (.ireturn, 215) := by decide +kernel
theorem eX12_bookLine_215 : ino mX12_bookLine 215 = some (.aload_n 0, 216) := by decide +kernel
theorem eX12_bookLine_216 : ino mX12_bookLine 216 = some (.getfield 40, 219) := by decide +kernel
theorem eX12_bookLine_219 : ino mX12_bookLine 219 = some (.iload_n 1, 220) := by decide +kernel
theorem eX12_bookLine_220 : ino mX12_bookLine 220 = some (.iconst 2, 221) := by decide +kernel
theorem eX12_bookLine_221 : ino mX12_bookLine 221 = some (.iadd, 222) := by decide +kernel
theorem eX12_bookLine_222 : ino mX12_bookLine 222 = some (.aload_n 0, 223) := by decide +kernel
theorem eX12_bookLine_223 : ino mX12_bookLine 223 = some (.getfield 225, 226) := by decide +kernel
theorem eX12_bookLine_226 : ino mX12_bookLine 226 = some (.iastore, 227) := by decide +kernel
theorem eX12_bookLine_227 : ino mX12_bookLine 227 = some (.iconst 1, 228) := by decide +kernel
theorem eX12_bookLine_228 : ino mX12_bookLine 228 = some (.ireturn, 229) := by decide +kernel
theorem eX12_does_0 : ino mX12_does 0 = some (.iload_n 1, 1) := by decide +kernel
theorem eX12_does_1 : decode mX12_does.2.1 1 = .ok (.tableswitch 151 0 4 #[35, 57, 57, 103, 133], 35) := by decide +kernel
theorem eX12_does_36 : ino mX12_does 36 = some (.aload_n 0, 37) := by decide +kernel
theorem eX12_does_37 : ino mX12_does 37 = some (.iload_n 2, 38) := by decide +kernel
theorem eX12_does_38 : ino mX12_does 38 = some (.iload_n 3, 39) := by decide +kernel
theorem eX12_does_39 : ino mX12_does 39 = some (.invokevirtual 351, 42) := by decide +kernel
theorem eX12_does_42 : ino mX12_does 42 = some (.istore 4, 44) := by decide +kernel
theorem eX12_does_44 : ino mX12_does 44 = some (.iload 4, 46) := by decide +kernel
theorem eX12_does_46 : ino mX12_does 46 = some (.ifCond .ne 9, 55) := by decide +kernel
theorem eX12_does_49 : ino mX12_does 49 = some (.aload_n 0, 50) := by decide +kernel
theorem eX12_does_50 : ino mX12_does 50 = some (.iload_n 2, 51) := by decide +kernel
theorem eX12_does_51 : ino mX12_does 51 = some (.iload_n 3, 52) := by decide +kernel
theorem eX12_does_52 : ino mX12_does 52 = some (.invokevirtual 357, 55) := by decide +kernel
theorem eX12_does_55 : ino mX12_does 55 = some (.iload 4, 57) := by decide +kernel
theorem eX12_does_57 : ino mX12_does 57 = some (.ireturn, 58) := by decide +kernel
theorem eX12_does_58 : ino mX12_does 58 = some (.aload_n 0, 59) := by decide +kernel
theorem eX12_does_59 : ino mX12_does 59 = some (.getfield 33, 62) := by decide +kernel
theorem eX12_does_62 : ino mX12_does 62 = some (.bipush 88, 64) := by decide +kernel
theorem eX12_does_64 : ino mX12_does 64 = some (.iaload, 65) := by decide +kernel
theorem eX12_does_65 : ino mX12_does 65 = some (.iload_n 2, 66) := by decide +kernel
theorem eX12_does_66 : ino mX12_does 66 = some (.invokestatic 256, 69) := by decide +kernel
theorem eX12_does_69 : ino mX12_does 69 = some (.iload_n 1, 70) := by decide +kernel
theorem eX12_does_70 : ino mX12_does 70 = some (.iconst 1, 71) := by decide +kernel
theorem eX12_does_71 : ino mX12_does 71 = some (.if_icmp .ne 7, 78) := by decide +kernel
theorem eX12_does_74 : ino mX12_does 74 = some (.iconst 1, 75) := by decide +kernel
theorem eX12_does_75 : ino mX12_does 75 = some (.goto 4, 79) := by decide +kernel
theorem eX12_does_78 : ino mX12_does 78 = some (.iconst 0, 79) := by decide +kernel
theorem eX12_does_79 : ino mX12_does 79 = some (.if_icmp .ne 10, 89) := by decide +kernel
theorem eX12_does_82 : ino mX12_does 82 = some (.bipush 10, 84) := by decide +kernel
theorem eX12_does_84 : ino mX12_does 84 = some (.iload_n 1, 85) := by decide +kernel
theorem eX12_does_85 : ino mX12_does 85 = some (.imul, 86) := by decide +kernel
theorem eX12_does_86 : ino mX12_does 86 = some (.iconst 1, 87) := by decide +kernel
theorem eX12_does_87 : ino mX12_does 87 = some (.iadd, 88) := by decide +kernel
theorem eX12_does_88 : ino mX12_does 88 = some (.ireturn, 89) := by decide +kernel
theorem eX12_does_89 : ino mX12_does 89 = some (.aload_n 0, 90) := by decide +kernel
theorem eX12_does_90 : ino mX12_does 90 = some (.getfield 33, 93) := by decide +kernel
theorem eX12_does_93 : ino mX12_does 93 = some (.bipush 88, 95) := by decide +kernel
theorem eX12_does_95 : ino mX12_does 95 = some (.dup2, 96) := by decide +kernel
theorem eX12_does_96 : ino mX12_does 96 = some (.iaload, 97) := by decide +kernel
theorem eX12_does_97 : ino mX12_does 97 = some (.iconst 1, 98) := by decide +kernel
theorem eX12_does_98 : ino mX12_does 98 = some (.iload_n 2, 99) := by decide +kernel
theorem eX12_does_99 : ino mX12_does 99 = some (.ishl, 100) := by decide +kernel
theorem eX12_does_100 : ino mX12_does 100 = some (.ixor, 101) := by decide +kernel
theorem eX12_does_101 : ino mX12_does 101 = some (.iastore, 102) := by decide +kernel
theorem eX12_does_102 : ino mX12_does 102 = some (.iconst 0, 103) := by decide +kernel
theorem eX12_does_103 : ino mX12_does 103 = some (.ireturn, 104) := by decide +kernel
theorem eX12_does_104 : ino mX12_does 104 = some (.aload_n 0, 105) := by decide +kernel
theorem eX12_does_105 : ino mX12_does 105 = some (.iload_n 2, 106) := by decide +kernel
theorem eX12_does_106 : ino mX12_does 106 = some (.invokevirtual 363, 109) := by decide +kernel
theorem eX12_does_109 : ino mX12_does 109 = some (.istore 4, 111) := by decide +kernel
theorem eX12_does_111 : ino mX12_does 111 = some (.iload 4, 113) := by decide +kernel
theorem eX12_does_113 : ino mX12_does 113 = some (.ifCond .le 9, 122) := by decide +kernel
theorem eX12_does_116 : ino mX12_does 116 = some (.bipush 30, 118) := by decide +kernel
theorem eX12_does_118 : ino mX12_does 118 = some (.iload 4, 120) := by decide +kernel
theorem eX12_does_120 : ino mX12_does 120 = some (.iadd, 121) := by decide +kernel
theorem eX12_does_121 : ino mX12_does 121 = some (.ireturn, 122) := by decide +kernel
theorem eX12_does_122 : ino mX12_does 122 = some (.aload_n 0, 123) := by decide +kernel
theorem eX12_does_123 : ino mX12_does 123 = some (.getfield 33, 126) := by decide +kernel
theorem eX12_does_126 : ino mX12_does 126 = some (.bipush 90, 128) := by decide +kernel
theorem eX12_does_128 : ino mX12_does 128 = some (.iload_n 2, 129) := by decide +kernel
theorem eX12_does_129 : ino mX12_does 129 = some (.iadd, 130) := by decide +kernel
theorem eX12_does_130 : ino mX12_does 130 = some (.iconst (-1), 131) := by decide +kernel
theorem eX12_does_131 : ino mX12_does 131 = some (.iastore, 132) := by decide +kernel
theorem eX12_does_132 : ino mX12_does 132 = some (.iconst 0, 133) := by decide +kernel
theorem eX12_does_133 : ino mX12_does 133 = some (.ireturn, 134) := by decide +kernel
theorem eX12_does_134 : ino mX12_does 134 = some (.aload_n 0, 135) := by decide +kernel
theorem eX12_does_135 : ino mX12_does 135 = some (.iload_n 2, 136) := by decide +kernel
theorem eX12_does_136 : ino mX12_does 136 = some (.invokevirtual 328, 139) := by decide +kernel
theorem eX12_does_139 : ino mX12_does 139 = some (.ifCond .ne 6, 145) := by decide +kernel
theorem eX12_does_142 : ino mX12_does 142 = some (.bipush 41, 144) := by decide +kernel
theorem eX12_does_144 : ino mX12_does 144 = some (.ireturn, 145) := by decide +kernel
theorem eX12_does_145 : ino mX12_does 145 = some (.aload_n 0, 146) := by decide +kernel
theorem eX12_does_146 : ino mX12_does 146 = some (.iload_n 2, 147) := by decide +kernel
theorem eX12_does_147 : ino mX12_does 147 = some (.invokevirtual 366, 150) := by decide +kernel
theorem eX12_does_150 : ino mX12_does 150 = some (.iconst 0, 151) := by decide +kernel
theorem eX12_does_151 : ino mX12_does 151 = some (.ireturn, 152) := by decide +kernel
theorem eX12_does_152 : ino mX12_does 152 = some (.aload_n 0, 153) := by decide +kernel
theorem eX12_does_153 : ino mX12_does 153 = some (.getfield 33, 156) := by decide +kernel
theorem eX12_does_156 : ino mX12_does 156 = some (.bipush 85, 158) := by decide +kernel
theorem eX12_does_158 : ino mX12_does 158 = some (.iaload, 159) := by decide +kernel
theorem eX12_does_159 : ino mX12_does 159 = some (.iload_n 2, 160) := by decide +kernel
theorem eX12_does_160 : ino mX12_does 160 = some (.iadd, 161) := by decide +kernel
theorem eX12_does_161 : ino mX12_does 161 = some (.sipush 400, 164) := by decide +kernel
theorem eX12_does_164 : ino mX12_does 164 = some (.if_icmp .le 6, 170) := by decide +kernel
theorem eX12_does_167 : ino mX12_does 167 = some (.bipush 51, 169) := by decide +kernel
theorem eX12_does_169 : ino mX12_does 169 = some (.ireturn, 170) := by decide +kernel
theorem eX12_does_170 : ino mX12_does 170 = some (.aload_n 0, 171) := by decide +kernel
theorem eX12_does_171 : ino mX12_does 171 = some (.iload_n 2, 172) := by decide +kernel
theorem eX12_does_172 : ino mX12_does 172 = some (.invokevirtual 369, 175) := by decide +kernel
theorem eX12_does_175 : ino mX12_does 175 = some (.pop, 176) := by decide +kernel
theorem eX12_does_176 : ino mX12_does 176 = some (.iconst 0, 177) := by decide +kernel
theorem eX12_does_177 : ino mX12_does 177 = some (.ireturn, 178) := by decide +kernel
theorem eX12_book_0 : ino mX12_book 0 = some (.aload_n 0, 1) := by decide +kernel
theorem eX12_book_1 : ino mX12_book 1 = some (.iconst 0, 2) := by decide +kernel
theorem eX12_book_2 : ino mX12_book 2 = some (.putfield 1, 5) := by decide +kernel
theorem eX12_book_5 : ino mX12_book 5 = some (.iload_n 1, 6) := by decide +kernel
theorem eX12_book_6 : ino mX12_book 6 = some (.iconst 0, 7) := by decide +kernel
theorem eX12_book_7 : ino mX12_book 7 = some (.iconst 1, 8) := by decide +kernel
theorem eX12_book_8 : ino mX12_book 8 = some (.invokestatic 221, 11) := by decide +kernel
theorem eX12_book_11 : ino mX12_book 11 = some (.ifCond .ne 7, 18) := by decide +kernel
theorem eX12_book_14 : ino mX12_book 14 = some (.sipush (-1000), 17) := by decide +kernel
theorem eX12_book_17 : ino mX12_book 17 = some (.ireturn, 18) := by decide +kernel
theorem eX12_book_18 : ino mX12_book 18 = some (.aload_n 0, 19) := by decide +kernel
theorem eX12_book_19 : ino mX12_book 19 = some (.sipush 400, 22) := by decide +kernel
theorem eX12_book_22 : ino mX12_book 22 = some (.invokevirtual 281, 25) := by decide +kernel
theorem eX12_book_25 : ino mX12_book 25 = some (.aload_n 0, 26) := by decide +kernel
theorem eX12_book_26 : ino mX12_book 26 = some (.iconst 0, 27) := by decide +kernel
theorem eX12_book_27 : ino mX12_book 27 = some (.putfield 206, 30) := by decide +kernel
theorem eX12_book_30 : ino mX12_book 30 = some (.aload_n 0, 31) := by decide +kernel
theorem eX12_book_31 : ino mX12_book 31 = some (.iconst 0, 32) := by decide +kernel
theorem eX12_book_32 : ino mX12_book 32 = some (.putfield 454, 35) := by decide +kernel
theorem eX12_book_35 : ino mX12_book 35 = some (.aload_n 0, 36) := by decide +kernel
theorem eX12_book_36 : ino mX12_book 36 = some (.invokevirtual 218, 39) := by decide +kernel
theorem eX12_book_39 : ino mX12_book 39 = some (.aload_n 0, 40) := by decide +kernel
theorem eX12_book_40 : ino mX12_book 40 = some (.getfield 189, 43) := by decide +kernel
theorem eX12_book_43 : ino mX12_book 43 = some (.ifCond .eq 40, 83) := by decide +kernel
theorem eX12_book_46 : ino mX12_book 46 = some (.aload_n 0, 47) := by decide +kernel
theorem eX12_book_47 : ino mX12_book 47 = some (.invokevirtual 460, 50) := by decide +kernel
theorem eX12_book_50 : ino mX12_book 50 = some (.ifCond .eq 12, 62) := by decide +kernel
theorem eX12_book_53 : ino mX12_book 53 = some (.aload_n 0, 54) := by decide +kernel
theorem eX12_book_54 : ino mX12_book 54 = some (.bipush 59, 56) := by decide +kernel
theorem eX12_book_56 : ino mX12_book 56 = some (.invokevirtual 290, 59) := by decide +kernel
theorem eX12_book_59 : ino mX12_book 59 = some (.ifCond .ne 11, 70) := by decide +kernel
theorem eX12_book_62 : ino mX12_book 62 = some (.bipush (-2), 64) := by decide +kernel
theorem eX12_book_64 : ino mX12_book 64 = some (.aload_n 0, 65) := by decide +kernel
theorem eX12_book_65 : ino mX12_book 65 = some (.getfield 209, 68) := by decide +kernel
theorem eX12_book_68 : ino mX12_book 68 = some (.isub, 69) := by decide +kernel
theorem eX12_book_69 : ino mX12_book 69 = some (.ireturn, 70) := by decide +kernel
theorem eX12_book_70 : ino mX12_book 70 = some (.aload_n 0, 71) := by decide +kernel
theorem eX12_book_71 : ino mX12_book 71 = some (.dup, 72) := by decide +kernel
theorem eX12_book_72 : ino mX12_book 72 = some (.getfield 454, 75) := by decide +kernel
theorem eX12_book_75 : ino mX12_book 75 = some (.iconst 1, 76) := by decide +kernel
theorem eX12_book_76 : ino mX12_book 76 = some (.iadd, 77) := by decide +kernel
theorem eX12_book_77 : ino mX12_book 77 = some (.putfield 454, 80) := by decide +kernel
theorem eX12_book_80 : ino mX12_book 80 = some (.goto (-41), 39) := by decide +kernel
theorem eX12_book_83 : ino mX12_book 83 = some (.aload_n 0, 84) := by decide +kernel
theorem eX12_book_84 : ino mX12_book 84 = some (.invokevirtual 372, 87) := by decide +kernel
theorem eX12_book_87 : ino mX12_book 87 = some (.iconst 0, 88) := by decide +kernel
theorem eX12_book_88 : ino mX12_book 88 = some (.istore_n 2, 89) := by decide +kernel
theorem eX12_book_89 : ino mX12_book 89 = some (.iload_n 2, 90) := by decide +kernel
theorem eX12_book_90 : ino mX12_book 90 = some (.iconst 4, 91) := by decide +kernel
theorem eX12_book_91 : ino mX12_book 91 = some (.if_icmp .ge 16, 107) := by decide +kernel
theorem eX12_book_94 : ino mX12_book 94 = some (.aload_n 0, 95) := by decide +kernel
theorem eX12_book_95 : ino mX12_book 95 = some (.getfield 95, 98) := by decide +kernel
theorem eX12_book_98 : ino mX12_book 98 = some (.iload_n 2, 99) := by decide +kernel
theorem eX12_book_99 : ino mX12_book 99 = some (.iconst 0, 100) := by decide +kernel
theorem eX12_book_100 : ino mX12_book 100 = some (.iastore, 101) := by decide +kernel
theorem eX12_book_101 : ino mX12_book 101 = some (.iinc 2 1, 104) := by decide +kernel
theorem eX12_book_104 : ino mX12_book 104 = some (.goto (-15), 89) := by decide +kernel
theorem eX12_book_107 : ino mX12_book 107 = some (.iconst (-1), 108) := by decide +kernel
theorem eX12_book_108 : ino mX12_book 108 = some (.istore_n 2, 109) := by decide +kernel
theorem eX12_book_109 : ino mX12_book 109 = some (.iconst 0, 110) := by decide +kernel
theorem eX12_book_110 : ino mX12_book 110 = some (.istore_n 3, 111) := by decide +kernel
theorem eX12_book_111 : ino mX12_book 111 = some (.iload_n 3, 112) := by decide +kernel
theorem eX12_book_112 : ino mX12_book 112 = some (.aload_n 0, 113) := by decide +kernel
theorem eX12_book_113 : ino mX12_book 113 = some (.getfield 454, 116) := by decide +kernel
theorem eX12_book_116 : ino mX12_book 116 = some (.if_icmp .ge 75, 191) := by decide +kernel
theorem eX12_book_119 : ino mX12_book 119 = some (.iload_n 2, 120) := by decide +kernel
theorem eX12_book_120 : ino mX12_book 120 = some (.ifCond .ge 71, 191) := by decide +kernel
theorem eX12_book_123 : ino mX12_book 123 = some (.aload_n 0, 124) := by decide +kernel
theorem eX12_book_124 : ino mX12_book 124 = some (.getfield 95, 127) := by decide +kernel
theorem eX12_book_127 : ino mX12_book 127 = some (.iconst 0, 128) := by decide +kernel
theorem eX12_book_128 : ino mX12_book 128 = some (.aload_n 0, 129) := by decide +kernel
theorem eX12_book_129 : ino mX12_book 129 = some (.aload_n 0, 130) := by decide +kernel
theorem eX12_book_130 : ino mX12_book 130 = some (.getfield 40, 133) := by decide +kernel
theorem eX12_book_133 : ino mX12_book 133 = some (.iconst 3, 134) := by decide +kernel
theorem eX12_book_134 : ino mX12_book 134 = some (.iload_n 3, 135) := by decide +kernel
theorem eX12_book_135 : ino mX12_book 135 = some (.imul, 136) := by decide +kernel
theorem eX12_book_136 : ino mX12_book 136 = some (.iaload, 137) := by decide +kernel
theorem eX12_book_137 : ino mX12_book 137 = some (.aload_n 0, 138) := by decide +kernel
theorem eX12_book_138 : ino mX12_book 138 = some (.getfield 40, 141) := by decide +kernel
theorem eX12_book_141 : ino mX12_book 141 = some (.iconst 3, 142) := by decide +kernel
theorem eX12_book_142 : ino mX12_book 142 = some (.iload_n 3, 143) := by decide +kernel
theorem eX12_book_143 : ino mX12_book 143 = some (.imul, 144) := by decide +kernel
theorem eX12_book_144 : ino mX12_book 144 = some (.iconst 1, 145) := by decide +kernel
theorem eX12_book_145 : ino mX12_book 145 = some (.iadd, 146) := by decide +kernel
theorem eX12_book_146 : ino mX12_book 146 = some (.iaload, 147) := by decide +kernel
theorem eX12_book_147 : ino mX12_book 147 = some (.aload_n 0, 148) := by decide +kernel
theorem eX12_book_148 : ino mX12_book 148 = some (.getfield 40, 151) := by decide +kernel
theorem eX12_book_151 : ino mX12_book 151 = some (.iconst 3, 152) := by decide +kernel
theorem eX12_book_152 : ino mX12_book 152 = some (.iload_n 3, 153) := by decide +kernel
theorem eX12_book_153 : ino mX12_book 153 = some (.imul, 154) := by decide +kernel
theorem eX12_book_154 : ino mX12_book 154 = some (.iconst 2, 155) := by decide +kernel
theorem eX12_book_155 : ino mX12_book 155 = some (.iadd, 156) := by decide +kernel
theorem eX12_book_156 : ino mX12_book 156 = some (.iaload, 157) := by decide +kernel
theorem eX12_book_157 : ino mX12_book 157 = some (.invokevirtual 463, 160) := by decide +kernel
theorem eX12_book_160 : ino mX12_book 160 = some (.iastore, 161) := by decide +kernel
theorem eX12_book_161 : ino mX12_book 161 = some (.aload_n 0, 162) := by decide +kernel
theorem eX12_book_162 : ino mX12_book 162 = some (.getfield 95, 165) := by decide +kernel
theorem eX12_book_165 : ino mX12_book 165 = some (.iconst 0, 166) := by decide +kernel
theorem eX12_book_166 : ino mX12_book 166 = some (.iaload, 167) := by decide +kernel
theorem eX12_book_167 : ino mX12_book 167 = some (.ifCond .le 8, 175) := by decide +kernel
theorem eX12_book_170 : ino mX12_book 170 = some (.iload_n 3, 171) := by decide +kernel
theorem eX12_book_171 : ino mX12_book 171 = some (.istore_n 2, 172) := by decide +kernel
theorem eX12_book_172 : ino mX12_book 172 = some (.goto 13, 185) := by decide +kernel
theorem eX12_book_175 : ino mX12_book 175 = some (.aload_n 0, 176) := by decide +kernel
theorem eX12_book_176 : ino mX12_book 176 = some (.getfield 95, 179) := by decide +kernel
theorem eX12_book_179 : ino mX12_book 179 = some (.iconst 1, 180) := by decide +kernel
theorem eX12_book_180 : ino mX12_book 180 = some (.dup2, 181) := by decide +kernel
theorem eX12_book_181 : ino mX12_book 181 = some (.iaload, 182) := by decide +kernel
theorem eX12_book_182 : ino mX12_book 182 = some (.iconst 1, 183) := by decide +kernel
theorem eX12_book_183 : ino mX12_book 183 = some (.iadd, 184) := by decide +kernel
theorem eX12_book_184 : ino mX12_book 184 = some (.iastore, 185) := by decide +kernel
theorem eX12_book_185 : ino mX12_book 185 = some (.iinc 3 1, 188) := by decide +kernel
theorem eX12_book_188 : ino mX12_book 188 = some (.goto (-77), 111) := by decide +kernel
theorem eX12_book_191 : ino mX12_book 191 = some (.aload_n 0, 192) := by decide +kernel
theorem eX12_book_192 : ino mX12_book 192 = some (.getfield 95, 195) := by decide +kernel
theorem eX12_book_195 : ino mX12_book 195 = some (.iconst 2, 196) := by decide +kernel
theorem eX12_book_196 : ino mX12_book 196 = some (.aload_n 0, 197) := by decide +kernel
theorem eX12_book_197 : ino mX12_book 197 = some (.getfield 33, 200) := by decide +kernel
theorem eX12_book_200 : ino mX12_book 200 = some (.bipush 85, 202) := by decide +kernel
theorem eX12_book_202 : ino mX12_book 202 = some (.iaload, 203) := by decide +kernel
theorem eX12_book_203 : ino mX12_book 203 = some (.iastore, 204) := by decide +kernel
theorem eX12_book_204 : ino mX12_book 204 = some (.aload_n 0, 205) := by decide +kernel
theorem eX12_book_205 : ino mX12_book 205 = some (.getfield 95, 208) := by decide +kernel
theorem eX12_book_208 : ino mX12_book 208 = some (.iconst 3, 209) := by decide +kernel
theorem eX12_book_209 : ino mX12_book 209 = some (.aload_n 0, 210) := by decide +kernel
theorem eX12_book_210 : ino mX12_book 210 = some (.invokevirtual 334, 213) := by decide +kernel
theorem eX12_book_213 : ino mX12_book 213 = some (.iastore, 214) := by decide +kernel
theorem eX12_book_214 : ino mX12_book 214 = some (.aload_n 0, 215) := by decide +kernel
theorem eX12_book_215 : ino mX12_book 215 = some (.iconst 1, 216) := by decide +kernel
theorem eX12_book_216 : ino mX12_book 216 = some (.putfield 466, 219) := by decide +kernel
theorem eX12_book_219 : ino mX12_book 219 = some (.iload_n 1, 220) := by decide +kernel
theorem eX12_book_220 : ino mX12_book 220 = some (.iconst 1, 221) := by decide +kernel
theorem eX12_book_221 : ino mX12_book 221 = some (.if_icmp .ne 52, 273) := by decide +kernel
theorem eX12_book_224 : ino mX12_book 224 = some (.aload_n 0, 225) := by decide +kernel
theorem eX12_book_225 : ino mX12_book 225 = some (.getfield 95, 228) := by decide +kernel
theorem eX12_book_228 : ino mX12_book 228 = some (.iconst 1, 229) := by decide +kernel
theorem eX12_book_229 : ino mX12_book 229 = some (.iaload, 230) := by decide +kernel
theorem eX12_book_230 : ino mX12_book 230 = some (.ifCond .le 43, 273) := by decide +kernel
theorem eX12_book_233 : ino mX12_book 233 = some (.aload_n 0, 234) := by decide +kernel
theorem eX12_book_234 : ino mX12_book 234 = some (.invokevirtual 354, 237) := by decide +kernel
theorem eX12_book_237 : ino mX12_book 237 = some (.iconst 0, 238) := by decide +kernel
theorem eX12_book_238 : ino mX12_book 238 = some (.istore_n 3, 239) := by decide +kernel
theorem eX12_book_239 : ino mX12_book 239 = some (.iload_n 3, 240) := by decide +kernel
theorem eX12_book_240 : ino mX12_book 240 = some (.bipush 59, 242) := by decide +kernel
theorem eX12_book_242 : ino mX12_book 242 = some (.if_icmp .ge 31, 273) := by decide +kernel
theorem eX12_book_245 : ino mX12_book 245 = some (.aload_n 0, 246) := by decide +kernel
theorem eX12_book_246 : ino mX12_book 246 = some (.getfield 50, 249) := by decide +kernel
theorem eX12_book_249 : ino mX12_book 249 = some (.bipush 59, 251) := by decide +kernel
theorem eX12_book_251 : ino mX12_book 251 = some (.aload_n 0, 252) := by decide +kernel
theorem eX12_book_252 : ino mX12_book 252 = some (.getfield 293, 255) := by decide +kernel
theorem eX12_book_255 : ino mX12_book 255 = some (.iconst 1, 256) := by decide +kernel
theorem eX12_book_256 : ino mX12_book 256 = some (.isub, 257) := by decide +kernel
theorem eX12_book_257 : ino mX12_book 257 = some (.imul, 258) := by decide +kernel
theorem eX12_book_258 : ino mX12_book 258 = some (.iload_n 3, 259) := by decide +kernel
theorem eX12_book_259 : ino mX12_book 259 = some (.iadd, 260) := by decide +kernel
theorem eX12_book_260 : ino mX12_book 260 = some (.aload_n 0, 261) := by decide +kernel
theorem eX12_book_261 : ino mX12_book 261 = some (.getfield 53, 264) := by decide +kernel
theorem eX12_book_264 : ino mX12_book 264 = some (.iload_n 3, 265) := by decide +kernel
theorem eX12_book_265 : ino mX12_book 265 = some (.iaload, 266) := by decide +kernel
theorem eX12_book_266 : ino mX12_book 266 = some (.iastore, 267) := by decide +kernel
theorem eX12_book_267 : ino mX12_book 267 = some (.iinc 3 1, 270) := by decide +kernel
theorem eX12_book_270 : ino mX12_book 270 = some (.goto (-31), 239) := by decide +kernel
theorem eX12_book_273 : ino mX12_book 273 = some (.iload_n 1, 274) := by decide +kernel
theorem eX12_book_274 : ino mX12_book 274 = some (.ifCond .ne 7, 281) := by decide +kernel
theorem eX12_book_277 : ino mX12_book 277 = some (.aload_n 0, 278) := by decide +kernel
theorem eX12_book_278 : ino mX12_book 278 = some (.invokevirtual 375, 281) := by decide +kernel
theorem eX12_book_281 : ino mX12_book 281 = some (.iload_n 2, 282) := by decide +kernel
theorem eX12_book_282 : ino mX12_book 282 = some (.ireturn, 283) := by decide +kernel
theorem eX12_told_0 : ino mX12_told 0 = some (.aload_n 0, 1) := by decide +kernel
theorem eX12_told_1 : ino mX12_told 1 = some (.iconst 0, 2) := by decide +kernel
theorem eX12_told_2 : ino mX12_told 2 = some (.putfield 1, 5) := by decide +kernel
theorem eX12_told_5 : ino mX12_told 5 = some (.aload_n 0, 6) := by decide +kernel
theorem eX12_told_6 : ino mX12_told 6 = some (.getfield 466, 9) := by decide +kernel
theorem eX12_told_9 : ino mX12_told 9 = some (.ifCond .eq 21, 30) := by decide +kernel
theorem eX12_told_12 : ino mX12_told 12 = some (.iload_n 1, 13) := by decide +kernel
theorem eX12_told_13 : ino mX12_told 13 = some (.iconst 0, 14) := by decide +kernel
theorem eX12_told_14 : ino mX12_told 14 = some (.iconst 3, 15) := by decide +kernel
theorem eX12_told_15 : ino mX12_told 15 = some (.invokestatic 221, 18) := by decide +kernel
theorem eX12_told_18 : ino mX12_told 18 = some (.ifCond .eq 12, 30) := by decide +kernel
theorem eX12_told_21 : ino mX12_told 21 = some (.aload_n 0, 22) := by decide +kernel
theorem eX12_told_22 : ino mX12_told 22 = some (.getfield 95, 25) := by decide +kernel
theorem eX12_told_25 : ino mX12_told 25 = some (.iload_n 1, 26) := by decide +kernel
theorem eX12_told_26 : ino mX12_told 26 = some (.iaload, 27) := by decide +kernel
theorem eX12_told_27 : ino mX12_told 27 = some (.goto 4, 31) := by decide +kernel
theorem eX12_told_30 : ino mX12_told 30 = some (.iconst (-1), 31) := by decide +kernel
theorem eX12_told_31 : ino mX12_told 31 = some (.ireturn, 32) := by decide +kernel
theorem eX12_code_0 : ino mX12_code 0 = some (.aload_n 0, 1) := by decide +kernel
theorem eX12_code_1 : ino mX12_code 1 = some (.getfield 40, 4) := by decide +kernel
theorem eX12_code_4 : ino mX12_code 4 = some (.iconst 3, 5) := by decide +kernel
theorem eX12_code_5 : ino mX12_code 5 = some (.aload_n 0, 6) := by decide +kernel
theorem eX12_code_6 : ino mX12_code 6 = some (.getfield 469, 9) := by decide +kernel
theorem eX12_code_9 : ino mX12_code 9 = some (.imul, 10) := by decide +kernel
theorem eX12_code_10 : ino mX12_code 10 = some (.iload_n 1, 11) := by decide +kernel
theorem eX12_code_11 : ino mX12_code 11 = some (.iastore, 12) := by decide +kernel
theorem eX12_code_12 : ino mX12_code 12 = some (.aload_n 0, 13) := by decide +kernel
theorem eX12_code_13 : ino mX12_code 13 = some (.getfield 40, 16) := by decide +kernel
theorem eX12_code_16 : ino mX12_code 16 = some (.iconst 3, 17) := by decide +kernel
theorem eX12_code_17 : ino mX12_code 17 = some (.aload_n 0, 18) := by decide +kernel
theorem eX12_code_18 : ino mX12_code 18 = some (.getfield 469, 21) := by decide +kernel
theorem eX12_code_21 : ino mX12_code 21 = some (.imul, 22) := by decide +kernel
theorem eX12_code_22 : ino mX12_code 22 = some (.iconst 1, 23) := by decide +kernel
theorem eX12_code_23 : ino mX12_code 23 = some (.iadd, 24) := by decide +kernel
theorem eX12_code_24 : ino mX12_code 24 = some (.iload_n 2, 25) := by decide +kernel
theorem eX12_code_25 : ino mX12_code 25 = some (.iastore, 26) := by decide +kernel
theorem eX12_code_26 : ino mX12_code 26 = some (.aload_n 0, 27) := by decide +kernel
theorem eX12_code_27 : ino mX12_code 27 = some (.getfield 40, 30) := by decide +kernel
theorem eX12_code_30 : ino mX12_code 30 = some (.iconst 3, 31) := by decide +kernel
theorem eX12_code_31 : ino mX12_code 31 = some (.aload_n 0, 32) := by decide +kernel
theorem eX12_code_32 : ino mX12_code 32 = some (.getfield 469, 35) := by decide +kernel
theorem eX12_code_35 : ino mX12_code 35 = some (.imul, 36) := by decide +kernel
theorem eX12_code_36 : ino mX12_code 36 = some (.iconst 2, 37) := by decide +kernel
theorem eX12_code_37 : ino mX12_code 37 = some (.iadd, 38) := by decide +kernel
theorem eX12_code_38 : ino mX12_code 38 = some (.iload_n 3, 39) := by decide +kernel
theorem eX12_code_39 : ino mX12_code 39 = some (.iastore, 40) := by decide +kernel
theorem eX12_code_40 : ino mX12_code 40 = some (.aload_n 0, 41) := by decide +kernel
theorem eX12_code_41 : ino mX12_code 41 = some (.dup, 42) := by decide +kernel
theorem eX12_code_42 : ino mX12_code 42 = some (.getfield 469, 45) := by decide +kernel
theorem eX12_code_45 : ino mX12_code 45 = some (.iconst 1, 46) := by decide +kernel
theorem eX12_code_46 : ino mX12_code 46 = some (.iadd, 47) := by decide +kernel
theorem eX12_code_47 : ino mX12_code 47 = some (.putfield 469, 50) := by decide +kernel
theorem eX12_code_50 : ino mX12_code 50 = some (.return_, 51) := by decide +kernel
theorem eX12_joins_0 : ino mX12_joins 0 = some (.aload_n 0, 1) := by decide +kernel
theorem eX12_joins_1 : ino mX12_joins 1 = some (.getfield 472, 4) := by decide +kernel
theorem eX12_joins_4 : ino mX12_joins 4 = some (.ifCond .le 69, 73) := by decide +kernel
theorem eX12_joins_7 : ino mX12_joins 7 = some (.aload_n 0, 8) := by decide +kernel
theorem eX12_joins_8 : ino mX12_joins 8 = some (.getfield 98, 11) := by decide +kernel
theorem eX12_joins_11 : ino mX12_joins 11 = some (.aload_n 0, 12) := by decide +kernel
theorem eX12_joins_12 : ino mX12_joins 12 = some (.getfield 472, 15) := by decide +kernel
theorem eX12_joins_15 : ino mX12_joins 15 = some (.iconst 1, 16) := by decide +kernel
theorem eX12_joins_16 : ino mX12_joins 16 = some (.isub, 17) := by decide +kernel
theorem eX12_joins_17 : ino mX12_joins 17 = some (.iaload, 18) := by decide +kernel
theorem eX12_joins_18 : ino mX12_joins 18 = some (.bipush 21, 20) := by decide +kernel
theorem eX12_joins_20 : ino mX12_joins 20 = some (.if_icmp .eq 25, 45) := by decide +kernel
theorem eX12_joins_23 : ino mX12_joins 23 = some (.aload_n 0, 24) := by decide +kernel
theorem eX12_joins_24 : ino mX12_joins 24 = some (.getfield 98, 27) := by decide +kernel
theorem eX12_joins_27 : ino mX12_joins 27 = some (.aload_n 0, 28) := by decide +kernel
theorem eX12_joins_28 : ino mX12_joins 28 = some (.getfield 472, 31) := by decide +kernel
theorem eX12_joins_31 : ino mX12_joins 31 = some (.iconst 1, 32) := by decide +kernel
theorem eX12_joins_32 : ino mX12_joins 32 = some (.isub, 33) := by decide +kernel
theorem eX12_joins_33 : ino mX12_joins 33 = some (.iaload, 34) := by decide +kernel
theorem eX12_joins_34 : ino mX12_joins 34 = some (.bipush 22, 36) := by decide +kernel
theorem eX12_joins_36 : ino mX12_joins 36 = some (.if_icmp .ne 37, 73) := by decide +kernel
theorem eX12_joins_39 : ino mX12_joins 39 = some (.iload_n 1, 40) := by decide +kernel
theorem eX12_joins_40 : ino mX12_joins 40 = some (.bipush 22, 42) := by decide +kernel
theorem eX12_joins_42 : ino mX12_joins 42 = some (.if_icmp .ne 31, 73) := by decide +kernel
theorem eX12_joins_45 : ino mX12_joins 45 = some (.aload_n 0, 46) := by decide +kernel
theorem eX12_joins_46 : ino mX12_joins 46 = some (.dup, 47) := by decide +kernel
theorem eX12_joins_47 : ino mX12_joins 47 = some (.getfield 472, 50) := by decide +kernel
theorem eX12_joins_50 : ino mX12_joins 50 = some (.iconst 1, 51) := by decide +kernel
theorem eX12_joins_51 : ino mX12_joins 51 = some (.isub, 52) := by decide +kernel
theorem eX12_joins_52 : ino mX12_joins 52 = some (.putfield 472, 55) := by decide +kernel
theorem eX12_joins_55 : ino mX12_joins 55 = some (.aload_n 0, 56) := by decide +kernel
theorem eX12_joins_56 : ino mX12_joins 56 = some (.aload_n 0, 57) := by decide +kernel
theorem eX12_joins_57 : ino mX12_joins 57 = some (.getfield 98, 60) := by decide +kernel
theorem eX12_joins_60 : ino mX12_joins 60 = some (.aload_n 0, 61) := by decide +kernel
theorem eX12_joins_61 : ino mX12_joins 61 = some (.getfield 472, 64) := by decide +kernel
theorem eX12_joins_64 : ino mX12_joins 64 = some (.iaload, 65) := by decide +kernel
theorem eX12_joins_65 : ino mX12_joins 65 = some (.iconst 0, 66) := by decide +kernel
theorem eX12_joins_66 : ino mX12_joins 66 = some (.iconst 0, 67) := by decide +kernel
theorem eX12_joins_67 : ino mX12_joins 67 = some (.invokevirtual 475, 70) := by decide +kernel
theorem eX12_joins_70 : ino mX12_joins 70 = some (.goto (-70), 0) := by decide +kernel
theorem eX12_joins_73 : ino mX12_joins 73 = some (.return_, 74) := by decide +kernel
theorem eX12_nots_0 : ino mX12_nots 0 = some (.aload_n 0, 1) := by decide +kernel
theorem eX12_nots_1 : ino mX12_nots 1 = some (.getfield 472, 4) := by decide +kernel
theorem eX12_nots_4 : ino mX12_nots 4 = some (.ifCond .le 50, 54) := by decide +kernel
theorem eX12_nots_7 : ino mX12_nots 7 = some (.aload_n 0, 8) := by decide +kernel
theorem eX12_nots_8 : ino mX12_nots 8 = some (.getfield 98, 11) := by decide +kernel
theorem eX12_nots_11 : ino mX12_nots 11 = some (.aload_n 0, 12) := by decide +kernel
theorem eX12_nots_12 : ino mX12_nots 12 = some (.getfield 472, 15) := by decide +kernel
theorem eX12_nots_15 : ino mX12_nots 15 = some (.iconst 1, 16) := by decide +kernel
theorem eX12_nots_16 : ino mX12_nots 16 = some (.isub, 17) := by decide +kernel
theorem eX12_nots_17 : ino mX12_nots 17 = some (.iaload, 18) := by decide +kernel
theorem eX12_nots_18 : ino mX12_nots 18 = some (.bipush 20, 20) := by decide +kernel
theorem eX12_nots_20 : ino mX12_nots 20 = some (.if_icmp .ne 34, 54) := by decide +kernel
theorem eX12_nots_23 : ino mX12_nots 23 = some (.aload_n 0, 24) := by decide +kernel
theorem eX12_nots_24 : ino mX12_nots 24 = some (.dup, 25) := by decide +kernel
theorem eX12_nots_25 : ino mX12_nots 25 = some (.getfield 472, 28) := by decide +kernel
theorem eX12_nots_28 : ino mX12_nots 28 = some (.iconst 1, 29) := by decide +kernel
theorem eX12_nots_29 : ino mX12_nots 29 = some (.isub, 30) := by decide +kernel
theorem eX12_nots_30 : ino mX12_nots 30 = some (.putfield 472, 33) := by decide +kernel
theorem eX12_nots_33 : ino mX12_nots 33 = some (.aload_n 0, 34) := by decide +kernel
theorem eX12_nots_34 : ino mX12_nots 34 = some (.dup, 35) := by decide +kernel
theorem eX12_nots_35 : ino mX12_nots 35 = some (.getfield 478, 38) := by decide +kernel
theorem eX12_nots_38 : ino mX12_nots 38 = some (.iconst 1, 39) := by decide +kernel
theorem eX12_nots_39 : ino mX12_nots 39 = some (.isub, 40) := by decide +kernel
theorem eX12_nots_40 : ino mX12_nots 40 = some (.putfield 478, 43) := by decide +kernel
theorem eX12_nots_43 : ino mX12_nots 43 = some (.aload_n 0, 44) := by decide +kernel
theorem eX12_nots_44 : ino mX12_nots 44 = some (.bipush 20, 46) := by decide +kernel
theorem eX12_nots_46 : ino mX12_nots 46 = some (.iconst 0, 47) := by decide +kernel
theorem eX12_nots_47 : ino mX12_nots 47 = some (.iconst 0, 48) := by decide +kernel
theorem eX12_nots_48 : ino mX12_nots 48 = some (.invokevirtual 475, 51) := by decide +kernel
theorem eX12_nots_51 : ino mX12_nots 51 = some (.goto (-51), 0) := by decide +kernel
theorem eX12_nots_54 : ino mX12_nots 54 = some (.return_, 55) := by decide +kernel
theorem eX12_leafOf_0 : ino mX12_leafOf 0 = some (.aload_n 0, 1) := by decide +kernel
theorem eX12_leafOf_1 : ino mX12_leafOf 1 = some (.ldc2_w 158, 4) := by decide +kernel
theorem eX12_leafOf_4 : ino mX12_leafOf 4 = some (.invokevirtual 246, 7) := by decide +kernel
theorem eX12_leafOf_7 : ino mX12_leafOf 7 = some (.ifCond .eq 7, 14) := by decide +kernel
theorem eX12_leafOf_10 : ino mX12_leafOf 10 = some (.iconst 0, 11) := by decide +kernel
theorem eX12_leafOf_11 : ino mX12_leafOf 11 = some (.goto 136, 147) := by decide +kernel
theorem eX12_leafOf_14 : ino mX12_leafOf 14 = some (.aload_n 0, 15) := by decide +kernel
theorem eX12_leafOf_15 : ino mX12_leafOf 15 = some (.ldc2_w 160, 18) := by decide +kernel
theorem eX12_leafOf_18 : ino mX12_leafOf 18 = some (.invokevirtual 246, 21) := by decide +kernel
theorem eX12_leafOf_21 : ino mX12_leafOf 21 = some (.ifCond .eq 7, 28) := by decide +kernel
theorem eX12_leafOf_24 : ino mX12_leafOf 24 = some (.iconst 1, 25) := by decide +kernel
theorem eX12_leafOf_25 : ino mX12_leafOf 25 = some (.goto 122, 147) := by decide +kernel
theorem eX12_leafOf_28 : ino mX12_leafOf 28 = some (.aload_n 0, 29) := by decide +kernel
theorem eX12_leafOf_29 : ino mX12_leafOf 29 = some (.ldc2_w 162, 32) := by decide +kernel
theorem eX12_leafOf_32 : ino mX12_leafOf 32 = some (.invokevirtual 246, 35) := by decide +kernel
theorem eX12_leafOf_35 : ino mX12_leafOf 35 = some (.ifCond .eq 7, 42) := by decide +kernel
theorem eX12_leafOf_38 : ino mX12_leafOf 38 = some (.iconst 2, 39) := by decide +kernel
theorem eX12_leafOf_39 : ino mX12_leafOf 39 = some (.goto 108, 147) := by decide +kernel
theorem eX12_leafOf_42 : ino mX12_leafOf 42 = some (.aload_n 0, 43) := by decide +kernel
theorem eX12_leafOf_43 : ino mX12_leafOf 43 = some (.ldc2_w 164, 46) := by decide +kernel
theorem eX12_leafOf_46 : ino mX12_leafOf 46 = some (.invokevirtual 246, 49) := by decide +kernel
theorem eX12_leafOf_49 : ino mX12_leafOf 49 = some (.ifCond .eq 7, 56) := by decide +kernel
theorem eX12_leafOf_52 : ino mX12_leafOf 52 = some (.iconst 3, 53) := by decide +kernel
theorem eX12_leafOf_53 : ino mX12_leafOf 53 = some (.goto 94, 147) := by decide +kernel
theorem eX12_leafOf_56 : ino mX12_leafOf 56 = some (.aload_n 0, 57) := by decide +kernel
theorem eX12_leafOf_57 : ino mX12_leafOf 57 = some (.ldc2_w 166, 60) := by decide +kernel
theorem eX12_leafOf_60 : ino mX12_leafOf 60 = some (.invokevirtual 246, 63) := by decide +kernel
theorem eX12_leafOf_63 : ino mX12_leafOf 63 = some (.ifCond .eq 7, 70) := by decide +kernel
theorem eX12_leafOf_66 : ino mX12_leafOf 66 = some (.iconst 4, 67) := by decide +kernel
theorem eX12_leafOf_67 : ino mX12_leafOf 67 = some (.goto 80, 147) := by decide +kernel
theorem eX12_leafOf_70 : ino mX12_leafOf 70 = some (.aload_n 0, 71) := by decide +kernel
theorem eX12_leafOf_71 : ino mX12_leafOf 71 = some (.ldc2_w 168, 74) := by decide +kernel
theorem eX12_leafOf_74 : ino mX12_leafOf 74 = some (.invokevirtual 246, 77) := by decide +kernel
theorem eX12_leafOf_77 : ino mX12_leafOf 77 = some (.ifCond .eq 7, 84) := by decide +kernel
theorem eX12_leafOf_80 : ino mX12_leafOf 80 = some (.iconst 5, 81) := by decide +kernel
theorem eX12_leafOf_81 : ino mX12_leafOf 81 = some (.goto 66, 147) := by decide +kernel
theorem eX12_leafOf_84 : ino mX12_leafOf 84 = some (.aload_n 0, 85) := by decide +kernel
theorem eX12_leafOf_85 : ino mX12_leafOf 85 = some (.ldc2_w 170, 88) := by decide +kernel
theorem eX12_leafOf_88 : ino mX12_leafOf 88 = some (.invokevirtual 246, 91) := by decide +kernel
theorem eX12_leafOf_91 : ino mX12_leafOf 91 = some (.ifCond .eq 8, 99) := by decide +kernel
theorem eX12_leafOf_94 : ino mX12_leafOf 94 = some (.bipush 6, 96) := by decide +kernel
theorem eX12_leafOf_96 : ino mX12_leafOf 96 = some (.goto 51, 147) := by decide +kernel
theorem eX12_leafOf_99 : ino mX12_leafOf 99 = some (.aload_n 0, 100) := by decide +kernel
theorem eX12_leafOf_100 : ino mX12_leafOf 100 = some (.ldc2_w 172, 103) := by decide +kernel
theorem eX12_leafOf_103 : ino mX12_leafOf 103 = some (.invokevirtual 246, 106) := by decide +kernel
theorem eX12_leafOf_106 : ino mX12_leafOf 106 = some (.ifCond .eq 8, 114) := by decide +kernel
theorem eX12_leafOf_109 : ino mX12_leafOf 109 = some (.bipush 7, 111) := by decide +kernel
theorem eX12_leafOf_111 : ino mX12_leafOf 111 = some (.goto 36, 147) := by decide +kernel
theorem eX12_leafOf_114 : ino mX12_leafOf 114 = some (.aload_n 0, 115) := by decide +kernel
theorem eX12_leafOf_115 : ino mX12_leafOf 115 = some (.ldc2_w 174, 118) := by decide +kernel
theorem eX12_leafOf_118 : ino mX12_leafOf 118 = some (.invokevirtual 246, 121) := by decide +kernel
theorem eX12_leafOf_121 : ino mX12_leafOf 121 = some (.ifCond .eq 8, 129) := by decide +kernel
theorem eX12_leafOf_124 : ino mX12_leafOf 124 = some (.bipush 8, 126) := by decide +kernel
theorem eX12_leafOf_126 : ino mX12_leafOf 126 = some (.goto 21, 147) := by decide +kernel
theorem eX12_leafOf_129 : ino mX12_leafOf 129 = some (.aload_n 0, 130) := by decide +kernel
theorem eX12_leafOf_130 : ino mX12_leafOf 130 = some (.invokevirtual 232, 133) := by decide +kernel
theorem eX12_leafOf_133 : ino mX12_leafOf 133 = some (.ifCond .ge 7, 140) := by decide +kernel
theorem eX12_leafOf_136 : ino mX12_leafOf 136 = some (.iconst (-1), 137) := by decide +kernel
theorem eX12_leafOf_137 : ino mX12_leafOf 137 = some (.goto 10, 147) := by decide +kernel
theorem eX12_leafOf_140 : ino mX12_leafOf 140 = some (.bipush 9, 142) := by decide +kernel
theorem eX12_leafOf_142 : ino mX12_leafOf 142 = some (.aload_n 0, 143) := by decide +kernel
theorem eX12_leafOf_143 : ino mX12_leafOf 143 = some (.invokevirtual 232, 146) := by decide +kernel
theorem eX12_leafOf_146 : ino mX12_leafOf 146 = some (.iadd, 147) := by decide +kernel
theorem eX12_leafOf_147 : ino mX12_leafOf 147 = some (.ireturn, 148) := by decide +kernel
