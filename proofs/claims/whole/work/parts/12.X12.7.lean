theorem eX12_operand_0 : ino mX12_operand 0 = some (.aload_n 0, 1) := by decide +kernel
theorem eX12_operand_1 : ino mX12_operand 1 = some (.ldc2_w 156, 4) := by decide +kernel
theorem eX12_operand_4 : ino mX12_operand 4 = some (.invokevirtual 246, 7) := by decide +kernel
theorem eX12_operand_7 : ino mX12_operand 7 = some (.istore_n 1, 8) := by decide +kernel
theorem eX12_operand_8 : ino mX12_operand 8 = some (.aload_n 0, 9) := by decide +kernel
theorem eX12_operand_9 : ino mX12_operand 9 = some (.bipush 40, 11) := by decide +kernel
theorem eX12_operand_11 : ino mX12_operand 11 = some (.invokevirtual 212, 14) := by decide +kernel
theorem eX12_operand_14 : ino mX12_operand 14 = some (.istore_n 2, 15) := by decide +kernel
theorem eX12_operand_15 : ino mX12_operand 15 = some (.aload_n 0, 16) := by decide +kernel
theorem eX12_operand_16 : ino mX12_operand 16 = some (.invokevirtual 481, 19) := by decide +kernel
theorem eX12_operand_19 : ino mX12_operand 19 = some (.istore_n 3, 20) := by decide +kernel
theorem eX12_operand_20 : ino mX12_operand 20 = some (.iload_n 1, 21) := by decide +kernel
theorem eX12_operand_21 : ino mX12_operand 21 = some (.ifCond .ne 17, 38) := by decide +kernel
theorem eX12_operand_24 : ino mX12_operand 24 = some (.iload_n 2, 25) := by decide +kernel
theorem eX12_operand_25 : ino mX12_operand 25 = some (.ifCond .ne 13, 38) := by decide +kernel
theorem eX12_operand_28 : ino mX12_operand 28 = some (.iload_n 3, 29) := by decide +kernel
theorem eX12_operand_29 : ino mX12_operand 29 = some (.ifCond .ge 9, 38) := by decide +kernel
theorem eX12_operand_32 : ino mX12_operand 32 = some (.aload_n 0, 33) := by decide +kernel
theorem eX12_operand_33 : ino mX12_operand 33 = some (.iconst 1, 34) := by decide +kernel
theorem eX12_operand_34 : ino mX12_operand 34 = some (.invokevirtual 215, 37) := by decide +kernel
theorem eX12_operand_37 : ino mX12_operand 37 = some (.ireturn, 38) := by decide +kernel
theorem eX12_operand_38 : ino mX12_operand 38 = some (.aload_n 0, 39) := by decide +kernel
theorem eX12_operand_39 : ino mX12_operand 39 = some (.getfield 484, 42) := by decide +kernel
theorem eX12_operand_42 : ino mX12_operand 42 = some (.bipush 20, 44) := by decide +kernel
theorem eX12_operand_44 : ino mX12_operand 44 = some (.if_icmp .eq 12, 56) := by decide +kernel
theorem eX12_operand_47 : ino mX12_operand 47 = some (.aload_n 0, 48) := by decide +kernel
theorem eX12_operand_48 : ino mX12_operand 48 = some (.getfield 478, 51) := by decide +kernel
theorem eX12_operand_51 : ino mX12_operand 51 = some (.bipush 8, 53) := by decide +kernel
theorem eX12_operand_53 : ino mX12_operand 53 = some (.if_icmp .le 9, 62) := by decide +kernel
theorem eX12_operand_56 : ino mX12_operand 56 = some (.aload_n 0, 57) := by decide +kernel
theorem eX12_operand_57 : ino mX12_operand 57 = some (.iconst 4, 58) := by decide +kernel
theorem eX12_operand_58 : ino mX12_operand 58 = some (.invokevirtual 215, 61) := by decide +kernel
theorem eX12_operand_61 : ino mX12_operand 61 = some (.ireturn, 62) := by decide +kernel
theorem eX12_operand_62 : ino mX12_operand 62 = some (.aload_n 0, 63) := by decide +kernel
theorem eX12_operand_63 : ino mX12_operand 63 = some (.dup, 64) := by decide +kernel
theorem eX12_operand_64 : ino mX12_operand 64 = some (.getfield 484, 67) := by decide +kernel
theorem eX12_operand_67 : ino mX12_operand 67 = some (.iconst 1, 68) := by decide +kernel
theorem eX12_operand_68 : ino mX12_operand 68 = some (.iadd, 69) := by decide +kernel
theorem eX12_operand_69 : ino mX12_operand 69 = some (.putfield 484, 72) := by decide +kernel
theorem eX12_operand_72 : ino mX12_operand 72 = some (.aload_n 0, 73) := by decide +kernel
theorem eX12_operand_73 : ino mX12_operand 73 = some (.invokevirtual 218, 76) := by decide +kernel
theorem eX12_operand_76 : ino mX12_operand 76 = some (.iload_n 1, 77) := by decide +kernel
theorem eX12_operand_77 : ino mX12_operand 77 = some (.ifCond .ne 7, 84) := by decide +kernel
theorem eX12_operand_80 : ino mX12_operand 80 = some (.iload_n 2, 81) := by decide +kernel
theorem eX12_operand_81 : ino mX12_operand 81 = some (.ifCond .eq 45, 126) := by decide +kernel
theorem eX12_operand_84 : ino mX12_operand 84 = some (.aload_n 0, 85) := by decide +kernel
theorem eX12_operand_85 : ino mX12_operand 85 = some (.getfield 98, 88) := by decide +kernel
theorem eX12_operand_88 : ino mX12_operand 88 = some (.aload_n 0, 89) := by decide +kernel
theorem eX12_operand_89 : ino mX12_operand 89 = some (.getfield 472, 92) := by decide +kernel
theorem eX12_operand_92 : ino mX12_operand 92 = some (.iload_n 1, 93) := by decide +kernel
theorem eX12_operand_93 : ino mX12_operand 93 = some (.ifCond .eq 8, 101) := by decide +kernel
theorem eX12_operand_96 : ino mX12_operand 96 = some (.bipush 20, 98) := by decide +kernel
theorem eX12_operand_98 : ino mX12_operand 98 = some (.goto 5, 103) := by decide +kernel
theorem eX12_operand_101 : ino mX12_operand 101 = some (.bipush 23, 103) := by decide +kernel
theorem eX12_operand_103 : ino mX12_operand 103 = some (.iastore, 104) := by decide +kernel
theorem eX12_operand_104 : ino mX12_operand 104 = some (.aload_n 0, 105) := by decide +kernel
theorem eX12_operand_105 : ino mX12_operand 105 = some (.dup, 106) := by decide +kernel
theorem eX12_operand_106 : ino mX12_operand 106 = some (.getfield 472, 109) := by decide +kernel
theorem eX12_operand_109 : ino mX12_operand 109 = some (.iconst 1, 110) := by decide +kernel
theorem eX12_operand_110 : ino mX12_operand 110 = some (.iadd, 111) := by decide +kernel
theorem eX12_operand_111 : ino mX12_operand 111 = some (.putfield 472, 114) := by decide +kernel
theorem eX12_operand_114 : ino mX12_operand 114 = some (.aload_n 0, 115) := by decide +kernel
theorem eX12_operand_115 : ino mX12_operand 115 = some (.dup, 116) := by decide +kernel
theorem eX12_operand_116 : ino mX12_operand 116 = some (.getfield 478, 119) := by decide +kernel
theorem eX12_operand_119 : ino mX12_operand 119 = some (.iconst 1, 120) := by decide +kernel
theorem eX12_operand_120 : ino mX12_operand 120 = some (.iadd, 121) := by decide +kernel
theorem eX12_operand_121 : ino mX12_operand 121 = some (.putfield 478, 124) := by decide +kernel
theorem eX12_operand_124 : ino mX12_operand 124 = some (.iconst 1, 125) := by decide +kernel
theorem eX12_operand_125 : ino mX12_operand 125 = some (.ireturn, 126) := by decide +kernel
theorem eX12_operand_126 : ino mX12_operand 126 = some (.aload_n 0, 127) := by decide +kernel
theorem eX12_operand_127 : ino mX12_operand 127 = some (.iconst 1, 128) := by decide +kernel
theorem eX12_operand_128 : ino mX12_operand 128 = some (.putfield 487, 131) := by decide +kernel
theorem eX12_operand_131 : ino mX12_operand 131 = some (.iload_n 3, 132) := by decide +kernel
theorem eX12_operand_132 : ino mX12_operand 132 = some (.iconst 3, 133) := by decide +kernel
theorem eX12_operand_133 : ino mX12_operand 133 = some (.if_icmp .ge 12, 145) := by decide +kernel
theorem eX12_operand_136 : ino mX12_operand 136 = some (.aload_n 0, 137) := by decide +kernel
theorem eX12_operand_137 : ino mX12_operand 137 = some (.iload_n 3, 138) := by decide +kernel
theorem eX12_operand_138 : ino mX12_operand 138 = some (.iconst 0, 139) := by decide +kernel
theorem eX12_operand_139 : ino mX12_operand 139 = some (.iconst 0, 140) := by decide +kernel
theorem eX12_operand_140 : ino mX12_operand 140 = some (.invokevirtual 475, 143) := by decide +kernel
theorem eX12_operand_143 : ino mX12_operand 143 = some (.iconst 1, 144) := by decide +kernel
theorem eX12_operand_144 : ino mX12_operand 144 = some (.ireturn, 145) := by decide +kernel
theorem eX12_operand_145 : ino mX12_operand 145 = some (.iload_n 3, 146) := by decide +kernel
theorem eX12_operand_146 : ino mX12_operand 146 = some (.iconst 5, 147) := by decide +kernel
theorem eX12_operand_147 : ino mX12_operand 147 = some (.if_icmp .ge 40, 187) := by decide +kernel
theorem eX12_operand_150 : ino mX12_operand 150 = some (.iload_n 3, 151) := by decide +kernel
theorem eX12_operand_151 : ino mX12_operand 151 = some (.iconst 3, 152) := by decide +kernel
theorem eX12_operand_152 : ino mX12_operand 152 = some (.if_icmp .ne 10, 162) := by decide +kernel
theorem eX12_operand_155 : ino mX12_operand 155 = some (.aload_n 0, 156) := by decide +kernel
theorem eX12_operand_156 : ino mX12_operand 156 = some (.invokevirtual 457, 159) := by decide +kernel
theorem eX12_operand_159 : ino mX12_operand 159 = some (.goto 7, 166) := by decide +kernel
theorem eX12_operand_162 : ino mX12_operand 162 = some (.aload_n 0, 163) := by decide +kernel
theorem eX12_operand_163 : ino mX12_operand 163 = some (.invokevirtual 278, 166) := by decide +kernel
theorem eX12_operand_166 : ino mX12_operand 166 = some (.istore 4, 168) := by decide +kernel
theorem eX12_operand_168 : ino mX12_operand 168 = some (.iload 4, 170) := by decide +kernel
theorem eX12_operand_170 : ino mX12_operand 170 = some (.ifCond .ne 5, 175) := by decide +kernel
theorem eX12_operand_173 : ino mX12_operand 173 = some (.iconst 0, 174) := by decide +kernel
theorem eX12_operand_174 : ino mX12_operand 174 = some (.ireturn, 175) := by decide +kernel
theorem eX12_operand_175 : ino mX12_operand 175 = some (.aload_n 0, 176) := by decide +kernel
theorem eX12_operand_176 : ino mX12_operand 176 = some (.iload_n 3, 177) := by decide +kernel
theorem eX12_operand_177 : ino mX12_operand 177 = some (.iconst 0, 178) := by decide +kernel
theorem eX12_operand_178 : ino mX12_operand 178 = some (.aload_n 0, 179) := by decide +kernel
theorem eX12_operand_179 : ino mX12_operand 179 = some (.getfield 225, 182) := by decide +kernel
theorem eX12_operand_182 : ino mX12_operand 182 = some (.invokevirtual 475, 185) := by decide +kernel
theorem eX12_operand_185 : ino mX12_operand 185 = some (.iconst 1, 186) := by decide +kernel
theorem eX12_operand_186 : ino mX12_operand 186 = some (.ireturn, 187) := by decide +kernel
theorem eX12_operand_187 : ino mX12_operand 187 = some (.aload_n 0, 188) := by decide +kernel
theorem eX12_operand_188 : ino mX12_operand 188 = some (.getfield 189, 191) := by decide +kernel
theorem eX12_operand_191 : ino mX12_operand 191 = some (.iconst 3, 192) := by decide +kernel
theorem eX12_operand_192 : ino mX12_operand 192 = some (.if_icmp .ne 21, 213) := by decide +kernel
theorem eX12_operand_195 : ino mX12_operand 195 = some (.aload_n 0, 196) := by decide +kernel
theorem eX12_operand_196 : ino mX12_operand 196 = some (.getfield 199, 199) := by decide +kernel
theorem eX12_operand_199 : ino mX12_operand 199 = some (.bipush 60, 201) := by decide +kernel
theorem eX12_operand_201 : ino mX12_operand 201 = some (.if_icmp .lt 12, 213) := by decide +kernel
theorem eX12_operand_204 : ino mX12_operand 204 = some (.aload_n 0, 205) := by decide +kernel
theorem eX12_operand_205 : ino mX12_operand 205 = some (.getfield 199, 208) := by decide +kernel
theorem eX12_operand_208 : ino mX12_operand 208 = some (.bipush 62, 210) := by decide +kernel
theorem eX12_operand_210 : ino mX12_operand 210 = some (.if_icmp .le 9, 219) := by decide +kernel
theorem eX12_operand_213 : ino mX12_operand 213 = some (.aload_n 0, 214) := by decide +kernel
theorem eX12_operand_214 : ino mX12_operand 214 = some (.iconst 1, 215) := by decide +kernel
theorem eX12_operand_215 : ino mX12_operand 215 = some (.invokevirtual 215, 218) := by decide +kernel
theorem eX12_operand_218 : ino mX12_operand 218 = some (.ireturn, 219) := by decide +kernel
theorem eX12_operand_219 : ino mX12_operand 219 = some (.aload_n 0, 220) := by decide +kernel
theorem eX12_operand_220 : ino mX12_operand 220 = some (.getfield 199, 223) := by decide +kernel
theorem eX12_operand_223 : ino mX12_operand 223 = some (.istore 4, 225) := by decide +kernel
theorem eX12_operand_225 : ino mX12_operand 225 = some (.aload_n 0, 226) := by decide +kernel
theorem eX12_operand_226 : ino mX12_operand 226 = some (.invokevirtual 218, 229) := by decide +kernel
theorem eX12_operand_229 : ino mX12_operand 229 = some (.aload_n 0, 230) := by decide +kernel
theorem eX12_operand_230 : ino mX12_operand 230 = some (.getfield 189, 233) := by decide +kernel
theorem eX12_operand_233 : ino mX12_operand 233 = some (.iconst 2, 234) := by decide +kernel
theorem eX12_operand_234 : ino mX12_operand 234 = some (.if_icmp .eq 9, 243) := by decide +kernel
theorem eX12_operand_237 : ino mX12_operand 237 = some (.aload_n 0, 238) := by decide +kernel
theorem eX12_operand_238 : ino mX12_operand 238 = some (.iconst 1, 239) := by decide +kernel
theorem eX12_operand_239 : ino mX12_operand 239 = some (.invokevirtual 215, 242) := by decide +kernel
theorem eX12_operand_242 : ino mX12_operand 242 = some (.ireturn, 243) := by decide +kernel
theorem eX12_operand_243 : ino mX12_operand 243 = some (.aload_n 0, 244) := by decide +kernel
theorem eX12_operand_244 : ino mX12_operand 244 = some (.iload_n 3, 245) := by decide +kernel
theorem eX12_operand_245 : ino mX12_operand 245 = some (.iload 4, 247) := by decide +kernel
theorem eX12_operand_247 : ino mX12_operand 247 = some (.aload_n 0, 248) := by decide +kernel
theorem eX12_operand_248 : ino mX12_operand 248 = some (.getfield 199, 251) := by decide +kernel
theorem eX12_operand_251 : ino mX12_operand 251 = some (.invokevirtual 475, 254) := by decide +kernel
theorem eX12_operand_254 : ino mX12_operand 254 = some (.aload_n 0, 255) := by decide +kernel
theorem eX12_operand_255 : ino mX12_operand 255 = some (.invokevirtual 218, 258) := by decide +kernel
theorem eX12_operand_258 : ino mX12_operand 258 = some (.iconst 1, 259) := by decide +kernel
theorem eX12_operand_259 : ino mX12_operand 259 = some (.ireturn, 260) := by decide +kernel
theorem eX12_behind_0 : ino mX12_behind 0 = some (.aload_n 0, 1) := by decide +kernel
theorem eX12_behind_1 : ino mX12_behind 1 = some (.invokevirtual 490, 4) := by decide +kernel
theorem eX12_behind_4 : ino mX12_behind 4 = some (.aload_n 0, 5) := by decide +kernel
theorem eX12_behind_5 : ino mX12_behind 5 = some (.ldc2_w 154, 8) := by decide +kernel
theorem eX12_behind_8 : ino mX12_behind 8 = some (.invokevirtual 246, 11) := by decide +kernel
theorem eX12_behind_11 : ino mX12_behind 11 = some (.ifCond .ne 13, 24) := by decide +kernel
theorem eX12_behind_14 : ino mX12_behind 14 = some (.aload_n 0, 15) := by decide +kernel
theorem eX12_behind_15 : ino mX12_behind 15 = some (.ldc2_w 152, 18) := by decide +kernel
theorem eX12_behind_18 : ino mX12_behind 18 = some (.invokevirtual 246, 21) := by decide +kernel
theorem eX12_behind_21 : ino mX12_behind 21 = some (.ifCond .eq 71, 92) := by decide +kernel
theorem eX12_behind_24 : ino mX12_behind 24 = some (.aload_n 0, 25) := by decide +kernel
theorem eX12_behind_25 : ino mX12_behind 25 = some (.aload_n 0, 26) := by decide +kernel
theorem eX12_behind_26 : ino mX12_behind 26 = some (.ldc2_w 154, 29) := by decide +kernel
theorem eX12_behind_29 : ino mX12_behind 29 = some (.invokevirtual 246, 32) := by decide +kernel
theorem eX12_behind_32 : ino mX12_behind 32 = some (.ifCond .eq 8, 40) := by decide +kernel
theorem eX12_behind_35 : ino mX12_behind 35 = some (.bipush 21, 37) := by decide +kernel
theorem eX12_behind_37 : ino mX12_behind 37 = some (.goto 5, 42) := by decide +kernel
theorem eX12_behind_40 : ino mX12_behind 40 = some (.bipush 22, 42) := by decide +kernel
theorem eX12_behind_42 : ino mX12_behind 42 = some (.invokevirtual 493, 45) := by decide +kernel
theorem eX12_behind_45 : ino mX12_behind 45 = some (.aload_n 0, 46) := by decide +kernel
theorem eX12_behind_46 : ino mX12_behind 46 = some (.getfield 98, 49) := by decide +kernel
theorem eX12_behind_49 : ino mX12_behind 49 = some (.aload_n 0, 50) := by decide +kernel
theorem eX12_behind_50 : ino mX12_behind 50 = some (.getfield 472, 53) := by decide +kernel
theorem eX12_behind_53 : ino mX12_behind 53 = some (.aload_n 0, 54) := by decide +kernel
theorem eX12_behind_54 : ino mX12_behind 54 = some (.ldc2_w 154, 57) := by decide +kernel
theorem eX12_behind_57 : ino mX12_behind 57 = some (.invokevirtual 246, 60) := by decide +kernel
theorem eX12_behind_60 : ino mX12_behind 60 = some (.ifCond .eq 8, 68) := by decide +kernel
theorem eX12_behind_63 : ino mX12_behind 63 = some (.bipush 21, 65) := by decide +kernel
theorem eX12_behind_65 : ino mX12_behind 65 = some (.goto 5, 70) := by decide +kernel
theorem eX12_behind_68 : ino mX12_behind 68 = some (.bipush 22, 70) := by decide +kernel
theorem eX12_behind_70 : ino mX12_behind 70 = some (.iastore, 71) := by decide +kernel
theorem eX12_behind_71 : ino mX12_behind 71 = some (.aload_n 0, 72) := by decide +kernel
theorem eX12_behind_72 : ino mX12_behind 72 = some (.dup, 73) := by decide +kernel
theorem eX12_behind_73 : ino mX12_behind 73 = some (.getfield 472, 76) := by decide +kernel
theorem eX12_behind_76 : ino mX12_behind 76 = some (.iconst 1, 77) := by decide +kernel
theorem eX12_behind_77 : ino mX12_behind 77 = some (.iadd, 78) := by decide +kernel
theorem eX12_behind_78 : ino mX12_behind 78 = some (.putfield 472, 81) := by decide +kernel
theorem eX12_behind_81 : ino mX12_behind 81 = some (.aload_n 0, 82) := by decide +kernel
theorem eX12_behind_82 : ino mX12_behind 82 = some (.iconst 0, 83) := by decide +kernel
theorem eX12_behind_83 : ino mX12_behind 83 = some (.putfield 487, 86) := by decide +kernel
theorem eX12_behind_86 : ino mX12_behind 86 = some (.aload_n 0, 87) := by decide +kernel
theorem eX12_behind_87 : ino mX12_behind 87 = some (.invokevirtual 218, 90) := by decide +kernel
theorem eX12_behind_90 : ino mX12_behind 90 = some (.iconst 1, 91) := by decide +kernel
theorem eX12_behind_91 : ino mX12_behind 91 = some (.ireturn, 92) := by decide +kernel
theorem eX12_behind_92 : ino mX12_behind 92 = some (.aload_n 0, 93) := by decide +kernel
theorem eX12_behind_93 : ino mX12_behind 93 = some (.bipush 22, 95) := by decide +kernel
theorem eX12_behind_95 : ino mX12_behind 95 = some (.invokevirtual 493, 98) := by decide +kernel
theorem eX12_behind_98 : ino mX12_behind 98 = some (.aload_n 0, 99) := by decide +kernel
theorem eX12_behind_99 : ino mX12_behind 99 = some (.bipush 41, 101) := by decide +kernel
theorem eX12_behind_101 : ino mX12_behind 101 = some (.invokevirtual 212, 104) := by decide +kernel
theorem eX12_behind_104 : ino mX12_behind 104 = some (.ifCond .eq 10, 114) := by decide +kernel
theorem eX12_behind_107 : ino mX12_behind 107 = some (.aload_n 0, 108) := by decide +kernel
theorem eX12_behind_108 : ino mX12_behind 108 = some (.getfield 472, 111) := by decide +kernel
theorem eX12_behind_111 : ino mX12_behind 111 = some (.ifCond .ne 9, 120) := by decide +kernel
theorem eX12_behind_114 : ino mX12_behind 114 = some (.aload_n 0, 115) := by decide +kernel
theorem eX12_behind_115 : ino mX12_behind 115 = some (.iconst 1, 116) := by decide +kernel
theorem eX12_behind_116 : ino mX12_behind 116 = some (.invokevirtual 215, 119) := by decide +kernel
theorem eX12_behind_119 : ino mX12_behind 119 = some (.ireturn, 120) := by decide +kernel
theorem eX12_behind_120 : ino mX12_behind 120 = some (.aload_n 0, 121) := by decide +kernel
theorem eX12_behind_121 : ino mX12_behind 121 = some (.dup, 122) := by decide +kernel
theorem eX12_behind_122 : ino mX12_behind 122 = some (.getfield 472, 125) := by decide +kernel
theorem eX12_behind_125 : ino mX12_behind 125 = some (.iconst 1, 126) := by decide +kernel
theorem eX12_behind_126 : ino mX12_behind 126 = some (.isub, 127) := by decide +kernel
theorem eX12_behind_127 : ino mX12_behind 127 = some (.putfield 472, 130) := by decide +kernel
theorem eX12_behind_130 : ino mX12_behind 130 = some (.aload_n 0, 131) := by decide +kernel
theorem eX12_behind_131 : ino mX12_behind 131 = some (.dup, 132) := by decide +kernel
theorem eX12_behind_132 : ino mX12_behind 132 = some (.getfield 478, 135) := by decide +kernel
theorem eX12_behind_135 : ino mX12_behind 135 = some (.iconst 1, 136) := by decide +kernel
theorem eX12_behind_136 : ino mX12_behind 136 = some (.isub, 137) := by decide +kernel
theorem eX12_behind_137 : ino mX12_behind 137 = some (.putfield 478, 140) := by decide +kernel
theorem eX12_behind_140 : ino mX12_behind 140 = some (.aload_n 0, 141) := by decide +kernel
theorem eX12_behind_141 : ino mX12_behind 141 = some (.invokevirtual 218, 144) := by decide +kernel
theorem eX12_behind_144 : ino mX12_behind 144 = some (.iconst 1, 145) := by decide +kernel
theorem eX12_behind_145 : ino mX12_behind 145 = some (.ireturn, 146) := by decide +kernel
theorem eX12_sentence_0 : ino mX12_sentence 0 = some (.aload_n 0, 1) := by decide +kernel
theorem eX12_sentence_1 : ino mX12_sentence 1 = some (.iconst 0, 2) := by decide +kernel
theorem eX12_sentence_2 : ino mX12_sentence 2 = some (.putfield 1, 5) := by decide +kernel
theorem eX12_sentence_5 : ino mX12_sentence 5 = some (.aload_n 0, 6) := by decide +kernel
theorem eX12_sentence_6 : ino mX12_sentence 6 = some (.sipush 200, 9) := by decide +kernel
theorem eX12_sentence_9 : ino mX12_sentence 9 = some (.invokevirtual 281, 12) := by decide +kernel
theorem eX12_sentence_12 : ino mX12_sentence 12 = some (.aload_n 0, 13) := by decide +kernel
theorem eX12_sentence_13 : ino mX12_sentence 13 = some (.iconst 0, 14) := by decide +kernel
theorem eX12_sentence_14 : ino mX12_sentence 14 = some (.putfield 206, 17) := by decide +kernel
theorem eX12_sentence_17 : ino mX12_sentence 17 = some (.aload_n 0, 18) := by decide +kernel
theorem eX12_sentence_18 : ino mX12_sentence 18 = some (.iconst 0, 19) := by decide +kernel
theorem eX12_sentence_19 : ino mX12_sentence 19 = some (.putfield 469, 22) := by decide +kernel
theorem eX12_sentence_22 : ino mX12_sentence 22 = some (.aload_n 0, 23) := by decide +kernel
theorem eX12_sentence_23 : ino mX12_sentence 23 = some (.iconst 0, 24) := by decide +kernel
theorem eX12_sentence_24 : ino mX12_sentence 24 = some (.putfield 484, 27) := by decide +kernel
theorem eX12_sentence_27 : ino mX12_sentence 27 = some (.aload_n 0, 28) := by decide +kernel
theorem eX12_sentence_28 : ino mX12_sentence 28 = some (.iconst 0, 29) := by decide +kernel
theorem eX12_sentence_29 : ino mX12_sentence 29 = some (.putfield 472, 32) := by decide +kernel
theorem eX12_sentence_32 : ino mX12_sentence 32 = some (.aload_n 0, 33) := by decide +kernel
theorem eX12_sentence_33 : ino mX12_sentence 33 = some (.iconst 1, 34) := by decide +kernel
theorem eX12_sentence_34 : ino mX12_sentence 34 = some (.putfield 478, 37) := by decide +kernel
theorem eX12_sentence_37 : ino mX12_sentence 37 = some (.aload_n 0, 38) := by decide +kernel
theorem eX12_sentence_38 : ino mX12_sentence 38 = some (.iconst 0, 39) := by decide +kernel
theorem eX12_sentence_39 : ino mX12_sentence 39 = some (.putfield 487, 42) := by decide +kernel
theorem eX12_sentence_42 : ino mX12_sentence 42 = some (.aload_n 0, 43) := by decide +kernel
theorem eX12_sentence_43 : ino mX12_sentence 43 = some (.invokevirtual 218, 46) := by decide +kernel
theorem eX12_sentence_46 : ino mX12_sentence 46 = some (.iconst 1, 47) := by decide +kernel
theorem eX12_sentence_47 : ino mX12_sentence 47 = some (.istore_n 1, 48) := by decide +kernel
theorem eX12_sentence_48 : ino mX12_sentence 48 = some (.iload_n 1, 49) := by decide +kernel
theorem eX12_sentence_49 : ino mX12_sentence 49 = some (.ifCond .eq 83, 132) := by decide +kernel
theorem eX12_sentence_52 : ino mX12_sentence 52 = some (.aload_n 0, 53) := by decide +kernel
theorem eX12_sentence_53 : ino mX12_sentence 53 = some (.getfield 487, 56) := by decide +kernel
theorem eX12_sentence_56 : ino mX12_sentence 56 = some (.ifCond .eq 45, 101) := by decide +kernel
theorem eX12_sentence_59 : ino mX12_sentence 59 = some (.aload_n 0, 60) := by decide +kernel
theorem eX12_sentence_60 : ino mX12_sentence 60 = some (.getfield 189, 63) := by decide +kernel
theorem eX12_sentence_63 : ino mX12_sentence 63 = some (.ifCond .ne 38, 101) := by decide +kernel
theorem eX12_sentence_66 : ino mX12_sentence 66 = some (.aload_n 0, 67) := by decide +kernel
theorem eX12_sentence_67 : ino mX12_sentence 67 = some (.invokevirtual 490, 70) := by decide +kernel
theorem eX12_sentence_70 : ino mX12_sentence 70 = some (.aload_n 0, 71) := by decide +kernel
theorem eX12_sentence_71 : ino mX12_sentence 71 = some (.bipush 22, 73) := by decide +kernel
theorem eX12_sentence_73 : ino mX12_sentence 73 = some (.invokevirtual 493, 76) := by decide +kernel
theorem eX12_sentence_76 : ino mX12_sentence 76 = some (.aload_n 0, 77) := by decide +kernel
theorem eX12_sentence_77 : ino mX12_sentence 77 = some (.getfield 472, 80) := by decide +kernel
theorem eX12_sentence_80 : ino mX12_sentence 80 = some (.ifCond .le 16, 96) := by decide +kernel
theorem eX12_sentence_83 : ino mX12_sentence 83 = some (.aload_n 0, 84) := by decide +kernel
theorem eX12_sentence_84 : ino mX12_sentence 84 = some (.iconst 1, 85) := by decide +kernel
theorem eX12_sentence_85 : ino mX12_sentence 85 = some (.invokevirtual 215, 88) := by decide +kernel
theorem eX12_sentence_88 : ino mX12_sentence 88 = some (.pop, 89) := by decide +kernel
theorem eX12_sentence_89 : ino mX12_sentence 89 = some (.iconst (-1), 90) := by decide +kernel
theorem eX12_sentence_90 : ino mX12_sentence 90 = some (.aload_n 0, 91) := by decide +kernel
theorem eX12_sentence_91 : ino mX12_sentence 91 = some (.getfield 209, 94) := by decide +kernel
theorem eX12_sentence_94 : ino mX12_sentence 94 = some (.isub, 95) := by decide +kernel
theorem eX12_sentence_95 : ino mX12_sentence 95 = some (.ireturn, 96) := by decide +kernel
theorem eX12_sentence_96 : ino mX12_sentence 96 = some (.iconst 0, 97) := by decide +kernel
theorem eX12_sentence_97 : ino mX12_sentence 97 = some (.istore_n 1, 98) := by decide +kernel
theorem eX12_sentence_98 : ino mX12_sentence 98 = some (.goto (-50), 48) := by decide +kernel
theorem eX12_sentence_101 : ino mX12_sentence 101 = some (.aload_n 0, 102) := by decide +kernel
theorem eX12_sentence_102 : ino mX12_sentence 102 = some (.getfield 487, 105) := by decide +kernel
theorem eX12_sentence_105 : ino mX12_sentence 105 = some (.ifCond .eq 13, 118) := by decide +kernel
theorem eX12_sentence_108 : ino mX12_sentence 108 = some (.aload_n 0, 109) := by decide +kernel
theorem eX12_sentence_109 : ino mX12_sentence 109 = some (.invokevirtual 496, 112) := by decide +kernel
theorem eX12_sentence_112 : ino mX12_sentence 112 = some (.ifCond .ne (-64), 48) := by decide +kernel
theorem eX12_sentence_115 : ino mX12_sentence 115 = some (.goto 10, 125) := by decide +kernel
theorem eX12_sentence_118 : ino mX12_sentence 118 = some (.aload_n 0, 119) := by decide +kernel
theorem eX12_sentence_119 : ino mX12_sentence 119 = some (.invokevirtual 499, 122) := by decide +kernel
theorem eX12_sentence_122 : ino mX12_sentence 122 = some (.ifCond .ne (-74), 48) := by decide +kernel
theorem eX12_sentence_125 : ino mX12_sentence 125 = some (.iconst (-1), 126) := by decide +kernel
theorem eX12_sentence_126 : ino mX12_sentence 126 = some (.aload_n 0, 127) := by decide +kernel
theorem eX12_sentence_127 : ino mX12_sentence 127 = some (.getfield 209, 130) := by decide +kernel
theorem eX12_sentence_130 : ino mX12_sentence 130 = some (.isub, 131) := by decide +kernel
theorem eX12_sentence_131 : ino mX12_sentence 131 = some (.ireturn, 132) := by decide +kernel
theorem eX12_sentence_132 : ino mX12_sentence 132 = some (.aload_n 0, 133) := by decide +kernel
theorem eX12_sentence_133 : ino mX12_sentence 133 = some (.getfield 33, 136) := by decide +kernel
theorem eX12_sentence_136 : ino mX12_sentence 136 = some (.sipush 144, 139) := by decide +kernel
theorem eX12_sentence_139 : ino mX12_sentence 139 = some (.aload_n 0, 140) := by decide +kernel
theorem eX12_sentence_140 : ino mX12_sentence 140 = some (.getfield 469, 143) := by decide +kernel
theorem eX12_sentence_143 : ino mX12_sentence 143 = some (.iastore, 144) := by decide +kernel
theorem eX12_sentence_144 : ino mX12_sentence 144 = some (.iconst 0, 145) := by decide +kernel
theorem eX12_sentence_145 : ino mX12_sentence 145 = some (.istore_n 2, 146) := by decide +kernel
theorem eX12_sentence_146 : ino mX12_sentence 146 = some (.iload_n 2, 147) := by decide +kernel
theorem eX12_sentence_147 : ino mX12_sentence 147 = some (.iconst 3, 148) := by decide +kernel
theorem eX12_sentence_148 : ino mX12_sentence 148 = some (.aload_n 0, 149) := by decide +kernel
theorem eX12_sentence_149 : ino mX12_sentence 149 = some (.getfield 469, 152) := by decide +kernel
theorem eX12_sentence_152 : ino mX12_sentence 152 = some (.imul, 153) := by decide +kernel
theorem eX12_sentence_153 : ino mX12_sentence 153 = some (.if_icmp .ge 25, 178) := by decide +kernel
theorem eX12_sentence_156 : ino mX12_sentence 156 = some (.aload_n 0, 157) := by decide +kernel
theorem eX12_sentence_157 : ino mX12_sentence 157 = some (.getfield 33, 160) := by decide +kernel
theorem eX12_sentence_160 : ino mX12_sentence 160 = some (.sipush 145, 163) := by decide +kernel
theorem eX12_sentence_163 : ino mX12_sentence 163 = some (.iload_n 2, 164) := by decide +kernel
theorem eX12_sentence_164 : ino mX12_sentence 164 = some (.iadd, 165) := by decide +kernel
theorem eX12_sentence_165 : ino mX12_sentence 165 = some (.aload_n 0, 166) := by decide +kernel
theorem eX12_sentence_166 : ino mX12_sentence 166 = some (.getfield 40, 169) := by decide +kernel
theorem eX12_sentence_169 : ino mX12_sentence 169 = some (.iload_n 2, 170) := by decide +kernel
theorem eX12_sentence_170 : ino mX12_sentence 170 = some (.iaload, 171) := by decide +kernel
theorem eX12_sentence_171 : ino mX12_sentence 171 = some (.iastore, 172) := by decide +kernel
theorem eX12_sentence_172 : ino mX12_sentence 172 = some (.iinc 2 1, 175) := by decide +kernel
theorem eX12_sentence_175 : ino mX12_sentence 175 = some (.goto (-29), 146) := by decide +kernel
theorem eX12_sentence_178 : ino mX12_sentence 178 = some (.aload_n 0, 179) := by decide +kernel
theorem eX12_sentence_179 : ino mX12_sentence 179 = some (.getfield 484, 182) := by decide +kernel
theorem eX12_sentence_182 : ino mX12_sentence 182 = some (.ireturn, 183) := by decide +kernel
theorem eX12_isLeaf_0 : ino mX12_isLeaf 0 = some (.iload_n 2, 1) := by decide +kernel
theorem eX12_isLeaf_1 : decode mX12_isLeaf.2.1 1 = .ok (.tableswitch 100 0 4 #[35, 41, 55, 69, 89], 35) := by decide +kernel
theorem eX12_isLeaf_36 : ino mX12_isLeaf 36 = some (.aload_n 0, 37) := by decide +kernel
theorem eX12_isLeaf_37 : ino mX12_isLeaf 37 = some (.iload_n 1, 38) := by decide +kernel
theorem eX12_isLeaf_38 : ino mX12_isLeaf 38 = some (.invokevirtual 328, 41) := by decide +kernel
theorem eX12_isLeaf_41 : ino mX12_isLeaf 41 = some (.ireturn, 42) := by decide +kernel
theorem eX12_isLeaf_42 : ino mX12_isLeaf 42 = some (.aload_n 0, 43) := by decide +kernel
theorem eX12_isLeaf_43 : ino mX12_isLeaf 43 = some (.iload_n 1, 44) := by decide +kernel
theorem eX12_isLeaf_44 : ino mX12_isLeaf 44 = some (.invokevirtual 313, 47) := by decide +kernel
theorem eX12_isLeaf_47 : ino mX12_isLeaf 47 = some (.ifCond .ne 7, 54) := by decide +kernel
theorem eX12_isLeaf_50 : ino mX12_isLeaf 50 = some (.iconst 1, 51) := by decide +kernel
theorem eX12_isLeaf_51 : ino mX12_isLeaf 51 = some (.goto 4, 55) := by decide +kernel
theorem eX12_isLeaf_54 : ino mX12_isLeaf 54 = some (.iconst 0, 55) := by decide +kernel
theorem eX12_isLeaf_55 : ino mX12_isLeaf 55 = some (.ireturn, 56) := by decide +kernel
theorem eX12_isLeaf_56 : ino mX12_isLeaf 56 = some (.aload_n 0, 57) := by decide +kernel
theorem eX12_isLeaf_57 : ino mX12_isLeaf 57 = some (.iload_n 1, 58) := by decide +kernel
theorem eX12_isLeaf_58 : ino mX12_isLeaf 58 = some (.invokevirtual 316, 61) := by decide +kernel
theorem eX12_isLeaf_61 : ino mX12_isLeaf 61 = some (.ifCond .eq 7, 68) := by decide +kernel
theorem eX12_isLeaf_64 : ino mX12_isLeaf 64 = some (.iconst 1, 65) := by decide +kernel
theorem eX12_isLeaf_65 : ino mX12_isLeaf 65 = some (.goto 4, 69) := by decide +kernel
theorem eX12_isLeaf_68 : ino mX12_isLeaf 68 = some (.iconst 0, 69) := by decide +kernel
theorem eX12_isLeaf_69 : ino mX12_isLeaf 69 = some (.ireturn, 70) := by decide +kernel
theorem eX12_isLeaf_70 : ino mX12_isLeaf 70 = some (.aload_n 0, 71) := by decide +kernel
theorem eX12_isLeaf_71 : ino mX12_isLeaf 71 = some (.getfield 33, 74) := by decide +kernel
theorem eX12_isLeaf_74 : ino mX12_isLeaf 74 = some (.bipush 90, 76) := by decide +kernel
theorem eX12_isLeaf_76 : ino mX12_isLeaf 76 = some (.iload_n 1, 77) := by decide +kernel
theorem eX12_isLeaf_77 : ino mX12_isLeaf 77 = some (.iadd, 78) := by decide +kernel
theorem eX12_isLeaf_78 : ino mX12_isLeaf 78 = some (.iaload, 79) := by decide +kernel
theorem eX12_isLeaf_79 : ino mX12_isLeaf 79 = some (.iload 4, 81) := by decide +kernel
theorem eX12_isLeaf_81 : ino mX12_isLeaf 81 = some (.if_icmp .ne 7, 88) := by decide +kernel
theorem eX12_isLeaf_84 : ino mX12_isLeaf 84 = some (.iconst 1, 85) := by decide +kernel
theorem eX12_isLeaf_85 : ino mX12_isLeaf 85 = some (.goto 4, 89) := by decide +kernel
theorem eX12_isLeaf_88 : ino mX12_isLeaf 88 = some (.iconst 0, 89) := by decide +kernel
theorem eX12_isLeaf_89 : ino mX12_isLeaf 89 = some (.ireturn, 90) := by decide +kernel
theorem eX12_isLeaf_90 : ino mX12_isLeaf 90 = some (.aload_n 0, 91) := by decide +kernel
theorem eX12_isLeaf_91 : ino mX12_isLeaf 91 = some (.iload_n 1, 92) := by decide +kernel
theorem eX12_isLeaf_92 : ino mX12_isLeaf 92 = some (.invokevirtual 313, 95) := by decide +kernel
theorem eX12_isLeaf_95 : ino mX12_isLeaf 95 = some (.iload 4, 97) := by decide +kernel
theorem eX12_isLeaf_97 : ino mX12_isLeaf 97 = some (.invokestatic 256, 100) := by decide +kernel
theorem eX12_isLeaf_100 : ino mX12_isLeaf 100 = some (.ireturn, 101) := by decide +kernel
theorem eX12_isLeaf_101 : ino mX12_isLeaf 101 = some (.iload_n 2, 102) := by decide +kernel
theorem eX12_isLeaf_102 : ino mX12_isLeaf 102 = some (.iconst 5, 103) := by decide +kernel
theorem eX12_isLeaf_103 : ino mX12_isLeaf 103 = some (.if_icmp .ne 15, 118) := by decide +kernel
theorem eX12_isLeaf_106 : ino mX12_isLeaf 106 = some (.aload_n 0, 107) := by decide +kernel
theorem eX12_isLeaf_107 : ino mX12_isLeaf 107 = some (.getfield 33, 110) := by decide +kernel
theorem eX12_isLeaf_110 : ino mX12_isLeaf 110 = some (.bipush 96, 112) := by decide +kernel
theorem eX12_isLeaf_112 : ino mX12_isLeaf 112 = some (.iload_n 1, 113) := by decide +kernel
theorem eX12_isLeaf_113 : ino mX12_isLeaf 113 = some (.iadd, 114) := by decide +kernel
theorem eX12_isLeaf_114 : ino mX12_isLeaf 114 = some (.iaload, 115) := by decide +kernel
theorem eX12_isLeaf_115 : ino mX12_isLeaf 115 = some (.goto 58, 173) := by decide +kernel
theorem eX12_isLeaf_118 : ino mX12_isLeaf 118 = some (.iload_n 2, 119) := by decide +kernel
theorem eX12_isLeaf_119 : ino mX12_isLeaf 119 = some (.bipush 6, 121) := by decide +kernel
theorem eX12_isLeaf_121 : ino mX12_isLeaf 121 = some (.if_icmp .ne 15, 136) := by decide +kernel
theorem eX12_isLeaf_124 : ino mX12_isLeaf 124 = some (.aload_n 0, 125) := by decide +kernel
theorem eX12_isLeaf_125 : ino mX12_isLeaf 125 = some (.getfield 33, 128) := by decide +kernel
theorem eX12_isLeaf_128 : ino mX12_isLeaf 128 = some (.bipush 108, 130) := by decide +kernel
theorem eX12_isLeaf_130 : ino mX12_isLeaf 130 = some (.iload_n 1, 131) := by decide +kernel
theorem eX12_isLeaf_131 : ino mX12_isLeaf 131 = some (.iadd, 132) := by decide +kernel
theorem eX12_isLeaf_132 : ino mX12_isLeaf 132 = some (.iaload, 133) := by decide +kernel
theorem eX12_isLeaf_133 : ino mX12_isLeaf 133 = some (.goto 40, 173) := by decide +kernel
theorem eX12_isLeaf_136 : ino mX12_isLeaf 136 = some (.iload_n 2, 137) := by decide +kernel
theorem eX12_isLeaf_137 : ino mX12_isLeaf 137 = some (.bipush 7, 139) := by decide +kernel
theorem eX12_isLeaf_139 : ino mX12_isLeaf 139 = some (.if_icmp .ne 15, 154) := by decide +kernel
theorem eX12_isLeaf_142 : ino mX12_isLeaf 142 = some (.aload_n 0, 143) := by decide +kernel
theorem eX12_isLeaf_143 : ino mX12_isLeaf 143 = some (.getfield 33, 146) := by decide +kernel
theorem eX12_isLeaf_146 : ino mX12_isLeaf 146 = some (.bipush 114, 148) := by decide +kernel
theorem eX12_isLeaf_148 : ino mX12_isLeaf 148 = some (.iload_n 1, 149) := by decide +kernel
theorem eX12_isLeaf_149 : ino mX12_isLeaf 149 = some (.iadd, 150) := by decide +kernel
theorem eX12_isLeaf_150 : ino mX12_isLeaf 150 = some (.iaload, 151) := by decide +kernel
theorem eX12_isLeaf_151 : ino mX12_isLeaf 151 = some (.goto 22, 173) := by decide +kernel
theorem eX12_isLeaf_154 : ino mX12_isLeaf 154 = some (.iload_n 2, 155) := by decide +kernel
theorem eX12_isLeaf_155 : ino mX12_isLeaf 155 = some (.bipush 8, 157) := by decide +kernel
theorem eX12_isLeaf_157 : ino mX12_isLeaf 157 = some (.if_icmp .ne 7, 164) := by decide +kernel
theorem eX12_isLeaf_160 : ino mX12_isLeaf 160 = some (.iload_n 1, 161) := by decide +kernel
theorem eX12_isLeaf_161 : ino mX12_isLeaf 161 = some (.goto 12, 173) := by decide +kernel
theorem eX12_isLeaf_164 : ino mX12_isLeaf 164 = some (.aload_n 0, 165) := by decide +kernel
theorem eX12_isLeaf_165 : ino mX12_isLeaf 165 = some (.iload_n 1, 166) := by decide +kernel
theorem eX12_isLeaf_166 : ino mX12_isLeaf 166 = some (.iload_n 2, 167) := by decide +kernel
theorem eX12_isLeaf_167 : ino mX12_isLeaf 167 = some (.bipush 9, 169) := by decide +kernel
theorem eX12_isLeaf_169 : ino mX12_isLeaf 169 = some (.isub, 170) := by decide +kernel
theorem eX12_isLeaf_170 : ino mX12_isLeaf 170 = some (.invokevirtual 296, 173) := by decide +kernel
theorem eX12_isLeaf_173 : ino mX12_isLeaf 173 = some (.istore 5, 175) := by decide +kernel
theorem eX12_isLeaf_175 : ino mX12_isLeaf 175 = some (.iload_n 3, 176) := by decide +kernel
theorem eX12_isLeaf_176 : ino mX12_isLeaf 176 = some (.bipush 60, 178) := by decide +kernel
theorem eX12_isLeaf_178 : ino mX12_isLeaf 178 = some (.if_icmp .ne 18, 196) := by decide +kernel
theorem eX12_isLeaf_181 : ino mX12_isLeaf 181 = some (.iload 5, 183) := by decide +kernel
theorem eX12_isLeaf_183 : ino mX12_isLeaf 183 = some (.iload 4, 185) := by decide +kernel
theorem eX12_isLeaf_185 : ino mX12_isLeaf 185 = some (.if_icmp .ge 7, 192) := by decide +kernel
theorem eX12_isLeaf_188 : ino mX12_isLeaf 188 = some (.iconst 1, 189) := by decide +kernel
theorem eX12_isLeaf_189 : ino mX12_isLeaf 189 = some (.goto 40, 229) := by decide +kernel
theorem eX12_isLeaf_192 : ino mX12_isLeaf 192 = some (.iconst 0, 193) := by decide +kernel
theorem eX12_isLeaf_193 : ino mX12_isLeaf 193 = some (.goto 36, 229) := by decide +kernel
theorem eX12_isLeaf_196 : ino mX12_isLeaf 196 = some (.iload_n 3, 197) := by decide +kernel
theorem eX12_isLeaf_197 : ino mX12_isLeaf 197 = some (.bipush 61, 199) := by decide +kernel
theorem eX12_isLeaf_199 : ino mX12_isLeaf 199 = some (.if_icmp .ne 18, 217) := by decide +kernel
theorem eX12_isLeaf_202 : ino mX12_isLeaf 202 = some (.iload 5, 204) := by decide +kernel
theorem eX12_isLeaf_204 : ino mX12_isLeaf 204 = some (.iload 4, 206) := by decide +kernel
theorem eX12_isLeaf_206 : ino mX12_isLeaf 206 = some (.if_icmp .ne 7, 213) := by decide +kernel
theorem eX12_isLeaf_209 : ino mX12_isLeaf 209 = some (.iconst 1, 210) := by decide +kernel
theorem eX12_isLeaf_210 : ino mX12_isLeaf 210 = some (.goto 19, 229) := by decide +kernel
theorem eX12_isLeaf_213 : ino mX12_isLeaf 213 = some (.iconst 0, 214) := by decide +kernel
theorem eX12_isLeaf_214 : ino mX12_isLeaf 214 = some (.goto 15, 229) := by decide +kernel
theorem eX12_isLeaf_217 : ino mX12_isLeaf 217 = some (.iload 5, 219) := by decide +kernel
theorem eX12_isLeaf_219 : ino mX12_isLeaf 219 = some (.iload 4, 221) := by decide +kernel
theorem eX12_isLeaf_221 : ino mX12_isLeaf 221 = some (.if_icmp .le 7, 228) := by decide +kernel
theorem eX12_isLeaf_224 : ino mX12_isLeaf 224 = some (.iconst 1, 225) := by decide +kernel
theorem eX12_isLeaf_225 : ino mX12_isLeaf 225 = some (.goto 4, 229) := by decide +kernel
theorem eX12_isLeaf_228 : ino mX12_isLeaf 228 = some (.iconst 0, 229) := by decide +kernel
theorem eX12_isLeaf_229 : ino mX12_isLeaf 229 = some (.ireturn, 230) := by decide +kernel
theorem eX12_isSaid_0 : ino mX12_isSaid 0 = some (.iconst 0, 1) := by decide +kernel
theorem eX12_isSaid_1 : ino mX12_isSaid 1 = some (.istore_n 2, 2) := by decide +kernel
theorem eX12_isSaid_2 : ino mX12_isSaid 2 = some (.iconst 0, 3) := by decide +kernel
theorem eX12_isSaid_3 : ino mX12_isSaid 3 = some (.istore_n 3, 4) := by decide +kernel
theorem eX12_isSaid_4 : ino mX12_isSaid 4 = some (.iload_n 3, 5) := by decide +kernel
theorem eX12_isSaid_5 : ino mX12_isSaid 5 = some (.aload_n 0, 6) := by decide +kernel
theorem eX12_isSaid_6 : ino mX12_isSaid 6 = some (.getfield 33, 9) := by decide +kernel
theorem eX12_isSaid_9 : ino mX12_isSaid 9 = some (.sipush 144, 12) := by decide +kernel
theorem eX12_isSaid_12 : ino mX12_isSaid 12 = some (.iaload, 13) := by decide +kernel
theorem eX12_isSaid_13 : ino mX12_isSaid 13 = some (.if_icmp .ge 199, 212) := by decide +kernel
theorem eX12_isSaid_16 : ino mX12_isSaid 16 = some (.sipush 145, 19) := by decide +kernel
theorem eX12_isSaid_19 : ino mX12_isSaid 19 = some (.iconst 3, 20) := by decide +kernel
theorem eX12_isSaid_20 : ino mX12_isSaid 20 = some (.iload_n 3, 21) := by decide +kernel
theorem eX12_isSaid_21 : ino mX12_isSaid 21 = some (.imul, 22) := by decide +kernel
theorem eX12_isSaid_22 : ino mX12_isSaid 22 = some (.iadd, 23) := by decide +kernel
theorem eX12_isSaid_23 : ino mX12_isSaid 23 = some (.istore 4, 25) := by decide +kernel
theorem eX12_isSaid_25 : ino mX12_isSaid 25 = some (.aload_n 0, 26) := by decide +kernel
theorem eX12_isSaid_26 : ino mX12_isSaid 26 = some (.getfield 33, 29) := by decide +kernel
theorem eX12_isSaid_29 : ino mX12_isSaid 29 = some (.iload 4, 31) := by decide +kernel
theorem eX12_isSaid_31 : ino mX12_isSaid 31 = some (.iaload, 32) := by decide +kernel
theorem eX12_isSaid_32 : ino mX12_isSaid 32 = some (.bipush 20, 34) := by decide +kernel
theorem eX12_isSaid_34 : ino mX12_isSaid 34 = some (.if_icmp .ne 30, 64) := by decide +kernel
theorem eX12_isSaid_37 : ino mX12_isSaid 37 = some (.aload_n 0, 38) := by decide +kernel
theorem eX12_isSaid_38 : ino mX12_isSaid 38 = some (.getfield 101, 41) := by decide +kernel
theorem eX12_isSaid_41 : ino mX12_isSaid 41 = some (.iload_n 2, 42) := by decide +kernel
theorem eX12_isSaid_42 : ino mX12_isSaid 42 = some (.iconst 1, 43) := by decide +kernel
theorem eX12_isSaid_43 : ino mX12_isSaid 43 = some (.isub, 44) := by decide +kernel
theorem eX12_isSaid_44 : ino mX12_isSaid 44 = some (.aload_n 0, 45) := by decide +kernel
theorem eX12_isSaid_45 : ino mX12_isSaid 45 = some (.getfield 101, 48) := by decide +kernel
theorem eX12_isSaid_48 : ino mX12_isSaid 48 = some (.iload_n 2, 49) := by decide +kernel
theorem eX12_isSaid_49 : ino mX12_isSaid 49 = some (.iconst 1, 50) := by decide +kernel
theorem eX12_isSaid_50 : ino mX12_isSaid 50 = some (.isub, 51) := by decide +kernel
theorem eX12_isSaid_51 : ino mX12_isSaid 51 = some (.baload, 52) := by decide +kernel
theorem eX12_isSaid_52 : ino mX12_isSaid 52 = some (.ifCond .ne 7, 59) := by decide +kernel
theorem eX12_isSaid_55 : ino mX12_isSaid 55 = some (.iconst 1, 56) := by decide +kernel
theorem eX12_isSaid_56 : ino mX12_isSaid 56 = some (.goto 4, 60) := by decide +kernel
theorem eX12_isSaid_59 : ino mX12_isSaid 59 = some (.iconst 0, 60) := by decide +kernel
theorem eX12_isSaid_60 : ino mX12_isSaid 60 = some (.bastore, 61) := by decide +kernel
theorem eX12_isSaid_61 : ino mX12_isSaid 61 = some (.goto 145, 206) := by decide +kernel
theorem eX12_isSaid_64 : ino mX12_isSaid 64 = some (.aload_n 0, 65) := by decide +kernel
theorem eX12_isSaid_65 : ino mX12_isSaid 65 = some (.getfield 33, 68) := by decide +kernel
theorem eX12_isSaid_68 : ino mX12_isSaid 68 = some (.iload 4, 70) := by decide +kernel
theorem eX12_isSaid_70 : ino mX12_isSaid 70 = some (.iaload, 71) := by decide +kernel
theorem eX12_isSaid_71 : ino mX12_isSaid 71 = some (.bipush 21, 73) := by decide +kernel
theorem eX12_isSaid_73 : ino mX12_isSaid 73 = some (.if_icmp .eq 15, 88) := by decide +kernel
theorem eX12_isSaid_76 : ino mX12_isSaid 76 = some (.aload_n 0, 77) := by decide +kernel
theorem eX12_isSaid_77 : ino mX12_isSaid 77 = some (.getfield 33, 80) := by decide +kernel
theorem eX12_isSaid_80 : ino mX12_isSaid 80 = some (.iload 4, 82) := by decide +kernel
theorem eX12_isSaid_82 : ino mX12_isSaid 82 = some (.iaload, 83) := by decide +kernel
theorem eX12_isSaid_83 : ino mX12_isSaid 83 = some (.bipush 22, 85) := by decide +kernel
theorem eX12_isSaid_85 : ino mX12_isSaid 85 = some (.if_icmp .ne 82, 167) := by decide +kernel
theorem eX12_isSaid_88 : ino mX12_isSaid 88 = some (.iinc 2 (-1), 91) := by decide +kernel
theorem eX12_isSaid_91 : ino mX12_isSaid 91 = some (.aload_n 0, 92) := by decide +kernel
theorem eX12_isSaid_92 : ino mX12_isSaid 92 = some (.getfield 101, 95) := by decide +kernel
theorem eX12_isSaid_95 : ino mX12_isSaid 95 = some (.iload_n 2, 96) := by decide +kernel
theorem eX12_isSaid_96 : ino mX12_isSaid 96 = some (.iconst 1, 97) := by decide +kernel
theorem eX12_isSaid_97 : ino mX12_isSaid 97 = some (.isub, 98) := by decide +kernel
theorem eX12_isSaid_98 : ino mX12_isSaid 98 = some (.aload_n 0, 99) := by decide +kernel
theorem eX12_isSaid_99 : ino mX12_isSaid 99 = some (.getfield 33, 102) := by decide +kernel
theorem eX12_isSaid_102 : ino mX12_isSaid 102 = some (.iload 4, 104) := by decide +kernel
theorem eX12_isSaid_104 : ino mX12_isSaid 104 = some (.iaload, 105) := by decide +kernel
theorem eX12_isSaid_105 : ino mX12_isSaid 105 = some (.bipush 21, 107) := by decide +kernel
theorem eX12_isSaid_107 : ino mX12_isSaid 107 = some (.if_icmp .ne 31, 138) := by decide +kernel
theorem eX12_isSaid_110 : ino mX12_isSaid 110 = some (.aload_n 0, 111) := by decide +kernel
theorem eX12_isSaid_111 : ino mX12_isSaid 111 = some (.getfield 101, 114) := by decide +kernel
theorem eX12_isSaid_114 : ino mX12_isSaid 114 = some (.iload_n 2, 115) := by decide +kernel
theorem eX12_isSaid_115 : ino mX12_isSaid 115 = some (.iconst 1, 116) := by decide +kernel
theorem eX12_isSaid_116 : ino mX12_isSaid 116 = some (.isub, 117) := by decide +kernel
theorem eX12_isSaid_117 : ino mX12_isSaid 117 = some (.baload, 118) := by decide +kernel
theorem eX12_isSaid_118 : ino mX12_isSaid 118 = some (.ifCond .eq 16, 134) := by decide +kernel
theorem eX12_isSaid_121 : ino mX12_isSaid 121 = some (.aload_n 0, 122) := by decide +kernel
theorem eX12_isSaid_122 : ino mX12_isSaid 122 = some (.getfield 101, 125) := by decide +kernel
theorem eX12_isSaid_125 : ino mX12_isSaid 125 = some (.iload_n 2, 126) := by decide +kernel
theorem eX12_isSaid_126 : ino mX12_isSaid 126 = some (.baload, 127) := by decide +kernel
theorem eX12_isSaid_127 : ino mX12_isSaid 127 = some (.ifCond .eq 7, 134) := by decide +kernel
theorem eX12_isSaid_130 : ino mX12_isSaid 130 = some (.iconst 1, 131) := by decide +kernel
theorem eX12_isSaid_131 : ino mX12_isSaid 131 = some (.goto 32, 163) := by decide +kernel
theorem eX12_isSaid_134 : ino mX12_isSaid 134 = some (.iconst 0, 135) := by decide +kernel
theorem eX12_isSaid_135 : ino mX12_isSaid 135 = some (.goto 28, 163) := by decide +kernel
theorem eX12_isSaid_138 : ino mX12_isSaid 138 = some (.aload_n 0, 139) := by decide +kernel
theorem eX12_isSaid_139 : ino mX12_isSaid 139 = some (.getfield 101, 142) := by decide +kernel
theorem eX12_isSaid_142 : ino mX12_isSaid 142 = some (.iload_n 2, 143) := by decide +kernel
theorem eX12_isSaid_143 : ino mX12_isSaid 143 = some (.iconst 1, 144) := by decide +kernel
theorem eX12_isSaid_144 : ino mX12_isSaid 144 = some (.isub, 145) := by decide +kernel
theorem eX12_isSaid_145 : ino mX12_isSaid 145 = some (.baload, 146) := by decide +kernel
theorem eX12_isSaid_146 : ino mX12_isSaid 146 = some (.ifCond .ne 12, 158) := by decide +kernel
theorem eX12_isSaid_149 : ino mX12_isSaid 149 = some (.aload_n 0, 150) := by decide +kernel
theorem eX12_isSaid_150 : ino mX12_isSaid 150 = some (.getfield 101, 153) := by decide +kernel
theorem eX12_isSaid_153 : ino mX12_isSaid 153 = some (.iload_n 2, 154) := by decide +kernel
theorem eX12_isSaid_154 : ino mX12_isSaid 154 = some (.baload, 155) := by decide +kernel
theorem eX12_isSaid_155 : ino mX12_isSaid 155 = some (.ifCond .eq 7, 162) := by decide +kernel
theorem eX12_isSaid_158 : ino mX12_isSaid 158 = some (.iconst 1, 159) := by decide +kernel
theorem eX12_isSaid_159 : ino mX12_isSaid 159 = some (.goto 4, 163) := by decide +kernel
theorem eX12_isSaid_162 : ino mX12_isSaid 162 = some (.iconst 0, 163) := by decide +kernel
theorem eX12_isSaid_163 : ino mX12_isSaid 163 = some (.bastore, 164) := by decide +kernel
theorem eX12_isSaid_164 : ino mX12_isSaid 164 = some (.goto 42, 206) := by decide +kernel
theorem eX12_isSaid_167 : ino mX12_isSaid 167 = some (.aload_n 0, 168) := by decide +kernel
theorem eX12_isSaid_168 : ino mX12_isSaid 168 = some (.getfield 101, 171) := by decide +kernel
theorem eX12_isSaid_171 : ino mX12_isSaid 171 = some (.iload_n 2, 172) := by decide +kernel
theorem eX12_isSaid_172 : ino mX12_isSaid 172 = some (.aload_n 0, 173) := by decide +kernel
theorem eX12_isSaid_173 : ino mX12_isSaid 173 = some (.iload_n 1, 174) := by decide +kernel
theorem eX12_isSaid_174 : ino mX12_isSaid 174 = some (.aload_n 0, 175) := by decide +kernel
theorem eX12_isSaid_175 : ino mX12_isSaid 175 = some (.getfield 33, 178) := by decide +kernel
theorem eX12_isSaid_178 : ino mX12_isSaid 178 = some (.iload 4, 180) := by decide +kernel
theorem eX12_isSaid_180 : ino mX12_isSaid 180 = some (.iaload, 181) := by decide +kernel
theorem eX12_isSaid_181 : ino mX12_isSaid 181 = some (.aload_n 0, 182) := by decide +kernel
theorem eX12_isSaid_182 : ino mX12_isSaid 182 = some (.getfield 33, 185) := by decide +kernel
theorem eX12_isSaid_185 : ino mX12_isSaid 185 = some (.iload 4, 187) := by decide +kernel
theorem eX12_isSaid_187 : ino mX12_isSaid 187 = some (.iconst 1, 188) := by decide +kernel
theorem eX12_isSaid_188 : ino mX12_isSaid 188 = some (.iadd, 189) := by decide +kernel
theorem eX12_isSaid_189 : ino mX12_isSaid 189 = some (.iaload, 190) := by decide +kernel
theorem eX12_isSaid_190 : ino mX12_isSaid 190 = some (.aload_n 0, 191) := by decide +kernel
theorem eX12_isSaid_191 : ino mX12_isSaid 191 = some (.getfield 33, 194) := by decide +kernel
theorem eX12_isSaid_194 : ino mX12_isSaid 194 = some (.iload 4, 196) := by decide +kernel
theorem eX12_isSaid_196 : ino mX12_isSaid 196 = some (.iconst 2, 197) := by decide +kernel
theorem eX12_isSaid_197 : ino mX12_isSaid 197 = some (.iadd, 198) := by decide +kernel
theorem eX12_isSaid_198 : ino mX12_isSaid 198 = some (.iaload, 199) := by decide +kernel
theorem eX12_isSaid_199 : ino mX12_isSaid 199 = some (.invokevirtual 502, 202) := by decide +kernel
theorem eX12_isSaid_202 : ino mX12_isSaid 202 = some (.bastore, 203) := by decide +kernel
theorem eX12_isSaid_203 : ino mX12_isSaid 203 = some (.iinc 2 1, 206) := by decide +kernel
theorem eX12_isSaid_206 : ino mX12_isSaid 206 = some (.iinc 3 1, 209) := by decide +kernel
theorem eX12_isSaid_209 : ino mX12_isSaid 209 = some (.goto (-205), 4) := by decide +kernel
theorem eX12_isSaid_212 : ino mX12_isSaid 212 = some (.aload_n 0, 213) := by decide +kernel
theorem eX12_isSaid_213 : ino mX12_isSaid 213 = some (.getfield 101, 216) := by decide +kernel
theorem eX12_isSaid_216 : ino mX12_isSaid 216 = some (.iconst 0, 217) := by decide +kernel
theorem eX12_isSaid_217 : ino mX12_isSaid 217 = some (.baload, 218) := by decide +kernel
theorem eX12_isSaid_218 : ino mX12_isSaid 218 = some (.ireturn, 219) := by decide +kernel
theorem eX12_said_0 : ino mX12_said 0 = some (.aload_n 0, 1) := by decide +kernel
theorem eX12_said_1 : ino mX12_said 1 = some (.iconst 0, 2) := by decide +kernel
theorem eX12_said_2 : ino mX12_said 2 = some (.putfield 1, 5) := by decide +kernel
theorem eX12_said_5 : ino mX12_said 5 = some (.aload_n 0, 6) := by decide +kernel
theorem eX12_said_6 : ino mX12_said 6 = some (.getfield 33, 9) := by decide +kernel
theorem eX12_said_9 : ino mX12_said 9 = some (.sipush 144, 12) := by decide +kernel
theorem eX12_said_12 : ino mX12_said 12 = some (.iaload, 13) := by decide +kernel
theorem eX12_said_13 : ino mX12_said 13 = some (.ifCond .eq 8, 21) := by decide +kernel
theorem eX12_said_16 : ino mX12_said 16 = some (.iload_n 1, 17) := by decide +kernel
theorem eX12_said_17 : ino mX12_said 17 = some (.iconst (-1), 18) := by decide +kernel
theorem eX12_said_18 : ino mX12_said 18 = some (.if_icmp .ge 5, 23) := by decide +kernel
theorem eX12_said_21 : ino mX12_said 21 = some (.iconst (-1), 22) := by decide +kernel
theorem eX12_said_22 : ino mX12_said 22 = some (.ireturn, 23) := by decide +kernel
theorem eX12_said_23 : ino mX12_said 23 = some (.iconst 0, 24) := by decide +kernel
theorem eX12_said_24 : ino mX12_said 24 = some (.istore_n 2, 25) := by decide +kernel
theorem eX12_said_25 : ino mX12_said 25 = some (.iconst 0, 26) := by decide +kernel
theorem eX12_said_26 : ino mX12_said 26 = some (.istore_n 3, 27) := by decide +kernel
theorem eX12_said_27 : ino mX12_said 27 = some (.iload_n 3, 28) := by decide +kernel
theorem eX12_said_28 : ino mX12_said 28 = some (.aload_n 0, 29) := by decide +kernel
theorem eX12_said_29 : ino mX12_said 29 = some (.getfield 33, 32) := by decide +kernel
theorem eX12_said_32 : ino mX12_said 32 = some (.iconst 1, 33) := by decide +kernel
theorem eX12_said_33 : ino mX12_said 33 = some (.iaload, 34) := by decide +kernel
theorem eX12_said_34 : ino mX12_said 34 = some (.if_icmp .ge 30, 64) := by decide +kernel
theorem eX12_said_37 : ino mX12_said 37 = some (.aload_n 0, 38) := by decide +kernel
theorem eX12_said_38 : ino mX12_said 38 = some (.iload_n 3, 39) := by decide +kernel
theorem eX12_said_39 : ino mX12_said 39 = some (.invokevirtual 505, 42) := by decide +kernel
theorem eX12_said_42 : ino mX12_said 42 = some (.ifCond .ne 6, 48) := by decide +kernel
theorem eX12_said_45 : ino mX12_said 45 = some (.goto 13, 58) := by decide +kernel
theorem eX12_said_48 : ino mX12_said 48 = some (.iload_n 2, 49) := by decide +kernel
theorem eX12_said_49 : ino mX12_said 49 = some (.iload_n 1, 50) := by decide +kernel
theorem eX12_said_50 : ino mX12_said 50 = some (.if_icmp .ne 5, 55) := by decide +kernel
theorem eX12_said_53 : ino mX12_said 53 = some (.iload_n 3, 54) := by decide +kernel
theorem eX12_said_54 : ino mX12_said 54 = some (.ireturn, 55) := by decide +kernel
theorem eX12_said_55 : ino mX12_said 55 = some (.iinc 2 1, 58) := by decide +kernel
theorem eX12_said_58 : ino mX12_said 58 = some (.iinc 3 1, 61) := by decide +kernel
theorem eX12_said_61 : ino mX12_said 61 = some (.goto (-34), 27) := by decide +kernel
theorem eX12_said_64 : ino mX12_said 64 = some (.iload_n 1, 65) := by decide +kernel
theorem eX12_said_65 : ino mX12_said 65 = some (.iconst (-1), 66) := by decide +kernel
theorem eX12_said_66 : ino mX12_said 66 = some (.if_icmp .ne 7, 73) := by decide +kernel
theorem eX12_said_69 : ino mX12_said 69 = some (.iload_n 2, 70) := by decide +kernel
theorem eX12_said_70 : ino mX12_said 70 = some (.goto 4, 74) := by decide +kernel
theorem eX12_said_73 : ino mX12_said 73 = some (.iconst (-1), 74) := by decide +kernel
theorem eX12_said_74 : ino mX12_said 74 = some (.ireturn, 75) := by decide +kernel
theorem eX12_image_0 : ino mX12_image 0 = some (.aload_n 0, 1) := by decide +kernel
theorem eX12_image_1 : ino mX12_image 1 = some (.iconst 0, 2) := by decide +kernel
theorem eX12_image_2 : ino mX12_image 2 = some (.putfield 1, 5) := by decide +kernel
theorem eX12_image_5 : ino mX12_image 5 = some (.iload_n 1, 6) := by decide +kernel
theorem eX12_image_6 : ino mX12_image 6 = some (.iconst 0, 7) := by decide +kernel
theorem eX12_image_7 : ino mX12_image 7 = some (.iconst 1, 8) := by decide +kernel
theorem eX12_image_8 : ino mX12_image 8 = some (.invokestatic 221, 11) := by decide +kernel
theorem eX12_image_11 : ino mX12_image 11 = some (.ifCond .ne 5, 16) := by decide +kernel
theorem eX12_image_14 : ino mX12_image 14 = some (.iconst 0, 15) := by decide +kernel
theorem eX12_image_15 : ino mX12_image 15 = some (.ireturn, 16) := by decide +kernel
theorem eX12_image_16 : ino mX12_image 16 = some (.iconst 0, 17) := by decide +kernel
theorem eX12_image_17 : ino mX12_image 17 = some (.istore_n 2, 18) := by decide +kernel
theorem eX12_image_18 : ino mX12_image 18 = some (.iload_n 2, 19) := by decide +kernel
theorem eX12_image_19 : ino mX12_image 19 = some (.sipush 325, 22) := by decide +kernel
theorem eX12_image_22 : ino mX12_image 22 = some (.if_icmp .ge 27, 49) := by decide +kernel
theorem eX12_image_25 : ino mX12_image 25 = some (.aload_n 0, 26) := by decide +kernel
theorem eX12_image_26 : ino mX12_image 26 = some (.getfield 105, 29) := by decide +kernel
theorem eX12_image_29 : ino mX12_image 29 = some (.sipush 325, 32) := by decide +kernel
theorem eX12_image_32 : ino mX12_image 32 = some (.iload_n 1, 33) := by decide +kernel
theorem eX12_image_33 : ino mX12_image 33 = some (.imul, 34) := by decide +kernel
theorem eX12_image_34 : ino mX12_image 34 = some (.iload_n 2, 35) := by decide +kernel
theorem eX12_image_35 : ino mX12_image 35 = some (.iadd, 36) := by decide +kernel
theorem eX12_image_36 : ino mX12_image 36 = some (.aload_n 0, 37) := by decide +kernel
theorem eX12_image_37 : ino mX12_image 37 = some (.getfield 33, 40) := by decide +kernel
theorem eX12_image_40 : ino mX12_image 40 = some (.iload_n 2, 41) := by decide +kernel
theorem eX12_image_41 : ino mX12_image 41 = some (.iaload, 42) := by decide +kernel
theorem eX12_image_42 : ino mX12_image 42 = some (.iastore, 43) := by decide +kernel
theorem eX12_image_43 : ino mX12_image 43 = some (.iinc 2 1, 46) := by decide +kernel
theorem eX12_image_46 : ino mX12_image 46 = some (.goto (-28), 18) := by decide +kernel
theorem eX12_image_49 : ino mX12_image 49 = some (.iconst 0, 50) := by decide +kernel
theorem eX12_image_50 : ino mX12_image 50 = some (.istore_n 2, 51) := by decide +kernel
theorem eX12_image_51 : ino mX12_image 51 = some (.iload_n 2, 52) := by decide +kernel
theorem eX12_image_52 : ino mX12_image 52 = some (.bipush 19, 54) := by decide +kernel
theorem eX12_image_54 : ino mX12_image 54 = some (.if_icmp .ge 26, 80) := by decide +kernel
theorem eX12_image_57 : ino mX12_image 57 = some (.aload_n 0, 58) := by decide +kernel
theorem eX12_image_58 : ino mX12_image 58 = some (.getfield 108, 61) := by decide +kernel
theorem eX12_image_61 : ino mX12_image 61 = some (.bipush 19, 63) := by decide +kernel
theorem eX12_image_63 : ino mX12_image 63 = some (.iload_n 1, 64) := by decide +kernel
theorem eX12_image_64 : ino mX12_image 64 = some (.imul, 65) := by decide +kernel
theorem eX12_image_65 : ino mX12_image 65 = some (.iload_n 2, 66) := by decide +kernel
theorem eX12_image_66 : ino mX12_image 66 = some (.iadd, 67) := by decide +kernel
theorem eX12_image_67 : ino mX12_image 67 = some (.aload_n 0, 68) := by decide +kernel
theorem eX12_image_68 : ino mX12_image 68 = some (.getfield 43, 71) := by decide +kernel
theorem eX12_image_71 : ino mX12_image 71 = some (.iload_n 2, 72) := by decide +kernel
theorem eX12_image_72 : ino mX12_image 72 = some (.laload, 73) := by decide +kernel
theorem eX12_image_73 : ino mX12_image 73 = some (.lastore, 74) := by decide +kernel
theorem eX12_image_74 : ino mX12_image 74 = some (.iinc 2 1, 77) := by decide +kernel
theorem eX12_image_77 : ino mX12_image 77 = some (.goto (-26), 51) := by decide +kernel
theorem eX12_image_80 : ino mX12_image 80 = some (.aload_n 0, 81) := by decide +kernel
theorem eX12_image_81 : ino mX12_image 81 = some (.getfield 111, 84) := by decide +kernel
theorem eX12_image_84 : ino mX12_image 84 = some (.iload_n 1, 85) := by decide +kernel
theorem eX12_image_85 : ino mX12_image 85 = some (.iconst 1, 86) := by decide +kernel
theorem eX12_image_86 : ino mX12_image 86 = some (.bastore, 87) := by decide +kernel
theorem eX12_image_87 : ino mX12_image 87 = some (.iconst 1, 88) := by decide +kernel
theorem eX12_image_88 : ino mX12_image 88 = some (.ireturn, 89) := by decide +kernel
