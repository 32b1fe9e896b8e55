theorem eX12_whyServe_0 : ino mX12_whyServe 0 = some (.aload_n 0, 1) := by decide +kernel
theorem eX12_whyServe_1 : ino mX12_whyServe 1 = some (.iload_n 1, 2) := by decide +kernel
theorem eX12_whyServe_2 : ino mX12_whyServe 2 = some (.invokevirtual 328, 5) := by decide +kernel
theorem eX12_whyServe_5 : ino mX12_whyServe 5 = some (.ifCond .eq 7, 12) := by decide +kernel
theorem eX12_whyServe_8 : ino mX12_whyServe 8 = some (.iconst 1, 9) := by decide +kernel
theorem eX12_whyServe_9 : ino mX12_whyServe 9 = some (.goto 16, 25) := by decide +kernel
theorem eX12_whyServe_12 : ino mX12_whyServe 12 = some (.aload_n 0, 13) := by decide +kernel
theorem eX12_whyServe_13 : ino mX12_whyServe 13 = some (.iload_n 1, 14) := by decide +kernel
theorem eX12_whyServe_14 : ino mX12_whyServe 14 = some (.invokevirtual 313, 17) := by decide +kernel
theorem eX12_whyServe_17 : ino mX12_whyServe 17 = some (.ifCond .eq 7, 24) := by decide +kernel
theorem eX12_whyServe_20 : ino mX12_whyServe 20 = some (.iconst 2, 21) := by decide +kernel
theorem eX12_whyServe_21 : ino mX12_whyServe 21 = some (.goto 4, 25) := by decide +kernel
theorem eX12_whyServe_24 : ino mX12_whyServe 24 = some (.iconst 0, 25) := by decide +kernel
theorem eX12_whyServe_25 : ino mX12_whyServe 25 = some (.ireturn, 26) := by decide +kernel
theorem eX12_returns_0 : ino mX12_returns 0 = some (.aload_n 0, 1) := by decide +kernel
theorem eX12_returns_1 : ino mX12_returns 1 = some (.getfield 33, 4) := by decide +kernel
theorem eX12_returns_4 : ino mX12_returns 4 = some (.bipush 90, 6) := by decide +kernel
theorem eX12_returns_6 : ino mX12_returns 6 = some (.iload_n 1, 7) := by decide +kernel
theorem eX12_returns_7 : ino mX12_returns 7 = some (.iadd, 8) := by decide +kernel
theorem eX12_returns_8 : ino mX12_returns 8 = some (.iconst 0, 9) := by decide +kernel
theorem eX12_returns_9 : ino mX12_returns 9 = some (.iastore, 10) := by decide +kernel
theorem eX12_returns_10 : ino mX12_returns 10 = some (.aload_n 0, 11) := by decide +kernel
theorem eX12_returns_11 : ino mX12_returns 11 = some (.getfield 33, 14) := by decide +kernel
theorem eX12_returns_14 : ino mX12_returns 14 = some (.bipush 108, 16) := by decide +kernel
theorem eX12_returns_16 : ino mX12_returns 16 = some (.iload_n 1, 17) := by decide +kernel
theorem eX12_returns_17 : ino mX12_returns 17 = some (.iadd, 18) := by decide +kernel
theorem eX12_returns_18 : ino mX12_returns 18 = some (.iconst 0, 19) := by decide +kernel
theorem eX12_returns_19 : ino mX12_returns 19 = some (.iastore, 20) := by decide +kernel
theorem eX12_returns_20 : ino mX12_returns 20 = some (.iconst 0, 21) := by decide +kernel
theorem eX12_returns_21 : ino mX12_returns 21 = some (.istore_n 2, 22) := by decide +kernel
theorem eX12_returns_22 : ino mX12_returns 22 = some (.iload_n 2, 23) := by decide +kernel
theorem eX12_returns_23 : ino mX12_returns 23 = some (.iconst 4, 24) := by decide +kernel
theorem eX12_returns_24 : ino mX12_returns 24 = some (.if_icmp .ge 23, 47) := by decide +kernel
theorem eX12_returns_27 : ino mX12_returns 27 = some (.aload_n 0, 28) := by decide +kernel
theorem eX12_returns_28 : ino mX12_returns 28 = some (.getfield 33, 31) := by decide +kernel
theorem eX12_returns_31 : ino mX12_returns 31 = some (.bipush 120, 33) := by decide +kernel
theorem eX12_returns_33 : ino mX12_returns 33 = some (.iconst 4, 34) := by decide +kernel
theorem eX12_returns_34 : ino mX12_returns 34 = some (.iload_n 1, 35) := by decide +kernel
theorem eX12_returns_35 : ino mX12_returns 35 = some (.imul, 36) := by decide +kernel
theorem eX12_returns_36 : ino mX12_returns 36 = some (.iadd, 37) := by decide +kernel
theorem eX12_returns_37 : ino mX12_returns 37 = some (.iload_n 2, 38) := by decide +kernel
theorem eX12_returns_38 : ino mX12_returns 38 = some (.iadd, 39) := by decide +kernel
theorem eX12_returns_39 : ino mX12_returns 39 = some (.iconst 0, 40) := by decide +kernel
theorem eX12_returns_40 : ino mX12_returns 40 = some (.iastore, 41) := by decide +kernel
theorem eX12_returns_41 : ino mX12_returns 41 = some (.iinc 2 1, 44) := by decide +kernel
theorem eX12_returns_44 : ino mX12_returns 44 = some (.goto (-22), 22) := by decide +kernel
theorem eX12_returns_47 : ino mX12_returns 47 = some (.return_, 48) := by decide +kernel
theorem eX12_more_0 : ino mX12_more 0 = some (.aload_n 0, 1) := by decide +kernel
theorem eX12_more_1 : ino mX12_more 1 = some (.getfield 33, 4) := by decide +kernel
theorem eX12_more_4 : ino mX12_more 4 = some (.bipush 120, 6) := by decide +kernel
theorem eX12_more_6 : ino mX12_more 6 = some (.iconst 4, 7) := by decide +kernel
theorem eX12_more_7 : ino mX12_more 7 = some (.iload_n 1, 8) := by decide +kernel
theorem eX12_more_8 : ino mX12_more 8 = some (.imul, 9) := by decide +kernel
theorem eX12_more_9 : ino mX12_more 9 = some (.iadd, 10) := by decide +kernel
theorem eX12_more_10 : ino mX12_more 10 = some (.iload_n 2, 11) := by decide +kernel
theorem eX12_more_11 : ino mX12_more 11 = some (.iadd, 12) := by decide +kernel
theorem eX12_more_12 : ino mX12_more 12 = some (.bipush 99, 14) := by decide +kernel
theorem eX12_more_14 : ino mX12_more 14 = some (.aload_n 0, 15) := by decide +kernel
theorem eX12_more_15 : ino mX12_more 15 = some (.iload_n 1, 16) := by decide +kernel
theorem eX12_more_16 : ino mX12_more 16 = some (.iload_n 2, 17) := by decide +kernel
theorem eX12_more_17 : ino mX12_more 17 = some (.invokevirtual 296, 20) := by decide +kernel
theorem eX12_more_20 : ino mX12_more 20 = some (.iload_n 3, 21) := by decide +kernel
theorem eX12_more_21 : ino mX12_more 21 = some (.iadd, 22) := by decide +kernel
theorem eX12_more_22 : ino mX12_more 22 = some (.invokestatic 337, 25) := by decide +kernel
theorem eX12_more_25 : ino mX12_more 25 = some (.iastore, 26) := by decide +kernel
theorem eX12_more_26 : ino mX12_more 26 = some (.return_, 27) := by decide +kernel
theorem eX12_talk_0 : ino mX12_talk 0 = some (.iconst 0, 1) := by decide +kernel
theorem eX12_talk_1 : ino mX12_talk 1 = some (.istore_n 3, 2) := by decide +kernel
theorem eX12_talk_2 : ino mX12_talk 2 = some (.iload_n 3, 3) := by decide +kernel
theorem eX12_talk_3 : ino mX12_talk 3 = some (.iconst 4, 4) := by decide +kernel
theorem eX12_talk_4 : ino mX12_talk 4 = some (.if_icmp .ge 53, 57) := by decide +kernel
theorem eX12_talk_7 : ino mX12_talk 7 = some (.aload_n 0, 8) := by decide +kernel
theorem eX12_talk_8 : ino mX12_talk 8 = some (.iload_n 1, 9) := by decide +kernel
theorem eX12_talk_9 : ino mX12_talk 9 = some (.iload_n 3, 10) := by decide +kernel
theorem eX12_talk_10 : ino mX12_talk 10 = some (.invokevirtual 296, 13) := by decide +kernel
theorem eX12_talk_13 : ino mX12_talk 13 = some (.aload_n 0, 14) := by decide +kernel
theorem eX12_talk_14 : ino mX12_talk 14 = some (.iload_n 2, 15) := by decide +kernel
theorem eX12_talk_15 : ino mX12_talk 15 = some (.iload_n 3, 16) := by decide +kernel
theorem eX12_talk_16 : ino mX12_talk 16 = some (.invokevirtual 296, 19) := by decide +kernel
theorem eX12_talk_19 : ino mX12_talk 19 = some (.isub, 20) := by decide +kernel
theorem eX12_talk_20 : ino mX12_talk 20 = some (.istore 4, 22) := by decide +kernel
theorem eX12_talk_22 : ino mX12_talk 22 = some (.iload 4, 24) := by decide +kernel
theorem eX12_talk_24 : ino mX12_talk 24 = some (.invokestatic 299, 27) := by decide +kernel
theorem eX12_talk_27 : ino mX12_talk 27 = some (.iconst 2, 28) := by decide +kernel
theorem eX12_talk_28 : ino mX12_talk 28 = some (.if_icmp .ge 6, 34) := by decide +kernel
theorem eX12_talk_31 : ino mX12_talk 31 = some (.goto 20, 51) := by decide +kernel
theorem eX12_talk_34 : ino mX12_talk 34 = some (.aload_n 0, 35) := by decide +kernel
theorem eX12_talk_35 : ino mX12_talk 35 = some (.iload 4, 37) := by decide +kernel
theorem eX12_talk_37 : ino mX12_talk 37 = some (.ifCond .le 7, 44) := by decide +kernel
theorem eX12_talk_40 : ino mX12_talk 40 = some (.iload_n 2, 41) := by decide +kernel
theorem eX12_talk_41 : ino mX12_talk 41 = some (.goto 4, 45) := by decide +kernel
theorem eX12_talk_44 : ino mX12_talk 44 = some (.iload_n 1, 45) := by decide +kernel
theorem eX12_talk_45 : ino mX12_talk 45 = some (.iload_n 3, 46) := by decide +kernel
theorem eX12_talk_46 : ino mX12_talk 46 = some (.iconst 1, 47) := by decide +kernel
theorem eX12_talk_47 : ino mX12_talk 47 = some (.invokevirtual 340, 50) := by decide +kernel
theorem eX12_talk_50 : ino mX12_talk 50 = some (.return_, 51) := by decide +kernel
theorem eX12_talk_51 : ino mX12_talk 51 = some (.iinc 3 1, 54) := by decide +kernel
theorem eX12_talk_54 : ino mX12_talk 54 = some (.goto (-52), 2) := by decide +kernel
theorem eX12_talk_57 : ino mX12_talk 57 = some (.return_, 58) := by decide +kernel
theorem eX12_hour_0 : ino mX12_hour 0 = some (.iconst 0, 1) := by decide +kernel
theorem eX12_hour_1 : ino mX12_hour 1 = some (.istore_n 1, 2) := by decide +kernel
theorem eX12_hour_2 : ino mX12_hour 2 = some (.iload_n 1, 3) := by decide +kernel
theorem eX12_hour_3 : ino mX12_hour 3 = some (.aload_n 0, 4) := by decide +kernel
theorem eX12_hour_4 : ino mX12_hour 4 = some (.getfield 33, 7) := by decide +kernel
theorem eX12_hour_7 : ino mX12_hour 7 = some (.iconst 1, 8) := by decide +kernel
theorem eX12_hour_8 : ino mX12_hour 8 = some (.iaload, 9) := by decide +kernel
theorem eX12_hour_9 : ino mX12_hour 9 = some (.if_icmp .ge 94, 103) := by decide +kernel
theorem eX12_hour_12 : ino mX12_hour 12 = some (.aload_n 0, 13) := by decide +kernel
theorem eX12_hour_13 : ino mX12_hour 13 = some (.getfield 33, 16) := by decide +kernel
theorem eX12_hour_16 : ino mX12_hour 16 = some (.bipush 90, 18) := by decide +kernel
theorem eX12_hour_18 : ino mX12_hour 18 = some (.iload_n 1, 19) := by decide +kernel
theorem eX12_hour_19 : ino mX12_hour 19 = some (.iadd, 20) := by decide +kernel
theorem eX12_hour_20 : ino mX12_hour 20 = some (.iaload, 21) := by decide +kernel
theorem eX12_hour_21 : ino mX12_hour 21 = some (.istore_n 2, 22) := by decide +kernel
theorem eX12_hour_22 : ino mX12_hour 22 = some (.iload_n 2, 23) := by decide +kernel
theorem eX12_hour_23 : ino mX12_hour 23 = some (.iconst 1, 24) := by decide +kernel
theorem eX12_hour_24 : ino mX12_hour 24 = some (.if_icmp .ge 6, 30) := by decide +kernel
theorem eX12_hour_27 : ino mX12_hour 27 = some (.goto 70, 97) := by decide +kernel
theorem eX12_hour_30 : ino mX12_hour 30 = some (.aload_n 0, 31) := by decide +kernel
theorem eX12_hour_31 : ino mX12_hour 31 = some (.iload_n 1, 32) := by decide +kernel
theorem eX12_hour_32 : ino mX12_hour 32 = some (.aload_n 0, 33) := by decide +kernel
theorem eX12_hour_33 : ino mX12_hour 33 = some (.getfield 33, 36) := by decide +kernel
theorem eX12_hour_36 : ino mX12_hour 36 = some (.iconst 5, 37) := by decide +kernel
theorem eX12_hour_37 : ino mX12_hour 37 = some (.iload_n 2, 38) := by decide +kernel
theorem eX12_hour_38 : ino mX12_hour 38 = some (.iadd, 39) := by decide +kernel
theorem eX12_hour_39 : ino mX12_hour 39 = some (.iconst 1, 40) := by decide +kernel
theorem eX12_hour_40 : ino mX12_hour 40 = some (.isub, 41) := by decide +kernel
theorem eX12_hour_41 : ino mX12_hour 41 = some (.iaload, 42) := by decide +kernel
theorem eX12_hour_42 : ino mX12_hour 42 = some (.aload_n 0, 43) := by decide +kernel
theorem eX12_hour_43 : ino mX12_hour 43 = some (.getfield 33, 46) := by decide +kernel
theorem eX12_hour_46 : ino mX12_hour 46 = some (.bipush 13, 48) := by decide +kernel
theorem eX12_hour_48 : ino mX12_hour 48 = some (.iload_n 2, 49) := by decide +kernel
theorem eX12_hour_49 : ino mX12_hour 49 = some (.iadd, 50) := by decide +kernel
theorem eX12_hour_50 : ino mX12_hour 50 = some (.iconst 1, 51) := by decide +kernel
theorem eX12_hour_51 : ino mX12_hour 51 = some (.isub, 52) := by decide +kernel
theorem eX12_hour_52 : ino mX12_hour 52 = some (.iaload, 53) := by decide +kernel
theorem eX12_hour_53 : ino mX12_hour 53 = some (.invokevirtual 340, 56) := by decide +kernel
theorem eX12_hour_56 : ino mX12_hour 56 = some (.aload_n 0, 57) := by decide +kernel
theorem eX12_hour_57 : ino mX12_hour 57 = some (.getfield 33, 60) := by decide +kernel
theorem eX12_hour_60 : ino mX12_hour 60 = some (.bipush 21, 62) := by decide +kernel
theorem eX12_hour_62 : ino mX12_hour 62 = some (.iaload, 63) := by decide +kernel
theorem eX12_hour_63 : ino mX12_hour 63 = some (.iload_n 2, 64) := by decide +kernel
theorem eX12_hour_64 : ino mX12_hour 64 = some (.iconst 1, 65) := by decide +kernel
theorem eX12_hour_65 : ino mX12_hour 65 = some (.isub, 66) := by decide +kernel
theorem eX12_hour_66 : ino mX12_hour 66 = some (.invokestatic 256, 69) := by decide +kernel
theorem eX12_hour_69 : ino mX12_hour 69 = some (.ifCond .eq 28, 97) := by decide +kernel
theorem eX12_hour_72 : ino mX12_hour 72 = some (.aload_n 0, 73) := by decide +kernel
theorem eX12_hour_73 : ino mX12_hour 73 = some (.getfield 33, 76) := by decide +kernel
theorem eX12_hour_76 : ino mX12_hour 76 = some (.bipush 108, 78) := by decide +kernel
theorem eX12_hour_78 : ino mX12_hour 78 = some (.iload_n 1, 79) := by decide +kernel
theorem eX12_hour_79 : ino mX12_hour 79 = some (.iadd, 80) := by decide +kernel
theorem eX12_hour_80 : ino mX12_hour 80 = some (.bipush 99, 82) := by decide +kernel
theorem eX12_hour_82 : ino mX12_hour 82 = some (.aload_n 0, 83) := by decide +kernel
theorem eX12_hour_83 : ino mX12_hour 83 = some (.getfield 33, 86) := by decide +kernel
theorem eX12_hour_86 : ino mX12_hour 86 = some (.bipush 108, 88) := by decide +kernel
theorem eX12_hour_88 : ino mX12_hour 88 = some (.iload_n 1, 89) := by decide +kernel
theorem eX12_hour_89 : ino mX12_hour 89 = some (.iadd, 90) := by decide +kernel
theorem eX12_hour_90 : ino mX12_hour 90 = some (.iaload, 91) := by decide +kernel
theorem eX12_hour_91 : ino mX12_hour 91 = some (.iconst 1, 92) := by decide +kernel
theorem eX12_hour_92 : ino mX12_hour 92 = some (.iadd, 93) := by decide +kernel
theorem eX12_hour_93 : ino mX12_hour 93 = some (.invokestatic 337, 96) := by decide +kernel
theorem eX12_hour_96 : ino mX12_hour 96 = some (.iastore, 97) := by decide +kernel
theorem eX12_hour_97 : ino mX12_hour 97 = some (.iinc 1 1, 100) := by decide +kernel
theorem eX12_hour_100 : ino mX12_hour 100 = some (.goto (-98), 2) := by decide +kernel
theorem eX12_hour_103 : ino mX12_hour 103 = some (.iconst 0, 104) := by decide +kernel
theorem eX12_hour_104 : ino mX12_hour 104 = some (.istore_n 1, 105) := by decide +kernel
theorem eX12_hour_105 : ino mX12_hour 105 = some (.iload_n 1, 106) := by decide +kernel
theorem eX12_hour_106 : ino mX12_hour 106 = some (.aload_n 0, 107) := by decide +kernel
theorem eX12_hour_107 : ino mX12_hour 107 = some (.getfield 33, 110) := by decide +kernel
theorem eX12_hour_110 : ino mX12_hour 110 = some (.iconst 1, 111) := by decide +kernel
theorem eX12_hour_111 : ino mX12_hour 111 = some (.iaload, 112) := by decide +kernel
theorem eX12_hour_112 : ino mX12_hour 112 = some (.if_icmp .ge 44, 156) := by decide +kernel
theorem eX12_hour_115 : ino mX12_hour 115 = some (.iload_n 1, 116) := by decide +kernel
theorem eX12_hour_116 : ino mX12_hour 116 = some (.iconst 1, 117) := by decide +kernel
theorem eX12_hour_117 : ino mX12_hour 117 = some (.iadd, 118) := by decide +kernel
theorem eX12_hour_118 : ino mX12_hour 118 = some (.istore_n 2, 119) := by decide +kernel
theorem eX12_hour_119 : ino mX12_hour 119 = some (.iload_n 2, 120) := by decide +kernel
theorem eX12_hour_120 : ino mX12_hour 120 = some (.aload_n 0, 121) := by decide +kernel
theorem eX12_hour_121 : ino mX12_hour 121 = some (.getfield 33, 124) := by decide +kernel
theorem eX12_hour_124 : ino mX12_hour 124 = some (.iconst 1, 125) := by decide +kernel
theorem eX12_hour_125 : ino mX12_hour 125 = some (.iaload, 126) := by decide +kernel
theorem eX12_hour_126 : ino mX12_hour 126 = some (.if_icmp .ge 24, 150) := by decide +kernel
theorem eX12_hour_129 : ino mX12_hour 129 = some (.aload_n 0, 130) := by decide +kernel
theorem eX12_hour_130 : ino mX12_hour 130 = some (.iload_n 1, 131) := by decide +kernel
theorem eX12_hour_131 : ino mX12_hour 131 = some (.iload_n 2, 132) := by decide +kernel
theorem eX12_hour_132 : ino mX12_hour 132 = some (.invokevirtual 303, 135) := by decide +kernel
theorem eX12_hour_135 : ino mX12_hour 135 = some (.ifCond .eq 9, 144) := by decide +kernel
theorem eX12_hour_138 : ino mX12_hour 138 = some (.aload_n 0, 139) := by decide +kernel
theorem eX12_hour_139 : ino mX12_hour 139 = some (.iload_n 1, 140) := by decide +kernel
theorem eX12_hour_140 : ino mX12_hour 140 = some (.iload_n 2, 141) := by decide +kernel
theorem eX12_hour_141 : ino mX12_hour 141 = some (.invokevirtual 344, 144) := by decide +kernel
theorem eX12_hour_144 : ino mX12_hour 144 = some (.iinc 2 1, 147) := by decide +kernel
theorem eX12_hour_147 : ino mX12_hour 147 = some (.goto (-28), 119) := by decide +kernel
theorem eX12_hour_150 : ino mX12_hour 150 = some (.iinc 1 1, 153) := by decide +kernel
theorem eX12_hour_153 : ino mX12_hour 153 = some (.goto (-48), 105) := by decide +kernel
theorem eX12_hour_156 : ino mX12_hour 156 = some (.iconst 0, 157) := by decide +kernel
theorem eX12_hour_157 : ino mX12_hour 157 = some (.istore_n 1, 158) := by decide +kernel
theorem eX12_hour_158 : ino mX12_hour 158 = some (.iload_n 1, 159) := by decide +kernel
theorem eX12_hour_159 : ino mX12_hour 159 = some (.aload_n 0, 160) := by decide +kernel
theorem eX12_hour_160 : ino mX12_hour 160 = some (.getfield 33, 163) := by decide +kernel
theorem eX12_hour_163 : ino mX12_hour 163 = some (.iconst 1, 164) := by decide +kernel
theorem eX12_hour_164 : ino mX12_hour 164 = some (.iaload, 165) := by decide +kernel
theorem eX12_hour_165 : ino mX12_hour 165 = some (.if_icmp .ge 77, 242) := by decide +kernel
theorem eX12_hour_168 : ino mX12_hour 168 = some (.aload_n 0, 169) := by decide +kernel
theorem eX12_hour_169 : ino mX12_hour 169 = some (.iload_n 1, 170) := by decide +kernel
theorem eX12_hour_170 : ino mX12_hour 170 = some (.invokevirtual 328, 173) := by decide +kernel
theorem eX12_hour_173 : ino mX12_hour 173 = some (.ifCond .eq 6, 179) := by decide +kernel
theorem eX12_hour_176 : ino mX12_hour 176 = some (.goto 60, 236) := by decide +kernel
theorem eX12_hour_179 : ino mX12_hour 179 = some (.aload_n 0, 180) := by decide +kernel
theorem eX12_hour_180 : ino mX12_hour 180 = some (.getfield 33, 183) := by decide +kernel
theorem eX12_hour_183 : ino mX12_hour 183 = some (.bipush 102, 185) := by decide +kernel
theorem eX12_hour_185 : ino mX12_hour 185 = some (.iload_n 1, 186) := by decide +kernel
theorem eX12_hour_186 : ino mX12_hour 186 = some (.iadd, 187) := by decide +kernel
theorem eX12_hour_187 : ino mX12_hour 187 = some (.dup2, 188) := by decide +kernel
theorem eX12_hour_188 : ino mX12_hour 188 = some (.iaload, 189) := by decide +kernel
theorem eX12_hour_189 : ino mX12_hour 189 = some (.iconst 1, 190) := by decide +kernel
theorem eX12_hour_190 : ino mX12_hour 190 = some (.iadd, 191) := by decide +kernel
theorem eX12_hour_191 : ino mX12_hour 191 = some (.iastore, 192) := by decide +kernel
theorem eX12_hour_192 : ino mX12_hour 192 = some (.aload_n 0, 193) := by decide +kernel
theorem eX12_hour_193 : ino mX12_hour 193 = some (.getfield 33, 196) := by decide +kernel
theorem eX12_hour_196 : ino mX12_hour 196 = some (.bipush 102, 198) := by decide +kernel
theorem eX12_hour_198 : ino mX12_hour 198 = some (.iload_n 1, 199) := by decide +kernel
theorem eX12_hour_199 : ino mX12_hour 199 = some (.iadd, 200) := by decide +kernel
theorem eX12_hour_200 : ino mX12_hour 200 = some (.iaload, 201) := by decide +kernel
theorem eX12_hour_201 : ino mX12_hour 201 = some (.aload_n 0, 202) := by decide +kernel
theorem eX12_hour_202 : ino mX12_hour 202 = some (.getfield 33, 205) := by decide +kernel
theorem eX12_hour_205 : ino mX12_hour 205 = some (.iconst 4, 206) := by decide +kernel
theorem eX12_hour_206 : ino mX12_hour 206 = some (.iaload, 207) := by decide +kernel
theorem eX12_hour_207 : ino mX12_hour 207 = some (.irem, 208) := by decide +kernel
theorem eX12_hour_208 : ino mX12_hour 208 = some (.ifCond .ne 28, 236) := by decide +kernel
theorem eX12_hour_211 : ino mX12_hour 211 = some (.aload_n 0, 212) := by decide +kernel
theorem eX12_hour_212 : ino mX12_hour 212 = some (.getfield 33, 215) := by decide +kernel
theorem eX12_hour_215 : ino mX12_hour 215 = some (.bipush 96, 217) := by decide +kernel
theorem eX12_hour_217 : ino mX12_hour 217 = some (.iload_n 1, 218) := by decide +kernel
theorem eX12_hour_218 : ino mX12_hour 218 = some (.iadd, 219) := by decide +kernel
theorem eX12_hour_219 : ino mX12_hour 219 = some (.bipush 60, 221) := by decide +kernel
theorem eX12_hour_221 : ino mX12_hour 221 = some (.aload_n 0, 222) := by decide +kernel
theorem eX12_hour_222 : ino mX12_hour 222 = some (.getfield 33, 225) := by decide +kernel
theorem eX12_hour_225 : ino mX12_hour 225 = some (.bipush 96, 227) := by decide +kernel
theorem eX12_hour_227 : ino mX12_hour 227 = some (.iload_n 1, 228) := by decide +kernel
theorem eX12_hour_228 : ino mX12_hour 228 = some (.iadd, 229) := by decide +kernel
theorem eX12_hour_229 : ino mX12_hour 229 = some (.iaload, 230) := by decide +kernel
theorem eX12_hour_230 : ino mX12_hour 230 = some (.iconst 1, 231) := by decide +kernel
theorem eX12_hour_231 : ino mX12_hour 231 = some (.iadd, 232) := by decide +kernel
theorem eX12_hour_232 : ino mX12_hour 232 = some (.invokestatic 337, 235) := by decide +kernel
theorem eX12_hour_235 : ino mX12_hour 235 = some (.iastore, 236) := by decide +kernel
theorem eX12_hour_236 : ino mX12_hour 236 = some (.iinc 1 1, 239) := by decide +kernel
theorem eX12_hour_239 : ino mX12_hour 239 = some (.goto (-81), 158) := by decide +kernel
theorem eX12_hour_242 : ino mX12_hour 242 = some (.aload_n 0, 243) := by decide +kernel
theorem eX12_hour_243 : ino mX12_hour 243 = some (.getfield 33, 246) := by decide +kernel
theorem eX12_hour_246 : ino mX12_hour 246 = some (.bipush 85, 248) := by decide +kernel
theorem eX12_hour_248 : ino mX12_hour 248 = some (.dup2, 249) := by decide +kernel
theorem eX12_hour_249 : ino mX12_hour 249 = some (.iaload, 250) := by decide +kernel
theorem eX12_hour_250 : ino mX12_hour 250 = some (.iconst 1, 251) := by decide +kernel
theorem eX12_hour_251 : ino mX12_hour 251 = some (.iadd, 252) := by decide +kernel
theorem eX12_hour_252 : ino mX12_hour 252 = some (.iastore, 253) := by decide +kernel
theorem eX12_hour_253 : ino mX12_hour 253 = some (.return_, 254) := by decide +kernel
theorem eX12_goesOn_0 : ino mX12_goesOn 0 = some (.iconst 0, 1) := by decide +kernel
theorem eX12_goesOn_1 : ino mX12_goesOn 1 = some (.istore_n 2, 2) := by decide +kernel
theorem eX12_goesOn_2 : ino mX12_goesOn 2 = some (.iload_n 2, 3) := by decide +kernel
theorem eX12_goesOn_3 : ino mX12_goesOn 3 = some (.iload_n 1, 4) := by decide +kernel
theorem eX12_goesOn_4 : ino mX12_goesOn 4 = some (.if_icmp .ge 26, 30) := by decide +kernel
theorem eX12_goesOn_7 : ino mX12_goesOn 7 = some (.aload_n 0, 8) := by decide +kernel
theorem eX12_goesOn_8 : ino mX12_goesOn 8 = some (.getfield 33, 11) := by decide +kernel
theorem eX12_goesOn_11 : ino mX12_goesOn 11 = some (.bipush 85, 13) := by decide +kernel
theorem eX12_goesOn_13 : ino mX12_goesOn 13 = some (.iaload, 14) := by decide +kernel
theorem eX12_goesOn_14 : ino mX12_goesOn 14 = some (.sipush 400, 17) := by decide +kernel
theorem eX12_goesOn_17 : ino mX12_goesOn 17 = some (.if_icmp .ge 13, 30) := by decide +kernel
theorem eX12_goesOn_20 : ino mX12_goesOn 20 = some (.aload_n 0, 21) := by decide +kernel
theorem eX12_goesOn_21 : ino mX12_goesOn 21 = some (.invokevirtual 348, 24) := by decide +kernel
theorem eX12_goesOn_24 : ino mX12_goesOn 24 = some (.iinc 2 1, 27) := by decide +kernel
theorem eX12_goesOn_27 : ino mX12_goesOn 27 = some (.goto (-25), 2) := by decide +kernel
theorem eX12_goesOn_30 : ino mX12_goesOn 30 = some (.iload_n 2, 31) := by decide +kernel
theorem eX12_goesOn_31 : ino mX12_goesOn 31 = some (.ireturn, 32) := by decide +kernel
theorem eX12_send_0 : ino mX12_send 0 = some (.aload_n 0, 1) := by decide +kernel
theorem eX12_send_1 : ino mX12_send 1 = some (.iconst 0, 2) := by decide +kernel
theorem eX12_send_2 : ino mX12_send 2 = some (.putfield 1, 5) := by decide +kernel
theorem eX12_send_5 : ino mX12_send 5 = some (.aload_n 0, 6) := by decide +kernel
theorem eX12_send_6 : ino mX12_send 6 = some (.iload_n 1, 7) := by decide +kernel
theorem eX12_send_7 : ino mX12_send 7 = some (.invokevirtual 306, 10) := by decide +kernel
theorem eX12_send_10 : ino mX12_send 10 = some (.ifCond .eq 17, 27) := by decide +kernel
theorem eX12_send_13 : ino mX12_send 13 = some (.iload_n 2, 14) := by decide +kernel
theorem eX12_send_14 : ino mX12_send 14 = some (.iconst 0, 15) := by decide +kernel
theorem eX12_send_15 : ino mX12_send 15 = some (.aload_n 0, 16) := by decide +kernel
theorem eX12_send_16 : ino mX12_send 16 = some (.getfield 33, 19) := by decide +kernel
theorem eX12_send_19 : ino mX12_send 19 = some (.iconst 0, 20) := by decide +kernel
theorem eX12_send_20 : ino mX12_send 20 = some (.iaload, 21) := by decide +kernel
theorem eX12_send_21 : ino mX12_send 21 = some (.invokestatic 221, 24) := by decide +kernel
theorem eX12_send_24 : ino mX12_send 24 = some (.ifCond .ne 5, 29) := by decide +kernel
theorem eX12_send_27 : ino mX12_send 27 = some (.iconst (-1), 28) := by decide +kernel
theorem eX12_send_28 : ino mX12_send 28 = some (.ireturn, 29) := by decide +kernel
theorem eX12_send_29 : ino mX12_send 29 = some (.aload_n 0, 30) := by decide +kernel
theorem eX12_send_30 : ino mX12_send 30 = some (.iload_n 1, 31) := by decide +kernel
theorem eX12_send_31 : ino mX12_send 31 = some (.iload_n 2, 32) := by decide +kernel
theorem eX12_send_32 : ino mX12_send 32 = some (.invokevirtual 351, 35) := by decide +kernel
theorem eX12_send_35 : ino mX12_send 35 = some (.istore_n 3, 36) := by decide +kernel
theorem eX12_send_36 : ino mX12_send 36 = some (.iload_n 3, 37) := by decide +kernel
theorem eX12_send_37 : ino mX12_send 37 = some (.ifCond .le 5, 42) := by decide +kernel
theorem eX12_send_40 : ino mX12_send 40 = some (.iload_n 3, 41) := by decide +kernel
theorem eX12_send_41 : ino mX12_send 41 = some (.ireturn, 42) := by decide +kernel
theorem eX12_send_42 : ino mX12_send 42 = some (.aload_n 0, 43) := by decide +kernel
theorem eX12_send_43 : ino mX12_send 43 = some (.invokevirtual 354, 46) := by decide +kernel
theorem eX12_send_46 : ino mX12_send 46 = some (.aload_n 0, 47) := by decide +kernel
theorem eX12_send_47 : ino mX12_send 47 = some (.iload_n 1, 48) := by decide +kernel
theorem eX12_send_48 : ino mX12_send 48 = some (.iload_n 2, 49) := by decide +kernel
theorem eX12_send_49 : ino mX12_send 49 = some (.invokevirtual 357, 52) := by decide +kernel
theorem eX12_send_52 : ino mX12_send 52 = some (.iconst 0, 53) := by decide +kernel
theorem eX12_send_53 : ino mX12_send 53 = some (.ireturn, 54) := by decide +kernel
theorem eX12_turns_0 : ino mX12_turns 0 = some (.aload_n 0, 1) := by decide +kernel
theorem eX12_turns_1 : ino mX12_turns 1 = some (.iconst 0, 2) := by decide +kernel
theorem eX12_turns_2 : ino mX12_turns 2 = some (.putfield 1, 5) := by decide +kernel
theorem eX12_turns_5 : ino mX12_turns 5 = some (.aload_n 0, 6) := by decide +kernel
theorem eX12_turns_6 : ino mX12_turns 6 = some (.iload_n 1, 7) := by decide +kernel
theorem eX12_turns_7 : ino mX12_turns 7 = some (.invokevirtual 325, 10) := by decide +kernel
theorem eX12_turns_10 : ino mX12_turns 10 = some (.ifCond .ne 5, 15) := by decide +kernel
theorem eX12_turns_13 : ino mX12_turns 13 = some (.iconst (-1), 14) := by decide +kernel
theorem eX12_turns_14 : ino mX12_turns 14 = some (.ireturn, 15) := by decide +kernel
theorem eX12_turns_15 : ino mX12_turns 15 = some (.aload_n 0, 16) := by decide +kernel
theorem eX12_turns_16 : ino mX12_turns 16 = some (.getfield 33, 19) := by decide +kernel
theorem eX12_turns_19 : ino mX12_turns 19 = some (.bipush 88, 21) := by decide +kernel
theorem eX12_turns_21 : ino mX12_turns 21 = some (.iaload, 22) := by decide +kernel
theorem eX12_turns_22 : ino mX12_turns 22 = some (.iload_n 1, 23) := by decide +kernel
theorem eX12_turns_23 : ino mX12_turns 23 = some (.ishr, 24) := by decide +kernel
theorem eX12_turns_24 : ino mX12_turns 24 = some (.iconst 1, 25) := by decide +kernel
theorem eX12_turns_25 : ino mX12_turns 25 = some (.iand, 26) := by decide +kernel
theorem eX12_turns_26 : ino mX12_turns 26 = some (.iload_n 2, 27) := by decide +kernel
theorem eX12_turns_27 : ino mX12_turns 27 = some (.if_icmp .ne 5, 32) := by decide +kernel
theorem eX12_turns_30 : ino mX12_turns 30 = some (.iconst 1, 31) := by decide +kernel
theorem eX12_turns_31 : ino mX12_turns 31 = some (.ireturn, 32) := by decide +kernel
theorem eX12_turns_32 : ino mX12_turns 32 = some (.aload_n 0, 33) := by decide +kernel
theorem eX12_turns_33 : ino mX12_turns 33 = some (.invokevirtual 354, 36) := by decide +kernel
theorem eX12_turns_36 : ino mX12_turns 36 = some (.aload_n 0, 37) := by decide +kernel
theorem eX12_turns_37 : ino mX12_turns 37 = some (.getfield 33, 40) := by decide +kernel
theorem eX12_turns_40 : ino mX12_turns 40 = some (.bipush 88, 42) := by decide +kernel
theorem eX12_turns_42 : ino mX12_turns 42 = some (.dup2, 43) := by decide +kernel
theorem eX12_turns_43 : ino mX12_turns 43 = some (.iaload, 44) := by decide +kernel
theorem eX12_turns_44 : ino mX12_turns 44 = some (.iconst 1, 45) := by decide +kernel
theorem eX12_turns_45 : ino mX12_turns 45 = some (.iload_n 1, 46) := by decide +kernel
theorem eX12_turns_46 : ino mX12_turns 46 = some (.ishl, 47) := by decide +kernel
theorem eX12_turns_47 : ino mX12_turns 47 = some (.ixor, 48) := by decide +kernel
theorem eX12_turns_48 : ino mX12_turns 48 = some (.iastore, 49) := by decide +kernel
theorem eX12_turns_49 : ino mX12_turns 49 = some (.iconst 0, 50) := by decide +kernel
theorem eX12_turns_50 : ino mX12_turns 50 = some (.ireturn, 51) := by decide +kernel
theorem eX12_hang_0 : ino mX12_hang 0 = some (.aload_n 0, 1) := by decide +kernel
theorem eX12_hang_1 : ino mX12_hang 1 = some (.iload_n 1, 2) := by decide +kernel
theorem eX12_hang_2 : ino mX12_hang 2 = some (.iconst 1, 3) := by decide +kernel
theorem eX12_hang_3 : ino mX12_hang 3 = some (.invokevirtual 360, 6) := by decide +kernel
theorem eX12_hang_6 : ino mX12_hang 6 = some (.ireturn, 7) := by decide +kernel
theorem eX12_take_0 : ino mX12_take 0 = some (.aload_n 0, 1) := by decide +kernel
theorem eX12_take_1 : ino mX12_take 1 = some (.iload_n 1, 2) := by decide +kernel
theorem eX12_take_2 : ino mX12_take 2 = some (.iconst 0, 3) := by decide +kernel
theorem eX12_take_3 : ino mX12_take 3 = some (.invokevirtual 360, 6) := by decide +kernel
theorem eX12_take_6 : ino mX12_take 6 = some (.ireturn, 7) := by decide +kernel
theorem eX12_serve_0 : ino mX12_serve 0 = some (.aload_n 0, 1) := by decide +kernel
theorem eX12_serve_1 : ino mX12_serve 1 = some (.iconst 0, 2) := by decide +kernel
theorem eX12_serve_2 : ino mX12_serve 2 = some (.putfield 1, 5) := by decide +kernel
theorem eX12_serve_5 : ino mX12_serve 5 = some (.aload_n 0, 6) := by decide +kernel
theorem eX12_serve_6 : ino mX12_serve 6 = some (.iload_n 1, 7) := by decide +kernel
theorem eX12_serve_7 : ino mX12_serve 7 = some (.invokevirtual 306, 10) := by decide +kernel
theorem eX12_serve_10 : ino mX12_serve 10 = some (.ifCond .ne 5, 15) := by decide +kernel
theorem eX12_serve_13 : ino mX12_serve 13 = some (.iconst (-1), 14) := by decide +kernel
theorem eX12_serve_14 : ino mX12_serve 14 = some (.ireturn, 15) := by decide +kernel
theorem eX12_serve_15 : ino mX12_serve 15 = some (.aload_n 0, 16) := by decide +kernel
theorem eX12_serve_16 : ino mX12_serve 16 = some (.iload_n 1, 17) := by decide +kernel
theorem eX12_serve_17 : ino mX12_serve 17 = some (.invokevirtual 363, 20) := by decide +kernel
theorem eX12_serve_20 : ino mX12_serve 20 = some (.istore_n 2, 21) := by decide +kernel
theorem eX12_serve_21 : ino mX12_serve 21 = some (.iload_n 2, 22) := by decide +kernel
theorem eX12_serve_22 : ino mX12_serve 22 = some (.ifCond .le 5, 27) := by decide +kernel
theorem eX12_serve_25 : ino mX12_serve 25 = some (.iload_n 2, 26) := by decide +kernel
theorem eX12_serve_26 : ino mX12_serve 26 = some (.ireturn, 27) := by decide +kernel
theorem eX12_serve_27 : ino mX12_serve 27 = some (.aload_n 0, 28) := by decide +kernel
theorem eX12_serve_28 : ino mX12_serve 28 = some (.invokevirtual 354, 31) := by decide +kernel
theorem eX12_serve_31 : ino mX12_serve 31 = some (.aload_n 0, 32) := by decide +kernel
theorem eX12_serve_32 : ino mX12_serve 32 = some (.getfield 33, 35) := by decide +kernel
theorem eX12_serve_35 : ino mX12_serve 35 = some (.bipush 90, 37) := by decide +kernel
theorem eX12_serve_37 : ino mX12_serve 37 = some (.iload_n 1, 38) := by decide +kernel
theorem eX12_serve_38 : ino mX12_serve 38 = some (.iadd, 39) := by decide +kernel
theorem eX12_serve_39 : ino mX12_serve 39 = some (.iconst (-1), 40) := by decide +kernel
theorem eX12_serve_40 : ino mX12_serve 40 = some (.iastore, 41) := by decide +kernel
theorem eX12_serve_41 : ino mX12_serve 41 = some (.iconst 0, 42) := by decide +kernel
theorem eX12_serve_42 : ino mX12_serve 42 = some (.ireturn, 43) := by decide +kernel
theorem eX12_back_0 : ino mX12_back 0 = some (.aload_n 0, 1) := by decide +kernel
theorem eX12_back_1 : ino mX12_back 1 = some (.iconst 0, 2) := by decide +kernel
theorem eX12_back_2 : ino mX12_back 2 = some (.putfield 1, 5) := by decide +kernel
theorem eX12_back_5 : ino mX12_back 5 = some (.aload_n 0, 6) := by decide +kernel
theorem eX12_back_6 : ino mX12_back 6 = some (.iload_n 1, 7) := by decide +kernel
theorem eX12_back_7 : ino mX12_back 7 = some (.invokevirtual 306, 10) := by decide +kernel
theorem eX12_back_10 : ino mX12_back 10 = some (.ifCond .ne 5, 15) := by decide +kernel
theorem eX12_back_13 : ino mX12_back 13 = some (.iconst (-1), 14) := by decide +kernel
theorem eX12_back_14 : ino mX12_back 14 = some (.ireturn, 15) := by decide +kernel
theorem eX12_back_15 : ino mX12_back 15 = some (.aload_n 0, 16) := by decide +kernel
theorem eX12_back_16 : ino mX12_back 16 = some (.iload_n 1, 17) := by decide +kernel
theorem eX12_back_17 : ino mX12_back 17 = some (.invokevirtual 328, 20) := by decide +kernel
theorem eX12_back_20 : ino mX12_back 20 = some (.ifCond .ne 5, 25) := by decide +kernel
theorem eX12_back_23 : ino mX12_back 23 = some (.iconst 1, 24) := by decide +kernel
theorem eX12_back_24 : ino mX12_back 24 = some (.ireturn, 25) := by decide +kernel
theorem eX12_back_25 : ino mX12_back 25 = some (.aload_n 0, 26) := by decide +kernel
theorem eX12_back_26 : ino mX12_back 26 = some (.invokevirtual 354, 29) := by decide +kernel
theorem eX12_back_29 : ino mX12_back 29 = some (.aload_n 0, 30) := by decide +kernel
theorem eX12_back_30 : ino mX12_back 30 = some (.iload_n 1, 31) := by decide +kernel
theorem eX12_back_31 : ino mX12_back 31 = some (.invokevirtual 366, 34) := by decide +kernel
theorem eX12_back_34 : ino mX12_back 34 = some (.iconst 0, 35) := by decide +kernel
theorem eX12_back_35 : ino mX12_back 35 = some (.ireturn, 36) := by decide +kernel
theorem eX12_hours_0 : ino mX12_hours 0 = some (.aload_n 0, 1) := by decide +kernel
theorem eX12_hours_1 : ino mX12_hours 1 = some (.iconst 0, 2) := by decide +kernel
theorem eX12_hours_2 : ino mX12_hours 2 = some (.putfield 1, 5) := by decide +kernel
theorem eX12_hours_5 : ino mX12_hours 5 = some (.iload_n 1, 6) := by decide +kernel
theorem eX12_hours_6 : ino mX12_hours 6 = some (.iconst 1, 7) := by decide +kernel
theorem eX12_hours_7 : ino mX12_hours 7 = some (.bipush 60, 9) := by decide +kernel
theorem eX12_hours_9 : ino mX12_hours 9 = some (.invokestatic 221, 12) := by decide +kernel
theorem eX12_hours_12 : ino mX12_hours 12 = some (.ifCond .ne 5, 17) := by decide +kernel
theorem eX12_hours_15 : ino mX12_hours 15 = some (.iconst (-1), 16) := by decide +kernel
theorem eX12_hours_16 : ino mX12_hours 16 = some (.ireturn, 17) := by decide +kernel
theorem eX12_hours_17 : ino mX12_hours 17 = some (.aload_n 0, 18) := by decide +kernel
theorem eX12_hours_18 : ino mX12_hours 18 = some (.getfield 33, 21) := by decide +kernel
theorem eX12_hours_21 : ino mX12_hours 21 = some (.bipush 85, 23) := by decide +kernel
theorem eX12_hours_23 : ino mX12_hours 23 = some (.iaload, 24) := by decide +kernel
theorem eX12_hours_24 : ino mX12_hours 24 = some (.sipush 400, 27) := by decide +kernel
theorem eX12_hours_27 : ino mX12_hours 27 = some (.if_icmp .ne 5, 32) := by decide +kernel
theorem eX12_hours_30 : ino mX12_hours 30 = some (.iconst 0, 31) := by decide +kernel
theorem eX12_hours_31 : ino mX12_hours 31 = some (.ireturn, 32) := by decide +kernel
theorem eX12_hours_32 : ino mX12_hours 32 = some (.aload_n 0, 33) := by decide +kernel
theorem eX12_hours_33 : ino mX12_hours 33 = some (.invokevirtual 354, 36) := by decide +kernel
theorem eX12_hours_36 : ino mX12_hours 36 = some (.aload_n 0, 37) := by decide +kernel
theorem eX12_hours_37 : ino mX12_hours 37 = some (.iload_n 1, 38) := by decide +kernel
theorem eX12_hours_38 : ino mX12_hours 38 = some (.invokevirtual 369, 41) := by decide +kernel
theorem eX12_hours_41 : ino mX12_hours 41 = some (.ireturn, 42) := by decide +kernel
theorem eX12_keep_0 : ino mX12_keep 0 = some (.aload_n 0, 1) := by decide +kernel
theorem eX12_keep_1 : ino mX12_keep 1 = some (.getfield 293, 4) := by decide +kernel
theorem eX12_keep_4 : ino mX12_keep 4 = some (.bipush 8, 6) := by decide +kernel
theorem eX12_keep_6 : ino mX12_keep 6 = some (.if_icmp .ne 39, 45) := by decide +kernel
theorem eX12_keep_9 : ino mX12_keep 9 = some (.iconst 0, 10) := by decide +kernel
theorem eX12_keep_10 : ino mX12_keep 10 = some (.istore_n 1, 11) := by decide +kernel
theorem eX12_keep_11 : ino mX12_keep 11 = some (.iload_n 1, 12) := by decide +kernel
theorem eX12_keep_12 : ino mX12_keep 12 = some (.sipush 413, 15) := by decide +kernel
theorem eX12_keep_15 : ino mX12_keep 15 = some (.if_icmp .ge 24, 39) := by decide +kernel
theorem eX12_keep_18 : ino mX12_keep 18 = some (.aload_n 0, 19) := by decide +kernel
theorem eX12_keep_19 : ino mX12_keep 19 = some (.getfield 50, 22) := by decide +kernel
theorem eX12_keep_22 : ino mX12_keep 22 = some (.iload_n 1, 23) := by decide +kernel
theorem eX12_keep_23 : ino mX12_keep 23 = some (.aload_n 0, 24) := by decide +kernel
theorem eX12_keep_24 : ino mX12_keep 24 = some (.getfield 50, 27) := by decide +kernel
theorem eX12_keep_27 : ino mX12_keep 27 = some (.iload_n 1, 28) := by decide +kernel
theorem eX12_keep_28 : ino mX12_keep 28 = some (.bipush 59, 30) := by decide +kernel
theorem eX12_keep_30 : ino mX12_keep 30 = some (.iadd, 31) := by decide +kernel
theorem eX12_keep_31 : ino mX12_keep 31 = some (.iaload, 32) := by decide +kernel
theorem eX12_keep_32 : ino mX12_keep 32 = some (.iastore, 33) := by decide +kernel
theorem eX12_keep_33 : ino mX12_keep 33 = some (.iinc 1 1, 36) := by decide +kernel
theorem eX12_keep_36 : ino mX12_keep 36 = some (.goto (-25), 11) := by decide +kernel
theorem eX12_keep_39 : ino mX12_keep 39 = some (.aload_n 0, 40) := by decide +kernel
theorem eX12_keep_40 : ino mX12_keep 40 = some (.bipush 7, 42) := by decide +kernel
theorem eX12_keep_42 : ino mX12_keep 42 = some (.putfield 293, 45) := by decide +kernel
theorem eX12_keep_45 : ino mX12_keep 45 = some (.iconst 0, 46) := by decide +kernel
theorem eX12_keep_46 : ino mX12_keep 46 = some (.istore_n 1, 47) := by decide +kernel
theorem eX12_keep_47 : ino mX12_keep 47 = some (.iload_n 1, 48) := by decide +kernel
theorem eX12_keep_48 : ino mX12_keep 48 = some (.bipush 59, 50) := by decide +kernel
theorem eX12_keep_50 : ino mX12_keep 50 = some (.if_icmp .ge 32, 82) := by decide +kernel
theorem eX12_keep_53 : ino mX12_keep 53 = some (.aload_n 0, 54) := by decide +kernel
theorem eX12_keep_54 : ino mX12_keep 54 = some (.getfield 50, 57) := by decide +kernel
theorem eX12_keep_57 : ino mX12_keep 57 = some (.bipush 59, 59) := by decide +kernel
theorem eX12_keep_59 : ino mX12_keep 59 = some (.aload_n 0, 60) := by decide +kernel
theorem eX12_keep_60 : ino mX12_keep 60 = some (.getfield 293, 63) := by decide +kernel
theorem eX12_keep_63 : ino mX12_keep 63 = some (.imul, 64) := by decide +kernel
theorem eX12_keep_64 : ino mX12_keep 64 = some (.iload_n 1, 65) := by decide +kernel
theorem eX12_keep_65 : ino mX12_keep 65 = some (.iadd, 66) := by decide +kernel
theorem eX12_keep_66 : ino mX12_keep 66 = some (.aload_n 0, 67) := by decide +kernel
theorem eX12_keep_67 : ino mX12_keep 67 = some (.getfield 33, 70) := by decide +kernel
theorem eX12_keep_70 : ino mX12_keep 70 = some (.bipush 85, 72) := by decide +kernel
theorem eX12_keep_72 : ino mX12_keep 72 = some (.iload_n 1, 73) := by decide +kernel
theorem eX12_keep_73 : ino mX12_keep 73 = some (.iadd, 74) := by decide +kernel
theorem eX12_keep_74 : ino mX12_keep 74 = some (.iaload, 75) := by decide +kernel
theorem eX12_keep_75 : ino mX12_keep 75 = some (.iastore, 76) := by decide +kernel
theorem eX12_keep_76 : ino mX12_keep 76 = some (.iinc 1 1, 79) := by decide +kernel
theorem eX12_keep_79 : ino mX12_keep 79 = some (.goto (-32), 47) := by decide +kernel
theorem eX12_keep_82 : ino mX12_keep 82 = some (.aload_n 0, 83) := by decide +kernel
theorem eX12_keep_83 : ino mX12_keep 83 = some (.dup, 84) := by decide +kernel
theorem eX12_keep_84 : ino mX12_keep 84 = some (.getfield 293, 87) := by decide +kernel
theorem eX12_keep_87 : ino mX12_keep 87 = some (.iconst 1, 88) := by decide +kernel
theorem eX12_keep_88 : ino mX12_keep 88 = some (.iadd, 89) := by decide +kernel
theorem eX12_keep_89 : ino mX12_keep 89 = some (.putfield 293, 92) := by decide +kernel
theorem eX12_keep_92 : ino mX12_keep 92 = some (.return_, 93) := by decide +kernel
theorem eX12_undo_0 : ino mX12_undo 0 = some (.aload_n 0, 1) := by decide +kernel
theorem eX12_undo_1 : ino mX12_undo 1 = some (.iconst 0, 2) := by decide +kernel
theorem eX12_undo_2 : ino mX12_undo 2 = some (.putfield 1, 5) := by decide +kernel
theorem eX12_undo_5 : ino mX12_undo 5 = some (.aload_n 0, 6) := by decide +kernel
theorem eX12_undo_6 : ino mX12_undo 6 = some (.getfield 293, 9) := by decide +kernel
theorem eX12_undo_9 : ino mX12_undo 9 = some (.ifCond .ne 5, 14) := by decide +kernel
theorem eX12_undo_12 : ino mX12_undo 12 = some (.iconst (-1), 13) := by decide +kernel
theorem eX12_undo_13 : ino mX12_undo 13 = some (.ireturn, 14) := by decide +kernel
theorem eX12_undo_14 : ino mX12_undo 14 = some (.aload_n 0, 15) := by decide +kernel
theorem eX12_undo_15 : ino mX12_undo 15 = some (.dup, 16) := by decide +kernel
theorem eX12_undo_16 : ino mX12_undo 16 = some (.getfield 293, 19) := by decide +kernel
theorem eX12_undo_19 : ino mX12_undo 19 = some (.iconst 1, 20) := by decide +kernel
theorem eX12_undo_20 : ino mX12_undo 20 = some (.isub, 21) := by decide +kernel
theorem eX12_undo_21 : ino mX12_undo 21 = some (.putfield 293, 24) := by decide +kernel
theorem eX12_undo_24 : ino mX12_undo 24 = some (.iconst 0, 25) := by decide +kernel
theorem eX12_undo_25 : ino mX12_undo 25 = some (.istore_n 1, 26) := by decide +kernel
theorem eX12_undo_26 : ino mX12_undo 26 = some (.iload_n 1, 27) := by decide +kernel
theorem eX12_undo_27 : ino mX12_undo 27 = some (.bipush 59, 29) := by decide +kernel
theorem eX12_undo_29 : ino mX12_undo 29 = some (.if_icmp .ge 32, 61) := by decide +kernel
theorem eX12_undo_32 : ino mX12_undo 32 = some (.aload_n 0, 33) := by decide +kernel
theorem eX12_undo_33 : ino mX12_undo 33 = some (.getfield 33, 36) := by decide +kernel
theorem eX12_undo_36 : ino mX12_undo 36 = some (.bipush 85, 38) := by decide +kernel
theorem eX12_undo_38 : ino mX12_undo 38 = some (.iload_n 1, 39) := by decide +kernel
theorem eX12_undo_39 : ino mX12_undo 39 = some (.iadd, 40) := by decide +kernel
theorem eX12_undo_40 : ino mX12_undo 40 = some (.aload_n 0, 41) := by decide +kernel
theorem eX12_undo_41 : ino mX12_undo 41 = some (.getfield 50, 44) := by decide +kernel
theorem eX12_undo_44 : ino mX12_undo 44 = some (.bipush 59, 46) := by decide +kernel
theorem eX12_undo_46 : ino mX12_undo 46 = some (.aload_n 0, 47) := by decide +kernel
theorem eX12_undo_47 : ino mX12_undo 47 = some (.getfield 293, 50) := by decide +kernel
theorem eX12_undo_50 : ino mX12_undo 50 = some (.imul, 51) := by decide +kernel
theorem eX12_undo_51 : ino mX12_undo 51 = some (.iload_n 1, 52) := by decide +kernel
theorem eX12_undo_52 : ino mX12_undo 52 = some (.iadd, 53) := by decide +kernel
theorem eX12_undo_53 : ino mX12_undo 53 = some (.iaload, 54) := by decide +kernel
theorem eX12_undo_54 : ino mX12_undo 54 = some (.iastore, 55) := by decide +kernel
theorem eX12_undo_55 : ino mX12_undo 55 = some (.iinc 1 1, 58) := by decide +kernel
theorem eX12_undo_58 : ino mX12_undo 58 = some (.goto (-32), 26) := by decide +kernel
theorem eX12_undo_61 : ino mX12_undo 61 = some (.aload_n 0, 62) := by decide +kernel
theorem eX12_undo_62 : ino mX12_undo 62 = some (.getfield 293, 65) := by decide +kernel
theorem eX12_undo_65 : ino mX12_undo 65 = some (.ireturn, 66) := by decide +kernel
theorem eX12_tries_0 : ino mX12_tries 0 = some (.iconst 0, 1) := by decide +kernel
theorem eX12_tries_1 : ino mX12_tries 1 = some (.istore_n 1, 2) := by decide +kernel
theorem eX12_tries_2 : ino mX12_tries 2 = some (.iload_n 1, 3) := by decide +kernel
theorem eX12_tries_3 : ino mX12_tries 3 = some (.bipush 59, 5) := by decide +kernel
theorem eX12_tries_5 : ino mX12_tries 5 = some (.if_icmp .ge 24, 29) := by decide +kernel
theorem eX12_tries_8 : ino mX12_tries 8 = some (.aload_n 0, 9) := by decide +kernel
theorem eX12_tries_9 : ino mX12_tries 9 = some (.getfield 53, 12) := by decide +kernel
theorem eX12_tries_12 : ino mX12_tries 12 = some (.iload_n 1, 13) := by decide +kernel
theorem eX12_tries_13 : ino mX12_tries 13 = some (.aload_n 0, 14) := by decide +kernel
theorem eX12_tries_14 : ino mX12_tries 14 = some (.getfield 33, 17) := by decide +kernel
theorem eX12_tries_17 : ino mX12_tries 17 = some (.bipush 85, 19) := by decide +kernel
theorem eX12_tries_19 : ino mX12_tries 19 = some (.iload_n 1, 20) := by decide +kernel
theorem eX12_tries_20 : ino mX12_tries 20 = some (.iadd, 21) := by decide +kernel
theorem eX12_tries_21 : ino mX12_tries 21 = some (.iaload, 22) := by decide +kernel
theorem eX12_tries_22 : ino mX12_tries 22 = some (.iastore, 23) := by decide +kernel
theorem eX12_tries_23 : ino mX12_tries 23 = some (.iinc 1 1, 26) := by decide +kernel
theorem eX12_tries_26 : ino mX12_tries 26 = some (.goto (-24), 2) := by decide +kernel
theorem eX12_tries_29 : ino mX12_tries 29 = some (.return_, 30) := by decide +kernel
theorem eX12_recalls_0 : ino mX12_recalls 0 = some (.iconst 0, 1) := by decide +kernel
theorem eX12_recalls_1 : ino mX12_recalls 1 = some (.istore_n 1, 2) := by decide +kernel
theorem eX12_recalls_2 : ino mX12_recalls 2 = some (.iload_n 1, 3) := by decide +kernel
theorem eX12_recalls_3 : ino mX12_recalls 3 = some (.bipush 59, 5) := by decide +kernel
theorem eX12_recalls_5 : ino mX12_recalls 5 = some (.if_icmp .ge 24, 29) := by decide +kernel
theorem eX12_recalls_8 : ino mX12_recalls 8 = some (.aload_n 0, 9) := by decide +kernel
theorem eX12_recalls_9 : ino mX12_recalls 9 = some (.getfield 33, 12) := by decide +kernel
theorem eX12_recalls_12 : ino mX12_recalls 12 = some (.bipush 85, 14) := by decide +kernel
theorem eX12_recalls_14 : ino mX12_recalls 14 = some (.iload_n 1, 15) := by decide +kernel
theorem eX12_recalls_15 : ino mX12_recalls 15 = some (.iadd, 16) := by decide +kernel
theorem eX12_recalls_16 : ino mX12_recalls 16 = some (.aload_n 0, 17) := by decide +kernel
theorem eX12_recalls_17 : ino mX12_recalls 17 = some (.getfield 53, 20) := by decide +kernel
theorem eX12_recalls_20 : ino mX12_recalls 20 = some (.iload_n 1, 21) := by decide +kernel
theorem eX12_recalls_21 : ino mX12_recalls 21 = some (.iaload, 22) := by decide +kernel
theorem eX12_recalls_22 : ino mX12_recalls 22 = some (.iastore, 23) := by decide +kernel
theorem eX12_recalls_23 : ino mX12_recalls 23 = some (.iinc 1 1, 26) := by decide +kernel
theorem eX12_recalls_26 : ino mX12_recalls 26 = some (.goto (-24), 2) := by decide +kernel
theorem eX12_recalls_29 : ino mX12_recalls 29 = some (.return_, 30) := by decide +kernel
theorem eX12_when_0 : ino mX12_when 0 = some (.aload_n 0, 1) := by decide +kernel
theorem eX12_when_1 : ino mX12_when 1 = some (.iconst 0, 2) := by decide +kernel
theorem eX12_when_2 : ino mX12_when 2 = some (.putfield 1, 5) := by decide +kernel
theorem eX12_when_5 : ino mX12_when 5 = some (.aload_n 0, 6) := by decide +kernel
theorem eX12_when_6 : ino mX12_when 6 = some (.iload_n 1, 7) := by decide +kernel
theorem eX12_when_7 : ino mX12_when 7 = some (.invokevirtual 306, 10) := by decide +kernel
theorem eX12_when_10 : ino mX12_when 10 = some (.ifCond .eq 11, 21) := by decide +kernel
theorem eX12_when_13 : ino mX12_when 13 = some (.aload_n 0, 14) := by decide +kernel
theorem eX12_when_14 : ino mX12_when 14 = some (.iload_n 1, 15) := by decide +kernel
theorem eX12_when_15 : ino mX12_when 15 = some (.invokevirtual 328, 18) := by decide +kernel
theorem eX12_when_18 : ino mX12_when 18 = some (.ifCond .eq 5, 23) := by decide +kernel
theorem eX12_when_21 : ino mX12_when 21 = some (.iconst (-1), 22) := by decide +kernel
theorem eX12_when_22 : ino mX12_when 22 = some (.ireturn, 23) := by decide +kernel
theorem eX12_when_23 : ino mX12_when 23 = some (.aload_n 0, 24) := by decide +kernel
theorem eX12_when_24 : ino mX12_when 24 = some (.invokevirtual 372, 27) := by decide +kernel
theorem eX12_when_27 : ino mX12_when 27 = some (.iconst (-1), 28) := by decide +kernel
theorem eX12_when_28 : ino mX12_when 28 = some (.istore_n 2, 29) := by decide +kernel
theorem eX12_when_29 : ino mX12_when 29 = some (.iconst 0, 30) := by decide +kernel
theorem eX12_when_30 : ino mX12_when 30 = some (.istore_n 3, 31) := by decide +kernel
theorem eX12_when_31 : ino mX12_when 31 = some (.iload_n 3, 32) := by decide +kernel
theorem eX12_when_32 : ino mX12_when 32 = some (.sipush 200, 35) := by decide +kernel
theorem eX12_when_35 : ino mX12_when 35 = some (.if_icmp .gt 43, 78) := by decide +kernel
theorem eX12_when_38 : ino mX12_when 38 = some (.iload_n 2, 39) := by decide +kernel
theorem eX12_when_39 : ino mX12_when 39 = some (.ifCond .ge 39, 78) := by decide +kernel
theorem eX12_when_42 : ino mX12_when 42 = some (.aload_n 0, 43) := by decide +kernel
theorem eX12_when_43 : ino mX12_when 43 = some (.iload_n 1, 44) := by decide +kernel
theorem eX12_when_44 : ino mX12_when 44 = some (.invokevirtual 313, 47) := by decide +kernel
theorem eX12_when_47 : ino mX12_when 47 = some (.ifCond .ne 5, 52) := by decide +kernel
theorem eX12_when_50 : ino mX12_when 50 = some (.iload_n 3, 51) := by decide +kernel
theorem eX12_when_51 : ino mX12_when 51 = some (.istore_n 2, 52) := by decide +kernel
theorem eX12_when_52 : ino mX12_when 52 = some (.aload_n 0, 53) := by decide +kernel
theorem eX12_when_53 : ino mX12_when 53 = some (.getfield 33, 56) := by decide +kernel
theorem eX12_when_56 : ino mX12_when 56 = some (.bipush 85, 58) := by decide +kernel
theorem eX12_when_58 : ino mX12_when 58 = some (.iaload, 59) := by decide +kernel
theorem eX12_when_59 : ino mX12_when 59 = some (.sipush 400, 62) := by decide +kernel
theorem eX12_when_62 : ino mX12_when 62 = some (.if_icmp .ne 6, 68) := by decide +kernel
theorem eX12_when_65 : ino mX12_when 65 = some (.goto 13, 78) := by decide +kernel
theorem eX12_when_68 : ino mX12_when 68 = some (.aload_n 0, 69) := by decide +kernel
theorem eX12_when_69 : ino mX12_when 69 = some (.invokevirtual 348, 72) := by decide +kernel
theorem eX12_when_72 : ino mX12_when 72 = some (.iinc 3 1, 75) := by decide +kernel
theorem eX12_when_75 : ino mX12_when 75 = some (.goto (-44), 31) := by decide +kernel
theorem eX12_when_78 : ino mX12_when 78 = some (.aload_n 0, 79) := by decide +kernel
theorem eX12_when_79 : ino mX12_when 79 = some (.invokevirtual 375, 82) := by decide +kernel
theorem eX12_when_82 : ino mX12_when 82 = some (.iload_n 2, 83) := by decide +kernel
theorem eX12_when_83 : ino mX12_when 83 = some (.ireturn, 84) := by decide +kernel
theorem eX12_digit_0 : ino mX12_digit 0 = some (.iload_n 0, 1) := by decide +kernel
theorem eX12_digit_1 : ino mX12_digit 1 = some (.istore 4, 3) := by decide +kernel
theorem eX12_digit_3 : ino mX12_digit 3 = some (.iload_n 3, 4) := by decide +kernel
theorem eX12_digit_4 : ino mX12_digit 4 = some (.istore 5, 6) := by decide +kernel
theorem eX12_digit_6 : ino mX12_digit 6 = some (.iload 5, 8) := by decide +kernel
theorem eX12_digit_8 : ino mX12_digit 8 = some (.iload_n 2, 9) := by decide +kernel
theorem eX12_digit_9 : ino mX12_digit 9 = some (.iconst 1, 10) := by decide +kernel
theorem eX12_digit_10 : ino mX12_digit 10 = some (.isub, 11) := by decide +kernel
theorem eX12_digit_11 : ino mX12_digit 11 = some (.if_icmp .ge 15, 26) := by decide +kernel
theorem eX12_digit_14 : ino mX12_digit 14 = some (.iload 4, 16) := by decide +kernel
theorem eX12_digit_16 : ino mX12_digit 16 = some (.iload_n 1, 17) := by decide +kernel
theorem eX12_digit_17 : ino mX12_digit 17 = some (.idiv, 18) := by decide +kernel
theorem eX12_digit_18 : ino mX12_digit 18 = some (.istore 4, 20) := by decide +kernel
theorem eX12_digit_20 : ino mX12_digit 20 = some (.iinc 5 1, 23) := by decide +kernel
theorem eX12_digit_23 : ino mX12_digit 23 = some (.goto (-17), 6) := by decide +kernel
theorem eX12_digit_26 : ino mX12_digit 26 = some (.iload 4, 28) := by decide +kernel
theorem eX12_digit_28 : ino mX12_digit 28 = some (.iload_n 1, 29) := by decide +kernel
theorem eX12_digit_29 : ino mX12_digit 29 = some (.irem, 30) := by decide +kernel
theorem eX12_digit_30 : ino mX12_digit 30 = some (.ireturn, 31) := by decide +kernel
