theorem eX5_init_0 : ino mX5_init 0 = some (.aload_n 0, 1) := by decide +kernel
theorem eX5_init_1 : ino mX5_init 1 = some (.invokespecial 3, 4) := by decide +kernel
theorem eX5_init_4 : ino mX5_init 4 = some (.aload_n 0, 5) := by decide +kernel
theorem eX5_init_5 : ino mX5_init 5 = some (.sipush 941, 8) := by decide +kernel
theorem eX5_init_8 : ino mX5_init 8 = some (.newarray .int, 10) := by decide +kernel
theorem eX5_init_10 : ino mX5_init 10 = some (.putfield 9, 13) := by decide +kernel
theorem eX5_init_13 : ino mX5_init 13 = some (.aload_n 0, 14) := by decide +kernel
theorem eX5_init_14 : ino mX5_init 14 = some (.sipush 941, 17) := by decide +kernel
theorem eX5_init_17 : ino mX5_init 17 = some (.newarray .int, 19) := by decide +kernel
theorem eX5_init_19 : ino mX5_init 19 = some (.putfield 15, 22) := by decide +kernel
theorem eX5_init_22 : ino mX5_init 22 = some (.aload_n 0, 23) := by decide +kernel
theorem eX5_init_23 : ino mX5_init 23 = some (.sipush 941, 26) := by decide +kernel
theorem eX5_init_26 : ino mX5_init 26 = some (.newarray .long, 28) := by decide +kernel
theorem eX5_init_28 : ino mX5_init 28 = some (.putfield 18, 31) := by decide +kernel
theorem eX5_init_31 : ino mX5_init 31 = some (.aload_n 0, 32) := by decide +kernel
theorem eX5_init_32 : ino mX5_init 32 = some (.sipush 941, 35) := by decide +kernel
theorem eX5_init_35 : ino mX5_init 35 = some (.anewarray 22, 38) := by decide +kernel
theorem eX5_init_38 : ino mX5_init 38 = some (.putfield 24, 41) := by decide +kernel
theorem eX5_init_41 : ino mX5_init 41 = some (.return_, 42) := by decide +kernel
theorem eX5_open_0 : ino mX5_open 0 = some (.aload_n 0, 1) := by decide +kernel
theorem eX5_open_1 : ino mX5_open 1 = some (.iconst 0, 2) := by decide +kernel
theorem eX5_open_2 : ino mX5_open 2 = some (.putfield 28, 5) := by decide +kernel
theorem eX5_open_5 : ino mX5_open 5 = some (.aload_n 0, 6) := by decide +kernel
theorem eX5_open_6 : ino mX5_open 6 = some (.iconst 0, 7) := by decide +kernel
theorem eX5_open_7 : ino mX5_open 7 = some (.putfield 32, 10) := by decide +kernel
theorem eX5_open_10 : ino mX5_open 10 = some (.aload_n 0, 11) := by decide +kernel
theorem eX5_open_11 : ino mX5_open 11 = some (.iconst 0, 12) := by decide +kernel
theorem eX5_open_12 : ino mX5_open 12 = some (.putfield 35, 15) := by decide +kernel
theorem eX5_open_15 : ino mX5_open 15 = some (.aload_n 0, 16) := by decide +kernel
theorem eX5_open_16 : ino mX5_open 16 = some (.iconst 0, 17) := by decide +kernel
theorem eX5_open_17 : ino mX5_open 17 = some (.putfield 38, 20) := by decide +kernel
theorem eX5_open_20 : ino mX5_open 20 = some (.aload_n 0, 21) := by decide +kernel
theorem eX5_open_21 : ino mX5_open 21 = some (.iload_n 2, 22) := by decide +kernel
theorem eX5_open_22 : ino mX5_open 22 = some (.iload_n 3, 23) := by decide +kernel
theorem eX5_open_23 : ino mX5_open 23 = some (.if_icmp .le 7, 30) := by decide +kernel
theorem eX5_open_26 : ino mX5_open 26 = some (.iconst 1, 27) := by decide +kernel
theorem eX5_open_27 : ino mX5_open 27 = some (.goto 4, 31) := by decide +kernel
theorem eX5_open_30 : ino mX5_open 30 = some (.iconst 0, 31) := by decide +kernel
theorem eX5_open_31 : ino mX5_open 31 = some (.putfield 41, 34) := by decide +kernel
theorem eX5_open_34 : ino mX5_open 34 = some (.iload_n 2, 35) := by decide +kernel
theorem eX5_open_35 : ino mX5_open 35 = some (.iload_n 3, 36) := by decide +kernel
theorem eX5_open_36 : ino mX5_open 36 = some (.invokestatic 45, 39) := by decide +kernel
theorem eX5_open_39 : ino mX5_open 39 = some (.istore 4, 41) := by decide +kernel
theorem eX5_open_41 : ino mX5_open 41 = some (.iconst 0, 42) := by decide +kernel
theorem eX5_open_42 : ino mX5_open 42 = some (.istore 5, 44) := by decide +kernel
theorem eX5_open_44 : ino mX5_open 44 = some (.iconst 0, 45) := by decide +kernel
theorem eX5_open_45 : ino mX5_open 45 = some (.istore 6, 47) := by decide +kernel
theorem eX5_open_47 : ino mX5_open 47 = some (.iload 6, 49) := by decide +kernel
theorem eX5_open_49 : ino mX5_open 49 = some (.iload 4, 51) := by decide +kernel
theorem eX5_open_51 : ino mX5_open 51 = some (.if_icmp .ge 95, 146) := by decide +kernel
theorem eX5_open_54 : ino mX5_open 54 = some (.iload 5, 56) := by decide +kernel
theorem eX5_open_56 : ino mX5_open 56 = some (.iload 4, 58) := by decide +kernel
theorem eX5_open_58 : ino mX5_open 58 = some (.if_icmp .ge 88, 146) := by decide +kernel
theorem eX5_open_61 : ino mX5_open 61 = some (.aload_n 1, 62) := by decide +kernel
theorem eX5_open_62 : ino mX5_open 62 = some (.iload 5, 64) := by decide +kernel
theorem eX5_open_64 : ino mX5_open 64 = some (.iaload, 65) := by decide +kernel
theorem eX5_open_65 : ino mX5_open 65 = some (.invokestatic 51, 68) := by decide +kernel
theorem eX5_open_68 : ino mX5_open 68 = some (.ifCond .eq 9, 77) := by decide +kernel
theorem eX5_open_71 : ino mX5_open 71 = some (.iinc 5 1, 74) := by decide +kernel
theorem eX5_open_74 : ino mX5_open 74 = some (.goto 66, 140) := by decide +kernel
theorem eX5_open_77 : ino mX5_open 77 = some (.aload_n 1, 78) := by decide +kernel
theorem eX5_open_78 : ino mX5_open 78 = some (.iload 5, 80) := by decide +kernel
theorem eX5_open_80 : ino mX5_open 80 = some (.iaload, 81) := by decide +kernel
theorem eX5_open_81 : ino mX5_open 81 = some (.invokestatic 55, 84) := by decide +kernel
theorem eX5_open_84 : ino mX5_open 84 = some (.ifCond .ne 13, 97) := by decide +kernel
theorem eX5_open_87 : ino mX5_open 87 = some (.aload_n 1, 88) := by decide +kernel
theorem eX5_open_88 : ino mX5_open 88 = some (.iload 5, 90) := by decide +kernel
theorem eX5_open_90 : ino mX5_open 90 = some (.iaload, 91) := by decide +kernel
theorem eX5_open_91 : ino mX5_open 91 = some (.invokestatic 58, 94) := by decide +kernel
theorem eX5_open_94 : ino mX5_open 94 = some (.ifCond .eq 16, 110) := by decide +kernel
theorem eX5_open_97 : ino mX5_open 97 = some (.aload_n 0, 98) := by decide +kernel
theorem eX5_open_98 : ino mX5_open 98 = some (.aload_n 1, 99) := by decide +kernel
theorem eX5_open_99 : ino mX5_open 99 = some (.iload 5, 101) := by decide +kernel
theorem eX5_open_101 : ino mX5_open 101 = some (.iload_n 2, 102) := by decide +kernel
theorem eX5_open_102 : ino mX5_open 102 = some (.invokevirtual 61, 105) := by decide +kernel
theorem eX5_open_105 : ino mX5_open 105 = some (.istore 5, 107) := by decide +kernel
theorem eX5_open_107 : ino mX5_open 107 = some (.goto 33, 140) := by decide +kernel
theorem eX5_open_110 : ino mX5_open 110 = some (.aload_n 0, 111) := by decide +kernel
theorem eX5_open_111 : ino mX5_open 111 = some (.aload_n 1, 112) := by decide +kernel
theorem eX5_open_112 : ino mX5_open 112 = some (.iload 5, 114) := by decide +kernel
theorem eX5_open_114 : ino mX5_open 114 = some (.iaload, 115) := by decide +kernel
theorem eX5_open_115 : ino mX5_open 115 = some (.invokestatic 65, 118) := by decide +kernel
theorem eX5_open_118 : ino mX5_open 118 = some (.ifCond .eq 7, 125) := by decide +kernel
theorem eX5_open_121 : ino mX5_open 121 = some (.iconst 4, 122) := by decide +kernel
theorem eX5_open_122 : ino mX5_open 122 = some (.goto 4, 126) := by decide +kernel
theorem eX5_open_125 : ino mX5_open 125 = some (.iconst 5, 126) := by decide +kernel
theorem eX5_open_126 : ino mX5_open 126 = some (.iload 5, 128) := by decide +kernel
theorem eX5_open_128 : ino mX5_open 128 = some (.aload_n 1, 129) := by decide +kernel
theorem eX5_open_129 : ino mX5_open 129 = some (.iload 5, 131) := by decide +kernel
theorem eX5_open_131 : ino mX5_open 131 = some (.iaload, 132) := by decide +kernel
theorem eX5_open_132 : ino mX5_open 132 = some (.i2l, 133) := by decide +kernel
theorem eX5_open_133 : ino mX5_open 133 = some (.aconst_null, 134) := by decide +kernel
theorem eX5_open_134 : ino mX5_open 134 = some (.invokevirtual 68, 137) := by decide +kernel
theorem eX5_open_137 : ino mX5_open 137 = some (.iinc 5 1, 140) := by decide +kernel
theorem eX5_open_140 : ino mX5_open 140 = some (.iinc 6 1, 143) := by decide +kernel
theorem eX5_open_143 : ino mX5_open 143 = some (.goto (-96), 47) := by decide +kernel
theorem eX5_open_146 : ino mX5_open 146 = some (.aload_n 0, 147) := by decide +kernel
theorem eX5_open_147 : ino mX5_open 147 = some (.iconst 0, 148) := by decide +kernel
theorem eX5_open_148 : ino mX5_open 148 = some (.iload 4, 150) := by decide +kernel
theorem eX5_open_150 : ino mX5_open 150 = some (.lconst 0, 151) := by decide +kernel
theorem eX5_open_151 : ino mX5_open 151 = some (.aconst_null, 152) := by decide +kernel
theorem eX5_open_152 : ino mX5_open 152 = some (.invokevirtual 68, 155) := by decide +kernel
theorem eX5_open_155 : ino mX5_open 155 = some (.return_, 156) := by decide +kernel
theorem eX5_scanRun_0 : ino mX5_scanRun 0 = some (.iconst 0, 1) := by decide +kernel
theorem eX5_scanRun_1 : ino mX5_scanRun 1 = some (.istore 4, 3) := by decide +kernel
theorem eX5_scanRun_3 : ino mX5_scanRun 3 = some (.iconst 0, 4) := by decide +kernel
theorem eX5_scanRun_4 : ino mX5_scanRun 4 = some (.istore 5, 6) := by decide +kernel
theorem eX5_scanRun_6 : ino mX5_scanRun 6 = some (.lconst 0, 7) := by decide +kernel
theorem eX5_scanRun_7 : ino mX5_scanRun 7 = some (.lstore 6, 9) := by decide +kernel
theorem eX5_scanRun_9 : ino mX5_scanRun 9 = some (.iconst 0, 10) := by decide +kernel
theorem eX5_scanRun_10 : ino mX5_scanRun 10 = some (.istore 8, 12) := by decide +kernel
theorem eX5_scanRun_12 : ino mX5_scanRun 12 = some (.iload_n 2, 13) := by decide +kernel
theorem eX5_scanRun_13 : ino mX5_scanRun 13 = some (.istore 9, 15) := by decide +kernel
theorem eX5_scanRun_15 : ino mX5_scanRun 15 = some (.iload 9, 17) := by decide +kernel
theorem eX5_scanRun_17 : ino mX5_scanRun 17 = some (.iload_n 3, 18) := by decide +kernel
theorem eX5_scanRun_18 : ino mX5_scanRun 18 = some (.if_icmp .ge 76, 94) := by decide +kernel
theorem eX5_scanRun_21 : ino mX5_scanRun 21 = some (.aload_n 1, 22) := by decide +kernel
theorem eX5_scanRun_22 : ino mX5_scanRun 22 = some (.iload 9, 24) := by decide +kernel
theorem eX5_scanRun_24 : ino mX5_scanRun 24 = some (.iaload, 25) := by decide +kernel
theorem eX5_scanRun_25 : ino mX5_scanRun 25 = some (.invokestatic 55, 28) := by decide +kernel
theorem eX5_scanRun_28 : ino mX5_scanRun 28 = some (.ifCond .ne 13, 41) := by decide +kernel
theorem eX5_scanRun_31 : ino mX5_scanRun 31 = some (.aload_n 1, 32) := by decide +kernel
theorem eX5_scanRun_32 : ino mX5_scanRun 32 = some (.iload 9, 34) := by decide +kernel
theorem eX5_scanRun_34 : ino mX5_scanRun 34 = some (.iaload, 35) := by decide +kernel
theorem eX5_scanRun_35 : ino mX5_scanRun 35 = some (.invokestatic 58, 38) := by decide +kernel
theorem eX5_scanRun_38 : ino mX5_scanRun 38 = some (.ifCond .eq 56, 94) := by decide +kernel
theorem eX5_scanRun_41 : ino mX5_scanRun 41 = some (.aload_n 1, 42) := by decide +kernel
theorem eX5_scanRun_42 : ino mX5_scanRun 42 = some (.iload 9, 44) := by decide +kernel
theorem eX5_scanRun_44 : ino mX5_scanRun 44 = some (.iaload, 45) := by decide +kernel
theorem eX5_scanRun_45 : ino mX5_scanRun 45 = some (.invokestatic 55, 48) := by decide +kernel
theorem eX5_scanRun_48 : ino mX5_scanRun 48 = some (.ifCond .eq 22, 70) := by decide +kernel
theorem eX5_scanRun_51 : ino mX5_scanRun 51 = some (.iinc 4 1, 54) := by decide +kernel
theorem eX5_scanRun_54 : ino mX5_scanRun 54 = some (.lload 6, 56) := by decide +kernel
theorem eX5_scanRun_56 : ino mX5_scanRun 56 = some (.bipush 8, 58) := by decide +kernel
theorem eX5_scanRun_58 : ino mX5_scanRun 58 = some (.lshl, 59) := by decide +kernel
theorem eX5_scanRun_59 : ino mX5_scanRun 59 = some (.aload_n 1, 60) := by decide +kernel
theorem eX5_scanRun_60 : ino mX5_scanRun 60 = some (.iload 9, 62) := by decide +kernel
theorem eX5_scanRun_62 : ino mX5_scanRun 62 = some (.iaload, 63) := by decide +kernel
theorem eX5_scanRun_63 : ino mX5_scanRun 63 = some (.i2l, 64) := by decide +kernel
theorem eX5_scanRun_64 : ino mX5_scanRun 64 = some (.lor, 65) := by decide +kernel
theorem eX5_scanRun_65 : ino mX5_scanRun 65 = some (.lstore 6, 67) := by decide +kernel
theorem eX5_scanRun_67 : ino mX5_scanRun 67 = some (.goto 21, 88) := by decide +kernel
theorem eX5_scanRun_70 : ino mX5_scanRun 70 = some (.iinc 5 1, 73) := by decide +kernel
theorem eX5_scanRun_73 : ino mX5_scanRun 73 = some (.iload 8, 75) := by decide +kernel
theorem eX5_scanRun_75 : ino mX5_scanRun 75 = some (.bipush 10, 77) := by decide +kernel
theorem eX5_scanRun_77 : ino mX5_scanRun 77 = some (.imul, 78) := by decide +kernel
theorem eX5_scanRun_78 : ino mX5_scanRun 78 = some (.aload_n 1, 79) := by decide +kernel
theorem eX5_scanRun_79 : ino mX5_scanRun 79 = some (.iload 9, 81) := by decide +kernel
theorem eX5_scanRun_81 : ino mX5_scanRun 81 = some (.iaload, 82) := by decide +kernel
theorem eX5_scanRun_82 : ino mX5_scanRun 82 = some (.bipush 48, 84) := by decide +kernel
theorem eX5_scanRun_84 : ino mX5_scanRun 84 = some (.isub, 85) := by decide +kernel
theorem eX5_scanRun_85 : ino mX5_scanRun 85 = some (.iadd, 86) := by decide +kernel
theorem eX5_scanRun_86 : ino mX5_scanRun 86 = some (.istore 8, 88) := by decide +kernel
theorem eX5_scanRun_88 : ino mX5_scanRun 88 = some (.iinc 9 1, 91) := by decide +kernel
theorem eX5_scanRun_91 : ino mX5_scanRun 91 = some (.goto (-76), 15) := by decide +kernel
theorem eX5_scanRun_94 : ino mX5_scanRun 94 = some (.iload 5, 96) := by decide +kernel
theorem eX5_scanRun_96 : ino mX5_scanRun 96 = some (.ifCond .ne 39, 135) := by decide +kernel
theorem eX5_scanRun_99 : ino mX5_scanRun 99 = some (.iload 4, 101) := by decide +kernel
theorem eX5_scanRun_101 : ino mX5_scanRun 101 = some (.bipush 7, 103) := by decide +kernel
theorem eX5_scanRun_103 : ino mX5_scanRun 103 = some (.if_icmp .gt 32, 135) := by decide +kernel
theorem eX5_scanRun_106 : ino mX5_scanRun 106 = some (.lload 6, 108) := by decide +kernel
theorem eX5_scanRun_108 : ino mX5_scanRun 108 = some (.invokestatic 72, 111) := by decide +kernel
theorem eX5_scanRun_111 : ino mX5_scanRun 111 = some (.astore 10, 113) := by decide +kernel
theorem eX5_scanRun_113 : ino mX5_scanRun 113 = some (.aload_n 0, 114) := by decide +kernel
theorem eX5_scanRun_114 : ino mX5_scanRun 114 = some (.aload 10, 116) := by decide +kernel
theorem eX5_scanRun_116 : ino mX5_scanRun 116 = some (.ifnonnull 7, 123) := by decide +kernel
theorem eX5_scanRun_119 : ino mX5_scanRun 119 = some (.iconst 2, 120) := by decide +kernel
theorem eX5_scanRun_120 : ino mX5_scanRun 120 = some (.goto 4, 124) := by decide +kernel
theorem eX5_scanRun_123 : ino mX5_scanRun 123 = some (.iconst 1, 124) := by decide +kernel
theorem eX5_scanRun_124 : ino mX5_scanRun 124 = some (.iload_n 2, 125) := by decide +kernel
theorem eX5_scanRun_125 : ino mX5_scanRun 125 = some (.lload 6, 127) := by decide +kernel
theorem eX5_scanRun_127 : ino mX5_scanRun 127 = some (.aload 10, 129) := by decide +kernel
theorem eX5_scanRun_129 : ino mX5_scanRun 129 = some (.invokevirtual 68, 132) := by decide +kernel
theorem eX5_scanRun_132 : ino mX5_scanRun 132 = some (.goto 35, 167) := by decide +kernel
theorem eX5_scanRun_135 : ino mX5_scanRun 135 = some (.iload 4, 137) := by decide +kernel
theorem eX5_scanRun_137 : ino mX5_scanRun 137 = some (.ifCond .ne 22, 159) := by decide +kernel
theorem eX5_scanRun_140 : ino mX5_scanRun 140 = some (.iload 5, 142) := by decide +kernel
theorem eX5_scanRun_142 : ino mX5_scanRun 142 = some (.iconst 3, 143) := by decide +kernel
theorem eX5_scanRun_143 : ino mX5_scanRun 143 = some (.if_icmp .gt 16, 159) := by decide +kernel
theorem eX5_scanRun_146 : ino mX5_scanRun 146 = some (.aload_n 0, 147) := by decide +kernel
theorem eX5_scanRun_147 : ino mX5_scanRun 147 = some (.iconst 3, 148) := by decide +kernel
theorem eX5_scanRun_148 : ino mX5_scanRun 148 = some (.iload_n 2, 149) := by decide +kernel
theorem eX5_scanRun_149 : ino mX5_scanRun 149 = some (.iload 8, 151) := by decide +kernel
theorem eX5_scanRun_151 : ino mX5_scanRun 151 = some (.i2l, 152) := by decide +kernel
theorem eX5_scanRun_152 : ino mX5_scanRun 152 = some (.aconst_null, 153) := by decide +kernel
theorem eX5_scanRun_153 : ino mX5_scanRun 153 = some (.invokevirtual 68, 156) := by decide +kernel
theorem eX5_scanRun_156 : ino mX5_scanRun 156 = some (.goto 11, 167) := by decide +kernel
theorem eX5_scanRun_159 : ino mX5_scanRun 159 = some (.aload_n 0, 160) := by decide +kernel
theorem eX5_scanRun_160 : ino mX5_scanRun 160 = some (.iconst 5, 161) := by decide +kernel
theorem eX5_scanRun_161 : ino mX5_scanRun 161 = some (.iload_n 2, 162) := by decide +kernel
theorem eX5_scanRun_162 : ino mX5_scanRun 162 = some (.lconst 0, 163) := by decide +kernel
theorem eX5_scanRun_163 : ino mX5_scanRun 163 = some (.aconst_null, 164) := by decide +kernel
theorem eX5_scanRun_164 : ino mX5_scanRun 164 = some (.invokevirtual 68, 167) := by decide +kernel
theorem eX5_scanRun_167 : ino mX5_scanRun 167 = some (.iload 9, 169) := by decide +kernel
theorem eX5_scanRun_169 : ino mX5_scanRun 169 = some (.ireturn, 170) := by decide +kernel
theorem eX5_add_0 : ino mX5_add 0 = some (.aload_n 0, 1) := by decide +kernel
theorem eX5_add_1 : ino mX5_add 1 = some (.getfield 28, 4) := by decide +kernel
theorem eX5_add_4 : ino mX5_add 4 = some (.aload_n 0, 5) := by decide +kernel
theorem eX5_add_5 : ino mX5_add 5 = some (.getfield 9, 8) := by decide +kernel
theorem eX5_add_8 : ino mX5_add 8 = some (.arraylength, 9) := by decide +kernel
theorem eX5_add_9 : ino mX5_add 9 = some (.if_icmp .ge 54, 63) := by decide +kernel
theorem eX5_add_12 : ino mX5_add 12 = some (.aload_n 0, 13) := by decide +kernel
theorem eX5_add_13 : ino mX5_add 13 = some (.getfield 9, 16) := by decide +kernel
theorem eX5_add_16 : ino mX5_add 16 = some (.aload_n 0, 17) := by decide +kernel
theorem eX5_add_17 : ino mX5_add 17 = some (.getfield 28, 20) := by decide +kernel
theorem eX5_add_20 : ino mX5_add 20 = some (.iload_n 1, 21) := by decide +kernel
theorem eX5_add_21 : ino mX5_add 21 = some (.iastore, 22) := by decide +kernel
theorem eX5_add_22 : ino mX5_add 22 = some (.aload_n 0, 23) := by decide +kernel
theorem eX5_add_23 : ino mX5_add 23 = some (.getfield 15, 26) := by decide +kernel
theorem eX5_add_26 : ino mX5_add 26 = some (.aload_n 0, 27) := by decide +kernel
theorem eX5_add_27 : ino mX5_add 27 = some (.getfield 28, 30) := by decide +kernel
theorem eX5_add_30 : ino mX5_add 30 = some (.iload_n 2, 31) := by decide +kernel
theorem eX5_add_31 : ino mX5_add 31 = some (.iastore, 32) := by decide +kernel
theorem eX5_add_32 : ino mX5_add 32 = some (.aload_n 0, 33) := by decide +kernel
theorem eX5_add_33 : ino mX5_add 33 = some (.getfield 18, 36) := by decide +kernel
theorem eX5_add_36 : ino mX5_add 36 = some (.aload_n 0, 37) := by decide +kernel
theorem eX5_add_37 : ino mX5_add 37 = some (.getfield 28, 40) := by decide +kernel
theorem eX5_add_40 : ino mX5_add 40 = some (.lload_n 3, 41) := by decide +kernel
theorem eX5_add_41 : ino mX5_add 41 = some (.lastore, 42) := by decide +kernel
theorem eX5_add_42 : ino mX5_add 42 = some (.aload_n 0, 43) := by decide +kernel
theorem eX5_add_43 : ino mX5_add 43 = some (.getfield 24, 46) := by decide +kernel
theorem eX5_add_46 : ino mX5_add 46 = some (.aload_n 0, 47) := by decide +kernel
theorem eX5_add_47 : ino mX5_add 47 = some (.getfield 28, 50) := by decide +kernel
theorem eX5_add_50 : ino mX5_add 50 = some (.aload 5, 52) := by decide +kernel
theorem eX5_add_52 : ino mX5_add 52 = some (.aastore, 53) := by decide +kernel
theorem eX5_add_53 : ino mX5_add 53 = some (.aload_n 0, 54) := by decide +kernel
theorem eX5_add_54 : ino mX5_add 54 = some (.dup, 55) := by decide +kernel
theorem eX5_add_55 : ino mX5_add 55 = some (.getfield 28, 58) := by decide +kernel
theorem eX5_add_58 : ino mX5_add 58 = some (.iconst 1, 59) := by decide +kernel
theorem eX5_add_59 : ino mX5_add 59 = some (.iadd, 60) := by decide +kernel
theorem eX5_add_60 : ino mX5_add 60 = some (.putfield 28, 63) := by decide +kernel
theorem eX5_add_63 : ino mX5_add 63 = some (.return_, 64) := by decide +kernel
theorem eX5_isBlank_0 : ino mX5_isBlank 0 = some (.iload_n 0, 1) := by decide +kernel
theorem eX5_isBlank_1 : ino mX5_isBlank 1 = some (.bipush 32, 3) := by decide +kernel
theorem eX5_isBlank_3 : ino mX5_isBlank 3 = some (.if_icmp .eq 9, 12) := by decide +kernel
theorem eX5_isBlank_6 : ino mX5_isBlank 6 = some (.iload_n 0, 7) := by decide +kernel
theorem eX5_isBlank_7 : ino mX5_isBlank 7 = some (.bipush 10, 9) := by decide +kernel
theorem eX5_isBlank_9 : ino mX5_isBlank 9 = some (.if_icmp .ne 7, 16) := by decide +kernel
theorem eX5_isBlank_12 : ino mX5_isBlank 12 = some (.iconst 1, 13) := by decide +kernel
theorem eX5_isBlank_13 : ino mX5_isBlank 13 = some (.goto 4, 17) := by decide +kernel
theorem eX5_isBlank_16 : ino mX5_isBlank 16 = some (.iconst 0, 17) := by decide +kernel
theorem eX5_isBlank_17 : ino mX5_isBlank 17 = some (.ireturn, 18) := by decide +kernel
theorem eX5_isLetter_0 : ino mX5_isLetter 0 = some (.iload_n 0, 1) := by decide +kernel
theorem eX5_isLetter_1 : ino mX5_isLetter 1 = some (.bipush 97, 3) := by decide +kernel
theorem eX5_isLetter_3 : ino mX5_isLetter 3 = some (.if_icmp .lt 13, 16) := by decide +kernel
theorem eX5_isLetter_6 : ino mX5_isLetter 6 = some (.iload_n 0, 7) := by decide +kernel
theorem eX5_isLetter_7 : ino mX5_isLetter 7 = some (.bipush 122, 9) := by decide +kernel
theorem eX5_isLetter_9 : ino mX5_isLetter 9 = some (.if_icmp .gt 7, 16) := by decide +kernel
theorem eX5_isLetter_12 : ino mX5_isLetter 12 = some (.iconst 1, 13) := by decide +kernel
theorem eX5_isLetter_13 : ino mX5_isLetter 13 = some (.goto 4, 17) := by decide +kernel
theorem eX5_isLetter_16 : ino mX5_isLetter 16 = some (.iconst 0, 17) := by decide +kernel
theorem eX5_isLetter_17 : ino mX5_isLetter 17 = some (.ireturn, 18) := by decide +kernel
theorem eX5_isDigit_0 : ino mX5_isDigit 0 = some (.iload_n 0, 1) := by decide +kernel
theorem eX5_isDigit_1 : ino mX5_isDigit 1 = some (.bipush 48, 3) := by decide +kernel
theorem eX5_isDigit_3 : ino mX5_isDigit 3 = some (.if_icmp .lt 13, 16) := by decide +kernel
theorem eX5_isDigit_6 : ino mX5_isDigit 6 = some (.iload_n 0, 7) := by decide +kernel
theorem eX5_isDigit_7 : ino mX5_isDigit 7 = some (.bipush 57, 9) := by decide +kernel
theorem eX5_isDigit_9 : ino mX5_isDigit 9 = some (.if_icmp .gt 7, 16) := by decide +kernel
theorem eX5_isDigit_12 : ino mX5_isDigit 12 = some (.iconst 1, 13) := by decide +kernel
theorem eX5_isDigit_13 : ino mX5_isDigit 13 = some (.goto 4, 17) := by decide +kernel
theorem eX5_isDigit_16 : ino mX5_isDigit 16 = some (.iconst 0, 17) := by decide +kernel
theorem eX5_isDigit_17 : ino mX5_isDigit 17 = some (.ireturn, 18) := by decide +kernel
theorem eX5_isSign_0 : ino mX5_isSign 0 = some (.iload_n 0, 1) := by decide +kernel
theorem eX5_isSign_1 : ino mX5_isSign 1 = some (.bipush 59, 3) := by decide +kernel
theorem eX5_isSign_3 : ino mX5_isSign 3 = some (.if_icmp .eq 33, 36) := by decide +kernel
theorem eX5_isSign_6 : ino mX5_isSign 6 = some (.iload_n 0, 7) := by decide +kernel
theorem eX5_isSign_7 : ino mX5_isSign 7 = some (.bipush 60, 9) := by decide +kernel
theorem eX5_isSign_9 : ino mX5_isSign 9 = some (.if_icmp .eq 27, 36) := by decide +kernel
theorem eX5_isSign_12 : ino mX5_isSign 12 = some (.iload_n 0, 13) := by decide +kernel
theorem eX5_isSign_13 : ino mX5_isSign 13 = some (.bipush 61, 15) := by decide +kernel
theorem eX5_isSign_15 : ino mX5_isSign 15 = some (.if_icmp .eq 21, 36) := by decide +kernel
theorem eX5_isSign_18 : ino mX5_isSign 18 = some (.iload_n 0, 19) := by decide +kernel
theorem eX5_isSign_19 : ino mX5_isSign 19 = some (.bipush 62, 21) := by decide +kernel
theorem eX5_isSign_21 : ino mX5_isSign 21 = some (.if_icmp .eq 15, 36) := by decide +kernel
theorem eX5_isSign_24 : ino mX5_isSign 24 = some (.iload_n 0, 25) := by decide +kernel
theorem eX5_isSign_25 : ino mX5_isSign 25 = some (.bipush 40, 27) := by decide +kernel
theorem eX5_isSign_27 : ino mX5_isSign 27 = some (.if_icmp .eq 9, 36) := by decide +kernel
theorem eX5_isSign_30 : ino mX5_isSign 30 = some (.iload_n 0, 31) := by decide +kernel
theorem eX5_isSign_31 : ino mX5_isSign 31 = some (.bipush 41, 33) := by decide +kernel
theorem eX5_isSign_33 : ino mX5_isSign 33 = some (.if_icmp .ne 7, 40) := by decide +kernel
theorem eX5_isSign_36 : ino mX5_isSign 36 = some (.iconst 1, 37) := by decide +kernel
theorem eX5_isSign_37 : ino mX5_isSign 37 = some (.goto 4, 41) := by decide +kernel
theorem eX5_isSign_40 : ino mX5_isSign 40 = some (.iconst 0, 41) := by decide +kernel
theorem eX5_isSign_41 : ino mX5_isSign 41 = some (.ireturn, 42) := by decide +kernel
theorem eX5_failed_0 : ino mX5_failed 0 = some (.aload_n 0, 1) := by decide +kernel
theorem eX5_failed_1 : ino mX5_failed 1 = some (.getfield 35, 4) := by decide +kernel
theorem eX5_failed_4 : ino mX5_failed 4 = some (.ifCond .eq 7, 11) := by decide +kernel
theorem eX5_failed_7 : ino mX5_failed 7 = some (.iconst 1, 8) := by decide +kernel
theorem eX5_failed_8 : ino mX5_failed 8 = some (.goto 4, 12) := by decide +kernel
theorem eX5_failed_11 : ino mX5_failed 11 = some (.iconst 0, 12) := by decide +kernel
theorem eX5_failed_12 : ino mX5_failed 12 = some (.ireturn, 13) := by decide +kernel
theorem eX5_fail_0 : ino mX5_fail 0 = some (.aload_n 0, 1) := by decide +kernel
theorem eX5_fail_1 : ino mX5_fail 1 = some (.getfield 35, 4) := by decide +kernel
theorem eX5_fail_4 : ino mX5_fail 4 = some (.ifCond .ne 21, 25) := by decide +kernel
theorem eX5_fail_7 : ino mX5_fail 7 = some (.aload_n 0, 8) := by decide +kernel
theorem eX5_fail_8 : ino mX5_fail 8 = some (.iload_n 1, 9) := by decide +kernel
theorem eX5_fail_9 : ino mX5_fail 9 = some (.putfield 35, 12) := by decide +kernel
theorem eX5_fail_12 : ino mX5_fail 12 = some (.aload_n 0, 13) := by decide +kernel
theorem eX5_fail_13 : ino mX5_fail 13 = some (.aload_n 0, 14) := by decide +kernel
theorem eX5_fail_14 : ino mX5_fail 14 = some (.getfield 15, 17) := by decide +kernel
theorem eX5_fail_17 : ino mX5_fail 17 = some (.aload_n 0, 18) := by decide +kernel
theorem eX5_fail_18 : ino mX5_fail 18 = some (.getfield 32, 21) := by decide +kernel
theorem eX5_fail_21 : ino mX5_fail 21 = some (.iaload, 22) := by decide +kernel
theorem eX5_fail_22 : ino mX5_fail 22 = some (.putfield 38, 25) := by decide +kernel
theorem eX5_fail_25 : ino mX5_fail 25 = some (.return_, 26) := by decide +kernel
theorem eX5_next_0 : ino mX5_next 0 = some (.aload_n 0, 1) := by decide +kernel
theorem eX5_next_1 : ino mX5_next 1 = some (.getfield 32, 4) := by decide +kernel
theorem eX5_next_4 : ino mX5_next 4 = some (.aload_n 0, 5) := by decide +kernel
theorem eX5_next_5 : ino mX5_next 5 = some (.getfield 28, 8) := by decide +kernel
theorem eX5_next_8 : ino mX5_next 8 = some (.iconst 1, 9) := by decide +kernel
theorem eX5_next_9 : ino mX5_next 9 = some (.isub, 10) := by decide +kernel
theorem eX5_next_10 : ino mX5_next 10 = some (.if_icmp .ge 13, 23) := by decide +kernel
theorem eX5_next_13 : ino mX5_next 13 = some (.aload_n 0, 14) := by decide +kernel
theorem eX5_next_14 : ino mX5_next 14 = some (.dup, 15) := by decide +kernel
theorem eX5_next_15 : ino mX5_next 15 = some (.getfield 32, 18) := by decide +kernel
theorem eX5_next_18 : ino mX5_next 18 = some (.iconst 1, 19) := by decide +kernel
theorem eX5_next_19 : ino mX5_next 19 = some (.iadd, 20) := by decide +kernel
theorem eX5_next_20 : ino mX5_next 20 = some (.putfield 32, 23) := by decide +kernel
theorem eX5_next_23 : ino mX5_next 23 = some (.return_, 24) := by decide +kernel
theorem eX5_atEnd_0 : ino mX5_atEnd 0 = some (.aload_n 0, 1) := by decide +kernel
theorem eX5_atEnd_1 : ino mX5_atEnd 1 = some (.getfield 9, 4) := by decide +kernel
theorem eX5_atEnd_4 : ino mX5_atEnd 4 = some (.aload_n 0, 5) := by decide +kernel
theorem eX5_atEnd_5 : ino mX5_atEnd 5 = some (.getfield 32, 8) := by decide +kernel
theorem eX5_atEnd_8 : ino mX5_atEnd 8 = some (.iaload, 9) := by decide +kernel
theorem eX5_atEnd_9 : ino mX5_atEnd 9 = some (.ifCond .ne 7, 16) := by decide +kernel
theorem eX5_atEnd_12 : ino mX5_atEnd 12 = some (.iconst 1, 13) := by decide +kernel
theorem eX5_atEnd_13 : ino mX5_atEnd 13 = some (.goto 4, 17) := by decide +kernel
theorem eX5_atEnd_16 : ino mX5_atEnd 16 = some (.iconst 0, 17) := by decide +kernel
theorem eX5_atEnd_17 : ino mX5_atEnd 17 = some (.ireturn, 18) := by decide +kernel
theorem eX5_isWord_0 : ino mX5_isWord 0 = some (.aload_n 0, 1) := by decide +kernel
theorem eX5_isWord_1 : ino mX5_isWord 1 = some (.getfield 24, 4) := by decide +kernel
theorem eX5_isWord_4 : ino mX5_isWord 4 = some (.aload_n 0, 5) := by decide +kernel
theorem eX5_isWord_5 : ino mX5_isWord 5 = some (.getfield 32, 8) := by decide +kernel
theorem eX5_isWord_8 : ino mX5_isWord 8 = some (.aaload, 9) := by decide +kernel
theorem eX5_isWord_9 : ino mX5_isWord 9 = some (.aload_n 1, 10) := by decide +kernel
theorem eX5_isWord_10 : ino mX5_isWord 10 = some (.if_acmp .ne 7, 17) := by decide +kernel
theorem eX5_isWord_13 : ino mX5_isWord 13 = some (.iconst 1, 14) := by decide +kernel
theorem eX5_isWord_14 : ino mX5_isWord 14 = some (.goto 4, 18) := by decide +kernel
theorem eX5_isWord_17 : ino mX5_isWord 17 = some (.iconst 0, 18) := by decide +kernel
theorem eX5_isWord_18 : ino mX5_isWord 18 = some (.ireturn, 19) := by decide +kernel
theorem eX5_isSignNow_0 : ino mX5_isSignNow 0 = some (.aload_n 0, 1) := by decide +kernel
theorem eX5_isSignNow_1 : ino mX5_isSignNow 1 = some (.getfield 9, 4) := by decide +kernel
theorem eX5_isSignNow_4 : ino mX5_isSignNow 4 = some (.aload_n 0, 5) := by decide +kernel
theorem eX5_isSignNow_5 : ino mX5_isSignNow 5 = some (.getfield 32, 8) := by decide +kernel
theorem eX5_isSignNow_8 : ino mX5_isSignNow 8 = some (.iaload, 9) := by decide +kernel
theorem eX5_isSignNow_9 : ino mX5_isSignNow 9 = some (.iconst 4, 10) := by decide +kernel
theorem eX5_isSignNow_10 : ino mX5_isSignNow 10 = some (.if_icmp .ne 22, 32) := by decide +kernel
theorem eX5_isSignNow_13 : ino mX5_isSignNow 13 = some (.aload_n 0, 14) := by decide +kernel
theorem eX5_isSignNow_14 : ino mX5_isSignNow 14 = some (.getfield 18, 17) := by decide +kernel
theorem eX5_isSignNow_17 : ino mX5_isSignNow 17 = some (.aload_n 0, 18) := by decide +kernel
theorem eX5_isSignNow_18 : ino mX5_isSignNow 18 = some (.getfield 32, 21) := by decide +kernel
theorem eX5_isSignNow_21 : ino mX5_isSignNow 21 = some (.laload, 22) := by decide +kernel
theorem eX5_isSignNow_22 : ino mX5_isSignNow 22 = some (.iload_n 1, 23) := by decide +kernel
theorem eX5_isSignNow_23 : ino mX5_isSignNow 23 = some (.i2l, 24) := by decide +kernel
theorem eX5_isSignNow_24 : ino mX5_isSignNow 24 = some (.lcmp, 25) := by decide +kernel
theorem eX5_isSignNow_25 : ino mX5_isSignNow 25 = some (.ifCond .ne 7, 32) := by decide +kernel
theorem eX5_isSignNow_28 : ino mX5_isSignNow 28 = some (.iconst 1, 29) := by decide +kernel
theorem eX5_isSignNow_29 : ino mX5_isSignNow 29 = some (.goto 4, 33) := by decide +kernel
theorem eX5_isSignNow_32 : ino mX5_isSignNow 32 = some (.iconst 0, 33) := by decide +kernel
theorem eX5_isSignNow_33 : ino mX5_isSignNow 33 = some (.ireturn, 34) := by decide +kernel
theorem eX5_nameNow_0 : ino mX5_nameNow 0 = some (.aload_n 0, 1) := by decide +kernel
theorem eX5_nameNow_1 : ino mX5_nameNow 1 = some (.getfield 9, 4) := by decide +kernel
theorem eX5_nameNow_4 : ino mX5_nameNow 4 = some (.aload_n 0, 5) := by decide +kernel
theorem eX5_nameNow_5 : ino mX5_nameNow 5 = some (.getfield 32, 8) := by decide +kernel
theorem eX5_nameNow_8 : ino mX5_nameNow 8 = some (.iaload, 9) := by decide +kernel
theorem eX5_nameNow_9 : ino mX5_nameNow 9 = some (.iconst 2, 10) := by decide +kernel
theorem eX5_nameNow_10 : ino mX5_nameNow 10 = some (.if_icmp .ne 15, 25) := by decide +kernel
theorem eX5_nameNow_13 : ino mX5_nameNow 13 = some (.aload_n 0, 14) := by decide +kernel
theorem eX5_nameNow_14 : ino mX5_nameNow 14 = some (.getfield 18, 17) := by decide +kernel
theorem eX5_nameNow_17 : ino mX5_nameNow 17 = some (.aload_n 0, 18) := by decide +kernel
theorem eX5_nameNow_18 : ino mX5_nameNow 18 = some (.getfield 32, 21) := by decide +kernel
theorem eX5_nameNow_21 : ino mX5_nameNow 21 = some (.laload, 22) := by decide +kernel
theorem eX5_nameNow_22 : ino mX5_nameNow 22 = some (.goto 4, 26) := by decide +kernel
theorem eX5_nameNow_25 : ino mX5_nameNow 25 = some (.lconst 0, 26) := by decide +kernel
theorem eX5_nameNow_26 : ino mX5_nameNow 26 = some (.lreturn, 27) := by decide +kernel
theorem eX5_subjectNow_0 : ino mX5_subjectNow 0 = some (.aload_n 0, 1) := by decide +kernel
theorem eX5_subjectNow_1 : ino mX5_subjectNow 1 = some (.getfield 24, 4) := by decide +kernel
theorem eX5_subjectNow_4 : ino mX5_subjectNow 4 = some (.aload_n 0, 5) := by decide +kernel
theorem eX5_subjectNow_5 : ino mX5_subjectNow 5 = some (.getfield 32, 8) := by decide +kernel
theorem eX5_subjectNow_8 : ino mX5_subjectNow 8 = some (.aaload, 9) := by decide +kernel
theorem eX5_subjectNow_9 : ino mX5_subjectNow 9 = some (.astore_n 1, 10) := by decide +kernel
theorem eX5_subjectNow_10 : ino mX5_subjectNow 10 = some (.aload_n 1, 11) := by decide +kernel
theorem eX5_subjectNow_11 : ino mX5_subjectNow 11 = some (.ifnonnull 7, 18) := by decide +kernel
theorem eX5_subjectNow_14 : ino mX5_subjectNow 14 = some (.iconst (-1), 15) := by decide +kernel
theorem eX5_subjectNow_15 : ino mX5_subjectNow 15 = some (.goto 7, 22) := by decide +kernel
theorem eX5_subjectNow_18 : ino mX5_subjectNow 18 = some (.aload_n 1, 19) := by decide +kernel
theorem eX5_subjectNow_19 : ino mX5_subjectNow 19 = some (.getfield 76, 22) := by decide +kernel
theorem eX5_subjectNow_22 : ino mX5_subjectNow 22 = some (.ireturn, 23) := by decide +kernel
theorem eX5_giftNow_0 : ino mX5_giftNow 0 = some (.aload_n 0, 1) := by decide +kernel
theorem eX5_giftNow_1 : ino mX5_giftNow 1 = some (.invokevirtual 79, 4) := by decide +kernel
theorem eX5_giftNow_4 : ino mX5_giftNow 4 = some (.istore_n 1, 5) := by decide +kernel
theorem eX5_giftNow_5 : ino mX5_giftNow 5 = some (.iload_n 1, 6) := by decide +kernel
theorem eX5_giftNow_6 : ino mX5_giftNow 6 = some (.iconst 4, 7) := by decide +kernel
theorem eX5_giftNow_7 : ino mX5_giftNow 7 = some (.if_icmp .ge 7, 14) := by decide +kernel
theorem eX5_giftNow_10 : ino mX5_giftNow 10 = some (.iload_n 1, 11) := by decide +kernel
theorem eX5_giftNow_11 : ino mX5_giftNow 11 = some (.goto 4, 15) := by decide +kernel
theorem eX5_giftNow_14 : ino mX5_giftNow 14 = some (.iconst (-1), 15) := by decide +kernel
theorem eX5_giftNow_15 : ino mX5_giftNow 15 = some (.ireturn, 16) := by decide +kernel
theorem eX5_skipWord_0 : ino mX5_skipWord 0 = some (.aload_n 0, 1) := by decide +kernel
theorem eX5_skipWord_1 : ino mX5_skipWord 1 = some (.invokevirtual 83, 4) := by decide +kernel
theorem eX5_skipWord_4 : ino mX5_skipWord 4 = some (.ifCond .ne 11, 15) := by decide +kernel
theorem eX5_skipWord_7 : ino mX5_skipWord 7 = some (.aload_n 0, 8) := by decide +kernel
theorem eX5_skipWord_8 : ino mX5_skipWord 8 = some (.aload_n 1, 9) := by decide +kernel
theorem eX5_skipWord_9 : ino mX5_skipWord 9 = some (.invokevirtual 87, 12) := by decide +kernel
theorem eX5_skipWord_12 : ino mX5_skipWord 12 = some (.ifCond .ne 5, 17) := by decide +kernel
theorem eX5_skipWord_15 : ino mX5_skipWord 15 = some (.iconst 0, 16) := by decide +kernel
theorem eX5_skipWord_16 : ino mX5_skipWord 16 = some (.ireturn, 17) := by decide +kernel
theorem eX5_skipWord_17 : ino mX5_skipWord 17 = some (.aload_n 0, 18) := by decide +kernel
theorem eX5_skipWord_18 : ino mX5_skipWord 18 = some (.invokevirtual 91, 21) := by decide +kernel
theorem eX5_skipWord_21 : ino mX5_skipWord 21 = some (.iconst 1, 22) := by decide +kernel
theorem eX5_skipWord_22 : ino mX5_skipWord 22 = some (.ireturn, 23) := by decide +kernel
theorem eX5_takeSign_0 : ino mX5_takeSign 0 = some (.aload_n 0, 1) := by decide +kernel
theorem eX5_takeSign_1 : ino mX5_takeSign 1 = some (.invokevirtual 83, 4) := by decide +kernel
theorem eX5_takeSign_4 : ino mX5_takeSign 4 = some (.ifCond .eq 4, 8) := by decide +kernel
theorem eX5_takeSign_7 : ino mX5_takeSign 7 = some (.return_, 8) := by decide +kernel
theorem eX5_takeSign_8 : ino mX5_takeSign 8 = some (.aload_n 0, 9) := by decide +kernel
theorem eX5_takeSign_9 : ino mX5_takeSign 9 = some (.iload_n 1, 10) := by decide +kernel
theorem eX5_takeSign_10 : ino mX5_takeSign 10 = some (.invokevirtual 94, 13) := by decide +kernel
theorem eX5_takeSign_13 : ino mX5_takeSign 13 = some (.ifCond .eq 10, 23) := by decide +kernel
theorem eX5_takeSign_16 : ino mX5_takeSign 16 = some (.aload_n 0, 17) := by decide +kernel
theorem eX5_takeSign_17 : ino mX5_takeSign 17 = some (.invokevirtual 91, 20) := by decide +kernel
theorem eX5_takeSign_20 : ino mX5_takeSign 20 = some (.goto 8, 28) := by decide +kernel
theorem eX5_takeSign_23 : ino mX5_takeSign 23 = some (.aload_n 0, 24) := by decide +kernel
theorem eX5_takeSign_24 : ino mX5_takeSign 24 = some (.iconst 1, 25) := by decide +kernel
theorem eX5_takeSign_25 : ino mX5_takeSign 25 = some (.invokevirtual 98, 28) := by decide +kernel
theorem eX5_takeSign_28 : ino mX5_takeSign 28 = some (.return_, 29) := by decide +kernel
theorem eX5_takeComparison_0 : ino mX5_takeComparison 0 = some (.aload_n 0, 1) := by decide +kernel
theorem eX5_takeComparison_1 : ino mX5_takeComparison 1 = some (.invokevirtual 83, 4) := by decide +kernel
theorem eX5_takeComparison_4 : ino mX5_takeComparison 4 = some (.ifCond .eq 5, 9) := by decide +kernel
theorem eX5_takeComparison_7 : ino mX5_takeComparison 7 = some (.iconst (-1), 8) := by decide +kernel
theorem eX5_takeComparison_8 : ino mX5_takeComparison 8 = some (.ireturn, 9) := by decide +kernel
theorem eX5_takeComparison_9 : ino mX5_takeComparison 9 = some (.aload_n 0, 10) := by decide +kernel
theorem eX5_takeComparison_10 : ino mX5_takeComparison 10 = some (.getfield 18, 13) := by decide +kernel
theorem eX5_takeComparison_13 : ino mX5_takeComparison 13 = some (.aload_n 0, 14) := by decide +kernel
theorem eX5_takeComparison_14 : ino mX5_takeComparison 14 = some (.getfield 32, 17) := by decide +kernel
theorem eX5_takeComparison_17 : ino mX5_takeComparison 17 = some (.laload, 18) := by decide +kernel
theorem eX5_takeComparison_18 : ino mX5_takeComparison 18 = some (.l2i, 19) := by decide +kernel
theorem eX5_takeComparison_19 : ino mX5_takeComparison 19 = some (.istore_n 1, 20) := by decide +kernel
theorem eX5_takeComparison_20 : ino mX5_takeComparison 20 = some (.aload_n 0, 21) := by decide +kernel
theorem eX5_takeComparison_21 : ino mX5_takeComparison 21 = some (.bipush 60, 23) := by decide +kernel
theorem eX5_takeComparison_23 : ino mX5_takeComparison 23 = some (.invokevirtual 94, 26) := by decide +kernel
theorem eX5_takeComparison_26 : ino mX5_takeComparison 26 = some (.ifCond .ne 21, 47) := by decide +kernel
theorem eX5_takeComparison_29 : ino mX5_takeComparison 29 = some (.aload_n 0, 30) := by decide +kernel
theorem eX5_takeComparison_30 : ino mX5_takeComparison 30 = some (.bipush 61, 32) := by decide +kernel
theorem eX5_takeComparison_32 : ino mX5_takeComparison 32 = some (.invokevirtual 94, 35) := by decide +kernel
theorem eX5_takeComparison_35 : ino mX5_takeComparison 35 = some (.ifCond .ne 12, 47) := by decide +kernel
theorem eX5_takeComparison_38 : ino mX5_takeComparison 38 = some (.aload_n 0, 39) := by decide +kernel
theorem eX5_takeComparison_39 : ino mX5_takeComparison 39 = some (.bipush 62, 41) := by decide +kernel
theorem eX5_takeComparison_41 : ino mX5_takeComparison 41 = some (.invokevirtual 94, 44) := by decide +kernel
theorem eX5_takeComparison_44 : ino mX5_takeComparison 44 = some (.ifCond .eq 10, 54) := by decide +kernel
theorem eX5_takeComparison_47 : ino mX5_takeComparison 47 = some (.aload_n 0, 48) := by decide +kernel
theorem eX5_takeComparison_48 : ino mX5_takeComparison 48 = some (.invokevirtual 91, 51) := by decide +kernel
theorem eX5_takeComparison_51 : ino mX5_takeComparison 51 = some (.goto 8, 59) := by decide +kernel
theorem eX5_takeComparison_54 : ino mX5_takeComparison 54 = some (.aload_n 0, 55) := by decide +kernel
theorem eX5_takeComparison_55 : ino mX5_takeComparison 55 = some (.iconst 1, 56) := by decide +kernel
theorem eX5_takeComparison_56 : ino mX5_takeComparison 56 = some (.invokevirtual 98, 59) := by decide +kernel
theorem eX5_takeComparison_59 : ino mX5_takeComparison 59 = some (.iload_n 1, 60) := by decide +kernel
theorem eX5_takeComparison_60 : ino mX5_takeComparison 60 = some (.ireturn, 61) := by decide +kernel
theorem eX5_takeNumber_0 : ino mX5_takeNumber 0 = some (.aload_n 0, 1) := by decide +kernel
theorem eX5_takeNumber_1 : ino mX5_takeNumber 1 = some (.invokevirtual 83, 4) := by decide +kernel
theorem eX5_takeNumber_4 : ino mX5_takeNumber 4 = some (.ifCond .eq 5, 9) := by decide +kernel
theorem eX5_takeNumber_7 : ino mX5_takeNumber 7 = some (.iconst (-1), 8) := by decide +kernel
theorem eX5_takeNumber_8 : ino mX5_takeNumber 8 = some (.ireturn, 9) := by decide +kernel
theorem eX5_takeNumber_9 : ino mX5_takeNumber 9 = some (.aload_n 0, 10) := by decide +kernel
theorem eX5_takeNumber_10 : ino mX5_takeNumber 10 = some (.getfield 9, 13) := by decide +kernel
theorem eX5_takeNumber_13 : ino mX5_takeNumber 13 = some (.aload_n 0, 14) := by decide +kernel
theorem eX5_takeNumber_14 : ino mX5_takeNumber 14 = some (.getfield 32, 17) := by decide +kernel
theorem eX5_takeNumber_17 : ino mX5_takeNumber 17 = some (.iaload, 18) := by decide +kernel
theorem eX5_takeNumber_18 : ino mX5_takeNumber 18 = some (.iconst 3, 19) := by decide +kernel
theorem eX5_takeNumber_19 : ino mX5_takeNumber 19 = some (.if_icmp .eq 10, 29) := by decide +kernel
theorem eX5_takeNumber_22 : ino mX5_takeNumber 22 = some (.aload_n 0, 23) := by decide +kernel
theorem eX5_takeNumber_23 : ino mX5_takeNumber 23 = some (.iconst 1, 24) := by decide +kernel
theorem eX5_takeNumber_24 : ino mX5_takeNumber 24 = some (.invokevirtual 98, 27) := by decide +kernel
theorem eX5_takeNumber_27 : ino mX5_takeNumber 27 = some (.iconst (-1), 28) := by decide +kernel
theorem eX5_takeNumber_28 : ino mX5_takeNumber 28 = some (.ireturn, 29) := by decide +kernel
theorem eX5_takeNumber_29 : ino mX5_takeNumber 29 = some (.aload_n 0, 30) := by decide +kernel
theorem eX5_takeNumber_30 : ino mX5_takeNumber 30 = some (.getfield 18, 33) := by decide +kernel
theorem eX5_takeNumber_33 : ino mX5_takeNumber 33 = some (.aload_n 0, 34) := by decide +kernel
theorem eX5_takeNumber_34 : ino mX5_takeNumber 34 = some (.getfield 32, 37) := by decide +kernel
theorem eX5_takeNumber_37 : ino mX5_takeNumber 37 = some (.laload, 38) := by decide +kernel
theorem eX5_takeNumber_38 : ino mX5_takeNumber 38 = some (.l2i, 39) := by decide +kernel
theorem eX5_takeNumber_39 : ino mX5_takeNumber 39 = some (.istore_n 3, 40) := by decide +kernel
theorem eX5_takeNumber_40 : ino mX5_takeNumber 40 = some (.iload_n 3, 41) := by decide +kernel
theorem eX5_takeNumber_41 : ino mX5_takeNumber 41 = some (.iload_n 1, 42) := by decide +kernel
theorem eX5_takeNumber_42 : ino mX5_takeNumber 42 = some (.if_icmp .lt 8, 50) := by decide +kernel
theorem eX5_takeNumber_45 : ino mX5_takeNumber 45 = some (.iload_n 3, 46) := by decide +kernel
theorem eX5_takeNumber_46 : ino mX5_takeNumber 46 = some (.iload_n 2, 47) := by decide +kernel
theorem eX5_takeNumber_47 : ino mX5_takeNumber 47 = some (.if_icmp .le 10, 57) := by decide +kernel
theorem eX5_takeNumber_50 : ino mX5_takeNumber 50 = some (.aload_n 0, 51) := by decide +kernel
theorem eX5_takeNumber_51 : ino mX5_takeNumber 51 = some (.iconst 2, 52) := by decide +kernel
theorem eX5_takeNumber_52 : ino mX5_takeNumber 52 = some (.invokevirtual 98, 55) := by decide +kernel
theorem eX5_takeNumber_55 : ino mX5_takeNumber 55 = some (.iconst (-1), 56) := by decide +kernel
theorem eX5_takeNumber_56 : ino mX5_takeNumber 56 = some (.ireturn, 57) := by decide +kernel
theorem eX5_takeNumber_57 : ino mX5_takeNumber 57 = some (.aload_n 0, 58) := by decide +kernel
theorem eX5_takeNumber_58 : ino mX5_takeNumber 58 = some (.invokevirtual 91, 61) := by decide +kernel
theorem eX5_takeNumber_61 : ino mX5_takeNumber 61 = some (.iload_n 3, 62) := by decide +kernel
theorem eX5_takeNumber_62 : ino mX5_takeNumber 62 = some (.ireturn, 63) := by decide +kernel
theorem eX5_takeName_0 : ino mX5_takeName 0 = some (.aload_n 0, 1) := by decide +kernel
theorem eX5_takeName_1 : ino mX5_takeName 1 = some (.invokevirtual 83, 4) := by decide +kernel
theorem eX5_takeName_4 : ino mX5_takeName 4 = some (.ifCond .eq 4, 8) := by decide +kernel
theorem eX5_takeName_7 : ino mX5_takeName 7 = some (.return_, 8) := by decide +kernel
theorem eX5_takeName_8 : ino mX5_takeName 8 = some (.aload_n 0, 9) := by decide +kernel
theorem eX5_takeName_9 : ino mX5_takeName 9 = some (.getfield 9, 12) := by decide +kernel
theorem eX5_takeName_12 : ino mX5_takeName 12 = some (.aload_n 0, 13) := by decide +kernel
theorem eX5_takeName_13 : ino mX5_takeName 13 = some (.getfield 32, 16) := by decide +kernel
theorem eX5_takeName_16 : ino mX5_takeName 16 = some (.iaload, 17) := by decide +kernel
theorem eX5_takeName_17 : ino mX5_takeName 17 = some (.iconst 2, 18) := by decide +kernel
theorem eX5_takeName_18 : ino mX5_takeName 18 = some (.if_icmp .eq 11, 29) := by decide +kernel
theorem eX5_takeName_21 : ino mX5_takeName 21 = some (.aload_n 0, 22) := by decide +kernel
theorem eX5_takeName_22 : ino mX5_takeName 22 = some (.iconst 1, 23) := by decide +kernel
theorem eX5_takeName_23 : ino mX5_takeName 23 = some (.invokevirtual 98, 26) := by decide +kernel
theorem eX5_takeName_26 : ino mX5_takeName 26 = some (.goto 19, 45) := by decide +kernel
theorem eX5_takeName_29 : ino mX5_takeName 29 = some (.iload_n 1, 30) := by decide +kernel
theorem eX5_takeName_30 : ino mX5_takeName 30 = some (.ifCond .ne 11, 41) := by decide +kernel
theorem eX5_takeName_33 : ino mX5_takeName 33 = some (.aload_n 0, 34) := by decide +kernel
theorem eX5_takeName_34 : ino mX5_takeName 34 = some (.iconst 3, 35) := by decide +kernel
theorem eX5_takeName_35 : ino mX5_takeName 35 = some (.invokevirtual 98, 38) := by decide +kernel
theorem eX5_takeName_38 : ino mX5_takeName 38 = some (.goto 7, 45) := by decide +kernel
theorem eX5_takeName_41 : ino mX5_takeName 41 = some (.aload_n 0, 42) := by decide +kernel
theorem eX5_takeName_42 : ino mX5_takeName 42 = some (.invokevirtual 91, 45) := by decide +kernel
theorem eX5_takeName_45 : ino mX5_takeName 45 = some (.return_, 46) := by decide +kernel
theorem eX5_takeGift_0 : ino mX5_takeGift 0 = some (.aload_n 0, 1) := by decide +kernel
theorem eX5_takeGift_1 : ino mX5_takeGift 1 = some (.invokevirtual 102, 4) := by decide +kernel
theorem eX5_takeGift_4 : ino mX5_takeGift 4 = some (.istore_n 1, 5) := by decide +kernel
theorem eX5_takeGift_5 : ino mX5_takeGift 5 = some (.aload_n 0, 6) := by decide +kernel
theorem eX5_takeGift_6 : ino mX5_takeGift 6 = some (.invokevirtual 83, 9) := by decide +kernel
theorem eX5_takeGift_9 : ino mX5_takeGift 9 = some (.ifCond .eq 5, 14) := by decide +kernel
theorem eX5_takeGift_12 : ino mX5_takeGift 12 = some (.iconst (-1), 13) := by decide +kernel
theorem eX5_takeGift_13 : ino mX5_takeGift 13 = some (.ireturn, 14) := by decide +kernel
theorem eX5_takeGift_14 : ino mX5_takeGift 14 = some (.iload_n 1, 15) := by decide +kernel
theorem eX5_takeGift_15 : ino mX5_takeGift 15 = some (.iconst (-1), 16) := by decide +kernel
theorem eX5_takeGift_16 : ino mX5_takeGift 16 = some (.if_icmp .ne 11, 27) := by decide +kernel
theorem eX5_takeGift_19 : ino mX5_takeGift 19 = some (.aload_n 0, 20) := by decide +kernel
theorem eX5_takeGift_20 : ino mX5_takeGift 20 = some (.iconst 1, 21) := by decide +kernel
theorem eX5_takeGift_21 : ino mX5_takeGift 21 = some (.invokevirtual 98, 24) := by decide +kernel
theorem eX5_takeGift_24 : ino mX5_takeGift 24 = some (.goto 7, 31) := by decide +kernel
theorem eX5_takeGift_27 : ino mX5_takeGift 27 = some (.aload_n 0, 28) := by decide +kernel
theorem eX5_takeGift_28 : ino mX5_takeGift 28 = some (.invokevirtual 91, 31) := by decide +kernel
theorem eX5_takeGift_31 : ino mX5_takeGift 31 = some (.iload_n 1, 32) := by decide +kernel
theorem eX5_takeGift_32 : ino mX5_takeGift 32 = some (.ireturn, 33) := by decide +kernel
theorem eX5_finish_0 : ino mX5_finish 0 = some (.aload_n 0, 1) := by decide +kernel
theorem eX5_finish_1 : ino mX5_finish 1 = some (.invokevirtual 83, 4) := by decide +kernel
theorem eX5_finish_4 : ino mX5_finish 4 = some (.ifCond .ne 22, 26) := by decide +kernel
theorem eX5_finish_7 : ino mX5_finish 7 = some (.aload_n 0, 8) := by decide +kernel
theorem eX5_finish_8 : ino mX5_finish 8 = some (.invokevirtual 105, 11) := by decide +kernel
theorem eX5_finish_11 : ino mX5_finish 11 = some (.ifCond .eq 10, 21) := by decide +kernel
theorem eX5_finish_14 : ino mX5_finish 14 = some (.aload_n 0, 15) := by decide +kernel
theorem eX5_finish_15 : ino mX5_finish 15 = some (.getfield 41, 18) := by decide +kernel
theorem eX5_finish_18 : ino mX5_finish 18 = some (.ifCond .eq 8, 26) := by decide +kernel
theorem eX5_finish_21 : ino mX5_finish 21 = some (.aload_n 0, 22) := by decide +kernel
theorem eX5_finish_22 : ino mX5_finish 22 = some (.iconst 1, 23) := by decide +kernel
theorem eX5_finish_23 : ino mX5_finish 23 = some (.invokevirtual 98, 26) := by decide +kernel
theorem eX5_finish_26 : ino mX5_finish 26 = some (.return_, 27) := by decide +kernel
