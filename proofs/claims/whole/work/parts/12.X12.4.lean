theorem eX12_power_0 : ino mX12_power 0 = some (.iconst 1, 1) := by decide +kernel
theorem eX12_power_1 : ino mX12_power 1 = some (.istore_n 2, 2) := by decide +kernel
theorem eX12_power_2 : ino mX12_power 2 = some (.iconst 0, 3) := by decide +kernel
theorem eX12_power_3 : ino mX12_power 3 = some (.istore_n 3, 4) := by decide +kernel
theorem eX12_power_4 : ino mX12_power 4 = some (.iload_n 3, 5) := by decide +kernel
theorem eX12_power_5 : ino mX12_power 5 = some (.iload_n 1, 6) := by decide +kernel
theorem eX12_power_6 : ino mX12_power 6 = some (.if_icmp .ge 13, 19) := by decide +kernel
theorem eX12_power_9 : ino mX12_power 9 = some (.iload_n 2, 10) := by decide +kernel
theorem eX12_power_10 : ino mX12_power 10 = some (.iload_n 0, 11) := by decide +kernel
theorem eX12_power_11 : ino mX12_power 11 = some (.imul, 12) := by decide +kernel
theorem eX12_power_12 : ino mX12_power 12 = some (.istore_n 2, 13) := by decide +kernel
theorem eX12_power_13 : ino mX12_power 13 = some (.iinc 3 1, 16) := by decide +kernel
theorem eX12_power_16 : ino mX12_power 16 = some (.goto (-12), 4) := by decide +kernel
theorem eX12_power_19 : ino mX12_power 19 = some (.iload_n 2, 20) := by decide +kernel
theorem eX12_power_20 : ino mX12_power 20 = some (.ireturn, 21) := by decide +kernel
theorem eX12_floorFor_0 : ino mX12_floorFor 0 = some (.iconst 0, 1) := by decide +kernel
theorem eX12_floorFor_1 : ino mX12_floorFor 1 = some (.istore_n 2, 2) := by decide +kernel
theorem eX12_floorFor_2 : ino mX12_floorFor 2 = some (.iconst 1, 3) := by decide +kernel
theorem eX12_floorFor_3 : ino mX12_floorFor 3 = some (.istore_n 3, 4) := by decide +kernel
theorem eX12_floorFor_4 : ino mX12_floorFor 4 = some (.iload_n 3, 5) := by decide +kernel
theorem eX12_floorFor_5 : ino mX12_floorFor 5 = some (.aload_n 0, 6) := by decide +kernel
theorem eX12_floorFor_6 : ino mX12_floorFor 6 = some (.getfield 33, 9) := by decide +kernel
theorem eX12_floorFor_9 : ino mX12_floorFor 9 = some (.iconst 0, 10) := by decide +kernel
theorem eX12_floorFor_10 : ino mX12_floorFor 10 = some (.iaload, 11) := by decide +kernel
theorem eX12_floorFor_11 : ino mX12_floorFor 11 = some (.if_icmp .gt 54, 65) := by decide +kernel
theorem eX12_floorFor_14 : ino mX12_floorFor 14 = some (.aload_n 0, 15) := by decide +kernel
theorem eX12_floorFor_15 : ino mX12_floorFor 15 = some (.getfield 33, 18) := by decide +kernel
theorem eX12_floorFor_18 : ino mX12_floorFor 18 = some (.iconst 5, 19) := by decide +kernel
theorem eX12_floorFor_19 : ino mX12_floorFor 19 = some (.iload_n 3, 20) := by decide +kernel
theorem eX12_floorFor_20 : ino mX12_floorFor 20 = some (.iadd, 21) := by decide +kernel
theorem eX12_floorFor_21 : ino mX12_floorFor 21 = some (.iconst 1, 22) := by decide +kernel
theorem eX12_floorFor_22 : ino mX12_floorFor 22 = some (.isub, 23) := by decide +kernel
theorem eX12_floorFor_23 : ino mX12_floorFor 23 = some (.iaload, 24) := by decide +kernel
theorem eX12_floorFor_24 : ino mX12_floorFor 24 = some (.iload_n 1, 25) := by decide +kernel
theorem eX12_floorFor_25 : ino mX12_floorFor 25 = some (.if_icmp .ne 34, 59) := by decide +kernel
theorem eX12_floorFor_28 : ino mX12_floorFor 28 = some (.iload_n 2, 29) := by decide +kernel
theorem eX12_floorFor_29 : ino mX12_floorFor 29 = some (.ifCond .eq 28, 57) := by decide +kernel
theorem eX12_floorFor_32 : ino mX12_floorFor 32 = some (.aload_n 0, 33) := by decide +kernel
theorem eX12_floorFor_33 : ino mX12_floorFor 33 = some (.getfield 33, 36) := by decide +kernel
theorem eX12_floorFor_36 : ino mX12_floorFor 36 = some (.bipush 13, 38) := by decide +kernel
theorem eX12_floorFor_38 : ino mX12_floorFor 38 = some (.iload_n 3, 39) := by decide +kernel
theorem eX12_floorFor_39 : ino mX12_floorFor 39 = some (.iadd, 40) := by decide +kernel
theorem eX12_floorFor_40 : ino mX12_floorFor 40 = some (.iconst 1, 41) := by decide +kernel
theorem eX12_floorFor_41 : ino mX12_floorFor 41 = some (.isub, 42) := by decide +kernel
theorem eX12_floorFor_42 : ino mX12_floorFor 42 = some (.iaload, 43) := by decide +kernel
theorem eX12_floorFor_43 : ino mX12_floorFor 43 = some (.aload_n 0, 44) := by decide +kernel
theorem eX12_floorFor_44 : ino mX12_floorFor 44 = some (.getfield 33, 47) := by decide +kernel
theorem eX12_floorFor_47 : ino mX12_floorFor 47 = some (.bipush 13, 49) := by decide +kernel
theorem eX12_floorFor_49 : ino mX12_floorFor 49 = some (.iload_n 2, 50) := by decide +kernel
theorem eX12_floorFor_50 : ino mX12_floorFor 50 = some (.iadd, 51) := by decide +kernel
theorem eX12_floorFor_51 : ino mX12_floorFor 51 = some (.iconst 1, 52) := by decide +kernel
theorem eX12_floorFor_52 : ino mX12_floorFor 52 = some (.isub, 53) := by decide +kernel
theorem eX12_floorFor_53 : ino mX12_floorFor 53 = some (.iaload, 54) := by decide +kernel
theorem eX12_floorFor_54 : ino mX12_floorFor 54 = some (.if_icmp .le 5, 59) := by decide +kernel
theorem eX12_floorFor_57 : ino mX12_floorFor 57 = some (.iload_n 3, 58) := by decide +kernel
theorem eX12_floorFor_58 : ino mX12_floorFor 58 = some (.istore_n 2, 59) := by decide +kernel
theorem eX12_floorFor_59 : ino mX12_floorFor 59 = some (.iinc 3 1, 62) := by decide +kernel
theorem eX12_floorFor_62 : ino mX12_floorFor 62 = some (.goto (-58), 4) := by decide +kernel
theorem eX12_floorFor_65 : ino mX12_floorFor 65 = some (.iload_n 2, 66) := by decide +kernel
theorem eX12_floorFor_66 : ino mX12_floorFor 66 = some (.ireturn, 67) := by decide +kernel
theorem eX12_passedBy_0 : ino mX12_passedBy 0 = some (.iconst 0, 1) := by decide +kernel
theorem eX12_passedBy_1 : ino mX12_passedBy 1 = some (.istore 4, 3) := by decide +kernel
theorem eX12_passedBy_3 : ino mX12_passedBy 3 = some (.iconst 0, 4) := by decide +kernel
theorem eX12_passedBy_4 : ino mX12_passedBy 4 = some (.istore 5, 6) := by decide +kernel
theorem eX12_passedBy_6 : ino mX12_passedBy 6 = some (.iload_n 1, 7) := by decide +kernel
theorem eX12_passedBy_7 : ino mX12_passedBy 7 = some (.istore 6, 9) := by decide +kernel
theorem eX12_passedBy_9 : ino mX12_passedBy 9 = some (.iconst 0, 10) := by decide +kernel
theorem eX12_passedBy_10 : ino mX12_passedBy 10 = some (.istore 7, 12) := by decide +kernel
theorem eX12_passedBy_12 : ino mX12_passedBy 12 = some (.iload 7, 14) := by decide +kernel
theorem eX12_passedBy_14 : ino mX12_passedBy 14 = some (.iload_n 3, 15) := by decide +kernel
theorem eX12_passedBy_15 : ino mX12_passedBy 15 = some (.if_icmp .ge 55, 70) := by decide +kernel
theorem eX12_passedBy_18 : ino mX12_passedBy 18 = some (.iload_n 2, 19) := by decide +kernel
theorem eX12_passedBy_19 : ino mX12_passedBy 19 = some (.iload_n 3, 20) := by decide +kernel
theorem eX12_passedBy_20 : ino mX12_passedBy 20 = some (.iload_n 3, 21) := by decide +kernel
theorem eX12_passedBy_21 : ino mX12_passedBy 21 = some (.iload 7, 23) := by decide +kernel
theorem eX12_passedBy_23 : ino mX12_passedBy 23 = some (.invokestatic 378, 26) := by decide +kernel
theorem eX12_passedBy_26 : ino mX12_passedBy 26 = some (.istore 8, 28) := by decide +kernel
theorem eX12_passedBy_28 : ino mX12_passedBy 28 = some (.iload 4, 30) := by decide +kernel
theorem eX12_passedBy_30 : ino mX12_passedBy 30 = some (.iconst 1, 31) := by decide +kernel
theorem eX12_passedBy_31 : ino mX12_passedBy 31 = some (.iload 8, 33) := by decide +kernel
theorem eX12_passedBy_33 : ino mX12_passedBy 33 = some (.ishl, 34) := by decide +kernel
theorem eX12_passedBy_34 : ino mX12_passedBy 34 = some (.ior, 35) := by decide +kernel
theorem eX12_passedBy_35 : ino mX12_passedBy 35 = some (.istore 4, 37) := by decide +kernel
theorem eX12_passedBy_37 : ino mX12_passedBy 37 = some (.iload 5, 39) := by decide +kernel
theorem eX12_passedBy_39 : ino mX12_passedBy 39 = some (.aload_n 0, 40) := by decide +kernel
theorem eX12_passedBy_40 : ino mX12_passedBy 40 = some (.getfield 56, 43) := by decide +kernel
theorem eX12_passedBy_43 : ino mX12_passedBy 43 = some (.iload 8, 45) := by decide +kernel
theorem eX12_passedBy_45 : ino mX12_passedBy 45 = some (.iaload, 46) := by decide +kernel
theorem eX12_passedBy_46 : ino mX12_passedBy 46 = some (.iload 6, 48) := by decide +kernel
theorem eX12_passedBy_48 : ino mX12_passedBy 48 = some (.isub, 49) := by decide +kernel
theorem eX12_passedBy_49 : ino mX12_passedBy 49 = some (.invokestatic 299, 52) := by decide +kernel
theorem eX12_passedBy_52 : ino mX12_passedBy 52 = some (.iadd, 53) := by decide +kernel
theorem eX12_passedBy_53 : ino mX12_passedBy 53 = some (.istore 5, 55) := by decide +kernel
theorem eX12_passedBy_55 : ino mX12_passedBy 55 = some (.aload_n 0, 56) := by decide +kernel
theorem eX12_passedBy_56 : ino mX12_passedBy 56 = some (.getfield 56, 59) := by decide +kernel
theorem eX12_passedBy_59 : ino mX12_passedBy 59 = some (.iload 8, 61) := by decide +kernel
theorem eX12_passedBy_61 : ino mX12_passedBy 61 = some (.iaload, 62) := by decide +kernel
theorem eX12_passedBy_62 : ino mX12_passedBy 62 = some (.istore 6, 64) := by decide +kernel
theorem eX12_passedBy_64 : ino mX12_passedBy 64 = some (.iinc 7 1, 67) := by decide +kernel
theorem eX12_passedBy_67 : ino mX12_passedBy 67 = some (.goto (-55), 12) := by decide +kernel
theorem eX12_passedBy_70 : ino mX12_passedBy 70 = some (.iload 4, 72) := by decide +kernel
theorem eX12_passedBy_72 : ino mX12_passedBy 72 = some (.invokestatic 382, 75) := by decide +kernel
theorem eX12_passedBy_75 : ino mX12_passedBy 75 = some (.iload_n 3, 76) := by decide +kernel
theorem eX12_passedBy_76 : ino mX12_passedBy 76 = some (.if_icmp .ne 8, 84) := by decide +kernel
theorem eX12_passedBy_79 : ino mX12_passedBy 79 = some (.iload 5, 81) := by decide +kernel
theorem eX12_passedBy_81 : ino mX12_passedBy 81 = some (.goto 6, 87) := by decide +kernel
theorem eX12_passedBy_84 : ino mX12_passedBy 84 = some (.ldc_w 385, 87) := by decide +kernel
theorem eX12_passedBy_87 : ino mX12_passedBy 87 = some (.ireturn, 88) := by decide +kernel
theorem eX12_plan_0 : ino mX12_plan 0 = some (.aload_n 0, 1) := by decide +kernel
theorem eX12_plan_1 : ino mX12_plan 1 = some (.iconst 0, 2) := by decide +kernel
theorem eX12_plan_2 : ino mX12_plan 2 = some (.putfield 1, 5) := by decide +kernel
theorem eX12_plan_5 : ino mX12_plan 5 = some (.aload_n 0, 6) := by decide +kernel
theorem eX12_plan_6 : ino mX12_plan 6 = some (.iload_n 1, 7) := by decide +kernel
theorem eX12_plan_7 : ino mX12_plan 7 = some (.invokevirtual 306, 10) := by decide +kernel
theorem eX12_plan_10 : ino mX12_plan 10 = some (.ifCond .eq 11, 21) := by decide +kernel
theorem eX12_plan_13 : ino mX12_plan 13 = some (.aload_n 0, 14) := by decide +kernel
theorem eX12_plan_14 : ino mX12_plan 14 = some (.iload_n 1, 15) := by decide +kernel
theorem eX12_plan_15 : ino mX12_plan 15 = some (.invokevirtual 328, 18) := by decide +kernel
theorem eX12_plan_18 : ino mX12_plan 18 = some (.ifCond .eq 5, 23) := by decide +kernel
theorem eX12_plan_21 : ino mX12_plan 21 = some (.iconst (-1), 22) := by decide +kernel
theorem eX12_plan_22 : ino mX12_plan 22 = some (.ireturn, 23) := by decide +kernel
theorem eX12_plan_23 : ino mX12_plan 23 = some (.aload_n 0, 24) := by decide +kernel
theorem eX12_plan_24 : ino mX12_plan 24 = some (.iload_n 1, 25) := by decide +kernel
theorem eX12_plan_25 : ino mX12_plan 25 = some (.invokevirtual 313, 28) := by decide +kernel
theorem eX12_plan_28 : ino mX12_plan 28 = some (.istore_n 2, 29) := by decide +kernel
theorem eX12_plan_29 : ino mX12_plan 29 = some (.iconst 0, 30) := by decide +kernel
theorem eX12_plan_30 : ino mX12_plan 30 = some (.istore_n 3, 31) := by decide +kernel
theorem eX12_plan_31 : ino mX12_plan 31 = some (.iconst 0, 32) := by decide +kernel
theorem eX12_plan_32 : ino mX12_plan 32 = some (.istore 4, 34) := by decide +kernel
theorem eX12_plan_34 : ino mX12_plan 34 = some (.iconst 0, 35) := by decide +kernel
theorem eX12_plan_35 : ino mX12_plan 35 = some (.istore 5, 37) := by decide +kernel
theorem eX12_plan_37 : ino mX12_plan 37 = some (.iload 5, 39) := by decide +kernel
theorem eX12_plan_39 : ino mX12_plan 39 = some (.iconst 4, 40) := by decide +kernel
theorem eX12_plan_40 : ino mX12_plan 40 = some (.if_icmp .ge 94, 134) := by decide +kernel
theorem eX12_plan_43 : ino mX12_plan 43 = some (.iload_n 2, 44) := by decide +kernel
theorem eX12_plan_44 : ino mX12_plan 44 = some (.iload 5, 46) := by decide +kernel
theorem eX12_plan_46 : ino mX12_plan 46 = some (.invokestatic 256, 49) := by decide +kernel
theorem eX12_plan_49 : ino mX12_plan 49 = some (.ifCond .ne 6, 55) := by decide +kernel
theorem eX12_plan_52 : ino mX12_plan 52 = some (.goto 76, 128) := by decide +kernel
theorem eX12_plan_55 : ino mX12_plan 55 = some (.aload_n 0, 56) := by decide +kernel
theorem eX12_plan_56 : ino mX12_plan 56 = some (.iload 5, 58) := by decide +kernel
theorem eX12_plan_58 : ino mX12_plan 58 = some (.invokevirtual 386, 61) := by decide +kernel
theorem eX12_plan_61 : ino mX12_plan 61 = some (.istore 6, 63) := by decide +kernel
theorem eX12_plan_63 : ino mX12_plan 63 = some (.iload 6, 65) := by decide +kernel
theorem eX12_plan_65 : ino mX12_plan 65 = some (.ifCond .ne 5, 70) := by decide +kernel
theorem eX12_plan_68 : ino mX12_plan 68 = some (.iconst (-1), 69) := by decide +kernel
theorem eX12_plan_69 : ino mX12_plan 69 = some (.ireturn, 70) := by decide +kernel
theorem eX12_plan_70 : ino mX12_plan 70 = some (.iload_n 3, 71) := by decide +kernel
theorem eX12_plan_71 : ino mX12_plan 71 = some (.iconst 1, 72) := by decide +kernel
theorem eX12_plan_72 : ino mX12_plan 72 = some (.iload 6, 74) := by decide +kernel
theorem eX12_plan_74 : ino mX12_plan 74 = some (.ishl, 75) := by decide +kernel
theorem eX12_plan_75 : ino mX12_plan 75 = some (.ior, 76) := by decide +kernel
theorem eX12_plan_76 : ino mX12_plan 76 = some (.istore_n 3, 77) := by decide +kernel
theorem eX12_plan_77 : ino mX12_plan 77 = some (.iload 4, 79) := by decide +kernel
theorem eX12_plan_79 : ino mX12_plan 79 = some (.aload_n 0, 80) := by decide +kernel
theorem eX12_plan_80 : ino mX12_plan 80 = some (.getfield 33, 83) := by decide +kernel
theorem eX12_plan_83 : ino mX12_plan 83 = some (.bipush 33, 85) := by decide +kernel
theorem eX12_plan_85 : ino mX12_plan 85 = some (.iload 5, 87) := by decide +kernel
theorem eX12_plan_87 : ino mX12_plan 87 = some (.iadd, 88) := by decide +kernel
theorem eX12_plan_88 : ino mX12_plan 88 = some (.iaload, 89) := by decide +kernel
theorem eX12_plan_89 : ino mX12_plan 89 = some (.aload_n 0, 90) := by decide +kernel
theorem eX12_plan_90 : ino mX12_plan 90 = some (.iload_n 1, 91) := by decide +kernel
theorem eX12_plan_91 : ino mX12_plan 91 = some (.iload 5, 93) := by decide +kernel
theorem eX12_plan_93 : ino mX12_plan 93 = some (.invokevirtual 296, 96) := by decide +kernel
theorem eX12_plan_96 : ino mX12_plan 96 = some (.isub, 97) := by decide +kernel
theorem eX12_plan_97 : ino mX12_plan 97 = some (.aload_n 0, 98) := by decide +kernel
theorem eX12_plan_98 : ino mX12_plan 98 = some (.getfield 33, 101) := by decide +kernel
theorem eX12_plan_101 : ino mX12_plan 101 = some (.bipush 13, 103) := by decide +kernel
theorem eX12_plan_103 : ino mX12_plan 103 = some (.iload 6, 105) := by decide +kernel
theorem eX12_plan_105 : ino mX12_plan 105 = some (.iadd, 106) := by decide +kernel
theorem eX12_plan_106 : ino mX12_plan 106 = some (.iconst 1, 107) := by decide +kernel
theorem eX12_plan_107 : ino mX12_plan 107 = some (.isub, 108) := by decide +kernel
theorem eX12_plan_108 : ino mX12_plan 108 = some (.iaload, 109) := by decide +kernel
theorem eX12_plan_109 : ino mX12_plan 109 = some (.iadd, 110) := by decide +kernel
theorem eX12_plan_110 : ino mX12_plan 110 = some (.iconst 1, 111) := by decide +kernel
theorem eX12_plan_111 : ino mX12_plan 111 = some (.isub, 112) := by decide +kernel
theorem eX12_plan_112 : ino mX12_plan 112 = some (.aload_n 0, 113) := by decide +kernel
theorem eX12_plan_113 : ino mX12_plan 113 = some (.getfield 33, 116) := by decide +kernel
theorem eX12_plan_116 : ino mX12_plan 116 = some (.bipush 13, 118) := by decide +kernel
theorem eX12_plan_118 : ino mX12_plan 118 = some (.iload 6, 120) := by decide +kernel
theorem eX12_plan_120 : ino mX12_plan 120 = some (.iadd, 121) := by decide +kernel
theorem eX12_plan_121 : ino mX12_plan 121 = some (.iconst 1, 122) := by decide +kernel
theorem eX12_plan_122 : ino mX12_plan 122 = some (.isub, 123) := by decide +kernel
theorem eX12_plan_123 : ino mX12_plan 123 = some (.iaload, 124) := by decide +kernel
theorem eX12_plan_124 : ino mX12_plan 124 = some (.idiv, 125) := by decide +kernel
theorem eX12_plan_125 : ino mX12_plan 125 = some (.iadd, 126) := by decide +kernel
theorem eX12_plan_126 : ino mX12_plan 126 = some (.istore 4, 128) := by decide +kernel
theorem eX12_plan_128 : ino mX12_plan 128 = some (.iinc 5 1, 131) := by decide +kernel
theorem eX12_plan_131 : ino mX12_plan 131 = some (.goto (-94), 37) := by decide +kernel
theorem eX12_plan_134 : ino mX12_plan 134 = some (.iconst 0, 135) := by decide +kernel
theorem eX12_plan_135 : ino mX12_plan 135 = some (.istore 5, 137) := by decide +kernel
theorem eX12_plan_137 : ino mX12_plan 137 = some (.iconst 1, 138) := by decide +kernel
theorem eX12_plan_138 : ino mX12_plan 138 = some (.istore 6, 140) := by decide +kernel
theorem eX12_plan_140 : ino mX12_plan 140 = some (.iload 6, 142) := by decide +kernel
theorem eX12_plan_142 : ino mX12_plan 142 = some (.aload_n 0, 143) := by decide +kernel
theorem eX12_plan_143 : ino mX12_plan 143 = some (.getfield 33, 146) := by decide +kernel
theorem eX12_plan_146 : ino mX12_plan 146 = some (.iconst 0, 147) := by decide +kernel
theorem eX12_plan_147 : ino mX12_plan 147 = some (.iaload, 148) := by decide +kernel
theorem eX12_plan_148 : ino mX12_plan 148 = some (.if_icmp .gt 33, 181) := by decide +kernel
theorem eX12_plan_151 : ino mX12_plan 151 = some (.iload_n 3, 152) := by decide +kernel
theorem eX12_plan_152 : ino mX12_plan 152 = some (.iload 6, 154) := by decide +kernel
theorem eX12_plan_154 : ino mX12_plan 154 = some (.invokestatic 256, 157) := by decide +kernel
theorem eX12_plan_157 : ino mX12_plan 157 = some (.ifCond .ne 6, 163) := by decide +kernel
theorem eX12_plan_160 : ino mX12_plan 160 = some (.goto 15, 175) := by decide +kernel
theorem eX12_plan_163 : ino mX12_plan 163 = some (.aload_n 0, 164) := by decide +kernel
theorem eX12_plan_164 : ino mX12_plan 164 = some (.getfield 56, 167) := by decide +kernel
theorem eX12_plan_167 : ino mX12_plan 167 = some (.iload 5, 169) := by decide +kernel
theorem eX12_plan_169 : ino mX12_plan 169 = some (.iload 6, 171) := by decide +kernel
theorem eX12_plan_171 : ino mX12_plan 171 = some (.iastore, 172) := by decide +kernel
theorem eX12_plan_172 : ino mX12_plan 172 = some (.iinc 5 1, 175) := by decide +kernel
theorem eX12_plan_175 : ino mX12_plan 175 = some (.iinc 6 1, 178) := by decide +kernel
theorem eX12_plan_178 : ino mX12_plan 178 = some (.goto (-38), 140) := by decide +kernel
theorem eX12_plan_181 : ino mX12_plan 181 = some (.iconst 0, 182) := by decide +kernel
theorem eX12_plan_182 : ino mX12_plan 182 = some (.istore 6, 184) := by decide +kernel
theorem eX12_plan_184 : ino mX12_plan 184 = some (.iconst 1, 185) := by decide +kernel
theorem eX12_plan_185 : ino mX12_plan 185 = some (.istore 7, 187) := by decide +kernel
theorem eX12_plan_187 : ino mX12_plan 187 = some (.iload 7, 189) := by decide +kernel
theorem eX12_plan_189 : ino mX12_plan 189 = some (.iload 5, 191) := by decide +kernel
theorem eX12_plan_191 : ino mX12_plan 191 = some (.iload 5, 193) := by decide +kernel
theorem eX12_plan_193 : ino mX12_plan 193 = some (.invokestatic 389, 196) := by decide +kernel
theorem eX12_plan_196 : ino mX12_plan 196 = some (.if_icmp .ge 50, 246) := by decide +kernel
theorem eX12_plan_199 : ino mX12_plan 199 = some (.aload_n 0, 200) := by decide +kernel
theorem eX12_plan_200 : ino mX12_plan 200 = some (.aload_n 0, 201) := by decide +kernel
theorem eX12_plan_201 : ino mX12_plan 201 = some (.getfield 33, 204) := by decide +kernel
theorem eX12_plan_204 : ino mX12_plan 204 = some (.bipush 90, 206) := by decide +kernel
theorem eX12_plan_206 : ino mX12_plan 206 = some (.iload_n 1, 207) := by decide +kernel
theorem eX12_plan_207 : ino mX12_plan 207 = some (.iadd, 208) := by decide +kernel
theorem eX12_plan_208 : ino mX12_plan 208 = some (.iaload, 209) := by decide +kernel
theorem eX12_plan_209 : ino mX12_plan 209 = some (.iload 7, 211) := by decide +kernel
theorem eX12_plan_211 : ino mX12_plan 211 = some (.iload 5, 213) := by decide +kernel
theorem eX12_plan_213 : ino mX12_plan 213 = some (.invokevirtual 392, 216) := by decide +kernel
theorem eX12_plan_216 : ino mX12_plan 216 = some (.aload_n 0, 217) := by decide +kernel
theorem eX12_plan_217 : ino mX12_plan 217 = some (.aload_n 0, 218) := by decide +kernel
theorem eX12_plan_218 : ino mX12_plan 218 = some (.getfield 33, 221) := by decide +kernel
theorem eX12_plan_221 : ino mX12_plan 221 = some (.bipush 90, 223) := by decide +kernel
theorem eX12_plan_223 : ino mX12_plan 223 = some (.iload_n 1, 224) := by decide +kernel
theorem eX12_plan_224 : ino mX12_plan 224 = some (.iadd, 225) := by decide +kernel
theorem eX12_plan_225 : ino mX12_plan 225 = some (.iaload, 226) := by decide +kernel
theorem eX12_plan_226 : ino mX12_plan 226 = some (.iload 6, 228) := by decide +kernel
theorem eX12_plan_228 : ino mX12_plan 228 = some (.iload 5, 230) := by decide +kernel
theorem eX12_plan_230 : ino mX12_plan 230 = some (.invokevirtual 392, 233) := by decide +kernel
theorem eX12_plan_233 : ino mX12_plan 233 = some (.if_icmp .ge 7, 240) := by decide +kernel
theorem eX12_plan_236 : ino mX12_plan 236 = some (.iload 7, 238) := by decide +kernel
theorem eX12_plan_238 : ino mX12_plan 238 = some (.istore 6, 240) := by decide +kernel
theorem eX12_plan_240 : ino mX12_plan 240 = some (.iinc 7 1, 243) := by decide +kernel
theorem eX12_plan_243 : ino mX12_plan 243 = some (.goto (-56), 187) := by decide +kernel
theorem eX12_plan_246 : ino mX12_plan 246 = some (.aload_n 0, 247) := by decide +kernel
theorem eX12_plan_247 : ino mX12_plan 247 = some (.iload 5, 249) := by decide +kernel
theorem eX12_plan_249 : ino mX12_plan 249 = some (.putfield 62, 252) := by decide +kernel
theorem eX12_plan_252 : ino mX12_plan 252 = some (.aload_n 0, 253) := by decide +kernel
theorem eX12_plan_253 : ino mX12_plan 253 = some (.aload_n 0, 254) := by decide +kernel
theorem eX12_plan_254 : ino mX12_plan 254 = some (.aload_n 0, 255) := by decide +kernel
theorem eX12_plan_255 : ino mX12_plan 255 = some (.getfield 33, 258) := by decide +kernel
theorem eX12_plan_258 : ino mX12_plan 258 = some (.bipush 90, 260) := by decide +kernel
theorem eX12_plan_260 : ino mX12_plan 260 = some (.iload_n 1, 261) := by decide +kernel
theorem eX12_plan_261 : ino mX12_plan 261 = some (.iadd, 262) := by decide +kernel
theorem eX12_plan_262 : ino mX12_plan 262 = some (.iaload, 263) := by decide +kernel
theorem eX12_plan_263 : ino mX12_plan 263 = some (.iload 6, 265) := by decide +kernel
theorem eX12_plan_265 : ino mX12_plan 265 = some (.iload 5, 267) := by decide +kernel
theorem eX12_plan_267 : ino mX12_plan 267 = some (.invokevirtual 392, 270) := by decide +kernel
theorem eX12_plan_270 : ino mX12_plan 270 = some (.putfield 65, 273) := by decide +kernel
theorem eX12_plan_273 : ino mX12_plan 273 = some (.iconst 0, 274) := by decide +kernel
theorem eX12_plan_274 : ino mX12_plan 274 = some (.istore 7, 276) := by decide +kernel
theorem eX12_plan_276 : ino mX12_plan 276 = some (.iload 7, 278) := by decide +kernel
theorem eX12_plan_278 : ino mX12_plan 278 = some (.iload 5, 280) := by decide +kernel
theorem eX12_plan_280 : ino mX12_plan 280 = some (.if_icmp .ge 32, 312) := by decide +kernel
theorem eX12_plan_283 : ino mX12_plan 283 = some (.aload_n 0, 284) := by decide +kernel
theorem eX12_plan_284 : ino mX12_plan 284 = some (.getfield 59, 287) := by decide +kernel
theorem eX12_plan_287 : ino mX12_plan 287 = some (.iload 7, 289) := by decide +kernel
theorem eX12_plan_289 : ino mX12_plan 289 = some (.aload_n 0, 290) := by decide +kernel
theorem eX12_plan_290 : ino mX12_plan 290 = some (.getfield 56, 293) := by decide +kernel
theorem eX12_plan_293 : ino mX12_plan 293 = some (.iload 6, 295) := by decide +kernel
theorem eX12_plan_295 : ino mX12_plan 295 = some (.iload 5, 297) := by decide +kernel
theorem eX12_plan_297 : ino mX12_plan 297 = some (.iload 5, 299) := by decide +kernel
theorem eX12_plan_299 : ino mX12_plan 299 = some (.iload 7, 301) := by decide +kernel
theorem eX12_plan_301 : ino mX12_plan 301 = some (.invokestatic 378, 304) := by decide +kernel
theorem eX12_plan_304 : ino mX12_plan 304 = some (.iaload, 305) := by decide +kernel
theorem eX12_plan_305 : ino mX12_plan 305 = some (.iastore, 306) := by decide +kernel
theorem eX12_plan_306 : ino mX12_plan 306 = some (.iinc 7 1, 309) := by decide +kernel
theorem eX12_plan_309 : ino mX12_plan 309 = some (.goto (-33), 276) := by decide +kernel
theorem eX12_plan_312 : ino mX12_plan 312 = some (.iload 4, 314) := by decide +kernel
theorem eX12_plan_314 : ino mX12_plan 314 = some (.ireturn, 315) := by decide +kernel
theorem eX12_planAt_0 : ino mX12_planAt 0 = some (.aload_n 0, 1) := by decide +kernel
theorem eX12_planAt_1 : ino mX12_planAt 1 = some (.iconst 0, 2) := by decide +kernel
theorem eX12_planAt_2 : ino mX12_planAt 2 = some (.putfield 1, 5) := by decide +kernel
theorem eX12_planAt_5 : ino mX12_planAt 5 = some (.iload_n 1, 6) := by decide +kernel
theorem eX12_planAt_6 : ino mX12_planAt 6 = some (.iconst 0, 7) := by decide +kernel
theorem eX12_planAt_7 : ino mX12_planAt 7 = some (.aload_n 0, 8) := by decide +kernel
theorem eX12_planAt_8 : ino mX12_planAt 8 = some (.getfield 62, 11) := by decide +kernel
theorem eX12_planAt_11 : ino mX12_planAt 11 = some (.iconst 1, 12) := by decide +kernel
theorem eX12_planAt_12 : ino mX12_planAt 12 = some (.isub, 13) := by decide +kernel
theorem eX12_planAt_13 : ino mX12_planAt 13 = some (.invokestatic 221, 16) := by decide +kernel
theorem eX12_planAt_16 : ino mX12_planAt 16 = some (.ifCond .eq 12, 28) := by decide +kernel
theorem eX12_planAt_19 : ino mX12_planAt 19 = some (.aload_n 0, 20) := by decide +kernel
theorem eX12_planAt_20 : ino mX12_planAt 20 = some (.getfield 59, 23) := by decide +kernel
theorem eX12_planAt_23 : ino mX12_planAt 23 = some (.iload_n 1, 24) := by decide +kernel
theorem eX12_planAt_24 : ino mX12_planAt 24 = some (.iaload, 25) := by decide +kernel
theorem eX12_planAt_25 : ino mX12_planAt 25 = some (.goto 4, 29) := by decide +kernel
theorem eX12_planAt_28 : ino mX12_planAt 28 = some (.iconst (-1), 29) := by decide +kernel
theorem eX12_planAt_29 : ino mX12_planAt 29 = some (.ireturn, 30) := by decide +kernel
theorem eX12_passes_0 : ino mX12_passes 0 = some (.aload_n 0, 1) := by decide +kernel
theorem eX12_passes_1 : ino mX12_passes 1 = some (.iconst 0, 2) := by decide +kernel
theorem eX12_passes_2 : ino mX12_passes 2 = some (.putfield 1, 5) := by decide +kernel
theorem eX12_passes_5 : ino mX12_passes 5 = some (.aload_n 0, 6) := by decide +kernel
theorem eX12_passes_6 : ino mX12_passes 6 = some (.getfield 65, 9) := by decide +kernel
theorem eX12_passes_9 : ino mX12_passes 9 = some (.ireturn, 10) := by decide +kernel
theorem eX12_isBeen_0 : ino mX12_isBeen 0 = some (.iconst 0, 1) := by decide +kernel
theorem eX12_isBeen_1 : ino mX12_isBeen 1 = some (.istore_n 3, 2) := by decide +kernel
theorem eX12_isBeen_2 : ino mX12_isBeen 2 = some (.iload_n 3, 3) := by decide +kernel
theorem eX12_isBeen_3 : ino mX12_isBeen 3 = some (.iconst 4, 4) := by decide +kernel
theorem eX12_isBeen_4 : ino mX12_isBeen 4 = some (.if_icmp .ge 16, 20) := by decide +kernel
theorem eX12_isBeen_7 : ino mX12_isBeen 7 = some (.aload_n 0, 8) := by decide +kernel
theorem eX12_isBeen_8 : ino mX12_isBeen 8 = some (.getfield 71, 11) := by decide +kernel
theorem eX12_isBeen_11 : ino mX12_isBeen 11 = some (.iload_n 3, 12) := by decide +kernel
theorem eX12_isBeen_12 : ino mX12_isBeen 12 = some (.iconst 0, 13) := by decide +kernel
theorem eX12_isBeen_13 : ino mX12_isBeen 13 = some (.iastore, 14) := by decide +kernel
theorem eX12_isBeen_14 : ino mX12_isBeen 14 = some (.iinc 3 1, 17) := by decide +kernel
theorem eX12_isBeen_17 : ino mX12_isBeen 17 = some (.goto (-15), 2) := by decide +kernel
theorem eX12_isBeen_20 : ino mX12_isBeen 20 = some (.iconst 0, 21) := by decide +kernel
theorem eX12_isBeen_21 : ino mX12_isBeen 21 = some (.istore_n 3, 22) := by decide +kernel
theorem eX12_isBeen_22 : ino mX12_isBeen 22 = some (.iload_n 3, 23) := by decide +kernel
theorem eX12_isBeen_23 : ino mX12_isBeen 23 = some (.iload_n 2, 24) := by decide +kernel
theorem eX12_isBeen_24 : ino mX12_isBeen 24 = some (.if_icmp .ge 61, 85) := by decide +kernel
theorem eX12_isBeen_27 : ino mX12_isBeen 27 = some (.iload_n 1, 28) := by decide +kernel
theorem eX12_isBeen_28 : ino mX12_isBeen 28 = some (.aload_n 0, 29) := by decide +kernel
theorem eX12_isBeen_29 : ino mX12_isBeen 29 = some (.getfield 33, 32) := by decide +kernel
theorem eX12_isBeen_32 : ino mX12_isBeen 32 = some (.iconst 0, 33) := by decide +kernel
theorem eX12_isBeen_33 : ino mX12_isBeen 33 = some (.iaload, 34) := by decide +kernel
theorem eX12_isBeen_34 : ino mX12_isBeen 34 = some (.iconst 1, 35) := by decide +kernel
theorem eX12_isBeen_35 : ino mX12_isBeen 35 = some (.iadd, 36) := by decide +kernel
theorem eX12_isBeen_36 : ino mX12_isBeen 36 = some (.iload_n 2, 37) := by decide +kernel
theorem eX12_isBeen_37 : ino mX12_isBeen 37 = some (.iload_n 3, 38) := by decide +kernel
theorem eX12_isBeen_38 : ino mX12_isBeen 38 = some (.invokestatic 378, 41) := by decide +kernel
theorem eX12_isBeen_41 : ino mX12_isBeen 41 = some (.istore 4, 43) := by decide +kernel
theorem eX12_isBeen_43 : ino mX12_isBeen 43 = some (.iload 4, 45) := by decide +kernel
theorem eX12_isBeen_45 : ino mX12_isBeen 45 = some (.ifCond .le 34, 79) := by decide +kernel
theorem eX12_isBeen_48 : ino mX12_isBeen 48 = some (.aload_n 0, 49) := by decide +kernel
theorem eX12_isBeen_49 : ino mX12_isBeen 49 = some (.getfield 71, 52) := by decide +kernel
theorem eX12_isBeen_52 : ino mX12_isBeen 52 = some (.aload_n 0, 53) := by decide +kernel
theorem eX12_isBeen_53 : ino mX12_isBeen 53 = some (.getfield 33, 56) := by decide +kernel
theorem eX12_isBeen_56 : ino mX12_isBeen 56 = some (.iconst 5, 57) := by decide +kernel
theorem eX12_isBeen_57 : ino mX12_isBeen 57 = some (.iload 4, 59) := by decide +kernel
theorem eX12_isBeen_59 : ino mX12_isBeen 59 = some (.iadd, 60) := by decide +kernel
theorem eX12_isBeen_60 : ino mX12_isBeen 60 = some (.iconst 1, 61) := by decide +kernel
theorem eX12_isBeen_61 : ino mX12_isBeen 61 = some (.isub, 62) := by decide +kernel
theorem eX12_isBeen_62 : ino mX12_isBeen 62 = some (.iaload, 63) := by decide +kernel
theorem eX12_isBeen_63 : ino mX12_isBeen 63 = some (.dup2, 64) := by decide +kernel
theorem eX12_isBeen_64 : ino mX12_isBeen 64 = some (.iaload, 65) := by decide +kernel
theorem eX12_isBeen_65 : ino mX12_isBeen 65 = some (.aload_n 0, 66) := by decide +kernel
theorem eX12_isBeen_66 : ino mX12_isBeen 66 = some (.getfield 33, 69) := by decide +kernel
theorem eX12_isBeen_69 : ino mX12_isBeen 69 = some (.bipush 13, 71) := by decide +kernel
theorem eX12_isBeen_71 : ino mX12_isBeen 71 = some (.iload 4, 73) := by decide +kernel
theorem eX12_isBeen_73 : ino mX12_isBeen 73 = some (.iadd, 74) := by decide +kernel
theorem eX12_isBeen_74 : ino mX12_isBeen 74 = some (.iconst 1, 75) := by decide +kernel
theorem eX12_isBeen_75 : ino mX12_isBeen 75 = some (.isub, 76) := by decide +kernel
theorem eX12_isBeen_76 : ino mX12_isBeen 76 = some (.iaload, 77) := by decide +kernel
theorem eX12_isBeen_77 : ino mX12_isBeen 77 = some (.iadd, 78) := by decide +kernel
theorem eX12_isBeen_78 : ino mX12_isBeen 78 = some (.iastore, 79) := by decide +kernel
theorem eX12_isBeen_79 : ino mX12_isBeen 79 = some (.iinc 3 1, 82) := by decide +kernel
theorem eX12_isBeen_82 : ino mX12_isBeen 82 = some (.goto (-60), 22) := by decide +kernel
theorem eX12_isBeen_85 : ino mX12_isBeen 85 = some (.iconst 1, 86) := by decide +kernel
theorem eX12_isBeen_86 : ino mX12_isBeen 86 = some (.istore_n 3, 87) := by decide +kernel
theorem eX12_isBeen_87 : ino mX12_isBeen 87 = some (.iconst 0, 88) := by decide +kernel
theorem eX12_isBeen_88 : ino mX12_isBeen 88 = some (.istore 4, 90) := by decide +kernel
theorem eX12_isBeen_90 : ino mX12_isBeen 90 = some (.iload 4, 92) := by decide +kernel
theorem eX12_isBeen_92 : ino mX12_isBeen 92 = some (.iconst 4, 93) := by decide +kernel
theorem eX12_isBeen_93 : ino mX12_isBeen 93 = some (.if_icmp .ge 40, 133) := by decide +kernel
theorem eX12_isBeen_96 : ino mX12_isBeen 96 = some (.iload_n 3, 97) := by decide +kernel
theorem eX12_isBeen_97 : ino mX12_isBeen 97 = some (.ifCond .eq 28, 125) := by decide +kernel
theorem eX12_isBeen_100 : ino mX12_isBeen 100 = some (.bipush 99, 102) := by decide +kernel
theorem eX12_isBeen_102 : ino mX12_isBeen 102 = some (.aload_n 0, 103) := by decide +kernel
theorem eX12_isBeen_103 : ino mX12_isBeen 103 = some (.getfield 71, 106) := by decide +kernel
theorem eX12_isBeen_106 : ino mX12_isBeen 106 = some (.iload 4, 108) := by decide +kernel
theorem eX12_isBeen_108 : ino mX12_isBeen 108 = some (.iaload, 109) := by decide +kernel
theorem eX12_isBeen_109 : ino mX12_isBeen 109 = some (.invokestatic 337, 112) := by decide +kernel
theorem eX12_isBeen_112 : ino mX12_isBeen 112 = some (.aload_n 0, 113) := by decide +kernel
theorem eX12_isBeen_113 : ino mX12_isBeen 113 = some (.iload 4, 115) := by decide +kernel
theorem eX12_isBeen_115 : ino mX12_isBeen 115 = some (.invokevirtual 396, 118) := by decide +kernel
theorem eX12_isBeen_118 : ino mX12_isBeen 118 = some (.if_icmp .ne 7, 125) := by decide +kernel
theorem eX12_isBeen_121 : ino mX12_isBeen 121 = some (.iconst 1, 122) := by decide +kernel
theorem eX12_isBeen_122 : ino mX12_isBeen 122 = some (.goto 4, 126) := by decide +kernel
theorem eX12_isBeen_125 : ino mX12_isBeen 125 = some (.iconst 0, 126) := by decide +kernel
theorem eX12_isBeen_126 : ino mX12_isBeen 126 = some (.istore_n 3, 127) := by decide +kernel
theorem eX12_isBeen_127 : ino mX12_isBeen 127 = some (.iinc 4 1, 130) := by decide +kernel
theorem eX12_isBeen_130 : ino mX12_isBeen 130 = some (.goto (-40), 90) := by decide +kernel
theorem eX12_isBeen_133 : ino mX12_isBeen 133 = some (.iload_n 3, 134) := by decide +kernel
theorem eX12_isBeen_134 : ino mX12_isBeen 134 = some (.ireturn, 135) := by decide +kernel
theorem eX12_leftBy_0 : ino mX12_leftBy 0 = some (.iconst 0, 1) := by decide +kernel
theorem eX12_leftBy_1 : ino mX12_leftBy 1 = some (.istore_n 3, 2) := by decide +kernel
theorem eX12_leftBy_2 : ino mX12_leftBy 2 = some (.iload_n 3, 3) := by decide +kernel
theorem eX12_leftBy_3 : ino mX12_leftBy 3 = some (.bipush 9, 5) := by decide +kernel
theorem eX12_leftBy_5 : ino mX12_leftBy 5 = some (.if_icmp .ge 16, 21) := by decide +kernel
theorem eX12_leftBy_8 : ino mX12_leftBy 8 = some (.aload_n 0, 9) := by decide +kernel
theorem eX12_leftBy_9 : ino mX12_leftBy 9 = some (.getfield 74, 12) := by decide +kernel
theorem eX12_leftBy_12 : ino mX12_leftBy 12 = some (.iload_n 3, 13) := by decide +kernel
theorem eX12_leftBy_13 : ino mX12_leftBy 13 = some (.iconst 0, 14) := by decide +kernel
theorem eX12_leftBy_14 : ino mX12_leftBy 14 = some (.iastore, 15) := by decide +kernel
theorem eX12_leftBy_15 : ino mX12_leftBy 15 = some (.iinc 3 1, 18) := by decide +kernel
theorem eX12_leftBy_18 : ino mX12_leftBy 18 = some (.goto (-16), 2) := by decide +kernel
theorem eX12_leftBy_21 : ino mX12_leftBy 21 = some (.iconst 0, 22) := by decide +kernel
theorem eX12_leftBy_22 : ino mX12_leftBy 22 = some (.istore_n 3, 23) := by decide +kernel
theorem eX12_leftBy_23 : ino mX12_leftBy 23 = some (.iconst 0, 24) := by decide +kernel
theorem eX12_leftBy_24 : ino mX12_leftBy 24 = some (.istore 4, 26) := by decide +kernel
theorem eX12_leftBy_26 : ino mX12_leftBy 26 = some (.iload 4, 28) := by decide +kernel
theorem eX12_leftBy_28 : ino mX12_leftBy 28 = some (.aload_n 0, 29) := by decide +kernel
theorem eX12_leftBy_29 : ino mX12_leftBy 29 = some (.getfield 33, 32) := by decide +kernel
theorem eX12_leftBy_32 : ino mX12_leftBy 32 = some (.iconst 0, 33) := by decide +kernel
theorem eX12_leftBy_33 : ino mX12_leftBy 33 = some (.iaload, 34) := by decide +kernel
theorem eX12_leftBy_34 : ino mX12_leftBy 34 = some (.iconst 1, 35) := by decide +kernel
theorem eX12_leftBy_35 : ino mX12_leftBy 35 = some (.iadd, 36) := by decide +kernel
theorem eX12_leftBy_36 : ino mX12_leftBy 36 = some (.iload_n 2, 37) := by decide +kernel
theorem eX12_leftBy_37 : ino mX12_leftBy 37 = some (.invokestatic 389, 40) := by decide +kernel
theorem eX12_leftBy_40 : ino mX12_leftBy 40 = some (.if_icmp .ge 62, 102) := by decide +kernel
theorem eX12_leftBy_43 : ino mX12_leftBy 43 = some (.aload_n 0, 44) := by decide +kernel
theorem eX12_leftBy_44 : ino mX12_leftBy 44 = some (.iload 4, 46) := by decide +kernel
theorem eX12_leftBy_46 : ino mX12_leftBy 46 = some (.iload_n 2, 47) := by decide +kernel
theorem eX12_leftBy_47 : ino mX12_leftBy 47 = some (.invokevirtual 399, 50) := by decide +kernel
theorem eX12_leftBy_50 : ino mX12_leftBy 50 = some (.ifCond .ne 6, 56) := by decide +kernel
theorem eX12_leftBy_53 : ino mX12_leftBy 53 = some (.goto 43, 96) := by decide +kernel
theorem eX12_leftBy_56 : ino mX12_leftBy 56 = some (.iload 4, 58) := by decide +kernel
theorem eX12_leftBy_58 : ino mX12_leftBy 58 = some (.aload_n 0, 59) := by decide +kernel
theorem eX12_leftBy_59 : ino mX12_leftBy 59 = some (.getfield 33, 62) := by decide +kernel
theorem eX12_leftBy_62 : ino mX12_leftBy 62 = some (.iconst 0, 63) := by decide +kernel
theorem eX12_leftBy_63 : ino mX12_leftBy 63 = some (.iaload, 64) := by decide +kernel
theorem eX12_leftBy_64 : ino mX12_leftBy 64 = some (.iconst 1, 65) := by decide +kernel
theorem eX12_leftBy_65 : ino mX12_leftBy 65 = some (.iadd, 66) := by decide +kernel
theorem eX12_leftBy_66 : ino mX12_leftBy 66 = some (.iload_n 2, 67) := by decide +kernel
theorem eX12_leftBy_67 : ino mX12_leftBy 67 = some (.iload_n 1, 68) := by decide +kernel
theorem eX12_leftBy_68 : ino mX12_leftBy 68 = some (.invokestatic 378, 71) := by decide +kernel
theorem eX12_leftBy_71 : ino mX12_leftBy 71 = some (.istore 5, 73) := by decide +kernel
theorem eX12_leftBy_73 : ino mX12_leftBy 73 = some (.aload_n 0, 74) := by decide +kernel
theorem eX12_leftBy_74 : ino mX12_leftBy 74 = some (.getfield 74, 77) := by decide +kernel
theorem eX12_leftBy_77 : ino mX12_leftBy 77 = some (.iload 5, 79) := by decide +kernel
theorem eX12_leftBy_79 : ino mX12_leftBy 79 = some (.dup2, 80) := by decide +kernel
theorem eX12_leftBy_80 : ino mX12_leftBy 80 = some (.iaload, 81) := by decide +kernel
theorem eX12_leftBy_81 : ino mX12_leftBy 81 = some (.iconst 1, 82) := by decide +kernel
theorem eX12_leftBy_82 : ino mX12_leftBy 82 = some (.iadd, 83) := by decide +kernel
theorem eX12_leftBy_83 : ino mX12_leftBy 83 = some (.iastore, 84) := by decide +kernel
theorem eX12_leftBy_84 : ino mX12_leftBy 84 = some (.iload_n 3, 85) := by decide +kernel
theorem eX12_leftBy_85 : ino mX12_leftBy 85 = some (.aload_n 0, 86) := by decide +kernel
theorem eX12_leftBy_86 : ino mX12_leftBy 86 = some (.getfield 74, 89) := by decide +kernel
theorem eX12_leftBy_89 : ino mX12_leftBy 89 = some (.iload 5, 91) := by decide +kernel
theorem eX12_leftBy_91 : ino mX12_leftBy 91 = some (.iaload, 92) := by decide +kernel
theorem eX12_leftBy_92 : ino mX12_leftBy 92 = some (.invokestatic 402, 95) := by decide +kernel
theorem eX12_leftBy_95 : ino mX12_leftBy 95 = some (.istore_n 3, 96) := by decide +kernel
theorem eX12_leftBy_96 : ino mX12_leftBy 96 = some (.iinc 4 1, 99) := by decide +kernel
theorem eX12_leftBy_99 : ino mX12_leftBy 99 = some (.goto (-73), 26) := by decide +kernel
theorem eX12_leftBy_102 : ino mX12_leftBy 102 = some (.iload_n 3, 103) := by decide +kernel
theorem eX12_leftBy_103 : ino mX12_leftBy 103 = some (.ireturn, 104) := by decide +kernel
theorem eX12_been_0 : ino mX12_been 0 = some (.aload_n 0, 1) := by decide +kernel
theorem eX12_been_1 : ino mX12_been 1 = some (.iconst 0, 2) := by decide +kernel
theorem eX12_been_2 : ino mX12_been 2 = some (.putfield 1, 5) := by decide +kernel
theorem eX12_been_5 : ino mX12_been 5 = some (.aload_n 0, 6) := by decide +kernel
theorem eX12_been_6 : ino mX12_been 6 = some (.sipush 940, 9) := by decide +kernel
theorem eX12_been_9 : ino mX12_been 9 = some (.invokevirtual 281, 12) := by decide +kernel
theorem eX12_been_12 : ino mX12_been 12 = some (.aload_n 0, 13) := by decide +kernel
theorem eX12_been_13 : ino mX12_been 13 = some (.getfield 18, 16) := by decide +kernel
theorem eX12_been_16 : ino mX12_been 16 = some (.iconst 4, 17) := by decide +kernel
theorem eX12_been_17 : ino mX12_been 17 = some (.if_icmp .ne 12, 29) := by decide +kernel
theorem eX12_been_20 : ino mX12_been 20 = some (.iload_n 1, 21) := by decide +kernel
theorem eX12_been_21 : ino mX12_been 21 = some (.iconst 1, 22) := by decide +kernel
theorem eX12_been_22 : ino mX12_been 22 = some (.iconst 4, 23) := by decide +kernel
theorem eX12_been_23 : ino mX12_been 23 = some (.invokestatic 221, 26) := by decide +kernel
theorem eX12_been_26 : ino mX12_been 26 = some (.ifCond .ne 5, 31) := by decide +kernel
theorem eX12_been_29 : ino mX12_been 29 = some (.iconst (-1), 30) := by decide +kernel
theorem eX12_been_30 : ino mX12_been 30 = some (.ireturn, 31) := by decide +kernel
theorem eX12_been_31 : ino mX12_been 31 = some (.iconst 0, 32) := by decide +kernel
theorem eX12_been_32 : ino mX12_been 32 = some (.istore_n 2, 33) := by decide +kernel
theorem eX12_been_33 : ino mX12_been 33 = some (.iconst 0, 34) := by decide +kernel
theorem eX12_been_34 : ino mX12_been 34 = some (.istore_n 3, 35) := by decide +kernel
theorem eX12_been_35 : ino mX12_been 35 = some (.iconst 0, 36) := by decide +kernel
theorem eX12_been_36 : ino mX12_been 36 = some (.istore 4, 38) := by decide +kernel
theorem eX12_been_38 : ino mX12_been 38 = some (.iload 4, 40) := by decide +kernel
theorem eX12_been_40 : ino mX12_been 40 = some (.aload_n 0, 41) := by decide +kernel
theorem eX12_been_41 : ino mX12_been 41 = some (.getfield 33, 44) := by decide +kernel
theorem eX12_been_44 : ino mX12_been 44 = some (.iconst 0, 45) := by decide +kernel
theorem eX12_been_45 : ino mX12_been 45 = some (.iaload, 46) := by decide +kernel
theorem eX12_been_46 : ino mX12_been 46 = some (.iconst 1, 47) := by decide +kernel
theorem eX12_been_47 : ino mX12_been 47 = some (.iadd, 48) := by decide +kernel
theorem eX12_been_48 : ino mX12_been 48 = some (.iload_n 1, 49) := by decide +kernel
theorem eX12_been_49 : ino mX12_been 49 = some (.invokestatic 389, 52) := by decide +kernel
theorem eX12_been_52 : ino mX12_been 52 = some (.if_icmp .ge 36, 88) := by decide +kernel
theorem eX12_been_55 : ino mX12_been 55 = some (.aload_n 0, 56) := by decide +kernel
theorem eX12_been_56 : ino mX12_been 56 = some (.iload 4, 58) := by decide +kernel
theorem eX12_been_58 : ino mX12_been 58 = some (.iload_n 1, 59) := by decide +kernel
theorem eX12_been_59 : ino mX12_been 59 = some (.invokevirtual 399, 62) := by decide +kernel
theorem eX12_been_62 : ino mX12_been 62 = some (.ifCond .ne 6, 68) := by decide +kernel
theorem eX12_been_65 : ino mX12_been 65 = some (.goto 17, 82) := by decide +kernel
theorem eX12_been_68 : ino mX12_been 68 = some (.iload_n 2, 69) := by decide +kernel
theorem eX12_been_69 : ino mX12_been 69 = some (.ifCond .ne 8, 77) := by decide +kernel
theorem eX12_been_72 : ino mX12_been 72 = some (.iload 4, 74) := by decide +kernel
theorem eX12_been_74 : ino mX12_been 74 = some (.goto 4, 78) := by decide +kernel
theorem eX12_been_77 : ino mX12_been 77 = some (.iload_n 3, 78) := by decide +kernel
theorem eX12_been_78 : ino mX12_been 78 = some (.istore_n 3, 79) := by decide +kernel
theorem eX12_been_79 : ino mX12_been 79 = some (.iinc 2 1, 82) := by decide +kernel
theorem eX12_been_82 : ino mX12_been 82 = some (.iinc 4 1, 85) := by decide +kernel
theorem eX12_been_85 : ino mX12_been 85 = some (.goto (-47), 38) := by decide +kernel
theorem eX12_been_88 : ino mX12_been 88 = some (.iload_n 2, 89) := by decide +kernel
theorem eX12_been_89 : ino mX12_been 89 = some (.ifCond .ne 5, 94) := by decide +kernel
theorem eX12_been_92 : ino mX12_been 92 = some (.iconst 0, 93) := by decide +kernel
theorem eX12_been_93 : ino mX12_been 93 = some (.ireturn, 94) := by decide +kernel
theorem eX12_been_94 : ino mX12_been 94 = some (.aload_n 0, 95) := by decide +kernel
theorem eX12_been_95 : ino mX12_been 95 = some (.iload_n 1, 96) := by decide +kernel
theorem eX12_been_96 : ino mX12_been 96 = some (.putfield 77, 99) := by decide +kernel
theorem eX12_been_99 : ino mX12_been 99 = some (.iconst 0, 100) := by decide +kernel
theorem eX12_been_100 : ino mX12_been 100 = some (.istore 4, 102) := by decide +kernel
theorem eX12_been_102 : ino mX12_been 102 = some (.iload 4, 104) := by decide +kernel
theorem eX12_been_104 : ino mX12_been 104 = some (.iload_n 1, 105) := by decide +kernel
theorem eX12_been_105 : ino mX12_been 105 = some (.if_icmp .ge 31, 136) := by decide +kernel
theorem eX12_been_108 : ino mX12_been 108 = some (.aload_n 0, 109) := by decide +kernel
theorem eX12_been_109 : ino mX12_been 109 = some (.getfield 68, 112) := by decide +kernel
theorem eX12_been_112 : ino mX12_been 112 = some (.iload 4, 114) := by decide +kernel
theorem eX12_been_114 : ino mX12_been 114 = some (.iload_n 3, 115) := by decide +kernel
theorem eX12_been_115 : ino mX12_been 115 = some (.aload_n 0, 116) := by decide +kernel
theorem eX12_been_116 : ino mX12_been 116 = some (.getfield 33, 119) := by decide +kernel
theorem eX12_been_119 : ino mX12_been 119 = some (.iconst 0, 120) := by decide +kernel
theorem eX12_been_120 : ino mX12_been 120 = some (.iaload, 121) := by decide +kernel
theorem eX12_been_121 : ino mX12_been 121 = some (.iconst 1, 122) := by decide +kernel
theorem eX12_been_122 : ino mX12_been 122 = some (.iadd, 123) := by decide +kernel
theorem eX12_been_123 : ino mX12_been 123 = some (.iload_n 1, 124) := by decide +kernel
theorem eX12_been_124 : ino mX12_been 124 = some (.iload 4, 126) := by decide +kernel
theorem eX12_been_126 : ino mX12_been 126 = some (.invokestatic 378, 129) := by decide +kernel
theorem eX12_been_129 : ino mX12_been 129 = some (.iastore, 130) := by decide +kernel
theorem eX12_been_130 : ino mX12_been 130 = some (.iinc 4 1, 133) := by decide +kernel
theorem eX12_been_133 : ino mX12_been 133 = some (.goto (-31), 102) := by decide +kernel
theorem eX12_been_136 : ino mX12_been 136 = some (.aload_n 0, 137) := by decide +kernel
theorem eX12_been_137 : ino mX12_been 137 = some (.iconst 0, 138) := by decide +kernel
theorem eX12_been_138 : ino mX12_been 138 = some (.putfield 80, 141) := by decide +kernel
theorem eX12_been_141 : ino mX12_been 141 = some (.aload_n 0, 142) := by decide +kernel
theorem eX12_been_142 : ino mX12_been 142 = some (.iconst 0, 143) := by decide +kernel
theorem eX12_been_143 : ino mX12_been 143 = some (.iload_n 1, 144) := by decide +kernel
theorem eX12_been_144 : ino mX12_been 144 = some (.invokevirtual 405, 147) := by decide +kernel
theorem eX12_been_147 : ino mX12_been 147 = some (.istore 4, 149) := by decide +kernel
theorem eX12_been_149 : ino mX12_been 149 = some (.iconst 1, 150) := by decide +kernel
theorem eX12_been_150 : ino mX12_been 150 = some (.istore 5, 152) := by decide +kernel
theorem eX12_been_152 : ino mX12_been 152 = some (.iload 5, 154) := by decide +kernel
theorem eX12_been_154 : ino mX12_been 154 = some (.iload_n 1, 155) := by decide +kernel
theorem eX12_been_155 : ino mX12_been 155 = some (.if_icmp .ge 38, 193) := by decide +kernel
theorem eX12_been_158 : ino mX12_been 158 = some (.aload_n 0, 159) := by decide +kernel
theorem eX12_been_159 : ino mX12_been 159 = some (.iload 5, 161) := by decide +kernel
theorem eX12_been_161 : ino mX12_been 161 = some (.iload_n 1, 162) := by decide +kernel
theorem eX12_been_162 : ino mX12_been 162 = some (.invokevirtual 405, 165) := by decide +kernel
theorem eX12_been_165 : ino mX12_been 165 = some (.istore 6, 167) := by decide +kernel
theorem eX12_been_167 : ino mX12_been 167 = some (.iload 6, 169) := by decide +kernel
theorem eX12_been_169 : ino mX12_been 169 = some (.iload 4, 171) := by decide +kernel
theorem eX12_been_171 : ino mX12_been 171 = some (.if_icmp .lt 6, 177) := by decide +kernel
theorem eX12_been_174 : ino mX12_been 174 = some (.goto 13, 187) := by decide +kernel
theorem eX12_been_177 : ino mX12_been 177 = some (.iload 6, 179) := by decide +kernel
theorem eX12_been_179 : ino mX12_been 179 = some (.istore 4, 181) := by decide +kernel
theorem eX12_been_181 : ino mX12_been 181 = some (.aload_n 0, 182) := by decide +kernel
theorem eX12_been_182 : ino mX12_been 182 = some (.iload 5, 184) := by decide +kernel
theorem eX12_been_184 : ino mX12_been 184 = some (.putfield 80, 187) := by decide +kernel
theorem eX12_been_187 : ino mX12_been 187 = some (.iinc 5 1, 190) := by decide +kernel
theorem eX12_been_190 : ino mX12_been 190 = some (.goto (-38), 152) := by decide +kernel
theorem eX12_been_193 : ino mX12_been 193 = some (.iload_n 2, 194) := by decide +kernel
theorem eX12_been_194 : ino mX12_been 194 = some (.ireturn, 195) := by decide +kernel
theorem eX12_beenAt_0 : ino mX12_beenAt 0 = some (.aload_n 0, 1) := by decide +kernel
theorem eX12_beenAt_1 : ino mX12_beenAt 1 = some (.iconst 0, 2) := by decide +kernel
theorem eX12_beenAt_2 : ino mX12_beenAt 2 = some (.putfield 1, 5) := by decide +kernel
theorem eX12_beenAt_5 : ino mX12_beenAt 5 = some (.iload_n 1, 6) := by decide +kernel
theorem eX12_beenAt_6 : ino mX12_beenAt 6 = some (.iconst 0, 7) := by decide +kernel
theorem eX12_beenAt_7 : ino mX12_beenAt 7 = some (.aload_n 0, 8) := by decide +kernel
theorem eX12_beenAt_8 : ino mX12_beenAt 8 = some (.getfield 77, 11) := by decide +kernel
theorem eX12_beenAt_11 : ino mX12_beenAt 11 = some (.iconst 1, 12) := by decide +kernel
theorem eX12_beenAt_12 : ino mX12_beenAt 12 = some (.isub, 13) := by decide +kernel
theorem eX12_beenAt_13 : ino mX12_beenAt 13 = some (.invokestatic 221, 16) := by decide +kernel
theorem eX12_beenAt_16 : ino mX12_beenAt 16 = some (.ifCond .eq 12, 28) := by decide +kernel
theorem eX12_beenAt_19 : ino mX12_beenAt 19 = some (.aload_n 0, 20) := by decide +kernel
theorem eX12_beenAt_20 : ino mX12_beenAt 20 = some (.getfield 68, 23) := by decide +kernel
theorem eX12_beenAt_23 : ino mX12_beenAt 23 = some (.iload_n 1, 24) := by decide +kernel
theorem eX12_beenAt_24 : ino mX12_beenAt 24 = some (.iaload, 25) := by decide +kernel
theorem eX12_beenAt_25 : ino mX12_beenAt 25 = some (.goto 4, 29) := by decide +kernel
theorem eX12_beenAt_28 : ino mX12_beenAt 28 = some (.iconst (-1), 29) := by decide +kernel
theorem eX12_beenAt_29 : ino mX12_beenAt 29 = some (.ireturn, 30) := by decide +kernel
theorem eX12_ask_0 : ino mX12_ask 0 = some (.aload_n 0, 1) := by decide +kernel
theorem eX12_ask_1 : ino mX12_ask 1 = some (.iconst 0, 2) := by decide +kernel
theorem eX12_ask_2 : ino mX12_ask 2 = some (.putfield 1, 5) := by decide +kernel
theorem eX12_ask_5 : ino mX12_ask 5 = some (.aload_n 0, 6) := by decide +kernel
theorem eX12_ask_6 : ino mX12_ask 6 = some (.getfield 80, 9) := by decide +kernel
theorem eX12_ask_9 : ino mX12_ask 9 = some (.ireturn, 10) := by decide +kernel
theorem eX12_hung_0 : ino mX12_hung 0 = some (.aload_n 0, 1) := by decide +kernel
theorem eX12_hung_1 : ino mX12_hung 1 = some (.iconst 0, 2) := by decide +kernel
theorem eX12_hung_2 : ino mX12_hung 2 = some (.putfield 1, 5) := by decide +kernel
theorem eX12_hung_5 : ino mX12_hung 5 = some (.aload_n 0, 6) := by decide +kernel
theorem eX12_hung_6 : ino mX12_hung 6 = some (.iload_n 1, 7) := by decide +kernel
theorem eX12_hung_7 : ino mX12_hung 7 = some (.invokevirtual 306, 10) := by decide +kernel
theorem eX12_hung_10 : ino mX12_hung 10 = some (.ifCond .ne 5, 15) := by decide +kernel
theorem eX12_hung_13 : ino mX12_hung 13 = some (.iconst (-1), 14) := by decide +kernel
theorem eX12_hung_14 : ino mX12_hung 14 = some (.ireturn, 15) := by decide +kernel
theorem eX12_hung_15 : ino mX12_hung 15 = some (.iconst 0, 16) := by decide +kernel
theorem eX12_hung_16 : ino mX12_hung 16 = some (.istore_n 2, 17) := by decide +kernel
theorem eX12_hung_17 : ino mX12_hung 17 = some (.iconst 1, 18) := by decide +kernel
theorem eX12_hung_18 : ino mX12_hung 18 = some (.istore_n 3, 19) := by decide +kernel
theorem eX12_hung_19 : ino mX12_hung 19 = some (.iload_n 3, 20) := by decide +kernel
theorem eX12_hung_20 : ino mX12_hung 20 = some (.iconst 1, 21) := by decide +kernel
theorem eX12_hung_21 : ino mX12_hung 21 = some (.aload_n 0, 22) := by decide +kernel
theorem eX12_hung_22 : ino mX12_hung 22 = some (.getfield 33, 25) := by decide +kernel
theorem eX12_hung_25 : ino mX12_hung 25 = some (.iconst 2, 26) := by decide +kernel
theorem eX12_hung_26 : ino mX12_hung 26 = some (.iaload, 27) := by decide +kernel
theorem eX12_hung_27 : ino mX12_hung 27 = some (.ishl, 28) := by decide +kernel
theorem eX12_hung_28 : ino mX12_hung 28 = some (.if_icmp .ge 76, 104) := by decide +kernel
theorem eX12_hung_31 : ino mX12_hung 31 = some (.aload_n 0, 32) := by decide +kernel
theorem eX12_hung_32 : ino mX12_hung 32 = some (.getfield 33, 35) := by decide +kernel
theorem eX12_hung_35 : ino mX12_hung 35 = some (.bipush 96, 37) := by decide +kernel
theorem eX12_hung_37 : ino mX12_hung 37 = some (.iload_n 1, 38) := by decide +kernel
theorem eX12_hung_38 : ino mX12_hung 38 = some (.iadd, 39) := by decide +kernel
theorem eX12_hung_39 : ino mX12_hung 39 = some (.iaload, 40) := by decide +kernel
theorem eX12_hung_40 : ino mX12_hung 40 = some (.aload_n 0, 41) := by decide +kernel
theorem eX12_hung_41 : ino mX12_hung 41 = some (.iload_n 3, 42) := by decide +kernel
theorem eX12_hung_42 : ino mX12_hung 42 = some (.invokevirtual 331, 45) := by decide +kernel
theorem eX12_hung_45 : ino mX12_hung 45 = some (.isub, 46) := by decide +kernel
theorem eX12_hung_46 : ino mX12_hung 46 = some (.invokestatic 299, 49) := by decide +kernel
theorem eX12_hung_49 : ino mX12_hung 49 = some (.istore 4, 51) := by decide +kernel
theorem eX12_hung_51 : ino mX12_hung 51 = some (.aload_n 0, 52) := by decide +kernel
theorem eX12_hung_52 : ino mX12_hung 52 = some (.getfield 33, 55) := by decide +kernel
theorem eX12_hung_55 : ino mX12_hung 55 = some (.bipush 96, 57) := by decide +kernel
theorem eX12_hung_57 : ino mX12_hung 57 = some (.iload_n 1, 58) := by decide +kernel
theorem eX12_hung_58 : ino mX12_hung 58 = some (.iadd, 59) := by decide +kernel
theorem eX12_hung_59 : ino mX12_hung 59 = some (.iaload, 60) := by decide +kernel
theorem eX12_hung_60 : ino mX12_hung 60 = some (.aload_n 0, 61) := by decide +kernel
theorem eX12_hung_61 : ino mX12_hung 61 = some (.iload_n 2, 62) := by decide +kernel
theorem eX12_hung_62 : ino mX12_hung 62 = some (.invokevirtual 331, 65) := by decide +kernel
theorem eX12_hung_65 : ino mX12_hung 65 = some (.isub, 66) := by decide +kernel
theorem eX12_hung_66 : ino mX12_hung 66 = some (.invokestatic 299, 69) := by decide +kernel
theorem eX12_hung_69 : ino mX12_hung 69 = some (.istore 5, 71) := by decide +kernel
theorem eX12_hung_71 : ino mX12_hung 71 = some (.iload 4, 73) := by decide +kernel
theorem eX12_hung_73 : ino mX12_hung 73 = some (.iload 5, 75) := by decide +kernel
theorem eX12_hung_75 : ino mX12_hung 75 = some (.if_icmp .lt 21, 96) := by decide +kernel
theorem eX12_hung_78 : ino mX12_hung 78 = some (.iload 4, 80) := by decide +kernel
theorem eX12_hung_80 : ino mX12_hung 80 = some (.iload 5, 82) := by decide +kernel
theorem eX12_hung_82 : ino mX12_hung 82 = some (.if_icmp .ne 16, 98) := by decide +kernel
theorem eX12_hung_85 : ino mX12_hung 85 = some (.iload_n 3, 86) := by decide +kernel
theorem eX12_hung_86 : ino mX12_hung 86 = some (.invokestatic 382, 89) := by decide +kernel
theorem eX12_hung_89 : ino mX12_hung 89 = some (.iload_n 2, 90) := by decide +kernel
theorem eX12_hung_90 : ino mX12_hung 90 = some (.invokestatic 382, 93) := by decide +kernel
theorem eX12_hung_93 : ino mX12_hung 93 = some (.if_icmp .ge 5, 98) := by decide +kernel
theorem eX12_hung_96 : ino mX12_hung 96 = some (.iload_n 3, 97) := by decide +kernel
theorem eX12_hung_97 : ino mX12_hung 97 = some (.istore_n 2, 98) := by decide +kernel
theorem eX12_hung_98 : ino mX12_hung 98 = some (.iinc 3 1, 101) := by decide +kernel
theorem eX12_hung_101 : ino mX12_hung 101 = some (.goto (-82), 19) := by decide +kernel
theorem eX12_hung_104 : ino mX12_hung 104 = some (.aload_n 0, 105) := by decide +kernel
theorem eX12_hung_105 : ino mX12_hung 105 = some (.iconst 1, 106) := by decide +kernel
theorem eX12_hung_106 : ino mX12_hung 106 = some (.putfield 408, 109) := by decide +kernel
theorem eX12_hung_109 : ino mX12_hung 109 = some (.aload_n 0, 110) := by decide +kernel
theorem eX12_hung_110 : ino mX12_hung 110 = some (.iload_n 2, 111) := by decide +kernel
theorem eX12_hung_111 : ino mX12_hung 111 = some (.putfield 412, 114) := by decide +kernel
theorem eX12_hung_114 : ino mX12_hung 114 = some (.aload_n 0, 115) := by decide +kernel
theorem eX12_hung_115 : ino mX12_hung 115 = some (.getfield 33, 118) := by decide +kernel
theorem eX12_hung_118 : ino mX12_hung 118 = some (.bipush 96, 120) := by decide +kernel
theorem eX12_hung_120 : ino mX12_hung 120 = some (.iload_n 1, 121) := by decide +kernel
theorem eX12_hung_121 : ino mX12_hung 121 = some (.iadd, 122) := by decide +kernel
theorem eX12_hung_122 : ino mX12_hung 122 = some (.iaload, 123) := by decide +kernel
theorem eX12_hung_123 : ino mX12_hung 123 = some (.aload_n 0, 124) := by decide +kernel
theorem eX12_hung_124 : ino mX12_hung 124 = some (.iload_n 2, 125) := by decide +kernel
theorem eX12_hung_125 : ino mX12_hung 125 = some (.invokevirtual 331, 128) := by decide +kernel
theorem eX12_hung_128 : ino mX12_hung 128 = some (.isub, 129) := by decide +kernel
theorem eX12_hung_129 : ino mX12_hung 129 = some (.invokestatic 299, 132) := by decide +kernel
theorem eX12_hung_132 : ino mX12_hung 132 = some (.ireturn, 133) := by decide +kernel
