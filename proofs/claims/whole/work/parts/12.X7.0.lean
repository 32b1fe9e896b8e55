theorem eX7_init_0 : ino mX7_init 0 = some (.aload_n 0, 1) := by decide +kernel
theorem eX7_init_1 : ino mX7_init 1 = some (.invokespecial 3, 4) := by decide +kernel
theorem eX7_init_4 : ino mX7_init 4 = some (.aload_n 0, 5) := by decide +kernel
theorem eX7_init_5 : ino mX7_init 5 = some (.bipush 6, 7) := by decide +kernel
theorem eX7_init_7 : ino mX7_init 7 = some (.newarray .int, 9) := by decide +kernel
theorem eX7_init_9 : ino mX7_init 9 = some (.putfield 9, 12) := by decide +kernel
theorem eX7_init_12 : ino mX7_init 12 = some (.aload_n 0, 13) := by decide +kernel
theorem eX7_init_13 : ino mX7_init 13 = some (.bipush 6, 15) := by decide +kernel
theorem eX7_init_15 : ino mX7_init 15 = some (.newarray .int, 17) := by decide +kernel
theorem eX7_init_17 : ino mX7_init 17 = some (.putfield 15, 20) := by decide +kernel
theorem eX7_init_20 : ino mX7_init 20 = some (.aload_n 0, 21) := by decide +kernel
theorem eX7_init_21 : ino mX7_init 21 = some (.bipush 6, 23) := by decide +kernel
theorem eX7_init_23 : ino mX7_init 23 = some (.newarray .int, 25) := by decide +kernel
theorem eX7_init_25 : ino mX7_init 25 = some (.putfield 18, 28) := by decide +kernel
theorem eX7_init_28 : ino mX7_init 28 = some (.aload_n 0, 29) := by decide +kernel
theorem eX7_init_29 : ino mX7_init 29 = some (.bipush 6, 31) := by decide +kernel
theorem eX7_init_31 : ino mX7_init 31 = some (.newarray .int, 33) := by decide +kernel
theorem eX7_init_33 : ino mX7_init 33 = some (.putfield 21, 36) := by decide +kernel
theorem eX7_init_36 : ino mX7_init 36 = some (.aload_n 0, 37) := by decide +kernel
theorem eX7_init_37 : ino mX7_init 37 = some (.bipush 6, 39) := by decide +kernel
theorem eX7_init_39 : ino mX7_init 39 = some (.newarray .int, 41) := by decide +kernel
theorem eX7_init_41 : ino mX7_init 41 = some (.putfield 24, 44) := by decide +kernel
theorem eX7_init_44 : ino mX7_init 44 = some (.aload_n 0, 45) := by decide +kernel
theorem eX7_init_45 : ino mX7_init 45 = some (.bipush 24, 47) := by decide +kernel
theorem eX7_init_47 : ino mX7_init 47 = some (.newarray .int, 49) := by decide +kernel
theorem eX7_init_49 : ino mX7_init 49 = some (.putfield 27, 52) := by decide +kernel
theorem eX7_init_52 : ino mX7_init 52 = some (.aload_n 0, 53) := by decide +kernel
theorem eX7_init_53 : ino mX7_init 53 = some (.iconst 0, 54) := by decide +kernel
theorem eX7_init_54 : ino mX7_init 54 = some (.putfield 30, 57) := by decide +kernel
theorem eX7_init_57 : ino mX7_init 57 = some (.aload_n 0, 58) := by decide +kernel
theorem eX7_init_58 : ino mX7_init 58 = some (.iconst 0, 59) := by decide +kernel
theorem eX7_init_59 : ino mX7_init 59 = some (.putfield 34, 62) := by decide +kernel
theorem eX7_init_62 : ino mX7_init 62 = some (.aload_n 0, 63) := by decide +kernel
theorem eX7_init_63 : ino mX7_init 63 = some (.iconst 0, 64) := by decide +kernel
theorem eX7_init_64 : ino mX7_init 64 = some (.putfield 37, 67) := by decide +kernel
theorem eX7_init_67 : ino mX7_init 67 = some (.aload_n 0, 68) := by decide +kernel
theorem eX7_init_68 : ino mX7_init 68 = some (.iconst 0, 69) := by decide +kernel
theorem eX7_init_69 : ino mX7_init 69 = some (.putfield 40, 72) := by decide +kernel
theorem eX7_init_72 : ino mX7_init 72 = some (.aload_n 0, 73) := by decide +kernel
theorem eX7_init_73 : ino mX7_init 73 = some (.iconst 0, 74) := by decide +kernel
theorem eX7_init_74 : ino mX7_init 74 = some (.putfield 43, 77) := by decide +kernel
theorem eX7_init_77 : ino mX7_init 77 = some (.return_, 78) := by decide +kernel
theorem eX7_begin_0 : ino mX7_begin 0 = some (.aload_n 0, 1) := by decide +kernel
theorem eX7_begin_1 : ino mX7_begin 1 = some (.getfield 9, 4) := by decide +kernel
theorem eX7_begin_4 : ino mX7_begin 4 = some (.iconst 0, 5) := by decide +kernel
theorem eX7_begin_5 : ino mX7_begin 5 = some (.invokestatic 46, 8) := by decide +kernel
theorem eX7_begin_8 : ino mX7_begin 8 = some (.aload_n 1, 9) := by decide +kernel
theorem eX7_begin_9 : ino mX7_begin 9 = some (.getfield 52, 12) := by decide +kernel
theorem eX7_begin_12 : ino mX7_begin 12 = some (.iconst 0, 13) := by decide +kernel
theorem eX7_begin_13 : ino mX7_begin 13 = some (.aload_n 0, 14) := by decide +kernel
theorem eX7_begin_14 : ino mX7_begin 14 = some (.getfield 15, 17) := by decide +kernel
theorem eX7_begin_17 : ino mX7_begin 17 = some (.iconst 0, 18) := by decide +kernel
theorem eX7_begin_18 : ino mX7_begin 18 = some (.aload_n 0, 19) := by decide +kernel
theorem eX7_begin_19 : ino mX7_begin 19 = some (.getfield 15, 22) := by decide +kernel
theorem eX7_begin_22 : ino mX7_begin 22 = some (.arraylength, 23) := by decide +kernel
theorem eX7_begin_23 : ino mX7_begin 23 = some (.invokestatic 57, 26) := by decide +kernel
theorem eX7_begin_26 : ino mX7_begin 26 = some (.aload_n 0, 27) := by decide +kernel
theorem eX7_begin_27 : ino mX7_begin 27 = some (.getfield 18, 30) := by decide +kernel
theorem eX7_begin_30 : ino mX7_begin 30 = some (.iconst 0, 31) := by decide +kernel
theorem eX7_begin_31 : ino mX7_begin 31 = some (.invokestatic 46, 34) := by decide +kernel
theorem eX7_begin_34 : ino mX7_begin 34 = some (.aload_n 0, 35) := by decide +kernel
theorem eX7_begin_35 : ino mX7_begin 35 = some (.getfield 21, 38) := by decide +kernel
theorem eX7_begin_38 : ino mX7_begin 38 = some (.iconst 0, 39) := by decide +kernel
theorem eX7_begin_39 : ino mX7_begin 39 = some (.invokestatic 46, 42) := by decide +kernel
theorem eX7_begin_42 : ino mX7_begin 42 = some (.aload_n 0, 43) := by decide +kernel
theorem eX7_begin_43 : ino mX7_begin 43 = some (.getfield 24, 46) := by decide +kernel
theorem eX7_begin_46 : ino mX7_begin 46 = some (.iconst 0, 47) := by decide +kernel
theorem eX7_begin_47 : ino mX7_begin 47 = some (.invokestatic 46, 50) := by decide +kernel
theorem eX7_begin_50 : ino mX7_begin 50 = some (.aload_n 0, 51) := by decide +kernel
theorem eX7_begin_51 : ino mX7_begin 51 = some (.getfield 27, 54) := by decide +kernel
theorem eX7_begin_54 : ino mX7_begin 54 = some (.iconst 0, 55) := by decide +kernel
theorem eX7_begin_55 : ino mX7_begin 55 = some (.invokestatic 46, 58) := by decide +kernel
theorem eX7_begin_58 : ino mX7_begin 58 = some (.aload_n 0, 59) := by decide +kernel
theorem eX7_begin_59 : ino mX7_begin 59 = some (.iconst 0, 60) := by decide +kernel
theorem eX7_begin_60 : ino mX7_begin 60 = some (.putfield 30, 63) := by decide +kernel
theorem eX7_begin_63 : ino mX7_begin 63 = some (.aload_n 0, 64) := by decide +kernel
theorem eX7_begin_64 : ino mX7_begin 64 = some (.iconst 0, 65) := by decide +kernel
theorem eX7_begin_65 : ino mX7_begin 65 = some (.putfield 34, 68) := by decide +kernel
theorem eX7_begin_68 : ino mX7_begin 68 = some (.aload_n 0, 69) := by decide +kernel
theorem eX7_begin_69 : ino mX7_begin 69 = some (.iconst 0, 70) := by decide +kernel
theorem eX7_begin_70 : ino mX7_begin 70 = some (.putfield 37, 73) := by decide +kernel
theorem eX7_begin_73 : ino mX7_begin 73 = some (.aload_n 0, 74) := by decide +kernel
theorem eX7_begin_74 : ino mX7_begin 74 = some (.iconst 0, 75) := by decide +kernel
theorem eX7_begin_75 : ino mX7_begin 75 = some (.putfield 40, 78) := by decide +kernel
theorem eX7_begin_78 : ino mX7_begin 78 = some (.aload_n 0, 79) := by decide +kernel
theorem eX7_begin_79 : ino mX7_begin 79 = some (.iconst 0, 80) := by decide +kernel
theorem eX7_begin_80 : ino mX7_begin 80 = some (.putfield 43, 83) := by decide +kernel
theorem eX7_begin_83 : ino mX7_begin 83 = some (.return_, 84) := by decide +kernel
theorem eX7_copyFrom_0 : ino mX7_copyFrom 0 = some (.aload_n 1, 1) := by decide +kernel
theorem eX7_copyFrom_1 : ino mX7_copyFrom 1 = some (.getfield 9, 4) := by decide +kernel
theorem eX7_copyFrom_4 : ino mX7_copyFrom 4 = some (.iconst 0, 5) := by decide +kernel
theorem eX7_copyFrom_5 : ino mX7_copyFrom 5 = some (.aload_n 0, 6) := by decide +kernel
theorem eX7_copyFrom_6 : ino mX7_copyFrom 6 = some (.getfield 9, 9) := by decide +kernel
theorem eX7_copyFrom_9 : ino mX7_copyFrom 9 = some (.iconst 0, 10) := by decide +kernel
theorem eX7_copyFrom_10 : ino mX7_copyFrom 10 = some (.aload_n 0, 11) := by decide +kernel
theorem eX7_copyFrom_11 : ino mX7_copyFrom 11 = some (.getfield 9, 14) := by decide +kernel
theorem eX7_copyFrom_14 : ino mX7_copyFrom 14 = some (.arraylength, 15) := by decide +kernel
theorem eX7_copyFrom_15 : ino mX7_copyFrom 15 = some (.invokestatic 57, 18) := by decide +kernel
theorem eX7_copyFrom_18 : ino mX7_copyFrom 18 = some (.aload_n 1, 19) := by decide +kernel
theorem eX7_copyFrom_19 : ino mX7_copyFrom 19 = some (.getfield 15, 22) := by decide +kernel
theorem eX7_copyFrom_22 : ino mX7_copyFrom 22 = some (.iconst 0, 23) := by decide +kernel
theorem eX7_copyFrom_23 : ino mX7_copyFrom 23 = some (.aload_n 0, 24) := by decide +kernel
theorem eX7_copyFrom_24 : ino mX7_copyFrom 24 = some (.getfield 15, 27) := by decide +kernel
theorem eX7_copyFrom_27 : ino mX7_copyFrom 27 = some (.iconst 0, 28) := by decide +kernel
theorem eX7_copyFrom_28 : ino mX7_copyFrom 28 = some (.aload_n 0, 29) := by decide +kernel
theorem eX7_copyFrom_29 : ino mX7_copyFrom 29 = some (.getfield 15, 32) := by decide +kernel
theorem eX7_copyFrom_32 : ino mX7_copyFrom 32 = some (.arraylength, 33) := by decide +kernel
theorem eX7_copyFrom_33 : ino mX7_copyFrom 33 = some (.invokestatic 57, 36) := by decide +kernel
theorem eX7_copyFrom_36 : ino mX7_copyFrom 36 = some (.aload_n 1, 37) := by decide +kernel
theorem eX7_copyFrom_37 : ino mX7_copyFrom 37 = some (.getfield 18, 40) := by decide +kernel
theorem eX7_copyFrom_40 : ino mX7_copyFrom 40 = some (.iconst 0, 41) := by decide +kernel
theorem eX7_copyFrom_41 : ino mX7_copyFrom 41 = some (.aload_n 0, 42) := by decide +kernel
theorem eX7_copyFrom_42 : ino mX7_copyFrom 42 = some (.getfield 18, 45) := by decide +kernel
theorem eX7_copyFrom_45 : ino mX7_copyFrom 45 = some (.iconst 0, 46) := by decide +kernel
theorem eX7_copyFrom_46 : ino mX7_copyFrom 46 = some (.aload_n 0, 47) := by decide +kernel
theorem eX7_copyFrom_47 : ino mX7_copyFrom 47 = some (.getfield 18, 50) := by decide +kernel
theorem eX7_copyFrom_50 : ino mX7_copyFrom 50 = some (.arraylength, 51) := by decide +kernel
theorem eX7_copyFrom_51 : ino mX7_copyFrom 51 = some (.invokestatic 57, 54) := by decide +kernel
theorem eX7_copyFrom_54 : ino mX7_copyFrom 54 = some (.aload_n 1, 55) := by decide +kernel
theorem eX7_copyFrom_55 : ino mX7_copyFrom 55 = some (.getfield 21, 58) := by decide +kernel
theorem eX7_copyFrom_58 : ino mX7_copyFrom 58 = some (.iconst 0, 59) := by decide +kernel
theorem eX7_copyFrom_59 : ino mX7_copyFrom 59 = some (.aload_n 0, 60) := by decide +kernel
theorem eX7_copyFrom_60 : ino mX7_copyFrom 60 = some (.getfield 21, 63) := by decide +kernel
theorem eX7_copyFrom_63 : ino mX7_copyFrom 63 = some (.iconst 0, 64) := by decide +kernel
theorem eX7_copyFrom_64 : ino mX7_copyFrom 64 = some (.aload_n 0, 65) := by decide +kernel
theorem eX7_copyFrom_65 : ino mX7_copyFrom 65 = some (.getfield 21, 68) := by decide +kernel
theorem eX7_copyFrom_68 : ino mX7_copyFrom 68 = some (.arraylength, 69) := by decide +kernel
theorem eX7_copyFrom_69 : ino mX7_copyFrom 69 = some (.invokestatic 57, 72) := by decide +kernel
theorem eX7_copyFrom_72 : ino mX7_copyFrom 72 = some (.aload_n 1, 73) := by decide +kernel
theorem eX7_copyFrom_73 : ino mX7_copyFrom 73 = some (.getfield 24, 76) := by decide +kernel
theorem eX7_copyFrom_76 : ino mX7_copyFrom 76 = some (.iconst 0, 77) := by decide +kernel
theorem eX7_copyFrom_77 : ino mX7_copyFrom 77 = some (.aload_n 0, 78) := by decide +kernel
theorem eX7_copyFrom_78 : ino mX7_copyFrom 78 = some (.getfield 24, 81) := by decide +kernel
theorem eX7_copyFrom_81 : ino mX7_copyFrom 81 = some (.iconst 0, 82) := by decide +kernel
theorem eX7_copyFrom_82 : ino mX7_copyFrom 82 = some (.aload_n 0, 83) := by decide +kernel
theorem eX7_copyFrom_83 : ino mX7_copyFrom 83 = some (.getfield 24, 86) := by decide +kernel
theorem eX7_copyFrom_86 : ino mX7_copyFrom 86 = some (.arraylength, 87) := by decide +kernel
theorem eX7_copyFrom_87 : ino mX7_copyFrom 87 = some (.invokestatic 57, 90) := by decide +kernel
theorem eX7_copyFrom_90 : ino mX7_copyFrom 90 = some (.aload_n 1, 91) := by decide +kernel
theorem eX7_copyFrom_91 : ino mX7_copyFrom 91 = some (.getfield 27, 94) := by decide +kernel
theorem eX7_copyFrom_94 : ino mX7_copyFrom 94 = some (.iconst 0, 95) := by decide +kernel
theorem eX7_copyFrom_95 : ino mX7_copyFrom 95 = some (.aload_n 0, 96) := by decide +kernel
theorem eX7_copyFrom_96 : ino mX7_copyFrom 96 = some (.getfield 27, 99) := by decide +kernel
theorem eX7_copyFrom_99 : ino mX7_copyFrom 99 = some (.iconst 0, 100) := by decide +kernel
theorem eX7_copyFrom_100 : ino mX7_copyFrom 100 = some (.aload_n 0, 101) := by decide +kernel
theorem eX7_copyFrom_101 : ino mX7_copyFrom 101 = some (.getfield 27, 104) := by decide +kernel
theorem eX7_copyFrom_104 : ino mX7_copyFrom 104 = some (.arraylength, 105) := by decide +kernel
theorem eX7_copyFrom_105 : ino mX7_copyFrom 105 = some (.invokestatic 57, 108) := by decide +kernel
theorem eX7_copyFrom_108 : ino mX7_copyFrom 108 = some (.aload_n 0, 109) := by decide +kernel
theorem eX7_copyFrom_109 : ino mX7_copyFrom 109 = some (.aload_n 1, 110) := by decide +kernel
theorem eX7_copyFrom_110 : ino mX7_copyFrom 110 = some (.getfield 30, 113) := by decide +kernel
theorem eX7_copyFrom_113 : ino mX7_copyFrom 113 = some (.putfield 30, 116) := by decide +kernel
theorem eX7_copyFrom_116 : ino mX7_copyFrom 116 = some (.aload_n 0, 117) := by decide +kernel
theorem eX7_copyFrom_117 : ino mX7_copyFrom 117 = some (.aload_n 1, 118) := by decide +kernel
theorem eX7_copyFrom_118 : ino mX7_copyFrom 118 = some (.getfield 34, 121) := by decide +kernel
theorem eX7_copyFrom_121 : ino mX7_copyFrom 121 = some (.putfield 34, 124) := by decide +kernel
theorem eX7_copyFrom_124 : ino mX7_copyFrom 124 = some (.aload_n 0, 125) := by decide +kernel
theorem eX7_copyFrom_125 : ino mX7_copyFrom 125 = some (.aload_n 1, 126) := by decide +kernel
theorem eX7_copyFrom_126 : ino mX7_copyFrom 126 = some (.getfield 37, 129) := by decide +kernel
theorem eX7_copyFrom_129 : ino mX7_copyFrom 129 = some (.putfield 37, 132) := by decide +kernel
theorem eX7_copyFrom_132 : ino mX7_copyFrom 132 = some (.aload_n 0, 133) := by decide +kernel
theorem eX7_copyFrom_133 : ino mX7_copyFrom 133 = some (.aload_n 1, 134) := by decide +kernel
theorem eX7_copyFrom_134 : ino mX7_copyFrom 134 = some (.getfield 40, 137) := by decide +kernel
theorem eX7_copyFrom_137 : ino mX7_copyFrom 137 = some (.putfield 40, 140) := by decide +kernel
theorem eX7_copyFrom_140 : ino mX7_copyFrom 140 = some (.aload_n 0, 141) := by decide +kernel
theorem eX7_copyFrom_141 : ino mX7_copyFrom 141 = some (.aload_n 1, 142) := by decide +kernel
theorem eX7_copyFrom_142 : ino mX7_copyFrom 142 = some (.getfield 43, 145) := by decide +kernel
theorem eX7_copyFrom_145 : ino mX7_copyFrom 145 = some (.putfield 43, 148) := by decide +kernel
theorem eX7_copyFrom_148 : ino mX7_copyFrom 148 = some (.return_, 149) := by decide +kernel
theorem eX7_amount_0 : ino mX7_amount 0 = some (.aload_n 0, 1) := by decide +kernel
theorem eX7_amount_1 : ino mX7_amount 1 = some (.getfield 27, 4) := by decide +kernel
theorem eX7_amount_4 : ino mX7_amount 4 = some (.iload_n 1, 5) := by decide +kernel
theorem eX7_amount_5 : ino mX7_amount 5 = some (.iconst 4, 6) := by decide +kernel
theorem eX7_amount_6 : ino mX7_amount 6 = some (.imul, 7) := by decide +kernel
theorem eX7_amount_7 : ino mX7_amount 7 = some (.iload_n 2, 8) := by decide +kernel
theorem eX7_amount_8 : ino mX7_amount 8 = some (.iadd, 9) := by decide +kernel
theorem eX7_amount_9 : ino mX7_amount 9 = some (.iaload, 10) := by decide +kernel
theorem eX7_amount_10 : ino mX7_amount 10 = some (.ireturn, 11) := by decide +kernel
theorem eX7_hangs_0 : ino mX7_hangs 0 = some (.aload_n 0, 1) := by decide +kernel
theorem eX7_hangs_1 : ino mX7_hangs 1 = some (.getfield 30, 4) := by decide +kernel
theorem eX7_hangs_4 : ino mX7_hangs 4 = some (.iload_n 1, 5) := by decide +kernel
theorem eX7_hangs_5 : ino mX7_hangs 5 = some (.ishr, 6) := by decide +kernel
theorem eX7_hangs_6 : ino mX7_hangs 6 = some (.iconst 1, 7) := by decide +kernel
theorem eX7_hangs_7 : ino mX7_hangs 7 = some (.iand, 8) := by decide +kernel
theorem eX7_hangs_8 : ino mX7_hangs 8 = some (.ifCond .eq 7, 15) := by decide +kernel
theorem eX7_hangs_11 : ino mX7_hangs 11 = some (.iconst 1, 12) := by decide +kernel
theorem eX7_hangs_12 : ino mX7_hangs 12 = some (.goto 4, 16) := by decide +kernel
theorem eX7_hangs_15 : ino mX7_hangs 15 = some (.iconst 0, 16) := by decide +kernel
theorem eX7_hangs_16 : ino mX7_hangs 16 = some (.ireturn, 17) := by decide +kernel
theorem eX7_balance_0 : ino mX7_balance 0 = some (.aload_n 1, 1) := by decide +kernel
theorem eX7_balance_1 : ino mX7_balance 1 = some (.aload_n 0, 2) := by decide +kernel
theorem eX7_balance_2 : ino mX7_balance 2 = some (.getfield 30, 5) := by decide +kernel
theorem eX7_balance_5 : ino mX7_balance 5 = some (.invokevirtual 63, 8) := by decide +kernel
theorem eX7_balance_8 : ino mX7_balance 8 = some (.ireturn, 9) := by decide +kernel
theorem eX7_offBalance_0 : ino mX7_offBalance 0 = some (.aload_n 0, 1) := by decide +kernel
theorem eX7_offBalance_1 : ino mX7_offBalance 1 = some (.getfield 15, 4) := by decide +kernel
theorem eX7_offBalance_4 : ino mX7_offBalance 4 = some (.iload_n 2, 5) := by decide +kernel
theorem eX7_offBalance_5 : ino mX7_offBalance 5 = some (.iaload, 6) := by decide +kernel
theorem eX7_offBalance_6 : ino mX7_offBalance 6 = some (.aload_n 1, 7) := by decide +kernel
theorem eX7_offBalance_7 : ino mX7_offBalance 7 = some (.aload_n 0, 8) := by decide +kernel
theorem eX7_offBalance_8 : ino mX7_offBalance 8 = some (.getfield 30, 11) := by decide +kernel
theorem eX7_offBalance_11 : ino mX7_offBalance 11 = some (.invokevirtual 63, 14) := by decide +kernel
theorem eX7_offBalance_14 : ino mX7_offBalance 14 = some (.isub, 15) := by decide +kernel
theorem eX7_offBalance_15 : ino mX7_offBalance 15 = some (.invokestatic 67, 18) := by decide +kernel
theorem eX7_offBalance_18 : ino mX7_offBalance 18 = some (.ireturn, 19) := by decide +kernel
theorem eX7_lacking_0 : ino mX7_lacking 0 = some (.iconst 0, 1) := by decide +kernel
theorem eX7_lacking_1 : ino mX7_lacking 1 = some (.istore_n 3, 2) := by decide +kernel
theorem eX7_lacking_2 : ino mX7_lacking 2 = some (.iconst 0, 3) := by decide +kernel
theorem eX7_lacking_3 : ino mX7_lacking 3 = some (.istore 4, 5) := by decide +kernel
theorem eX7_lacking_5 : ino mX7_lacking 5 = some (.iload 4, 7) := by decide +kernel
theorem eX7_lacking_7 : ino mX7_lacking 7 = some (.iconst 4, 8) := by decide +kernel
theorem eX7_lacking_8 : ino mX7_lacking 8 = some (.if_icmp .ge 33, 41) := by decide +kernel
theorem eX7_lacking_11 : ino mX7_lacking 11 = some (.aload_n 0, 12) := by decide +kernel
theorem eX7_lacking_12 : ino mX7_lacking 12 = some (.iload_n 2, 13) := by decide +kernel
theorem eX7_lacking_13 : ino mX7_lacking 13 = some (.iload 4, 15) := by decide +kernel
theorem eX7_lacking_15 : ino mX7_lacking 15 = some (.invokevirtual 72, 18) := by decide +kernel
theorem eX7_lacking_18 : ino mX7_lacking 18 = some (.aload_n 1, 19) := by decide +kernel
theorem eX7_lacking_19 : ino mX7_lacking 19 = some (.getfield 76, 22) := by decide +kernel
theorem eX7_lacking_22 : ino mX7_lacking 22 = some (.iload 4, 24) := by decide +kernel
theorem eX7_lacking_24 : ino mX7_lacking 24 = some (.iaload, 25) := by decide +kernel
theorem eX7_lacking_25 : ino mX7_lacking 25 = some (.if_icmp .ge 10, 35) := by decide +kernel
theorem eX7_lacking_28 : ino mX7_lacking 28 = some (.iload_n 3, 29) := by decide +kernel
theorem eX7_lacking_29 : ino mX7_lacking 29 = some (.iconst 1, 30) := by decide +kernel
theorem eX7_lacking_30 : ino mX7_lacking 30 = some (.iload 4, 32) := by decide +kernel
theorem eX7_lacking_32 : ino mX7_lacking 32 = some (.ishl, 33) := by decide +kernel
theorem eX7_lacking_33 : ino mX7_lacking 33 = some (.ior, 34) := by decide +kernel
theorem eX7_lacking_34 : ino mX7_lacking 34 = some (.istore_n 3, 35) := by decide +kernel
theorem eX7_lacking_35 : ino mX7_lacking 35 = some (.iinc 4 1, 38) := by decide +kernel
theorem eX7_lacking_38 : ino mX7_lacking 38 = some (.goto (-33), 5) := by decide +kernel
theorem eX7_lacking_41 : ino mX7_lacking 41 = some (.iload_n 3, 42) := by decide +kernel
theorem eX7_lacking_42 : ino mX7_lacking 42 = some (.ireturn, 43) := by decide +kernel
theorem eX7_areNeighbours_0 : ino mX7_areNeighbours 0 = some (.aload_n 0, 1) := by decide +kernel
theorem eX7_areNeighbours_1 : ino mX7_areNeighbours 1 = some (.getfield 9, 4) := by decide +kernel
theorem eX7_areNeighbours_4 : ino mX7_areNeighbours 4 = some (.iload_n 1, 5) := by decide +kernel
theorem eX7_areNeighbours_5 : ino mX7_areNeighbours 5 = some (.iaload, 6) := by decide +kernel
theorem eX7_areNeighbours_6 : ino mX7_areNeighbours 6 = some (.ifCond .le 36, 42) := by decide +kernel
theorem eX7_areNeighbours_9 : ino mX7_areNeighbours 9 = some (.aload_n 0, 10) := by decide +kernel
theorem eX7_areNeighbours_10 : ino mX7_areNeighbours 10 = some (.getfield 9, 13) := by decide +kernel
theorem eX7_areNeighbours_13 : ino mX7_areNeighbours 13 = some (.iload_n 2, 14) := by decide +kernel
theorem eX7_areNeighbours_14 : ino mX7_areNeighbours 14 = some (.iaload, 15) := by decide +kernel
theorem eX7_areNeighbours_15 : ino mX7_areNeighbours 15 = some (.ifCond .le 27, 42) := by decide +kernel
theorem eX7_areNeighbours_18 : ino mX7_areNeighbours 18 = some (.aload_n 0, 19) := by decide +kernel
theorem eX7_areNeighbours_19 : ino mX7_areNeighbours 19 = some (.getfield 9, 22) := by decide +kernel
theorem eX7_areNeighbours_22 : ino mX7_areNeighbours 22 = some (.iload_n 1, 23) := by decide +kernel
theorem eX7_areNeighbours_23 : ino mX7_areNeighbours 23 = some (.iaload, 24) := by decide +kernel
theorem eX7_areNeighbours_24 : ino mX7_areNeighbours 24 = some (.aload_n 0, 25) := by decide +kernel
theorem eX7_areNeighbours_25 : ino mX7_areNeighbours 25 = some (.getfield 9, 28) := by decide +kernel
theorem eX7_areNeighbours_28 : ino mX7_areNeighbours 28 = some (.iload_n 2, 29) := by decide +kernel
theorem eX7_areNeighbours_29 : ino mX7_areNeighbours 29 = some (.iaload, 30) := by decide +kernel
theorem eX7_areNeighbours_30 : ino mX7_areNeighbours 30 = some (.isub, 31) := by decide +kernel
theorem eX7_areNeighbours_31 : ino mX7_areNeighbours 31 = some (.invokestatic 67, 34) := by decide +kernel
theorem eX7_areNeighbours_34 : ino mX7_areNeighbours 34 = some (.iconst 1, 35) := by decide +kernel
theorem eX7_areNeighbours_35 : ino mX7_areNeighbours 35 = some (.if_icmp .ne 7, 42) := by decide +kernel
theorem eX7_areNeighbours_38 : ino mX7_areNeighbours 38 = some (.iconst 1, 39) := by decide +kernel
theorem eX7_areNeighbours_39 : ino mX7_areNeighbours 39 = some (.goto 4, 43) := by decide +kernel
theorem eX7_areNeighbours_42 : ino mX7_areNeighbours 42 = some (.iconst 0, 43) := by decide +kernel
theorem eX7_areNeighbours_43 : ino mX7_areNeighbours 43 = some (.ireturn, 44) := by decide +kernel
theorem eX7_neighbours_0 : ino mX7_neighbours 0 = some (.iconst 0, 1) := by decide +kernel
theorem eX7_neighbours_1 : ino mX7_neighbours 1 = some (.istore_n 3, 2) := by decide +kernel
theorem eX7_neighbours_2 : ino mX7_neighbours 2 = some (.iconst 0, 3) := by decide +kernel
theorem eX7_neighbours_3 : ino mX7_neighbours 3 = some (.istore 4, 5) := by decide +kernel
theorem eX7_neighbours_5 : ino mX7_neighbours 5 = some (.iload 4, 7) := by decide +kernel
theorem eX7_neighbours_7 : ino mX7_neighbours 7 = some (.aload_n 1, 8) := by decide +kernel
theorem eX7_neighbours_8 : ino mX7_neighbours 8 = some (.getfield 79, 11) := by decide +kernel
theorem eX7_neighbours_11 : ino mX7_neighbours 11 = some (.if_icmp .ge 26, 37) := by decide +kernel
theorem eX7_neighbours_14 : ino mX7_neighbours 14 = some (.aload_n 0, 15) := by decide +kernel
theorem eX7_neighbours_15 : ino mX7_neighbours 15 = some (.iload_n 2, 16) := by decide +kernel
theorem eX7_neighbours_16 : ino mX7_neighbours 16 = some (.iload 4, 18) := by decide +kernel
theorem eX7_neighbours_18 : ino mX7_neighbours 18 = some (.invokevirtual 82, 21) := by decide +kernel
theorem eX7_neighbours_21 : ino mX7_neighbours 21 = some (.ifCond .eq 10, 31) := by decide +kernel
theorem eX7_neighbours_24 : ino mX7_neighbours 24 = some (.iload_n 3, 25) := by decide +kernel
theorem eX7_neighbours_25 : ino mX7_neighbours 25 = some (.iconst 1, 26) := by decide +kernel
theorem eX7_neighbours_26 : ino mX7_neighbours 26 = some (.iload 4, 28) := by decide +kernel
theorem eX7_neighbours_28 : ino mX7_neighbours 28 = some (.ishl, 29) := by decide +kernel
theorem eX7_neighbours_29 : ino mX7_neighbours 29 = some (.ior, 30) := by decide +kernel
theorem eX7_neighbours_30 : ino mX7_neighbours 30 = some (.istore_n 3, 31) := by decide +kernel
theorem eX7_neighbours_31 : ino mX7_neighbours 31 = some (.iinc 4 1, 34) := by decide +kernel
theorem eX7_neighbours_34 : ino mX7_neighbours 34 = some (.goto (-29), 5) := by decide +kernel
theorem eX7_neighbours_37 : ino mX7_neighbours 37 = some (.iload_n 3, 38) := by decide +kernel
theorem eX7_neighbours_38 : ino mX7_neighbours 38 = some (.ireturn, 39) := by decide +kernel
theorem eX7_childOn_0 : ino mX7_childOn 0 = some (.iconst 0, 1) := by decide +kernel
theorem eX7_childOn_1 : ino mX7_childOn 1 = some (.istore_n 3, 2) := by decide +kernel
theorem eX7_childOn_2 : ino mX7_childOn 2 = some (.iload_n 3, 3) := by decide +kernel
theorem eX7_childOn_3 : ino mX7_childOn 3 = some (.aload_n 1, 4) := by decide +kernel
theorem eX7_childOn_4 : ino mX7_childOn 4 = some (.getfield 79, 7) := by decide +kernel
theorem eX7_childOn_7 : ino mX7_childOn 7 = some (.if_icmp .ge 21, 28) := by decide +kernel
theorem eX7_childOn_10 : ino mX7_childOn 10 = some (.aload_n 0, 11) := by decide +kernel
theorem eX7_childOn_11 : ino mX7_childOn 11 = some (.getfield 9, 14) := by decide +kernel
theorem eX7_childOn_14 : ino mX7_childOn 14 = some (.iload_n 3, 15) := by decide +kernel
theorem eX7_childOn_15 : ino mX7_childOn 15 = some (.iaload, 16) := by decide +kernel
theorem eX7_childOn_16 : ino mX7_childOn 16 = some (.iload_n 2, 17) := by decide +kernel
theorem eX7_childOn_17 : ino mX7_childOn 17 = some (.if_icmp .ne 5, 22) := by decide +kernel
theorem eX7_childOn_20 : ino mX7_childOn 20 = some (.iload_n 3, 21) := by decide +kernel
theorem eX7_childOn_21 : ino mX7_childOn 21 = some (.ireturn, 22) := by decide +kernel
theorem eX7_childOn_22 : ino mX7_childOn 22 = some (.iinc 3 1, 25) := by decide +kernel
theorem eX7_childOn_25 : ino mX7_childOn 25 = some (.goto (-23), 2) := by decide +kernel
theorem eX7_childOn_28 : ino mX7_childOn 28 = some (.iconst (-1), 29) := by decide +kernel
theorem eX7_childOn_29 : ino mX7_childOn 29 = some (.ireturn, 30) := by decide +kernel
theorem eX7_servedBits_0 : ino mX7_servedBits 0 = some (.iconst 0, 1) := by decide +kernel
theorem eX7_servedBits_1 : ino mX7_servedBits 1 = some (.istore_n 2, 2) := by decide +kernel
theorem eX7_servedBits_2 : ino mX7_servedBits 2 = some (.iconst 0, 3) := by decide +kernel
theorem eX7_servedBits_3 : ino mX7_servedBits 3 = some (.istore_n 3, 4) := by decide +kernel
theorem eX7_servedBits_4 : ino mX7_servedBits 4 = some (.iload_n 3, 5) := by decide +kernel
theorem eX7_servedBits_5 : ino mX7_servedBits 5 = some (.aload_n 1, 6) := by decide +kernel
theorem eX7_servedBits_6 : ino mX7_servedBits 6 = some (.getfield 79, 9) := by decide +kernel
theorem eX7_servedBits_9 : ino mX7_servedBits 9 = some (.if_icmp .ge 25, 34) := by decide +kernel
theorem eX7_servedBits_12 : ino mX7_servedBits 12 = some (.aload_n 0, 13) := by decide +kernel
theorem eX7_servedBits_13 : ino mX7_servedBits 13 = some (.getfield 9, 16) := by decide +kernel
theorem eX7_servedBits_16 : ino mX7_servedBits 16 = some (.iload_n 3, 17) := by decide +kernel
theorem eX7_servedBits_17 : ino mX7_servedBits 17 = some (.iaload, 18) := by decide +kernel
theorem eX7_servedBits_18 : ino mX7_servedBits 18 = some (.iconst (-1), 19) := by decide +kernel
theorem eX7_servedBits_19 : ino mX7_servedBits 19 = some (.if_icmp .ne 9, 28) := by decide +kernel
theorem eX7_servedBits_22 : ino mX7_servedBits 22 = some (.iload_n 2, 23) := by decide +kernel
theorem eX7_servedBits_23 : ino mX7_servedBits 23 = some (.iconst 1, 24) := by decide +kernel
theorem eX7_servedBits_24 : ino mX7_servedBits 24 = some (.iload_n 3, 25) := by decide +kernel
theorem eX7_servedBits_25 : ino mX7_servedBits 25 = some (.ishl, 26) := by decide +kernel
theorem eX7_servedBits_26 : ino mX7_servedBits 26 = some (.ior, 27) := by decide +kernel
theorem eX7_servedBits_27 : ino mX7_servedBits 27 = some (.istore_n 2, 28) := by decide +kernel
theorem eX7_servedBits_28 : ino mX7_servedBits 28 = some (.iinc 3 1, 31) := by decide +kernel
theorem eX7_servedBits_31 : ino mX7_servedBits 31 = some (.goto (-27), 4) := by decide +kernel
theorem eX7_servedBits_34 : ino mX7_servedBits 34 = some (.iload_n 2, 35) := by decide +kernel
theorem eX7_servedBits_35 : ino mX7_servedBits 35 = some (.ireturn, 36) := by decide +kernel
theorem eX7_readyBits_0 : ino mX7_readyBits 0 = some (.iconst 0, 1) := by decide +kernel
theorem eX7_readyBits_1 : ino mX7_readyBits 1 = some (.istore_n 2, 2) := by decide +kernel
theorem eX7_readyBits_2 : ino mX7_readyBits 2 = some (.iconst 0, 3) := by decide +kernel
theorem eX7_readyBits_3 : ino mX7_readyBits 3 = some (.istore_n 3, 4) := by decide +kernel
theorem eX7_readyBits_4 : ino mX7_readyBits 4 = some (.iload_n 3, 5) := by decide +kernel
theorem eX7_readyBits_5 : ino mX7_readyBits 5 = some (.aload_n 1, 6) := by decide +kernel
theorem eX7_readyBits_6 : ino mX7_readyBits 6 = some (.getfield 79, 9) := by decide +kernel
theorem eX7_readyBits_9 : ino mX7_readyBits 9 = some (.if_icmp .ge 34, 43) := by decide +kernel
theorem eX7_readyBits_12 : ino mX7_readyBits 12 = some (.aload_n 0, 13) := by decide +kernel
theorem eX7_readyBits_13 : ino mX7_readyBits 13 = some (.getfield 9, 16) := by decide +kernel
theorem eX7_readyBits_16 : ino mX7_readyBits 16 = some (.iload_n 3, 17) := by decide +kernel
theorem eX7_readyBits_17 : ino mX7_readyBits 17 = some (.iaload, 18) := by decide +kernel
theorem eX7_readyBits_18 : ino mX7_readyBits 18 = some (.iconst (-1), 19) := by decide +kernel
theorem eX7_readyBits_19 : ino mX7_readyBits 19 = some (.if_icmp .eq 18, 37) := by decide +kernel
theorem eX7_readyBits_22 : ino mX7_readyBits 22 = some (.aload_n 0, 23) := by decide +kernel
theorem eX7_readyBits_23 : ino mX7_readyBits 23 = some (.aload_n 1, 24) := by decide +kernel
theorem eX7_readyBits_24 : ino mX7_readyBits 24 = some (.iload_n 3, 25) := by decide +kernel
theorem eX7_readyBits_25 : ino mX7_readyBits 25 = some (.invokevirtual 86, 28) := by decide +kernel
theorem eX7_readyBits_28 : ino mX7_readyBits 28 = some (.ifCond .ne 9, 37) := by decide +kernel
theorem eX7_readyBits_31 : ino mX7_readyBits 31 = some (.iload_n 2, 32) := by decide +kernel
theorem eX7_readyBits_32 : ino mX7_readyBits 32 = some (.iconst 1, 33) := by decide +kernel
theorem eX7_readyBits_33 : ino mX7_readyBits 33 = some (.iload_n 3, 34) := by decide +kernel
theorem eX7_readyBits_34 : ino mX7_readyBits 34 = some (.ishl, 35) := by decide +kernel
theorem eX7_readyBits_35 : ino mX7_readyBits 35 = some (.ior, 36) := by decide +kernel
theorem eX7_readyBits_36 : ino mX7_readyBits 36 = some (.istore_n 2, 37) := by decide +kernel
theorem eX7_readyBits_37 : ino mX7_readyBits 37 = some (.iinc 3 1, 40) := by decide +kernel
theorem eX7_readyBits_40 : ino mX7_readyBits 40 = some (.goto (-36), 4) := by decide +kernel
theorem eX7_readyBits_43 : ino mX7_readyBits 43 = some (.iload_n 2, 44) := by decide +kernel
theorem eX7_readyBits_44 : ino mX7_readyBits 44 = some (.ireturn, 45) := by decide +kernel
theorem eX7_upstairsBits_0 : ino mX7_upstairsBits 0 = some (.iconst 0, 1) := by decide +kernel
theorem eX7_upstairsBits_1 : ino mX7_upstairsBits 1 = some (.istore_n 2, 2) := by decide +kernel
theorem eX7_upstairsBits_2 : ino mX7_upstairsBits 2 = some (.iconst 0, 3) := by decide +kernel
theorem eX7_upstairsBits_3 : ino mX7_upstairsBits 3 = some (.istore_n 3, 4) := by decide +kernel
theorem eX7_upstairsBits_4 : ino mX7_upstairsBits 4 = some (.iload_n 3, 5) := by decide +kernel
theorem eX7_upstairsBits_5 : ino mX7_upstairsBits 5 = some (.aload_n 1, 6) := by decide +kernel
theorem eX7_upstairsBits_6 : ino mX7_upstairsBits 6 = some (.getfield 79, 9) := by decide +kernel
theorem eX7_upstairsBits_9 : ino mX7_upstairsBits 9 = some (.if_icmp .ge 24, 33) := by decide +kernel
theorem eX7_upstairsBits_12 : ino mX7_upstairsBits 12 = some (.aload_n 0, 13) := by decide +kernel
theorem eX7_upstairsBits_13 : ino mX7_upstairsBits 13 = some (.getfield 9, 16) := by decide +kernel
theorem eX7_upstairsBits_16 : ino mX7_upstairsBits 16 = some (.iload_n 3, 17) := by decide +kernel
theorem eX7_upstairsBits_17 : ino mX7_upstairsBits 17 = some (.iaload, 18) := by decide +kernel
theorem eX7_upstairsBits_18 : ino mX7_upstairsBits 18 = some (.ifCond .le 9, 27) := by decide +kernel
theorem eX7_upstairsBits_21 : ino mX7_upstairsBits 21 = some (.iload_n 2, 22) := by decide +kernel
theorem eX7_upstairsBits_22 : ino mX7_upstairsBits 22 = some (.iconst 1, 23) := by decide +kernel
theorem eX7_upstairsBits_23 : ino mX7_upstairsBits 23 = some (.iload_n 3, 24) := by decide +kernel
theorem eX7_upstairsBits_24 : ino mX7_upstairsBits 24 = some (.ishl, 25) := by decide +kernel
theorem eX7_upstairsBits_25 : ino mX7_upstairsBits 25 = some (.ior, 26) := by decide +kernel
theorem eX7_upstairsBits_26 : ino mX7_upstairsBits 26 = some (.istore_n 2, 27) := by decide +kernel
theorem eX7_upstairsBits_27 : ino mX7_upstairsBits 27 = some (.iinc 3 1, 30) := by decide +kernel
theorem eX7_upstairsBits_30 : ino mX7_upstairsBits 30 = some (.goto (-26), 4) := by decide +kernel
theorem eX7_upstairsBits_33 : ino mX7_upstairsBits 33 = some (.iload_n 2, 34) := by decide +kernel
theorem eX7_upstairsBits_34 : ino mX7_upstairsBits 34 = some (.ireturn, 35) := by decide +kernel
theorem eX7_whyNot_0 : ino mX7_whyNot 0 = some (.iload_n 2, 1) := by decide +kernel
theorem eX7_whyNot_1 : decode mX7_whyNot.2.1 1 = .ok (.tableswitch 95 0 4 #[35, 44, 58, 72, 79], 35) := by decide +kernel
theorem eX7_whyNot_36 : ino mX7_whyNot 36 = some (.aload_n 0, 37) := by decide +kernel
theorem eX7_whyNot_37 : ino mX7_whyNot 37 = some (.aload_n 1, 38) := by decide +kernel
theorem eX7_whyNot_38 : ino mX7_whyNot 38 = some (.iload_n 3, 39) := by decide +kernel
theorem eX7_whyNot_39 : ino mX7_whyNot 39 = some (.iload 4, 41) := by decide +kernel
theorem eX7_whyNot_41 : ino mX7_whyNot 41 = some (.invokevirtual 90, 44) := by decide +kernel
theorem eX7_whyNot_44 : ino mX7_whyNot 44 = some (.ireturn, 45) := by decide +kernel
theorem eX7_whyNot_45 : ino mX7_whyNot 45 = some (.aload_n 0, 46) := by decide +kernel
theorem eX7_whyNot_46 : ino mX7_whyNot 46 = some (.iload_n 3, 47) := by decide +kernel
theorem eX7_whyNot_47 : ino mX7_whyNot 47 = some (.invokevirtual 94, 50) := by decide +kernel
theorem eX7_whyNot_50 : ino mX7_whyNot 50 = some (.ifCond .eq 7, 57) := by decide +kernel
theorem eX7_whyNot_53 : ino mX7_whyNot 53 = some (.iconst 1, 54) := by decide +kernel
theorem eX7_whyNot_54 : ino mX7_whyNot 54 = some (.goto 4, 58) := by decide +kernel
theorem eX7_whyNot_57 : ino mX7_whyNot 57 = some (.iconst 0, 58) := by decide +kernel
theorem eX7_whyNot_58 : ino mX7_whyNot 58 = some (.ireturn, 59) := by decide +kernel
theorem eX7_whyNot_59 : ino mX7_whyNot 59 = some (.aload_n 0, 60) := by decide +kernel
theorem eX7_whyNot_60 : ino mX7_whyNot 60 = some (.iload_n 3, 61) := by decide +kernel
theorem eX7_whyNot_61 : ino mX7_whyNot 61 = some (.invokevirtual 94, 64) := by decide +kernel
theorem eX7_whyNot_64 : ino mX7_whyNot 64 = some (.ifCond .eq 7, 71) := by decide +kernel
theorem eX7_whyNot_67 : ino mX7_whyNot 67 = some (.iconst 0, 68) := by decide +kernel
theorem eX7_whyNot_68 : ino mX7_whyNot 68 = some (.goto 4, 72) := by decide +kernel
theorem eX7_whyNot_71 : ino mX7_whyNot 71 = some (.iconst 1, 72) := by decide +kernel
theorem eX7_whyNot_72 : ino mX7_whyNot 72 = some (.ireturn, 73) := by decide +kernel
theorem eX7_whyNot_73 : ino mX7_whyNot 73 = some (.aload_n 0, 74) := by decide +kernel
theorem eX7_whyNot_74 : ino mX7_whyNot 74 = some (.aload_n 1, 75) := by decide +kernel
theorem eX7_whyNot_75 : ino mX7_whyNot 75 = some (.iload_n 3, 76) := by decide +kernel
theorem eX7_whyNot_76 : ino mX7_whyNot 76 = some (.invokevirtual 98, 79) := by decide +kernel
theorem eX7_whyNot_79 : ino mX7_whyNot 79 = some (.ireturn, 80) := by decide +kernel
theorem eX7_whyNot_80 : ino mX7_whyNot 80 = some (.aload_n 0, 81) := by decide +kernel
theorem eX7_whyNot_81 : ino mX7_whyNot 81 = some (.getfield 9, 84) := by decide +kernel
theorem eX7_whyNot_84 : ino mX7_whyNot 84 = some (.iload_n 3, 85) := by decide +kernel
theorem eX7_whyNot_85 : ino mX7_whyNot 85 = some (.iaload, 86) := by decide +kernel
theorem eX7_whyNot_86 : ino mX7_whyNot 86 = some (.iconst (-1), 87) := by decide +kernel
theorem eX7_whyNot_87 : ino mX7_whyNot 87 = some (.if_icmp .ne 7, 94) := by decide +kernel
theorem eX7_whyNot_90 : ino mX7_whyNot 90 = some (.iconst 0, 91) := by decide +kernel
theorem eX7_whyNot_91 : ino mX7_whyNot 91 = some (.goto 4, 95) := by decide +kernel
theorem eX7_whyNot_94 : ino mX7_whyNot 94 = some (.iconst 1, 95) := by decide +kernel
theorem eX7_whyNot_95 : ino mX7_whyNot 95 = some (.ireturn, 96) := by decide +kernel
theorem eX7_whyNot_96 : ino mX7_whyNot 96 = some (.iload_n 3, 97) := by decide +kernel
theorem eX7_whyNot_97 : ino mX7_whyNot 97 = some (.sipush 400, 100) := by decide +kernel
theorem eX7_whyNot_100 : ino mX7_whyNot 100 = some (.aload_n 0, 101) := by decide +kernel
theorem eX7_whyNot_101 : ino mX7_whyNot 101 = some (.getfield 43, 104) := by decide +kernel
theorem eX7_whyNot_104 : ino mX7_whyNot 104 = some (.isub, 105) := by decide +kernel
theorem eX7_whyNot_105 : ino mX7_whyNot 105 = some (.if_icmp .le 7, 112) := by decide +kernel
theorem eX7_whyNot_108 : ino mX7_whyNot 108 = some (.iconst 1, 109) := by decide +kernel
theorem eX7_whyNot_109 : ino mX7_whyNot 109 = some (.goto 4, 113) := by decide +kernel
theorem eX7_whyNot_112 : ino mX7_whyNot 112 = some (.iconst 0, 113) := by decide +kernel
theorem eX7_whyNot_113 : ino mX7_whyNot 113 = some (.ireturn, 114) := by decide +kernel
theorem eX7_whyNotSent_0 : ino mX7_whyNotSent 0 = some (.aload_n 0, 1) := by decide +kernel
theorem eX7_whyNotSent_1 : ino mX7_whyNotSent 1 = some (.getfield 9, 4) := by decide +kernel
theorem eX7_whyNotSent_4 : ino mX7_whyNotSent 4 = some (.iload_n 2, 5) := by decide +kernel
theorem eX7_whyNotSent_5 : ino mX7_whyNotSent 5 = some (.iaload, 6) := by decide +kernel
theorem eX7_whyNotSent_6 : ino mX7_whyNotSent 6 = some (.iconst (-1), 7) := by decide +kernel
theorem eX7_whyNotSent_7 : ino mX7_whyNotSent 7 = some (.if_icmp .ne 5, 12) := by decide +kernel
theorem eX7_whyNotSent_10 : ino mX7_whyNotSent 10 = some (.iconst 1, 11) := by decide +kernel
theorem eX7_whyNotSent_11 : ino mX7_whyNotSent 11 = some (.ireturn, 12) := by decide +kernel
theorem eX7_whyNotSent_12 : ino mX7_whyNotSent 12 = some (.aload_n 0, 13) := by decide +kernel
theorem eX7_whyNotSent_13 : ino mX7_whyNotSent 13 = some (.getfield 9, 16) := by decide +kernel
theorem eX7_whyNotSent_16 : ino mX7_whyNotSent 16 = some (.iload_n 2, 17) := by decide +kernel
theorem eX7_whyNotSent_17 : ino mX7_whyNotSent 17 = some (.iaload, 18) := by decide +kernel
theorem eX7_whyNotSent_18 : ino mX7_whyNotSent 18 = some (.iload_n 3, 19) := by decide +kernel
theorem eX7_whyNotSent_19 : ino mX7_whyNotSent 19 = some (.if_icmp .ne 5, 24) := by decide +kernel
theorem eX7_whyNotSent_22 : ino mX7_whyNotSent 22 = some (.iconst 2, 23) := by decide +kernel
theorem eX7_whyNotSent_23 : ino mX7_whyNotSent 23 = some (.ireturn, 24) := by decide +kernel
theorem eX7_whyNotSent_24 : ino mX7_whyNotSent 24 = some (.iload_n 3, 25) := by decide +kernel
theorem eX7_whyNotSent_25 : ino mX7_whyNotSent 25 = some (.ifCond .le 17, 42) := by decide +kernel
theorem eX7_whyNotSent_28 : ino mX7_whyNotSent 28 = some (.aload_n 0, 29) := by decide +kernel
theorem eX7_whyNotSent_29 : ino mX7_whyNotSent 29 = some (.aload_n 1, 30) := by decide +kernel
theorem eX7_whyNotSent_30 : ino mX7_whyNotSent 30 = some (.iload_n 3, 31) := by decide +kernel
theorem eX7_whyNotSent_31 : ino mX7_whyNotSent 31 = some (.invokevirtual 101, 34) := by decide +kernel
theorem eX7_whyNotSent_34 : ino mX7_whyNotSent 34 = some (.iconst (-1), 35) := by decide +kernel
theorem eX7_whyNotSent_35 : ino mX7_whyNotSent 35 = some (.if_icmp .eq 7, 42) := by decide +kernel
theorem eX7_whyNotSent_38 : ino mX7_whyNotSent 38 = some (.iconst 3, 39) := by decide +kernel
theorem eX7_whyNotSent_39 : ino mX7_whyNotSent 39 = some (.goto 4, 43) := by decide +kernel
theorem eX7_whyNotSent_42 : ino mX7_whyNotSent 42 = some (.iconst 0, 43) := by decide +kernel
theorem eX7_whyNotSent_43 : ino mX7_whyNotSent 43 = some (.ireturn, 44) := by decide +kernel
theorem eX7_whyNotServed_0 : ino mX7_whyNotServed 0 = some (.aload_n 0, 1) := by decide +kernel
theorem eX7_whyNotServed_1 : ino mX7_whyNotServed 1 = some (.getfield 9, 4) := by decide +kernel
theorem eX7_whyNotServed_4 : ino mX7_whyNotServed 4 = some (.iload_n 2, 5) := by decide +kernel
theorem eX7_whyNotServed_5 : ino mX7_whyNotServed 5 = some (.iaload, 6) := by decide +kernel
theorem eX7_whyNotServed_6 : ino mX7_whyNotServed 6 = some (.iconst (-1), 7) := by decide +kernel
theorem eX7_whyNotServed_7 : ino mX7_whyNotServed 7 = some (.if_icmp .ne 5, 12) := by decide +kernel
theorem eX7_whyNotServed_10 : ino mX7_whyNotServed 10 = some (.iconst 1, 11) := by decide +kernel
theorem eX7_whyNotServed_11 : ino mX7_whyNotServed 11 = some (.ireturn, 12) := by decide +kernel
theorem eX7_whyNotServed_12 : ino mX7_whyNotServed 12 = some (.aload_n 0, 13) := by decide +kernel
theorem eX7_whyNotServed_13 : ino mX7_whyNotServed 13 = some (.aload_n 1, 14) := by decide +kernel
theorem eX7_whyNotServed_14 : ino mX7_whyNotServed 14 = some (.iload_n 2, 15) := by decide +kernel
theorem eX7_whyNotServed_15 : ino mX7_whyNotServed 15 = some (.invokevirtual 86, 18) := by decide +kernel
theorem eX7_whyNotServed_18 : ino mX7_whyNotServed 18 = some (.ifCond .eq 7, 25) := by decide +kernel
theorem eX7_whyNotServed_21 : ino mX7_whyNotServed 21 = some (.iconst 2, 22) := by decide +kernel
theorem eX7_whyNotServed_22 : ino mX7_whyNotServed 22 = some (.goto 4, 26) := by decide +kernel
theorem eX7_whyNotServed_25 : ino mX7_whyNotServed 25 = some (.iconst 0, 26) := by decide +kernel
theorem eX7_whyNotServed_26 : ino mX7_whyNotServed 26 = some (.ireturn, 27) := by decide +kernel
theorem eX7_act_0 : ino mX7_act 0 = some (.iload_n 2, 1) := by decide +kernel
theorem eX7_act_1 : decode mX7_act.2.1 1 = .ok (.tableswitch 96 0 4 #[35, 46, 61, 78, 88], 35) := by decide +kernel
theorem eX7_act_36 : ino mX7_act 36 = some (.aload_n 0, 37) := by decide +kernel
theorem eX7_act_37 : ino mX7_act 37 = some (.aload_n 1, 38) := by decide +kernel
theorem eX7_act_38 : ino mX7_act 38 = some (.iload_n 3, 39) := by decide +kernel
theorem eX7_act_39 : ino mX7_act 39 = some (.iload 4, 41) := by decide +kernel
theorem eX7_act_41 : ino mX7_act 41 = some (.invokevirtual 104, 44) := by decide +kernel
theorem eX7_act_44 : ino mX7_act 44 = some (.goto 73, 117) := by decide +kernel
theorem eX7_act_47 : ino mX7_act 47 = some (.aload_n 0, 48) := by decide +kernel
theorem eX7_act_48 : ino mX7_act 48 = some (.dup, 49) := by decide +kernel
theorem eX7_act_49 : ino mX7_act 49 = some (.getfield 30, 52) := by decide +kernel
theorem eX7_act_52 : ino mX7_act 52 = some (.iconst 1, 53) := by decide +kernel
theorem eX7_act_53 : ino mX7_act 53 = some (.iload_n 3, 54) := by decide +kernel
theorem eX7_act_54 : ino mX7_act 54 = some (.ishl, 55) := by decide +kernel
theorem eX7_act_55 : ino mX7_act 55 = some (.ior, 56) := by decide +kernel
theorem eX7_act_56 : ino mX7_act 56 = some (.putfield 30, 59) := by decide +kernel
theorem eX7_act_59 : ino mX7_act 59 = some (.goto 58, 117) := by decide +kernel
theorem eX7_act_62 : ino mX7_act 62 = some (.aload_n 0, 63) := by decide +kernel
theorem eX7_act_63 : ino mX7_act 63 = some (.dup, 64) := by decide +kernel
theorem eX7_act_64 : ino mX7_act 64 = some (.getfield 30, 67) := by decide +kernel
theorem eX7_act_67 : ino mX7_act 67 = some (.iconst 1, 68) := by decide +kernel
theorem eX7_act_68 : ino mX7_act 68 = some (.iload_n 3, 69) := by decide +kernel
theorem eX7_act_69 : ino mX7_act 69 = some (.ishl, 70) := by decide +kernel
theorem eX7_act_70 : ino mX7_act 70 = some (.iconst (-1), 71) := by decide +kernel
theorem eX7_act_71 : ino mX7_act 71 = some (.ixor, 72) := by decide +kernel
theorem eX7_act_72 : ino mX7_act 72 = some (.iand, 73) := by decide +kernel
theorem eX7_act_73 : ino mX7_act 73 = some (.putfield 30, 76) := by decide +kernel
theorem eX7_act_76 : ino mX7_act 76 = some (.goto 41, 117) := by decide +kernel
theorem eX7_act_79 : ino mX7_act 79 = some (.aload_n 0, 80) := by decide +kernel
theorem eX7_act_80 : ino mX7_act 80 = some (.getfield 9, 83) := by decide +kernel
theorem eX7_act_83 : ino mX7_act 83 = some (.iload_n 3, 84) := by decide +kernel
theorem eX7_act_84 : ino mX7_act 84 = some (.iconst (-1), 85) := by decide +kernel
theorem eX7_act_85 : ino mX7_act 85 = some (.iastore, 86) := by decide +kernel
theorem eX7_act_86 : ino mX7_act 86 = some (.goto 31, 117) := by decide +kernel
theorem eX7_act_89 : ino mX7_act 89 = some (.aload_n 0, 90) := by decide +kernel
theorem eX7_act_90 : ino mX7_act 90 = some (.iload_n 3, 91) := by decide +kernel
theorem eX7_act_91 : ino mX7_act 91 = some (.invokevirtual 108, 94) := by decide +kernel
theorem eX7_act_94 : ino mX7_act 94 = some (.goto 23, 117) := by decide +kernel
theorem eX7_act_97 : ino mX7_act 97 = some (.iconst 0, 98) := by decide +kernel
theorem eX7_act_98 : ino mX7_act 98 = some (.istore 5, 100) := by decide +kernel
theorem eX7_act_100 : ino mX7_act 100 = some (.iload 5, 102) := by decide +kernel
theorem eX7_act_102 : ino mX7_act 102 = some (.iload_n 3, 103) := by decide +kernel
theorem eX7_act_103 : ino mX7_act 103 = some (.if_icmp .ge 14, 117) := by decide +kernel
theorem eX7_act_106 : ino mX7_act 106 = some (.aload_n 0, 107) := by decide +kernel
theorem eX7_act_107 : ino mX7_act 107 = some (.aload_n 1, 108) := by decide +kernel
theorem eX7_act_108 : ino mX7_act 108 = some (.invokevirtual 112, 111) := by decide +kernel
theorem eX7_act_111 : ino mX7_act 111 = some (.iinc 5 1, 114) := by decide +kernel
theorem eX7_act_114 : ino mX7_act 114 = some (.goto (-14), 100) := by decide +kernel
theorem eX7_act_117 : ino mX7_act 117 = some (.return_, 118) := by decide +kernel
theorem eX7_moveTo_0 : ino mX7_moveTo 0 = some (.aload_n 0, 1) := by decide +kernel
theorem eX7_moveTo_1 : ino mX7_moveTo 1 = some (.getfield 9, 4) := by decide +kernel
theorem eX7_moveTo_4 : ino mX7_moveTo 4 = some (.iload_n 2, 5) := by decide +kernel
theorem eX7_moveTo_5 : ino mX7_moveTo 5 = some (.iaload, 6) := by decide +kernel
theorem eX7_moveTo_6 : ino mX7_moveTo 6 = some (.iload_n 3, 7) := by decide +kernel
theorem eX7_moveTo_7 : ino mX7_moveTo 7 = some (.isub, 8) := by decide +kernel
theorem eX7_moveTo_8 : ino mX7_moveTo 8 = some (.invokestatic 67, 11) := by decide +kernel
theorem eX7_moveTo_11 : ino mX7_moveTo 11 = some (.istore 4, 13) := by decide +kernel
theorem eX7_moveTo_13 : ino mX7_moveTo 13 = some (.aload_n 0, 14) := by decide +kernel
theorem eX7_moveTo_14 : ino mX7_moveTo 14 = some (.dup, 15) := by decide +kernel
theorem eX7_moveTo_15 : ino mX7_moveTo 15 = some (.getfield 40, 18) := by decide +kernel
theorem eX7_moveTo_18 : ino mX7_moveTo 18 = some (.iload 4, 20) := by decide +kernel
theorem eX7_moveTo_20 : ino mX7_moveTo 20 = some (.iadd, 21) := by decide +kernel
theorem eX7_moveTo_21 : ino mX7_moveTo 21 = some (.putfield 40, 24) := by decide +kernel
theorem eX7_moveTo_24 : ino mX7_moveTo 24 = some (.aload_n 0, 25) := by decide +kernel
theorem eX7_moveTo_25 : ino mX7_moveTo 25 = some (.dup, 26) := by decide +kernel
theorem eX7_moveTo_26 : ino mX7_moveTo 26 = some (.getfield 34, 29) := by decide +kernel
theorem eX7_moveTo_29 : ino mX7_moveTo 29 = some (.iload 4, 31) := by decide +kernel
theorem eX7_moveTo_31 : ino mX7_moveTo 31 = some (.aload_n 0, 32) := by decide +kernel
theorem eX7_moveTo_32 : ino mX7_moveTo 32 = some (.aload_n 1, 33) := by decide +kernel
theorem eX7_moveTo_33 : ino mX7_moveTo 33 = some (.iload_n 2, 34) := by decide +kernel
theorem eX7_moveTo_34 : ino mX7_moveTo 34 = some (.invokevirtual 116, 37) := by decide +kernel
theorem eX7_moveTo_37 : ino mX7_moveTo 37 = some (.imul, 38) := by decide +kernel
theorem eX7_moveTo_38 : ino mX7_moveTo 38 = some (.iadd, 39) := by decide +kernel
theorem eX7_moveTo_39 : ino mX7_moveTo 39 = some (.putfield 34, 42) := by decide +kernel
theorem eX7_moveTo_42 : ino mX7_moveTo 42 = some (.aload_n 0, 43) := by decide +kernel
theorem eX7_moveTo_43 : ino mX7_moveTo 43 = some (.getfield 34, 46) := by decide +kernel
theorem eX7_moveTo_46 : ino mX7_moveTo 46 = some (.aload_n 1, 47) := by decide +kernel
theorem eX7_moveTo_47 : ino mX7_moveTo 47 = some (.getfield 119, 50) := by decide +kernel
theorem eX7_moveTo_50 : ino mX7_moveTo 50 = some (.if_icmp .ge 11, 61) := by decide +kernel
theorem eX7_moveTo_53 : ino mX7_moveTo 53 = some (.aload_n 0, 54) := by decide +kernel
theorem eX7_moveTo_54 : ino mX7_moveTo 54 = some (.getfield 9, 57) := by decide +kernel
theorem eX7_moveTo_57 : ino mX7_moveTo 57 = some (.iload_n 2, 58) := by decide +kernel
theorem eX7_moveTo_58 : ino mX7_moveTo 58 = some (.iload_n 3, 59) := by decide +kernel
theorem eX7_moveTo_59 : ino mX7_moveTo 59 = some (.iastore, 60) := by decide +kernel
theorem eX7_moveTo_60 : ino mX7_moveTo 60 = some (.return_, 61) := by decide +kernel
theorem eX7_moveTo_61 : ino mX7_moveTo 61 = some (.aload_n 0, 62) := by decide +kernel
theorem eX7_moveTo_62 : ino mX7_moveTo 62 = some (.getfield 9, 65) := by decide +kernel
theorem eX7_moveTo_65 : ino mX7_moveTo 65 = some (.iload_n 2, 66) := by decide +kernel
theorem eX7_moveTo_66 : ino mX7_moveTo 66 = some (.iconst 0, 67) := by decide +kernel
theorem eX7_moveTo_67 : ino mX7_moveTo 67 = some (.iastore, 68) := by decide +kernel
theorem eX7_moveTo_68 : ino mX7_moveTo 68 = some (.aload_n 0, 69) := by decide +kernel
theorem eX7_moveTo_69 : ino mX7_moveTo 69 = some (.getfield 24, 72) := by decide +kernel
theorem eX7_moveTo_72 : ino mX7_moveTo 72 = some (.iload_n 2, 73) := by decide +kernel
theorem eX7_moveTo_73 : ino mX7_moveTo 73 = some (.dup2, 74) := by decide +kernel
theorem eX7_moveTo_74 : ino mX7_moveTo 74 = some (.iaload, 75) := by decide +kernel
theorem eX7_moveTo_75 : ino mX7_moveTo 75 = some (.iconst 1, 76) := by decide +kernel
theorem eX7_moveTo_76 : ino mX7_moveTo 76 = some (.iadd, 77) := by decide +kernel
theorem eX7_moveTo_77 : ino mX7_moveTo 77 = some (.iastore, 78) := by decide +kernel
theorem eX7_moveTo_78 : ino mX7_moveTo 78 = some (.aload_n 0, 79) := by decide +kernel
theorem eX7_moveTo_79 : ino mX7_moveTo 79 = some (.getfield 15, 82) := by decide +kernel
theorem eX7_moveTo_82 : ino mX7_moveTo 82 = some (.iload_n 2, 83) := by decide +kernel
theorem eX7_moveTo_83 : ino mX7_moveTo 83 = some (.aload_n 0, 84) := by decide +kernel
theorem eX7_moveTo_84 : ino mX7_moveTo 84 = some (.getfield 15, 87) := by decide +kernel
theorem eX7_moveTo_87 : ino mX7_moveTo 87 = some (.iload_n 2, 88) := by decide +kernel
theorem eX7_moveTo_88 : ino mX7_moveTo 88 = some (.iaload, 89) := by decide +kernel
theorem eX7_moveTo_89 : ino mX7_moveTo 89 = some (.iconst 2, 90) := by decide +kernel
theorem eX7_moveTo_90 : ino mX7_moveTo 90 = some (.iadd, 91) := by decide +kernel
theorem eX7_moveTo_91 : ino mX7_moveTo 91 = some (.bipush 60, 93) := by decide +kernel
theorem eX7_moveTo_93 : ino mX7_moveTo 93 = some (.invokestatic 122, 96) := by decide +kernel
theorem eX7_moveTo_96 : ino mX7_moveTo 96 = some (.iastore, 97) := by decide +kernel
theorem eX7_moveTo_97 : ino mX7_moveTo 97 = some (.aload_n 0, 98) := by decide +kernel
theorem eX7_moveTo_98 : ino mX7_moveTo 98 = some (.dup, 99) := by decide +kernel
theorem eX7_moveTo_99 : ino mX7_moveTo 99 = some (.getfield 37, 102) := by decide +kernel
theorem eX7_moveTo_102 : ino mX7_moveTo 102 = some (.iconst 1, 103) := by decide +kernel
theorem eX7_moveTo_103 : ino mX7_moveTo 103 = some (.iadd, 104) := by decide +kernel
theorem eX7_moveTo_104 : ino mX7_moveTo 104 = some (.putfield 37, 107) := by decide +kernel
theorem eX7_moveTo_107 : ino mX7_moveTo 107 = some (.aload_n 0, 108) := by decide +kernel
theorem eX7_moveTo_108 : ino mX7_moveTo 108 = some (.iconst 0, 109) := by decide +kernel
theorem eX7_moveTo_109 : ino mX7_moveTo 109 = some (.putfield 34, 112) := by decide +kernel
theorem eX7_moveTo_112 : ino mX7_moveTo 112 = some (.return_, 113) := by decide +kernel
theorem eX7_bringBack_0 : ino mX7_bringBack 0 = some (.aload_n 0, 1) := by decide +kernel
theorem eX7_bringBack_1 : ino mX7_bringBack 1 = some (.getfield 9, 4) := by decide +kernel
theorem eX7_bringBack_4 : ino mX7_bringBack 4 = some (.iload_n 1, 5) := by decide +kernel
theorem eX7_bringBack_5 : ino mX7_bringBack 5 = some (.iconst 0, 6) := by decide +kernel
theorem eX7_bringBack_6 : ino mX7_bringBack 6 = some (.iastore, 7) := by decide +kernel
theorem eX7_bringBack_7 : ino mX7_bringBack 7 = some (.aload_n 0, 8) := by decide +kernel
theorem eX7_bringBack_8 : ino mX7_bringBack 8 = some (.getfield 21, 11) := by decide +kernel
theorem eX7_bringBack_11 : ino mX7_bringBack 11 = some (.iload_n 1, 12) := by decide +kernel
theorem eX7_bringBack_12 : ino mX7_bringBack 12 = some (.iconst 0, 13) := by decide +kernel
theorem eX7_bringBack_13 : ino mX7_bringBack 13 = some (.iastore, 14) := by decide +kernel
theorem eX7_bringBack_14 : ino mX7_bringBack 14 = some (.iconst 0, 15) := by decide +kernel
theorem eX7_bringBack_15 : ino mX7_bringBack 15 = some (.istore_n 2, 16) := by decide +kernel
theorem eX7_bringBack_16 : ino mX7_bringBack 16 = some (.iload_n 2, 17) := by decide +kernel
theorem eX7_bringBack_17 : ino mX7_bringBack 17 = some (.iconst 4, 18) := by decide +kernel
theorem eX7_bringBack_18 : ino mX7_bringBack 18 = some (.if_icmp .ge 20, 38) := by decide +kernel
theorem eX7_bringBack_21 : ino mX7_bringBack 21 = some (.aload_n 0, 22) := by decide +kernel
theorem eX7_bringBack_22 : ino mX7_bringBack 22 = some (.getfield 27, 25) := by decide +kernel
theorem eX7_bringBack_25 : ino mX7_bringBack 25 = some (.iload_n 1, 26) := by decide +kernel
theorem eX7_bringBack_26 : ino mX7_bringBack 26 = some (.iconst 4, 27) := by decide +kernel
theorem eX7_bringBack_27 : ino mX7_bringBack 27 = some (.imul, 28) := by decide +kernel
theorem eX7_bringBack_28 : ino mX7_bringBack 28 = some (.iload_n 2, 29) := by decide +kernel
theorem eX7_bringBack_29 : ino mX7_bringBack 29 = some (.iadd, 30) := by decide +kernel
theorem eX7_bringBack_30 : ino mX7_bringBack 30 = some (.iconst 0, 31) := by decide +kernel
theorem eX7_bringBack_31 : ino mX7_bringBack 31 = some (.iastore, 32) := by decide +kernel
theorem eX7_bringBack_32 : ino mX7_bringBack 32 = some (.iinc 2 1, 35) := by decide +kernel
theorem eX7_bringBack_35 : ino mX7_bringBack 35 = some (.goto (-19), 16) := by decide +kernel
theorem eX7_bringBack_38 : ino mX7_bringBack 38 = some (.return_, 39) := by decide +kernel
