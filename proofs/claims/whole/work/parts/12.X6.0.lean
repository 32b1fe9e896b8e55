theorem eX6_init_0 : ino mX6_init 0 = some (.aload_n 0, 1) := by decide +kernel
theorem eX6_init_1 : ino mX6_init 1 = some (.invokespecial 5, 4) := by decide +kernel
theorem eX6_init_4 : ino mX6_init 4 = some (.aload_n 0, 5) := by decide +kernel
theorem eX6_init_5 : ino mX6_init 5 = some (.bipush 40, 7) := by decide +kernel
theorem eX6_init_7 : ino mX6_init 7 = some (.newarray .int, 9) := by decide +kernel
theorem eX6_init_9 : ino mX6_init 9 = some (.putfield 11, 12) := by decide +kernel
theorem eX6_init_12 : ino mX6_init 12 = some (.aload_n 0, 13) := by decide +kernel
theorem eX6_init_13 : ino mX6_init 13 = some (.bipush 40, 15) := by decide +kernel
theorem eX6_init_15 : ino mX6_init 15 = some (.newarray .int, 17) := by decide +kernel
theorem eX6_init_17 : ino mX6_init 17 = some (.putfield 15, 20) := by decide +kernel
theorem eX6_init_20 : ino mX6_init 20 = some (.aload_n 0, 21) := by decide +kernel
theorem eX6_init_21 : ino mX6_init 21 = some (.bipush 40, 23) := by decide +kernel
theorem eX6_init_23 : ino mX6_init 23 = some (.newarray .int, 25) := by decide +kernel
theorem eX6_init_25 : ino mX6_init 25 = some (.putfield 18, 28) := by decide +kernel
theorem eX6_init_28 : ino mX6_init 28 = some (.aload_n 0, 29) := by decide +kernel
theorem eX6_init_29 : ino mX6_init 29 = some (.bipush 40, 31) := by decide +kernel
theorem eX6_init_31 : ino mX6_init 31 = some (.newarray .int, 33) := by decide +kernel
theorem eX6_init_33 : ino mX6_init 33 = some (.putfield 21, 36) := by decide +kernel
theorem eX6_init_36 : ino mX6_init 36 = some (.aload_n 0, 37) := by decide +kernel
theorem eX6_init_37 : ino mX6_init 37 = some (.iconst 0, 38) := by decide +kernel
theorem eX6_init_38 : ino mX6_init 38 = some (.putfield 24, 41) := by decide +kernel
theorem eX6_init_41 : ino mX6_init 41 = some (.aload_n 0, 42) := by decide +kernel
theorem eX6_init_42 : ino mX6_init 42 = some (.iconst 0, 43) := by decide +kernel
theorem eX6_init_43 : ino mX6_init 43 = some (.putfield 28, 46) := by decide +kernel
theorem eX6_init_46 : ino mX6_init 46 = some (.return_, 47) := by decide +kernel
theorem eX6_clear_0 : ino mX6_clear 0 = some (.aload_n 0, 1) := by decide +kernel
theorem eX6_clear_1 : ino mX6_clear 1 = some (.iconst 0, 2) := by decide +kernel
theorem eX6_clear_2 : ino mX6_clear 2 = some (.putfield 24, 5) := by decide +kernel
theorem eX6_clear_5 : ino mX6_clear 5 = some (.aload_n 0, 6) := by decide +kernel
theorem eX6_clear_6 : ino mX6_clear 6 = some (.iconst 0, 7) := by decide +kernel
theorem eX6_clear_7 : ino mX6_clear 7 = some (.putfield 28, 10) := by decide +kernel
theorem eX6_clear_10 : ino mX6_clear 10 = some (.return_, 11) := by decide +kernel
theorem eX6_copyFrom_0 : ino mX6_copyFrom 0 = some (.aload_n 1, 1) := by decide +kernel
theorem eX6_copyFrom_1 : ino mX6_copyFrom 1 = some (.getfield 11, 4) := by decide +kernel
theorem eX6_copyFrom_4 : ino mX6_copyFrom 4 = some (.iconst 0, 5) := by decide +kernel
theorem eX6_copyFrom_5 : ino mX6_copyFrom 5 = some (.aload_n 0, 6) := by decide +kernel
theorem eX6_copyFrom_6 : ino mX6_copyFrom 6 = some (.getfield 11, 9) := by decide +kernel
theorem eX6_copyFrom_9 : ino mX6_copyFrom 9 = some (.iconst 0, 10) := by decide +kernel
theorem eX6_copyFrom_10 : ino mX6_copyFrom 10 = some (.aload_n 0, 11) := by decide +kernel
theorem eX6_copyFrom_11 : ino mX6_copyFrom 11 = some (.getfield 11, 14) := by decide +kernel
theorem eX6_copyFrom_14 : ino mX6_copyFrom 14 = some (.arraylength, 15) := by decide +kernel
theorem eX6_copyFrom_15 : ino mX6_copyFrom 15 = some (.invokestatic 31, 18) := by decide +kernel
theorem eX6_copyFrom_18 : ino mX6_copyFrom 18 = some (.aload_n 1, 19) := by decide +kernel
theorem eX6_copyFrom_19 : ino mX6_copyFrom 19 = some (.getfield 15, 22) := by decide +kernel
theorem eX6_copyFrom_22 : ino mX6_copyFrom 22 = some (.iconst 0, 23) := by decide +kernel
theorem eX6_copyFrom_23 : ino mX6_copyFrom 23 = some (.aload_n 0, 24) := by decide +kernel
theorem eX6_copyFrom_24 : ino mX6_copyFrom 24 = some (.getfield 15, 27) := by decide +kernel
theorem eX6_copyFrom_27 : ino mX6_copyFrom 27 = some (.iconst 0, 28) := by decide +kernel
theorem eX6_copyFrom_28 : ino mX6_copyFrom 28 = some (.aload_n 0, 29) := by decide +kernel
theorem eX6_copyFrom_29 : ino mX6_copyFrom 29 = some (.getfield 15, 32) := by decide +kernel
theorem eX6_copyFrom_32 : ino mX6_copyFrom 32 = some (.arraylength, 33) := by decide +kernel
theorem eX6_copyFrom_33 : ino mX6_copyFrom 33 = some (.invokestatic 31, 36) := by decide +kernel
theorem eX6_copyFrom_36 : ino mX6_copyFrom 36 = some (.aload_n 1, 37) := by decide +kernel
theorem eX6_copyFrom_37 : ino mX6_copyFrom 37 = some (.getfield 18, 40) := by decide +kernel
theorem eX6_copyFrom_40 : ino mX6_copyFrom 40 = some (.iconst 0, 41) := by decide +kernel
theorem eX6_copyFrom_41 : ino mX6_copyFrom 41 = some (.aload_n 0, 42) := by decide +kernel
theorem eX6_copyFrom_42 : ino mX6_copyFrom 42 = some (.getfield 18, 45) := by decide +kernel
theorem eX6_copyFrom_45 : ino mX6_copyFrom 45 = some (.iconst 0, 46) := by decide +kernel
theorem eX6_copyFrom_46 : ino mX6_copyFrom 46 = some (.aload_n 0, 47) := by decide +kernel
theorem eX6_copyFrom_47 : ino mX6_copyFrom 47 = some (.getfield 18, 50) := by decide +kernel
theorem eX6_copyFrom_50 : ino mX6_copyFrom 50 = some (.arraylength, 51) := by decide +kernel
theorem eX6_copyFrom_51 : ino mX6_copyFrom 51 = some (.invokestatic 31, 54) := by decide +kernel
theorem eX6_copyFrom_54 : ino mX6_copyFrom 54 = some (.aload_n 1, 55) := by decide +kernel
theorem eX6_copyFrom_55 : ino mX6_copyFrom 55 = some (.getfield 21, 58) := by decide +kernel
theorem eX6_copyFrom_58 : ino mX6_copyFrom 58 = some (.iconst 0, 59) := by decide +kernel
theorem eX6_copyFrom_59 : ino mX6_copyFrom 59 = some (.aload_n 0, 60) := by decide +kernel
theorem eX6_copyFrom_60 : ino mX6_copyFrom 60 = some (.getfield 21, 63) := by decide +kernel
theorem eX6_copyFrom_63 : ino mX6_copyFrom 63 = some (.iconst 0, 64) := by decide +kernel
theorem eX6_copyFrom_64 : ino mX6_copyFrom 64 = some (.aload_n 0, 65) := by decide +kernel
theorem eX6_copyFrom_65 : ino mX6_copyFrom 65 = some (.getfield 21, 68) := by decide +kernel
theorem eX6_copyFrom_68 : ino mX6_copyFrom 68 = some (.arraylength, 69) := by decide +kernel
theorem eX6_copyFrom_69 : ino mX6_copyFrom 69 = some (.invokestatic 31, 72) := by decide +kernel
theorem eX6_copyFrom_72 : ino mX6_copyFrom 72 = some (.aload_n 0, 73) := by decide +kernel
theorem eX6_copyFrom_73 : ino mX6_copyFrom 73 = some (.aload_n 1, 74) := by decide +kernel
theorem eX6_copyFrom_74 : ino mX6_copyFrom 74 = some (.getfield 24, 77) := by decide +kernel
theorem eX6_copyFrom_77 : ino mX6_copyFrom 77 = some (.putfield 24, 80) := by decide +kernel
theorem eX6_copyFrom_80 : ino mX6_copyFrom 80 = some (.aload_n 0, 81) := by decide +kernel
theorem eX6_copyFrom_81 : ino mX6_copyFrom 81 = some (.aload_n 1, 82) := by decide +kernel
theorem eX6_copyFrom_82 : ino mX6_copyFrom 82 = some (.getfield 28, 85) := by decide +kernel
theorem eX6_copyFrom_85 : ino mX6_copyFrom 85 = some (.putfield 28, 88) := by decide +kernel
theorem eX6_copyFrom_88 : ino mX6_copyFrom 88 = some (.return_, 89) := by decide +kernel
theorem eX6_readFrom_0 : ino mX6_readFrom 0 = some (.aload_n 0, 1) := by decide +kernel
theorem eX6_readFrom_1 : ino mX6_readFrom 1 = some (.invokevirtual 37, 4) := by decide +kernel
theorem eX6_readFrom_4 : ino mX6_readFrom 4 = some (.aload_n 0, 5) := by decide +kernel
theorem eX6_readFrom_5 : ino mX6_readFrom 5 = some (.aload_n 1, 6) := by decide +kernel
theorem eX6_readFrom_6 : ino mX6_readFrom 6 = some (.aload_n 2, 7) := by decide +kernel
theorem eX6_readFrom_7 : ino mX6_readFrom 7 = some (.iconst 1, 8) := by decide +kernel
theorem eX6_readFrom_8 : ino mX6_readFrom 8 = some (.invokevirtual 40, 11) := by decide +kernel
theorem eX6_readFrom_11 : ino mX6_readFrom 11 = some (.aload_n 1, 12) := by decide +kernel
theorem eX6_readFrom_12 : ino mX6_readFrom 12 = some (.invokevirtual 44, 15) := by decide +kernel
theorem eX6_readFrom_15 : ino mX6_readFrom 15 = some (.return_, 16) := by decide +kernel
theorem eX6_readCondition_0 : ino mX6_readCondition 0 = some (.iconst 0, 1) := by decide +kernel
theorem eX6_readCondition_1 : ino mX6_readCondition 1 = some (.istore 4, 3) := by decide +kernel
theorem eX6_readCondition_3 : ino mX6_readCondition 3 = some (.iconst 0, 4) := by decide +kernel
theorem eX6_readCondition_4 : ino mX6_readCondition 4 = some (.istore 5, 6) := by decide +kernel
theorem eX6_readCondition_6 : ino mX6_readCondition 6 = some (.iconst 0, 7) := by decide +kernel
theorem eX6_readCondition_7 : ino mX6_readCondition 7 = some (.istore 6, 9) := by decide +kernel
theorem eX6_readCondition_9 : ino mX6_readCondition 9 = some (.iload 6, 11) := by decide +kernel
theorem eX6_readCondition_11 : ino mX6_readCondition 11 = some (.bipush 20, 13) := by decide +kernel
theorem eX6_readCondition_13 : ino mX6_readCondition 13 = some (.if_icmp .gt 80, 93) := by decide +kernel
theorem eX6_readCondition_16 : ino mX6_readCondition 16 = some (.aload_n 1, 17) := by decide +kernel
theorem eX6_readCondition_17 : ino mX6_readCondition 17 = some (.invokevirtual 49, 20) := by decide +kernel
theorem eX6_readCondition_20 : ino mX6_readCondition 20 = some (.ifCond .ne 73, 93) := by decide +kernel
theorem eX6_readCondition_23 : ino mX6_readCondition 23 = some (.aload_n 0, 24) := by decide +kernel
theorem eX6_readCondition_24 : ino mX6_readCondition 24 = some (.aload_n 1, 25) := by decide +kernel
theorem eX6_readCondition_25 : ino mX6_readCondition 25 = some (.aload_n 2, 26) := by decide +kernel
theorem eX6_readCondition_26 : ino mX6_readCondition 26 = some (.iload_n 3, 27) := by decide +kernel
theorem eX6_readCondition_27 : ino mX6_readCondition 27 = some (.invokevirtual 53, 30) := by decide +kernel
theorem eX6_readCondition_30 : ino mX6_readCondition 30 = some (.iload 5, 32) := by decide +kernel
theorem eX6_readCondition_32 : ino mX6_readCondition 32 = some (.ifCond .eq 12, 44) := by decide +kernel
theorem eX6_readCondition_35 : ino mX6_readCondition 35 = some (.aload_n 0, 36) := by decide +kernel
theorem eX6_readCondition_36 : ino mX6_readCondition 36 = some (.bipush 7, 38) := by decide +kernel
theorem eX6_readCondition_38 : ino mX6_readCondition 38 = some (.iconst 0, 39) := by decide +kernel
theorem eX6_readCondition_39 : ino mX6_readCondition 39 = some (.iconst 0, 40) := by decide +kernel
theorem eX6_readCondition_40 : ino mX6_readCondition 40 = some (.iconst 0, 41) := by decide +kernel
theorem eX6_readCondition_41 : ino mX6_readCondition 41 = some (.invokevirtual 56, 44) := by decide +kernel
theorem eX6_readCondition_44 : ino mX6_readCondition 44 = some (.aload_n 1, 45) := by decide +kernel
theorem eX6_readCondition_45 : ino mX6_readCondition 45 = some (.getstatic 60, 48) := by decide +kernel
theorem eX6_readCondition_48 : ino mX6_readCondition 48 = some (.invokevirtual 66, 51) := by decide +kernel
theorem eX6_readCondition_51 : ino mX6_readCondition 51 = some (.istore 5, 53) := by decide +kernel
theorem eX6_readCondition_53 : ino mX6_readCondition 53 = some (.iload 5, 55) := by decide +kernel
theorem eX6_readCondition_55 : ino mX6_readCondition 55 = some (.ifCond .ne 32, 87) := by decide +kernel
theorem eX6_readCondition_58 : ino mX6_readCondition 58 = some (.iload 4, 60) := by decide +kernel
theorem eX6_readCondition_60 : ino mX6_readCondition 60 = some (.ifCond .eq 12, 72) := by decide +kernel
theorem eX6_readCondition_63 : ino mX6_readCondition 63 = some (.aload_n 0, 64) := by decide +kernel
theorem eX6_readCondition_64 : ino mX6_readCondition 64 = some (.bipush 8, 66) := by decide +kernel
theorem eX6_readCondition_66 : ino mX6_readCondition 66 = some (.iconst 0, 67) := by decide +kernel
theorem eX6_readCondition_67 : ino mX6_readCondition 67 = some (.iconst 0, 68) := by decide +kernel
theorem eX6_readCondition_68 : ino mX6_readCondition 68 = some (.iconst 0, 69) := by decide +kernel
theorem eX6_readCondition_69 : ino mX6_readCondition 69 = some (.invokevirtual 56, 72) := by decide +kernel
theorem eX6_readCondition_72 : ino mX6_readCondition 72 = some (.aload_n 1, 73) := by decide +kernel
theorem eX6_readCondition_73 : ino mX6_readCondition 73 = some (.getstatic 70, 76) := by decide +kernel
theorem eX6_readCondition_76 : ino mX6_readCondition 76 = some (.invokevirtual 66, 79) := by decide +kernel
theorem eX6_readCondition_79 : ino mX6_readCondition 79 = some (.istore 4, 81) := by decide +kernel
theorem eX6_readCondition_81 : ino mX6_readCondition 81 = some (.iload 4, 83) := by decide +kernel
theorem eX6_readCondition_83 : ino mX6_readCondition 83 = some (.ifCond .ne 4, 87) := by decide +kernel
theorem eX6_readCondition_86 : ino mX6_readCondition 86 = some (.return_, 87) := by decide +kernel
theorem eX6_readCondition_87 : ino mX6_readCondition 87 = some (.iinc 6 1, 90) := by decide +kernel
theorem eX6_readCondition_90 : ino mX6_readCondition 90 = some (.goto (-81), 9) := by decide +kernel
theorem eX6_readCondition_93 : ino mX6_readCondition 93 = some (.return_, 94) := by decide +kernel
theorem eX6_readOne_0 : ino mX6_readOne 0 = some (.aload_n 1, 1) := by decide +kernel
theorem eX6_readOne_1 : ino mX6_readOne 1 = some (.invokestatic 73, 4) := by decide +kernel
theorem eX6_readOne_4 : ino mX6_readOne 4 = some (.ifCond .ne 9, 13) := by decide +kernel
theorem eX6_readOne_7 : ino mX6_readOne 7 = some (.aload_n 1, 8) := by decide +kernel
theorem eX6_readOne_8 : ino mX6_readOne 8 = some (.iconst 1, 9) := by decide +kernel
theorem eX6_readOne_9 : ino mX6_readOne 9 = some (.invokevirtual 77, 12) := by decide +kernel
theorem eX6_readOne_12 : ino mX6_readOne 12 = some (.return_, 13) := by decide +kernel
theorem eX6_readOne_13 : ino mX6_readOne 13 = some (.aload_n 0, 14) := by decide +kernel
theorem eX6_readOne_14 : ino mX6_readOne 14 = some (.getfield 28, 17) := by decide +kernel
theorem eX6_readOne_17 : ino mX6_readOne 17 = some (.bipush 20, 19) := by decide +kernel
theorem eX6_readOne_19 : ino mX6_readOne 19 = some (.if_icmp .ge 9, 28) := by decide +kernel
theorem eX6_readOne_22 : ino mX6_readOne 22 = some (.iload_n 3, 23) := by decide +kernel
theorem eX6_readOne_23 : ino mX6_readOne 23 = some (.bipush 8, 25) := by decide +kernel
theorem eX6_readOne_25 : ino mX6_readOne 25 = some (.if_icmp .le 9, 34) := by decide +kernel
theorem eX6_readOne_28 : ino mX6_readOne 28 = some (.aload_n 1, 29) := by decide +kernel
theorem eX6_readOne_29 : ino mX6_readOne 29 = some (.iconst 4, 30) := by decide +kernel
theorem eX6_readOne_30 : ino mX6_readOne 30 = some (.invokevirtual 77, 33) := by decide +kernel
theorem eX6_readOne_33 : ino mX6_readOne 33 = some (.return_, 34) := by decide +kernel
theorem eX6_readOne_34 : ino mX6_readOne 34 = some (.aload_n 0, 35) := by decide +kernel
theorem eX6_readOne_35 : ino mX6_readOne 35 = some (.dup, 36) := by decide +kernel
theorem eX6_readOne_36 : ino mX6_readOne 36 = some (.getfield 28, 39) := by decide +kernel
theorem eX6_readOne_39 : ino mX6_readOne 39 = some (.iconst 1, 40) := by decide +kernel
theorem eX6_readOne_40 : ino mX6_readOne 40 = some (.iadd, 41) := by decide +kernel
theorem eX6_readOne_41 : ino mX6_readOne 41 = some (.putfield 28, 44) := by decide +kernel
theorem eX6_readOne_44 : ino mX6_readOne 44 = some (.aload_n 1, 45) := by decide +kernel
theorem eX6_readOne_45 : ino mX6_readOne 45 = some (.getstatic 81, 48) := by decide +kernel
theorem eX6_readOne_48 : ino mX6_readOne 48 = some (.invokevirtual 66, 51) := by decide +kernel
theorem eX6_readOne_51 : ino mX6_readOne 51 = some (.ifCond .eq 24, 75) := by decide +kernel
theorem eX6_readOne_54 : ino mX6_readOne 54 = some (.aload_n 0, 55) := by decide +kernel
theorem eX6_readOne_55 : ino mX6_readOne 55 = some (.aload_n 1, 56) := by decide +kernel
theorem eX6_readOne_56 : ino mX6_readOne 56 = some (.aload_n 2, 57) := by decide +kernel
theorem eX6_readOne_57 : ino mX6_readOne 57 = some (.iload_n 3, 58) := by decide +kernel
theorem eX6_readOne_58 : ino mX6_readOne 58 = some (.iconst 1, 59) := by decide +kernel
theorem eX6_readOne_59 : ino mX6_readOne 59 = some (.iadd, 60) := by decide +kernel
theorem eX6_readOne_60 : ino mX6_readOne 60 = some (.invokevirtual 53, 63) := by decide +kernel
theorem eX6_readOne_63 : ino mX6_readOne 63 = some (.aload_n 0, 64) := by decide +kernel
theorem eX6_readOne_64 : ino mX6_readOne 64 = some (.bipush 6, 66) := by decide +kernel
theorem eX6_readOne_66 : ino mX6_readOne 66 = some (.iconst 0, 67) := by decide +kernel
theorem eX6_readOne_67 : ino mX6_readOne 67 = some (.iconst 0, 68) := by decide +kernel
theorem eX6_readOne_68 : ino mX6_readOne 68 = some (.iconst 0, 69) := by decide +kernel
theorem eX6_readOne_69 : ino mX6_readOne 69 = some (.invokevirtual 56, 72) := by decide +kernel
theorem eX6_readOne_72 : ino mX6_readOne 72 = some (.goto 42, 114) := by decide +kernel
theorem eX6_readOne_75 : ino mX6_readOne 75 = some (.aload_n 1, 76) := by decide +kernel
theorem eX6_readOne_76 : ino mX6_readOne 76 = some (.bipush 40, 78) := by decide +kernel
theorem eX6_readOne_78 : ino mX6_readOne 78 = some (.invokevirtual 84, 81) := by decide +kernel
theorem eX6_readOne_81 : ino mX6_readOne 81 = some (.ifCond .eq 27, 108) := by decide +kernel
theorem eX6_readOne_84 : ino mX6_readOne 84 = some (.aload_n 1, 85) := by decide +kernel
theorem eX6_readOne_85 : ino mX6_readOne 85 = some (.bipush 40, 87) := by decide +kernel
theorem eX6_readOne_87 : ino mX6_readOne 87 = some (.invokevirtual 88, 90) := by decide +kernel
theorem eX6_readOne_90 : ino mX6_readOne 90 = some (.aload_n 0, 91) := by decide +kernel
theorem eX6_readOne_91 : ino mX6_readOne 91 = some (.aload_n 1, 92) := by decide +kernel
theorem eX6_readOne_92 : ino mX6_readOne 92 = some (.aload_n 2, 93) := by decide +kernel
theorem eX6_readOne_93 : ino mX6_readOne 93 = some (.iload_n 3, 94) := by decide +kernel
theorem eX6_readOne_94 : ino mX6_readOne 94 = some (.iconst 1, 95) := by decide +kernel
theorem eX6_readOne_95 : ino mX6_readOne 95 = some (.iadd, 96) := by decide +kernel
theorem eX6_readOne_96 : ino mX6_readOne 96 = some (.invokevirtual 40, 99) := by decide +kernel
theorem eX6_readOne_99 : ino mX6_readOne 99 = some (.aload_n 1, 100) := by decide +kernel
theorem eX6_readOne_100 : ino mX6_readOne 100 = some (.bipush 41, 102) := by decide +kernel
theorem eX6_readOne_102 : ino mX6_readOne 102 = some (.invokevirtual 88, 105) := by decide +kernel
theorem eX6_readOne_105 : ino mX6_readOne 105 = some (.goto 9, 114) := by decide +kernel
theorem eX6_readOne_108 : ino mX6_readOne 108 = some (.aload_n 0, 109) := by decide +kernel
theorem eX6_readOne_109 : ino mX6_readOne 109 = some (.aload_n 1, 110) := by decide +kernel
theorem eX6_readOne_110 : ino mX6_readOne 110 = some (.aload_n 2, 111) := by decide +kernel
theorem eX6_readOne_111 : ino mX6_readOne 111 = some (.invokevirtual 92, 114) := by decide +kernel
theorem eX6_readOne_114 : ino mX6_readOne 114 = some (.return_, 115) := by decide +kernel
theorem eX6_beginsOne_0 : ino mX6_beginsOne 0 = some (.aload_n 0, 1) := by decide +kernel
theorem eX6_beginsOne_1 : ino mX6_beginsOne 1 = some (.bipush 40, 3) := by decide +kernel
theorem eX6_beginsOne_3 : ino mX6_beginsOne 3 = some (.invokevirtual 84, 6) := by decide +kernel
theorem eX6_beginsOne_6 : ino mX6_beginsOne 6 = some (.ifCond .ne 71, 77) := by decide +kernel
theorem eX6_beginsOne_9 : ino mX6_beginsOne 9 = some (.aload_n 0, 10) := by decide +kernel
theorem eX6_beginsOne_10 : ino mX6_beginsOne 10 = some (.getstatic 81, 13) := by decide +kernel
theorem eX6_beginsOne_13 : ino mX6_beginsOne 13 = some (.invokevirtual 96, 16) := by decide +kernel
theorem eX6_beginsOne_16 : ino mX6_beginsOne 16 = some (.ifCond .ne 61, 77) := by decide +kernel
theorem eX6_beginsOne_19 : ino mX6_beginsOne 19 = some (.aload_n 0, 20) := by decide +kernel
theorem eX6_beginsOne_20 : ino mX6_beginsOne 20 = some (.getstatic 99, 23) := by decide +kernel
theorem eX6_beginsOne_23 : ino mX6_beginsOne 23 = some (.invokevirtual 96, 26) := by decide +kernel
theorem eX6_beginsOne_26 : ino mX6_beginsOne 26 = some (.ifCond .ne 51, 77) := by decide +kernel
theorem eX6_beginsOne_29 : ino mX6_beginsOne 29 = some (.aload_n 0, 30) := by decide +kernel
theorem eX6_beginsOne_30 : ino mX6_beginsOne 30 = some (.getstatic 102, 33) := by decide +kernel
theorem eX6_beginsOne_33 : ino mX6_beginsOne 33 = some (.invokevirtual 96, 36) := by decide +kernel
theorem eX6_beginsOne_36 : ino mX6_beginsOne 36 = some (.ifCond .ne 41, 77) := by decide +kernel
theorem eX6_beginsOne_39 : ino mX6_beginsOne 39 = some (.aload_n 0, 40) := by decide +kernel
theorem eX6_beginsOne_40 : ino mX6_beginsOne 40 = some (.getstatic 105, 43) := by decide +kernel
theorem eX6_beginsOne_43 : ino mX6_beginsOne 43 = some (.invokevirtual 96, 46) := by decide +kernel
theorem eX6_beginsOne_46 : ino mX6_beginsOne 46 = some (.ifCond .ne 31, 77) := by decide +kernel
theorem eX6_beginsOne_49 : ino mX6_beginsOne 49 = some (.aload_n 0, 50) := by decide +kernel
theorem eX6_beginsOne_50 : ino mX6_beginsOne 50 = some (.getstatic 108, 53) := by decide +kernel
theorem eX6_beginsOne_53 : ino mX6_beginsOne 53 = some (.invokevirtual 96, 56) := by decide +kernel
theorem eX6_beginsOne_56 : ino mX6_beginsOne 56 = some (.ifCond .ne 21, 77) := by decide +kernel
theorem eX6_beginsOne_59 : ino mX6_beginsOne 59 = some (.aload_n 0, 60) := by decide +kernel
theorem eX6_beginsOne_60 : ino mX6_beginsOne 60 = some (.getstatic 111, 63) := by decide +kernel
theorem eX6_beginsOne_63 : ino mX6_beginsOne 63 = some (.invokevirtual 96, 66) := by decide +kernel
theorem eX6_beginsOne_66 : ino mX6_beginsOne 66 = some (.ifCond .ne 11, 77) := by decide +kernel
theorem eX6_beginsOne_69 : ino mX6_beginsOne 69 = some (.aload_n 0, 70) := by decide +kernel
theorem eX6_beginsOne_70 : ino mX6_beginsOne 70 = some (.invokevirtual 114, 73) := by decide +kernel
theorem eX6_beginsOne_73 : ino mX6_beginsOne 73 = some (.iconst (-1), 74) := by decide +kernel
theorem eX6_beginsOne_74 : ino mX6_beginsOne 74 = some (.if_icmp .eq 7, 81) := by decide +kernel
theorem eX6_beginsOne_77 : ino mX6_beginsOne 77 = some (.iconst 1, 78) := by decide +kernel
theorem eX6_beginsOne_78 : ino mX6_beginsOne 78 = some (.goto 4, 82) := by decide +kernel
theorem eX6_beginsOne_81 : ino mX6_beginsOne 81 = some (.iconst 0, 82) := by decide +kernel
theorem eX6_beginsOne_82 : ino mX6_beginsOne 82 = some (.ireturn, 83) := by decide +kernel
theorem eX6_readSimple_0 : ino mX6_readSimple 0 = some (.aload_n 1, 1) := by decide +kernel
theorem eX6_readSimple_1 : ino mX6_readSimple 1 = some (.getstatic 99, 4) := by decide +kernel
theorem eX6_readSimple_4 : ino mX6_readSimple 4 = some (.invokevirtual 66, 7) := by decide +kernel
theorem eX6_readSimple_7 : ino mX6_readSimple 7 = some (.ifCond .eq 14, 21) := by decide +kernel
theorem eX6_readSimple_10 : ino mX6_readSimple 10 = some (.aload_n 0, 11) := by decide +kernel
theorem eX6_readSimple_11 : ino mX6_readSimple 11 = some (.iconst 0, 12) := by decide +kernel
theorem eX6_readSimple_12 : ino mX6_readSimple 12 = some (.iconst 0, 13) := by decide +kernel
theorem eX6_readSimple_13 : ino mX6_readSimple 13 = some (.iconst 0, 14) := by decide +kernel
theorem eX6_readSimple_14 : ino mX6_readSimple 14 = some (.iconst 0, 15) := by decide +kernel
theorem eX6_readSimple_15 : ino mX6_readSimple 15 = some (.invokevirtual 56, 18) := by decide +kernel
theorem eX6_readSimple_18 : ino mX6_readSimple 18 = some (.goto 125, 143) := by decide +kernel
theorem eX6_readSimple_21 : ino mX6_readSimple 21 = some (.aload_n 1, 22) := by decide +kernel
theorem eX6_readSimple_22 : ino mX6_readSimple 22 = some (.getstatic 102, 25) := by decide +kernel
theorem eX6_readSimple_25 : ino mX6_readSimple 25 = some (.invokevirtual 66, 28) := by decide +kernel
theorem eX6_readSimple_28 : ino mX6_readSimple 28 = some (.ifCond .eq 14, 42) := by decide +kernel
theorem eX6_readSimple_31 : ino mX6_readSimple 31 = some (.aload_n 0, 32) := by decide +kernel
theorem eX6_readSimple_32 : ino mX6_readSimple 32 = some (.iconst 1, 33) := by decide +kernel
theorem eX6_readSimple_33 : ino mX6_readSimple 33 = some (.iconst 0, 34) := by decide +kernel
theorem eX6_readSimple_34 : ino mX6_readSimple 34 = some (.iconst 0, 35) := by decide +kernel
theorem eX6_readSimple_35 : ino mX6_readSimple 35 = some (.iconst 0, 36) := by decide +kernel
theorem eX6_readSimple_36 : ino mX6_readSimple 36 = some (.invokevirtual 56, 39) := by decide +kernel
theorem eX6_readSimple_39 : ino mX6_readSimple 39 = some (.goto 104, 143) := by decide +kernel
theorem eX6_readSimple_42 : ino mX6_readSimple 42 = some (.aload_n 1, 43) := by decide +kernel
theorem eX6_readSimple_43 : ino mX6_readSimple 43 = some (.getstatic 105, 46) := by decide +kernel
theorem eX6_readSimple_46 : ino mX6_readSimple 46 = some (.invokevirtual 66, 49) := by decide +kernel
theorem eX6_readSimple_49 : ino mX6_readSimple 49 = some (.ifCond .eq 14, 63) := by decide +kernel
theorem eX6_readSimple_52 : ino mX6_readSimple 52 = some (.aload_n 0, 53) := by decide +kernel
theorem eX6_readSimple_53 : ino mX6_readSimple 53 = some (.iconst 2, 54) := by decide +kernel
theorem eX6_readSimple_54 : ino mX6_readSimple 54 = some (.iconst 0, 55) := by decide +kernel
theorem eX6_readSimple_55 : ino mX6_readSimple 55 = some (.iconst 0, 56) := by decide +kernel
theorem eX6_readSimple_56 : ino mX6_readSimple 56 = some (.iconst 0, 57) := by decide +kernel
theorem eX6_readSimple_57 : ino mX6_readSimple 57 = some (.invokevirtual 56, 60) := by decide +kernel
theorem eX6_readSimple_60 : ino mX6_readSimple 60 = some (.goto 83, 143) := by decide +kernel
theorem eX6_readSimple_63 : ino mX6_readSimple 63 = some (.aload_n 1, 64) := by decide +kernel
theorem eX6_readSimple_64 : ino mX6_readSimple 64 = some (.getstatic 108, 67) := by decide +kernel
theorem eX6_readSimple_67 : ino mX6_readSimple 67 = some (.invokevirtual 66, 70) := by decide +kernel
theorem eX6_readSimple_70 : ino mX6_readSimple 70 = some (.ifCond .eq 18, 88) := by decide +kernel
theorem eX6_readSimple_73 : ino mX6_readSimple 73 = some (.aload_n 0, 74) := by decide +kernel
theorem eX6_readSimple_74 : ino mX6_readSimple 74 = some (.iconst 3, 75) := by decide +kernel
theorem eX6_readSimple_75 : ino mX6_readSimple 75 = some (.iconst 0, 76) := by decide +kernel
theorem eX6_readSimple_76 : ino mX6_readSimple 76 = some (.iconst 0, 77) := by decide +kernel
theorem eX6_readSimple_77 : ino mX6_readSimple 77 = some (.aload_n 2, 78) := by decide +kernel
theorem eX6_readSimple_78 : ino mX6_readSimple 78 = some (.aload_n 1, 79) := by decide +kernel
theorem eX6_readSimple_79 : ino mX6_readSimple 79 = some (.invokevirtual 118, 82) := by decide +kernel
theorem eX6_readSimple_82 : ino mX6_readSimple 82 = some (.invokevirtual 56, 85) := by decide +kernel
theorem eX6_readSimple_85 : ino mX6_readSimple 85 = some (.goto 58, 143) := by decide +kernel
theorem eX6_readSimple_88 : ino mX6_readSimple 88 = some (.aload_n 1, 89) := by decide +kernel
theorem eX6_readSimple_89 : ino mX6_readSimple 89 = some (.getstatic 111, 92) := by decide +kernel
theorem eX6_readSimple_92 : ino mX6_readSimple 92 = some (.invokevirtual 66, 95) := by decide +kernel
theorem eX6_readSimple_95 : ino mX6_readSimple 95 = some (.ifCond .eq 17, 112) := by decide +kernel
theorem eX6_readSimple_98 : ino mX6_readSimple 98 = some (.aload_n 0, 99) := by decide +kernel
theorem eX6_readSimple_99 : ino mX6_readSimple 99 = some (.iconst 4, 100) := by decide +kernel
theorem eX6_readSimple_100 : ino mX6_readSimple 100 = some (.iconst 0, 101) := by decide +kernel
theorem eX6_readSimple_101 : ino mX6_readSimple 101 = some (.iconst 0, 102) := by decide +kernel
theorem eX6_readSimple_102 : ino mX6_readSimple 102 = some (.aload_n 1, 103) := by decide +kernel
theorem eX6_readSimple_103 : ino mX6_readSimple 103 = some (.invokevirtual 124, 106) := by decide +kernel
theorem eX6_readSimple_106 : ino mX6_readSimple 106 = some (.invokevirtual 56, 109) := by decide +kernel
theorem eX6_readSimple_109 : ino mX6_readSimple 109 = some (.goto 34, 143) := by decide +kernel
theorem eX6_readSimple_112 : ino mX6_readSimple 112 = some (.aload_n 1, 113) := by decide +kernel
theorem eX6_readSimple_113 : ino mX6_readSimple 113 = some (.invokevirtual 114, 116) := by decide +kernel
theorem eX6_readSimple_116 : ino mX6_readSimple 116 = some (.istore_n 3, 117) := by decide +kernel
theorem eX6_readSimple_117 : ino mX6_readSimple 117 = some (.aload_n 1, 118) := by decide +kernel
theorem eX6_readSimple_118 : ino mX6_readSimple 118 = some (.invokevirtual 127, 121) := by decide +kernel
theorem eX6_readSimple_121 : ino mX6_readSimple 121 = some (.aload_n 1, 122) := by decide +kernel
theorem eX6_readSimple_122 : ino mX6_readSimple 122 = some (.invokevirtual 130, 125) := by decide +kernel
theorem eX6_readSimple_125 : ino mX6_readSimple 125 = some (.istore 4, 127) := by decide +kernel
theorem eX6_readSimple_127 : ino mX6_readSimple 127 = some (.aload_n 0, 128) := by decide +kernel
theorem eX6_readSimple_128 : ino mX6_readSimple 128 = some (.iconst 5, 129) := by decide +kernel
theorem eX6_readSimple_129 : ino mX6_readSimple 129 = some (.iload_n 3, 130) := by decide +kernel
theorem eX6_readSimple_130 : ino mX6_readSimple 130 = some (.iload 4, 132) := by decide +kernel
theorem eX6_readSimple_132 : ino mX6_readSimple 132 = some (.aload_n 1, 133) := by decide +kernel
theorem eX6_readSimple_133 : ino mX6_readSimple 133 = some (.iconst 0, 134) := by decide +kernel
theorem eX6_readSimple_134 : ino mX6_readSimple 134 = some (.sipush 999, 137) := by decide +kernel
theorem eX6_readSimple_137 : ino mX6_readSimple 137 = some (.invokevirtual 133, 140) := by decide +kernel
theorem eX6_readSimple_140 : ino mX6_readSimple 140 = some (.invokevirtual 56, 143) := by decide +kernel
theorem eX6_readSimple_143 : ino mX6_readSimple 143 = some (.return_, 144) := by decide +kernel
theorem eX6_add_0 : ino mX6_add 0 = some (.aload_n 0, 1) := by decide +kernel
theorem eX6_add_1 : ino mX6_add 1 = some (.getfield 24, 4) := by decide +kernel
theorem eX6_add_4 : ino mX6_add 4 = some (.bipush 40, 6) := by decide +kernel
theorem eX6_add_6 : ino mX6_add 6 = some (.if_icmp .ge 54, 60) := by decide +kernel
theorem eX6_add_9 : ino mX6_add 9 = some (.aload_n 0, 10) := by decide +kernel
theorem eX6_add_10 : ino mX6_add 10 = some (.getfield 11, 13) := by decide +kernel
theorem eX6_add_13 : ino mX6_add 13 = some (.aload_n 0, 14) := by decide +kernel
theorem eX6_add_14 : ino mX6_add 14 = some (.getfield 24, 17) := by decide +kernel
theorem eX6_add_17 : ino mX6_add 17 = some (.iload_n 1, 18) := by decide +kernel
theorem eX6_add_18 : ino mX6_add 18 = some (.iastore, 19) := by decide +kernel
theorem eX6_add_19 : ino mX6_add 19 = some (.aload_n 0, 20) := by decide +kernel
theorem eX6_add_20 : ino mX6_add 20 = some (.getfield 15, 23) := by decide +kernel
theorem eX6_add_23 : ino mX6_add 23 = some (.aload_n 0, 24) := by decide +kernel
theorem eX6_add_24 : ino mX6_add 24 = some (.getfield 24, 27) := by decide +kernel
theorem eX6_add_27 : ino mX6_add 27 = some (.iload_n 2, 28) := by decide +kernel
theorem eX6_add_28 : ino mX6_add 28 = some (.iastore, 29) := by decide +kernel
theorem eX6_add_29 : ino mX6_add 29 = some (.aload_n 0, 30) := by decide +kernel
theorem eX6_add_30 : ino mX6_add 30 = some (.getfield 18, 33) := by decide +kernel
theorem eX6_add_33 : ino mX6_add 33 = some (.aload_n 0, 34) := by decide +kernel
theorem eX6_add_34 : ino mX6_add 34 = some (.getfield 24, 37) := by decide +kernel
theorem eX6_add_37 : ino mX6_add 37 = some (.iload_n 3, 38) := by decide +kernel
theorem eX6_add_38 : ino mX6_add 38 = some (.iastore, 39) := by decide +kernel
theorem eX6_add_39 : ino mX6_add 39 = some (.aload_n 0, 40) := by decide +kernel
theorem eX6_add_40 : ino mX6_add 40 = some (.getfield 21, 43) := by decide +kernel
theorem eX6_add_43 : ino mX6_add 43 = some (.aload_n 0, 44) := by decide +kernel
theorem eX6_add_44 : ino mX6_add 44 = some (.getfield 24, 47) := by decide +kernel
theorem eX6_add_47 : ino mX6_add 47 = some (.iload 4, 49) := by decide +kernel
theorem eX6_add_49 : ino mX6_add 49 = some (.iastore, 50) := by decide +kernel
theorem eX6_add_50 : ino mX6_add 50 = some (.aload_n 0, 51) := by decide +kernel
theorem eX6_add_51 : ino mX6_add 51 = some (.dup, 52) := by decide +kernel
theorem eX6_add_52 : ino mX6_add 52 = some (.getfield 24, 55) := by decide +kernel
theorem eX6_add_55 : ino mX6_add 55 = some (.iconst 1, 56) := by decide +kernel
theorem eX6_add_56 : ino mX6_add 56 = some (.iadd, 57) := by decide +kernel
theorem eX6_add_57 : ino mX6_add 57 = some (.putfield 24, 60) := by decide +kernel
theorem eX6_add_60 : ino mX6_add 60 = some (.return_, 61) := by decide +kernel
theorem eX6_holdsOf_0 : ino mX6_holdsOf 0 = some (.iconst 0, 1) := by decide +kernel
theorem eX6_holdsOf_1 : ino mX6_holdsOf 1 = some (.istore 4, 3) := by decide +kernel
theorem eX6_holdsOf_3 : ino mX6_holdsOf 3 = some (.iconst 0, 4) := by decide +kernel
theorem eX6_holdsOf_4 : ino mX6_holdsOf 4 = some (.istore 5, 6) := by decide +kernel
theorem eX6_holdsOf_6 : ino mX6_holdsOf 6 = some (.iload 5, 8) := by decide +kernel
theorem eX6_holdsOf_8 : ino mX6_holdsOf 8 = some (.aload_n 0, 9) := by decide +kernel
theorem eX6_holdsOf_9 : ino mX6_holdsOf 9 = some (.getfield 24, 12) := by decide +kernel
theorem eX6_holdsOf_12 : ino mX6_holdsOf 12 = some (.if_icmp .ge 110, 122) := by decide +kernel
theorem eX6_holdsOf_15 : ino mX6_holdsOf 15 = some (.iload 4, 17) := by decide +kernel
theorem eX6_holdsOf_17 : ino mX6_holdsOf 17 = some (.iconst 1, 18) := by decide +kernel
theorem eX6_holdsOf_18 : ino mX6_holdsOf 18 = some (.iand, 19) := by decide +kernel
theorem eX6_holdsOf_19 : ino mX6_holdsOf 19 = some (.istore 6, 21) := by decide +kernel
theorem eX6_holdsOf_21 : ino mX6_holdsOf 21 = some (.aload_n 0, 22) := by decide +kernel
theorem eX6_holdsOf_22 : ino mX6_holdsOf 22 = some (.getfield 11, 25) := by decide +kernel
theorem eX6_holdsOf_25 : ino mX6_holdsOf 25 = some (.iload 5, 27) := by decide +kernel
theorem eX6_holdsOf_27 : ino mX6_holdsOf 27 = some (.iaload, 28) := by decide +kernel
theorem eX6_holdsOf_28 : decode mX6_holdsOf.2.1 28 = .ok (.tableswitch 64 6 8 #[28, 37, 52], 28) := by decide +kernel
theorem eX6_holdsOf_56 : ino mX6_holdsOf 56 = some (.iload 4, 58) := by decide +kernel
theorem eX6_holdsOf_58 : ino mX6_holdsOf 58 = some (.iconst 1, 59) := by decide +kernel
theorem eX6_holdsOf_59 : ino mX6_holdsOf 59 = some (.ixor, 60) := by decide +kernel
theorem eX6_holdsOf_60 : ino mX6_holdsOf 60 = some (.istore 4, 62) := by decide +kernel
theorem eX6_holdsOf_62 : ino mX6_holdsOf 62 = some (.goto 54, 116) := by decide +kernel
theorem eX6_holdsOf_65 : ino mX6_holdsOf 65 = some (.iload 4, 67) := by decide +kernel
theorem eX6_holdsOf_67 : ino mX6_holdsOf 67 = some (.iconst 1, 68) := by decide +kernel
theorem eX6_holdsOf_68 : ino mX6_holdsOf 68 = some (.iushr, 69) := by decide +kernel
theorem eX6_holdsOf_69 : ino mX6_holdsOf 69 = some (.iload 6, 71) := by decide +kernel
theorem eX6_holdsOf_71 : ino mX6_holdsOf 71 = some (.bipush (-2), 73) := by decide +kernel
theorem eX6_holdsOf_73 : ino mX6_holdsOf 73 = some (.ior, 74) := by decide +kernel
theorem eX6_holdsOf_74 : ino mX6_holdsOf 74 = some (.iand, 75) := by decide +kernel
theorem eX6_holdsOf_75 : ino mX6_holdsOf 75 = some (.istore 4, 77) := by decide +kernel
theorem eX6_holdsOf_77 : ino mX6_holdsOf 77 = some (.goto 39, 116) := by decide +kernel
theorem eX6_holdsOf_80 : ino mX6_holdsOf 80 = some (.iload 4, 82) := by decide +kernel
theorem eX6_holdsOf_82 : ino mX6_holdsOf 82 = some (.iconst 1, 83) := by decide +kernel
theorem eX6_holdsOf_83 : ino mX6_holdsOf 83 = some (.iushr, 84) := by decide +kernel
theorem eX6_holdsOf_84 : ino mX6_holdsOf 84 = some (.iload 6, 86) := by decide +kernel
theorem eX6_holdsOf_86 : ino mX6_holdsOf 86 = some (.ior, 87) := by decide +kernel
theorem eX6_holdsOf_87 : ino mX6_holdsOf 87 = some (.istore 4, 89) := by decide +kernel
theorem eX6_holdsOf_89 : ino mX6_holdsOf 89 = some (.goto 27, 116) := by decide +kernel
theorem eX6_holdsOf_92 : ino mX6_holdsOf 92 = some (.iload 4, 94) := by decide +kernel
theorem eX6_holdsOf_94 : ino mX6_holdsOf 94 = some (.iconst 1, 95) := by decide +kernel
theorem eX6_holdsOf_95 : ino mX6_holdsOf 95 = some (.ishl, 96) := by decide +kernel
theorem eX6_holdsOf_96 : ino mX6_holdsOf 96 = some (.aload_n 0, 97) := by decide +kernel
theorem eX6_holdsOf_97 : ino mX6_holdsOf 97 = some (.aload_n 1, 98) := by decide +kernel
theorem eX6_holdsOf_98 : ino mX6_holdsOf 98 = some (.aload_n 2, 99) := by decide +kernel
theorem eX6_holdsOf_99 : ino mX6_holdsOf 99 = some (.iload_n 3, 100) := by decide +kernel
theorem eX6_holdsOf_100 : ino mX6_holdsOf 100 = some (.iload 5, 102) := by decide +kernel
theorem eX6_holdsOf_102 : ino mX6_holdsOf 102 = some (.invokevirtual 137, 105) := by decide +kernel
theorem eX6_holdsOf_105 : ino mX6_holdsOf 105 = some (.ifCond .eq 7, 112) := by decide +kernel
theorem eX6_holdsOf_108 : ino mX6_holdsOf 108 = some (.iconst 1, 109) := by decide +kernel
theorem eX6_holdsOf_109 : ino mX6_holdsOf 109 = some (.goto 4, 113) := by decide +kernel
theorem eX6_holdsOf_112 : ino mX6_holdsOf 112 = some (.iconst 0, 113) := by decide +kernel
theorem eX6_holdsOf_113 : ino mX6_holdsOf 113 = some (.ior, 114) := by decide +kernel
theorem eX6_holdsOf_114 : ino mX6_holdsOf 114 = some (.istore 4, 116) := by decide +kernel
theorem eX6_holdsOf_116 : ino mX6_holdsOf 116 = some (.iinc 5 1, 119) := by decide +kernel
theorem eX6_holdsOf_119 : ino mX6_holdsOf 119 = some (.goto (-113), 6) := by decide +kernel
theorem eX6_holdsOf_122 : ino mX6_holdsOf 122 = some (.iload 4, 124) := by decide +kernel
theorem eX6_holdsOf_124 : ino mX6_holdsOf 124 = some (.iconst 1, 125) := by decide +kernel
theorem eX6_holdsOf_125 : ino mX6_holdsOf 125 = some (.iand, 126) := by decide +kernel
theorem eX6_holdsOf_126 : ino mX6_holdsOf 126 = some (.ifCond .eq 7, 133) := by decide +kernel
theorem eX6_holdsOf_129 : ino mX6_holdsOf 129 = some (.iconst 1, 130) := by decide +kernel
theorem eX6_holdsOf_130 : ino mX6_holdsOf 130 = some (.goto 4, 134) := by decide +kernel
theorem eX6_holdsOf_133 : ino mX6_holdsOf 133 = some (.iconst 0, 134) := by decide +kernel
theorem eX6_holdsOf_134 : ino mX6_holdsOf 134 = some (.ireturn, 135) := by decide +kernel
theorem eX6_isTrue_0 : ino mX6_isTrue 0 = some (.aload_n 0, 1) := by decide +kernel
theorem eX6_isTrue_1 : ino mX6_isTrue 1 = some (.getfield 11, 4) := by decide +kernel
theorem eX6_isTrue_4 : ino mX6_isTrue 4 = some (.iload 4, 6) := by decide +kernel
theorem eX6_isTrue_6 : ino mX6_isTrue 6 = some (.iaload, 7) := by decide +kernel
theorem eX6_isTrue_7 : decode mX6_isTrue.2.1 7 = .ok (.tableswitch 126 0 4 #[33, 49, 64, 79, 101], 33) := by decide +kernel
theorem eX6_isTrue_40 : ino mX6_isTrue 40 = some (.aload_n 2, 41) := by decide +kernel
theorem eX6_isTrue_41 : ino mX6_isTrue 41 = some (.getfield 141, 44) := by decide +kernel
theorem eX6_isTrue_44 : ino mX6_isTrue 44 = some (.iload_n 3, 45) := by decide +kernel
theorem eX6_isTrue_45 : ino mX6_isTrue 45 = some (.iaload, 46) := by decide +kernel
theorem eX6_isTrue_46 : ino mX6_isTrue 46 = some (.iconst (-1), 47) := by decide +kernel
theorem eX6_isTrue_47 : ino mX6_isTrue 47 = some (.if_icmp .ne 7, 54) := by decide +kernel
theorem eX6_isTrue_50 : ino mX6_isTrue 50 = some (.iconst 1, 51) := by decide +kernel
theorem eX6_isTrue_51 : ino mX6_isTrue 51 = some (.goto 4, 55) := by decide +kernel
theorem eX6_isTrue_54 : ino mX6_isTrue 54 = some (.iconst 0, 55) := by decide +kernel
theorem eX6_isTrue_55 : ino mX6_isTrue 55 = some (.ireturn, 56) := by decide +kernel
theorem eX6_isTrue_56 : ino mX6_isTrue 56 = some (.aload_n 2, 57) := by decide +kernel
theorem eX6_isTrue_57 : ino mX6_isTrue 57 = some (.aload_n 1, 58) := by decide +kernel
theorem eX6_isTrue_58 : ino mX6_isTrue 58 = some (.iload_n 3, 59) := by decide +kernel
theorem eX6_isTrue_59 : ino mX6_isTrue 59 = some (.invokevirtual 146, 62) := by decide +kernel
theorem eX6_isTrue_62 : ino mX6_isTrue 62 = some (.ifCond .ne 7, 69) := by decide +kernel
theorem eX6_isTrue_65 : ino mX6_isTrue 65 = some (.iconst 1, 66) := by decide +kernel
theorem eX6_isTrue_66 : ino mX6_isTrue 66 = some (.goto 4, 70) := by decide +kernel
theorem eX6_isTrue_69 : ino mX6_isTrue 69 = some (.iconst 0, 70) := by decide +kernel
theorem eX6_isTrue_70 : ino mX6_isTrue 70 = some (.ireturn, 71) := by decide +kernel
theorem eX6_isTrue_71 : ino mX6_isTrue 71 = some (.aload_n 2, 72) := by decide +kernel
theorem eX6_isTrue_72 : ino mX6_isTrue 72 = some (.aload_n 1, 73) := by decide +kernel
theorem eX6_isTrue_73 : ino mX6_isTrue 73 = some (.iload_n 3, 74) := by decide +kernel
theorem eX6_isTrue_74 : ino mX6_isTrue 74 = some (.invokevirtual 150, 77) := by decide +kernel
theorem eX6_isTrue_77 : ino mX6_isTrue 77 = some (.ifCond .eq 7, 84) := by decide +kernel
theorem eX6_isTrue_80 : ino mX6_isTrue 80 = some (.iconst 1, 81) := by decide +kernel
theorem eX6_isTrue_81 : ino mX6_isTrue 81 = some (.goto 4, 85) := by decide +kernel
theorem eX6_isTrue_84 : ino mX6_isTrue 84 = some (.iconst 0, 85) := by decide +kernel
theorem eX6_isTrue_85 : ino mX6_isTrue 85 = some (.ireturn, 86) := by decide +kernel
theorem eX6_isTrue_86 : ino mX6_isTrue 86 = some (.aload_n 2, 87) := by decide +kernel
theorem eX6_isTrue_87 : ino mX6_isTrue 87 = some (.getfield 141, 90) := by decide +kernel
theorem eX6_isTrue_90 : ino mX6_isTrue 90 = some (.iload_n 3, 91) := by decide +kernel
theorem eX6_isTrue_91 : ino mX6_isTrue 91 = some (.iaload, 92) := by decide +kernel
theorem eX6_isTrue_92 : ino mX6_isTrue 92 = some (.aload_n 0, 93) := by decide +kernel
theorem eX6_isTrue_93 : ino mX6_isTrue 93 = some (.getfield 21, 96) := by decide +kernel
theorem eX6_isTrue_96 : ino mX6_isTrue 96 = some (.iload 4, 98) := by decide +kernel
theorem eX6_isTrue_98 : ino mX6_isTrue 98 = some (.iaload, 99) := by decide +kernel
theorem eX6_isTrue_99 : ino mX6_isTrue 99 = some (.if_icmp .ne 7, 106) := by decide +kernel
theorem eX6_isTrue_102 : ino mX6_isTrue 102 = some (.iconst 1, 103) := by decide +kernel
theorem eX6_isTrue_103 : ino mX6_isTrue 103 = some (.goto 4, 107) := by decide +kernel
theorem eX6_isTrue_106 : ino mX6_isTrue 106 = some (.iconst 0, 107) := by decide +kernel
theorem eX6_isTrue_107 : ino mX6_isTrue 107 = some (.ireturn, 108) := by decide +kernel
theorem eX6_isTrue_108 : ino mX6_isTrue 108 = some (.aload_n 2, 109) := by decide +kernel
theorem eX6_isTrue_109 : ino mX6_isTrue 109 = some (.aload_n 1, 110) := by decide +kernel
theorem eX6_isTrue_110 : ino mX6_isTrue 110 = some (.iload_n 3, 111) := by decide +kernel
theorem eX6_isTrue_111 : ino mX6_isTrue 111 = some (.invokevirtual 146, 114) := by decide +kernel
theorem eX6_isTrue_114 : ino mX6_isTrue 114 = some (.aload_n 0, 115) := by decide +kernel
theorem eX6_isTrue_115 : ino mX6_isTrue 115 = some (.getfield 21, 118) := by decide +kernel
theorem eX6_isTrue_118 : ino mX6_isTrue 118 = some (.iload 4, 120) := by decide +kernel
theorem eX6_isTrue_120 : ino mX6_isTrue 120 = some (.iaload, 121) := by decide +kernel
theorem eX6_isTrue_121 : ino mX6_isTrue 121 = some (.ishr, 122) := by decide +kernel
theorem eX6_isTrue_122 : ino mX6_isTrue 122 = some (.iconst 1, 123) := by decide +kernel
theorem eX6_isTrue_123 : ino mX6_isTrue 123 = some (.iand, 124) := by decide +kernel
theorem eX6_isTrue_124 : ino mX6_isTrue 124 = some (.ifCond .eq 7, 131) := by decide +kernel
theorem eX6_isTrue_127 : ino mX6_isTrue 127 = some (.iconst 1, 128) := by decide +kernel
theorem eX6_isTrue_128 : ino mX6_isTrue 128 = some (.goto 4, 132) := by decide +kernel
theorem eX6_isTrue_131 : ino mX6_isTrue 131 = some (.iconst 0, 132) := by decide +kernel
theorem eX6_isTrue_132 : ino mX6_isTrue 132 = some (.ireturn, 133) := by decide +kernel
theorem eX6_isTrue_133 : ino mX6_isTrue 133 = some (.aload_n 2, 134) := by decide +kernel
theorem eX6_isTrue_134 : ino mX6_isTrue 134 = some (.iload_n 3, 135) := by decide +kernel
theorem eX6_isTrue_135 : ino mX6_isTrue 135 = some (.aload_n 0, 136) := by decide +kernel
theorem eX6_isTrue_136 : ino mX6_isTrue 136 = some (.getfield 15, 139) := by decide +kernel
theorem eX6_isTrue_139 : ino mX6_isTrue 139 = some (.iload 4, 141) := by decide +kernel
theorem eX6_isTrue_141 : ino mX6_isTrue 141 = some (.iaload, 142) := by decide +kernel
theorem eX6_isTrue_142 : ino mX6_isTrue 142 = some (.invokestatic 153, 145) := by decide +kernel
theorem eX6_isTrue_145 : ino mX6_isTrue 145 = some (.aload_n 0, 146) := by decide +kernel
theorem eX6_isTrue_146 : ino mX6_isTrue 146 = some (.getfield 18, 149) := by decide +kernel
theorem eX6_isTrue_149 : ino mX6_isTrue 149 = some (.iload 4, 151) := by decide +kernel
theorem eX6_isTrue_151 : ino mX6_isTrue 151 = some (.iaload, 152) := by decide +kernel
theorem eX6_isTrue_152 : ino mX6_isTrue 152 = some (.aload_n 0, 153) := by decide +kernel
theorem eX6_isTrue_153 : ino mX6_isTrue 153 = some (.getfield 21, 156) := by decide +kernel
theorem eX6_isTrue_156 : ino mX6_isTrue 156 = some (.iload 4, 158) := by decide +kernel
theorem eX6_isTrue_158 : ino mX6_isTrue 158 = some (.iaload, 159) := by decide +kernel
theorem eX6_isTrue_159 : ino mX6_isTrue 159 = some (.invokestatic 157, 162) := by decide +kernel
theorem eX6_isTrue_162 : ino mX6_isTrue 162 = some (.ireturn, 163) := by decide +kernel
theorem eX6_amountOf_0 : ino mX6_amountOf 0 = some (.iload_n 2, 1) := by decide +kernel
theorem eX6_amountOf_1 : decode mX6_amountOf.2.1 1 = .ok (.tableswitch 54 4 7 #[31, 38, 45, 52], 31) := by decide +kernel
theorem eX6_amountOf_32 : ino mX6_amountOf 32 = some (.aload_n 0, 33) := by decide +kernel
theorem eX6_amountOf_33 : ino mX6_amountOf 33 = some (.getfield 161, 36) := by decide +kernel
theorem eX6_amountOf_36 : ino mX6_amountOf 36 = some (.iload_n 1, 37) := by decide +kernel
theorem eX6_amountOf_37 : ino mX6_amountOf 37 = some (.iaload, 38) := by decide +kernel
theorem eX6_amountOf_38 : ino mX6_amountOf 38 = some (.ireturn, 39) := by decide +kernel
theorem eX6_amountOf_39 : ino mX6_amountOf 39 = some (.aload_n 0, 40) := by decide +kernel
theorem eX6_amountOf_40 : ino mX6_amountOf 40 = some (.getfield 164, 43) := by decide +kernel
theorem eX6_amountOf_43 : ino mX6_amountOf 43 = some (.iload_n 1, 44) := by decide +kernel
theorem eX6_amountOf_44 : ino mX6_amountOf 44 = some (.iaload, 45) := by decide +kernel
theorem eX6_amountOf_45 : ino mX6_amountOf 45 = some (.ireturn, 46) := by decide +kernel
theorem eX6_amountOf_46 : ino mX6_amountOf 46 = some (.aload_n 0, 47) := by decide +kernel
theorem eX6_amountOf_47 : ino mX6_amountOf 47 = some (.getfield 167, 50) := by decide +kernel
theorem eX6_amountOf_50 : ino mX6_amountOf 50 = some (.iload_n 1, 51) := by decide +kernel
theorem eX6_amountOf_51 : ino mX6_amountOf 51 = some (.iaload, 52) := by decide +kernel
theorem eX6_amountOf_52 : ino mX6_amountOf 52 = some (.ireturn, 53) := by decide +kernel
theorem eX6_amountOf_53 : ino mX6_amountOf 53 = some (.iload_n 1, 54) := by decide +kernel
theorem eX6_amountOf_54 : ino mX6_amountOf 54 = some (.ireturn, 55) := by decide +kernel
theorem eX6_amountOf_55 : ino mX6_amountOf 55 = some (.iload_n 2, 56) := by decide +kernel
theorem eX6_amountOf_56 : ino mX6_amountOf 56 = some (.ifCond .lt 17, 73) := by decide +kernel
theorem eX6_amountOf_59 : ino mX6_amountOf 59 = some (.iload_n 2, 60) := by decide +kernel
theorem eX6_amountOf_60 : ino mX6_amountOf 60 = some (.iconst 4, 61) := by decide +kernel
theorem eX6_amountOf_61 : ino mX6_amountOf 61 = some (.if_icmp .ge 12, 73) := by decide +kernel
theorem eX6_amountOf_64 : ino mX6_amountOf 64 = some (.aload_n 0, 65) := by decide +kernel
theorem eX6_amountOf_65 : ino mX6_amountOf 65 = some (.iload_n 1, 66) := by decide +kernel
theorem eX6_amountOf_66 : ino mX6_amountOf 66 = some (.iload_n 2, 67) := by decide +kernel
theorem eX6_amountOf_67 : ino mX6_amountOf 67 = some (.invokevirtual 170, 70) := by decide +kernel
theorem eX6_amountOf_70 : ino mX6_amountOf 70 = some (.goto 4, 74) := by decide +kernel
theorem eX6_amountOf_73 : ino mX6_amountOf 73 = some (.iconst 0, 74) := by decide +kernel
theorem eX6_amountOf_74 : ino mX6_amountOf 74 = some (.ireturn, 75) := by decide +kernel
theorem eX6_compares_0 : ino mX6_compares 0 = some (.iload_n 1, 1) := by decide +kernel
theorem eX6_compares_1 : ino mX6_compares 1 = some (.bipush 60, 3) := by decide +kernel
theorem eX6_compares_3 : ino mX6_compares 3 = some (.if_icmp .ne 14, 17) := by decide +kernel
theorem eX6_compares_6 : ino mX6_compares 6 = some (.iload_n 0, 7) := by decide +kernel
theorem eX6_compares_7 : ino mX6_compares 7 = some (.iload_n 2, 8) := by decide +kernel
theorem eX6_compares_8 : ino mX6_compares 8 = some (.if_icmp .ge 7, 15) := by decide +kernel
theorem eX6_compares_11 : ino mX6_compares 11 = some (.iconst 1, 12) := by decide +kernel
theorem eX6_compares_12 : ino mX6_compares 12 = some (.goto 4, 16) := by decide +kernel
theorem eX6_compares_15 : ino mX6_compares 15 = some (.iconst 0, 16) := by decide +kernel
theorem eX6_compares_16 : ino mX6_compares 16 = some (.ireturn, 17) := by decide +kernel
theorem eX6_compares_17 : ino mX6_compares 17 = some (.iload_n 1, 18) := by decide +kernel
theorem eX6_compares_18 : ino mX6_compares 18 = some (.bipush 62, 20) := by decide +kernel
theorem eX6_compares_20 : ino mX6_compares 20 = some (.if_icmp .ne 16, 36) := by decide +kernel
theorem eX6_compares_23 : ino mX6_compares 23 = some (.iload_n 0, 24) := by decide +kernel
theorem eX6_compares_24 : ino mX6_compares 24 = some (.iload_n 2, 25) := by decide +kernel
theorem eX6_compares_25 : ino mX6_compares 25 = some (.if_icmp .le 7, 32) := by decide +kernel
theorem eX6_compares_28 : ino mX6_compares 28 = some (.iconst 1, 29) := by decide +kernel
theorem eX6_compares_29 : ino mX6_compares 29 = some (.goto 17, 46) := by decide +kernel
theorem eX6_compares_32 : ino mX6_compares 32 = some (.iconst 0, 33) := by decide +kernel
theorem eX6_compares_33 : ino mX6_compares 33 = some (.goto 13, 46) := by decide +kernel
theorem eX6_compares_36 : ino mX6_compares 36 = some (.iload_n 0, 37) := by decide +kernel
theorem eX6_compares_37 : ino mX6_compares 37 = some (.iload_n 2, 38) := by decide +kernel
theorem eX6_compares_38 : ino mX6_compares 38 = some (.if_icmp .ne 7, 45) := by decide +kernel
theorem eX6_compares_41 : ino mX6_compares 41 = some (.iconst 1, 42) := by decide +kernel
theorem eX6_compares_42 : ino mX6_compares 42 = some (.goto 4, 46) := by decide +kernel
theorem eX6_compares_45 : ino mX6_compares 45 = some (.iconst 0, 46) := by decide +kernel
theorem eX6_compares_46 : ino mX6_compares 46 = some (.ireturn, 47) := by decide +kernel
