theorem eX0_init_0 : ino mX0_init 0 = some (.aload_n 0, 1) := by decide +kernel
theorem eX0_init_1 : ino mX0_init 1 = some (.invokespecial 3, 4) := by decide +kernel
theorem eX0_init_4 : ino mX0_init 4 = some (.aload_n 0, 5) := by decide +kernel
theorem eX0_init_5 : ino mX0_init 5 = some (.bipush 9, 7) := by decide +kernel
theorem eX0_init_7 : ino mX0_init 7 = some (.newarray .int, 9) := by decide +kernel
theorem eX0_init_9 : ino mX0_init 9 = some (.putfield 9, 12) := by decide +kernel
theorem eX0_init_12 : ino mX0_init 12 = some (.aload_n 0, 13) := by decide +kernel
theorem eX0_init_13 : ino mX0_init 13 = some (.bipush 6, 15) := by decide +kernel
theorem eX0_init_15 : ino mX0_init 15 = some (.newarray .int, 17) := by decide +kernel
theorem eX0_init_17 : ino mX0_init 17 = some (.putfield 15, 20) := by decide +kernel
theorem eX0_init_20 : ino mX0_init 20 = some (.aload_n 0, 21) := by decide +kernel
theorem eX0_init_21 : ino mX0_init 21 = some (.bipush 6, 23) := by decide +kernel
theorem eX0_init_23 : ino mX0_init 23 = some (.newarray .int, 25) := by decide +kernel
theorem eX0_init_25 : ino mX0_init 25 = some (.putfield 18, 28) := by decide +kernel
theorem eX0_init_28 : ino mX0_init 28 = some (.aload_n 0, 29) := by decide +kernel
theorem eX0_init_29 : ino mX0_init 29 = some (.getfield 18, 32) := by decide +kernel
theorem eX0_init_32 : ino mX0_init 32 = some (.iconst (-1), 33) := by decide +kernel
theorem eX0_init_33 : ino mX0_init 33 = some (.invokestatic 21, 36) := by decide +kernel
theorem eX0_init_36 : ino mX0_init 36 = some (.return_, 37) := by decide +kernel
theorem eX0_settle_0 : ino mX0_settle 0 = some (.aload_n 0, 1) := by decide +kernel
theorem eX0_settle_1 : ino mX0_settle 1 = some (.getfield 9, 4) := by decide +kernel
theorem eX0_settle_4 : ino mX0_settle 4 = some (.iconst (-1), 5) := by decide +kernel
theorem eX0_settle_5 : ino mX0_settle 5 = some (.invokestatic 21, 8) := by decide +kernel
theorem eX0_settle_8 : ino mX0_settle 8 = some (.aload_n 0, 9) := by decide +kernel
theorem eX0_settle_9 : ino mX0_settle 9 = some (.getfield 15, 12) := by decide +kernel
theorem eX0_settle_12 : ino mX0_settle 12 = some (.iconst 0, 13) := by decide +kernel
theorem eX0_settle_13 : ino mX0_settle 13 = some (.invokestatic 21, 16) := by decide +kernel
theorem eX0_settle_16 : ino mX0_settle 16 = some (.aload_n 0, 17) := by decide +kernel
theorem eX0_settle_17 : ino mX0_settle 17 = some (.getfield 18, 20) := by decide +kernel
theorem eX0_settle_20 : ino mX0_settle 20 = some (.iconst (-1), 21) := by decide +kernel
theorem eX0_settle_21 : ino mX0_settle 21 = some (.invokestatic 21, 24) := by decide +kernel
theorem eX0_settle_24 : ino mX0_settle 24 = some (.iconst 0, 25) := by decide +kernel
theorem eX0_settle_25 : ino mX0_settle 25 = some (.istore_n 3, 26) := by decide +kernel
theorem eX0_settle_26 : ino mX0_settle 26 = some (.iload_n 3, 27) := by decide +kernel
theorem eX0_settle_27 : ino mX0_settle 27 = some (.bipush 48, 29) := by decide +kernel
theorem eX0_settle_29 : ino mX0_settle 29 = some (.if_icmp .ge 21, 50) := by decide +kernel
theorem eX0_settle_32 : ino mX0_settle 32 = some (.aload_n 0, 33) := by decide +kernel
theorem eX0_settle_33 : ino mX0_settle 33 = some (.aload_n 1, 34) := by decide +kernel
theorem eX0_settle_34 : ino mX0_settle 34 = some (.aload_n 2, 35) := by decide +kernel
theorem eX0_settle_35 : ino mX0_settle 35 = some (.invokevirtual 27, 38) := by decide +kernel
theorem eX0_settle_38 : ino mX0_settle 38 = some (.ifCond .ne 6, 44) := by decide +kernel
theorem eX0_settle_41 : ino mX0_settle 41 = some (.goto 9, 50) := by decide +kernel
theorem eX0_settle_44 : ino mX0_settle 44 = some (.iinc 3 1, 47) := by decide +kernel
theorem eX0_settle_47 : ino mX0_settle 47 = some (.goto (-21), 26) := by decide +kernel
theorem eX0_settle_50 : ino mX0_settle 50 = some (.iconst 0, 51) := by decide +kernel
theorem eX0_settle_51 : ino mX0_settle 51 = some (.istore_n 3, 52) := by decide +kernel
theorem eX0_settle_52 : ino mX0_settle 52 = some (.iconst 0, 53) := by decide +kernel
theorem eX0_settle_53 : ino mX0_settle 53 = some (.istore 4, 55) := by decide +kernel
theorem eX0_settle_55 : ino mX0_settle 55 = some (.iload 4, 57) := by decide +kernel
theorem eX0_settle_57 : ino mX0_settle 57 = some (.aload_n 1, 58) := by decide +kernel
theorem eX0_settle_58 : ino mX0_settle 58 = some (.getfield 31, 61) := by decide +kernel
theorem eX0_settle_61 : ino mX0_settle 61 = some (.if_icmp .ge 23, 84) := by decide +kernel
theorem eX0_settle_64 : ino mX0_settle 64 = some (.aload_n 0, 65) := by decide +kernel
theorem eX0_settle_65 : ino mX0_settle 65 = some (.getfield 18, 68) := by decide +kernel
theorem eX0_settle_68 : ino mX0_settle 68 = some (.iload 4, 70) := by decide +kernel
theorem eX0_settle_70 : ino mX0_settle 70 = some (.iaload, 71) := by decide +kernel
theorem eX0_settle_71 : ino mX0_settle 71 = some (.iconst (-1), 72) := by decide +kernel
theorem eX0_settle_72 : ino mX0_settle 72 = some (.if_icmp .eq 6, 78) := by decide +kernel
theorem eX0_settle_75 : ino mX0_settle 75 = some (.iinc 3 1, 78) := by decide +kernel
theorem eX0_settle_78 : ino mX0_settle 78 = some (.iinc 4 1, 81) := by decide +kernel
theorem eX0_settle_81 : ino mX0_settle 81 = some (.goto (-26), 55) := by decide +kernel
theorem eX0_settle_84 : ino mX0_settle 84 = some (.iload_n 3, 85) := by decide +kernel
theorem eX0_settle_85 : ino mX0_settle 85 = some (.ireturn, 86) := by decide +kernel
theorem eX0_makeOffer_0 : ino mX0_makeOffer 0 = some (.iconst 0, 1) := by decide +kernel
theorem eX0_makeOffer_1 : ino mX0_makeOffer 1 = some (.istore_n 3, 2) := by decide +kernel
theorem eX0_makeOffer_2 : ino mX0_makeOffer 2 = some (.iload_n 3, 3) := by decide +kernel
theorem eX0_makeOffer_3 : ino mX0_makeOffer 3 = some (.aload_n 1, 4) := by decide +kernel
theorem eX0_makeOffer_4 : ino mX0_makeOffer 4 = some (.getfield 31, 7) := by decide +kernel
theorem eX0_makeOffer_7 : ino mX0_makeOffer 7 = some (.if_icmp .ge 63, 70) := by decide +kernel
theorem eX0_makeOffer_10 : ino mX0_makeOffer 10 = some (.aload_n 2, 11) := by decide +kernel
theorem eX0_makeOffer_11 : ino mX0_makeOffer 11 = some (.getfield 37, 14) := by decide +kernel
theorem eX0_makeOffer_14 : ino mX0_makeOffer 14 = some (.iload_n 3, 15) := by decide +kernel
theorem eX0_makeOffer_15 : ino mX0_makeOffer 15 = some (.iaload, 16) := by decide +kernel
theorem eX0_makeOffer_16 : ino mX0_makeOffer 16 = some (.iconst (-1), 17) := by decide +kernel
theorem eX0_makeOffer_17 : ino mX0_makeOffer 17 = some (.if_icmp .eq 47, 64) := by decide +kernel
theorem eX0_makeOffer_20 : ino mX0_makeOffer 20 = some (.aload_n 0, 21) := by decide +kernel
theorem eX0_makeOffer_21 : ino mX0_makeOffer 21 = some (.getfield 18, 24) := by decide +kernel
theorem eX0_makeOffer_24 : ino mX0_makeOffer 24 = some (.iload_n 3, 25) := by decide +kernel
theorem eX0_makeOffer_25 : ino mX0_makeOffer 25 = some (.iaload, 26) := by decide +kernel
theorem eX0_makeOffer_26 : ino mX0_makeOffer 26 = some (.iconst (-1), 27) := by decide +kernel
theorem eX0_makeOffer_27 : ino mX0_makeOffer 27 = some (.if_icmp .ne 37, 64) := by decide +kernel
theorem eX0_makeOffer_30 : ino mX0_makeOffer 30 = some (.aload_n 1, 31) := by decide +kernel
theorem eX0_makeOffer_31 : ino mX0_makeOffer 31 = some (.aload_n 2, 32) := by decide +kernel
theorem eX0_makeOffer_32 : ino mX0_makeOffer 32 = some (.aload_n 1, 33) := by decide +kernel
theorem eX0_makeOffer_33 : ino mX0_makeOffer 33 = some (.iload_n 3, 34) := by decide +kernel
theorem eX0_makeOffer_34 : ino mX0_makeOffer 34 = some (.invokevirtual 42, 37) := by decide +kernel
theorem eX0_makeOffer_37 : ino mX0_makeOffer 37 = some (.aload_n 0, 38) := by decide +kernel
theorem eX0_makeOffer_38 : ino mX0_makeOffer 38 = some (.getfield 15, 41) := by decide +kernel
theorem eX0_makeOffer_41 : ino mX0_makeOffer 41 = some (.iload_n 3, 42) := by decide +kernel
theorem eX0_makeOffer_42 : ino mX0_makeOffer 42 = some (.iaload, 43) := by decide +kernel
theorem eX0_makeOffer_43 : ino mX0_makeOffer 43 = some (.invokestatic 46, 46) := by decide +kernel
theorem eX0_makeOffer_46 : ino mX0_makeOffer 46 = some (.istore 4, 48) := by decide +kernel
theorem eX0_makeOffer_48 : ino mX0_makeOffer 48 = some (.iload 4, 50) := by decide +kernel
theorem eX0_makeOffer_50 : ino mX0_makeOffer 50 = some (.iconst (-1), 51) := by decide +kernel
theorem eX0_makeOffer_51 : ino mX0_makeOffer 51 = some (.if_icmp .eq 13, 64) := by decide +kernel
theorem eX0_makeOffer_54 : ino mX0_makeOffer 54 = some (.aload_n 0, 55) := by decide +kernel
theorem eX0_makeOffer_55 : ino mX0_makeOffer 55 = some (.aload_n 1, 56) := by decide +kernel
theorem eX0_makeOffer_56 : ino mX0_makeOffer 56 = some (.iload 4, 58) := by decide +kernel
theorem eX0_makeOffer_58 : ino mX0_makeOffer 58 = some (.iload_n 3, 59) := by decide +kernel
theorem eX0_makeOffer_59 : ino mX0_makeOffer 59 = some (.invokevirtual 50, 62) := by decide +kernel
theorem eX0_makeOffer_62 : ino mX0_makeOffer 62 = some (.iconst 1, 63) := by decide +kernel
theorem eX0_makeOffer_63 : ino mX0_makeOffer 63 = some (.ireturn, 64) := by decide +kernel
theorem eX0_makeOffer_64 : ino mX0_makeOffer 64 = some (.iinc 3 1, 67) := by decide +kernel
theorem eX0_makeOffer_67 : ino mX0_makeOffer 67 = some (.goto (-65), 2) := by decide +kernel
theorem eX0_makeOffer_70 : ino mX0_makeOffer 70 = some (.iconst 0, 71) := by decide +kernel
theorem eX0_makeOffer_71 : ino mX0_makeOffer 71 = some (.ireturn, 72) := by decide +kernel
theorem eX0_dearestFloor_0 : ino mX0_dearestFloor 0 = some (.iconst (-1), 1) := by decide +kernel
theorem eX0_dearestFloor_1 : ino mX0_dearestFloor 1 = some (.istore_n 3, 2) := by decide +kernel
theorem eX0_dearestFloor_2 : ino mX0_dearestFloor 2 = some (.iconst (-1), 3) := by decide +kernel
theorem eX0_dearestFloor_3 : ino mX0_dearestFloor 3 = some (.istore 4, 5) := by decide +kernel
theorem eX0_dearestFloor_5 : ino mX0_dearestFloor 5 = some (.iconst 1, 6) := by decide +kernel
theorem eX0_dearestFloor_6 : ino mX0_dearestFloor 6 = some (.istore 5, 8) := by decide +kernel
theorem eX0_dearestFloor_8 : ino mX0_dearestFloor 8 = some (.iload 5, 10) := by decide +kernel
theorem eX0_dearestFloor_10 : ino mX0_dearestFloor 10 = some (.aload_n 0, 11) := by decide +kernel
theorem eX0_dearestFloor_11 : ino mX0_dearestFloor 11 = some (.getfield 54, 14) := by decide +kernel
theorem eX0_dearestFloor_14 : ino mX0_dearestFloor 14 = some (.if_icmp .gt 59, 73) := by decide +kernel
theorem eX0_dearestFloor_17 : ino mX0_dearestFloor 17 = some (.iload_n 1, 18) := by decide +kernel
theorem eX0_dearestFloor_18 : ino mX0_dearestFloor 18 = some (.aload_n 0, 19) := by decide +kernel
theorem eX0_dearestFloor_19 : ino mX0_dearestFloor 19 = some (.getfield 57, 22) := by decide +kernel
theorem eX0_dearestFloor_22 : ino mX0_dearestFloor 22 = some (.iload 5, 24) := by decide +kernel
theorem eX0_dearestFloor_24 : ino mX0_dearestFloor 24 = some (.iaload, 25) := by decide +kernel
theorem eX0_dearestFloor_25 : ino mX0_dearestFloor 25 = some (.ishr, 26) := by decide +kernel
theorem eX0_dearestFloor_26 : ino mX0_dearestFloor 26 = some (.iconst 1, 27) := by decide +kernel
theorem eX0_dearestFloor_27 : ino mX0_dearestFloor 27 = some (.iand, 28) := by decide +kernel
theorem eX0_dearestFloor_28 : ino mX0_dearestFloor 28 = some (.ifCond .eq 13, 41) := by decide +kernel
theorem eX0_dearestFloor_31 : ino mX0_dearestFloor 31 = some (.aload_n 0, 32) := by decide +kernel
theorem eX0_dearestFloor_32 : ino mX0_dearestFloor 32 = some (.getfield 60, 35) := by decide +kernel
theorem eX0_dearestFloor_35 : ino mX0_dearestFloor 35 = some (.iload 5, 37) := by decide +kernel
theorem eX0_dearestFloor_37 : ino mX0_dearestFloor 37 = some (.iaload, 38) := by decide +kernel
theorem eX0_dearestFloor_38 : ino mX0_dearestFloor 38 = some (.goto 4, 42) := by decide +kernel
theorem eX0_dearestFloor_41 : ino mX0_dearestFloor 41 = some (.iconst 0, 42) := by decide +kernel
theorem eX0_dearestFloor_42 : ino mX0_dearestFloor 42 = some (.istore 6, 44) := by decide +kernel
theorem eX0_dearestFloor_44 : ino mX0_dearestFloor 44 = some (.iload_n 2, 45) := by decide +kernel
theorem eX0_dearestFloor_45 : ino mX0_dearestFloor 45 = some (.iload 5, 47) := by decide +kernel
theorem eX0_dearestFloor_47 : ino mX0_dearestFloor 47 = some (.ishr, 48) := by decide +kernel
theorem eX0_dearestFloor_48 : ino mX0_dearestFloor 48 = some (.iconst 1, 49) := by decide +kernel
theorem eX0_dearestFloor_49 : ino mX0_dearestFloor 49 = some (.iand, 50) := by decide +kernel
theorem eX0_dearestFloor_50 : ino mX0_dearestFloor 50 = some (.ifCond .ne 17, 67) := by decide +kernel
theorem eX0_dearestFloor_53 : ino mX0_dearestFloor 53 = some (.iload 6, 55) := by decide +kernel
theorem eX0_dearestFloor_55 : ino mX0_dearestFloor 55 = some (.iload 4, 57) := by decide +kernel
theorem eX0_dearestFloor_57 : ino mX0_dearestFloor 57 = some (.if_icmp .le 10, 67) := by decide +kernel
theorem eX0_dearestFloor_60 : ino mX0_dearestFloor 60 = some (.iload 5, 62) := by decide +kernel
theorem eX0_dearestFloor_62 : ino mX0_dearestFloor 62 = some (.istore_n 3, 63) := by decide +kernel
theorem eX0_dearestFloor_63 : ino mX0_dearestFloor 63 = some (.iload 6, 65) := by decide +kernel
theorem eX0_dearestFloor_65 : ino mX0_dearestFloor 65 = some (.istore 4, 67) := by decide +kernel
theorem eX0_dearestFloor_67 : ino mX0_dearestFloor 67 = some (.iinc 5 1, 70) := by decide +kernel
theorem eX0_dearestFloor_70 : ino mX0_dearestFloor 70 = some (.goto (-62), 8) := by decide +kernel
theorem eX0_dearestFloor_73 : ino mX0_dearestFloor 73 = some (.iload_n 3, 74) := by decide +kernel
theorem eX0_dearestFloor_74 : ino mX0_dearestFloor 74 = some (.ireturn, 75) := by decide +kernel
theorem eX0_choose_0 : ino mX0_choose 0 = some (.aload_n 0, 1) := by decide +kernel
theorem eX0_choose_1 : ino mX0_choose 1 = some (.getfield 9, 4) := by decide +kernel
theorem eX0_choose_4 : ino mX0_choose 4 = some (.iload_n 2, 5) := by decide +kernel
theorem eX0_choose_5 : ino mX0_choose 5 = some (.iaload, 6) := by decide +kernel
theorem eX0_choose_6 : ino mX0_choose 6 = some (.istore 4, 8) := by decide +kernel
theorem eX0_choose_8 : ino mX0_choose 8 = some (.iload 4, 10) := by decide +kernel
theorem eX0_choose_10 : ino mX0_choose 10 = some (.iconst (-1), 11) := by decide +kernel
theorem eX0_choose_11 : ino mX0_choose 11 = some (.if_icmp .ne 18, 29) := by decide +kernel
theorem eX0_choose_14 : ino mX0_choose 14 = some (.aload_n 0, 15) := by decide +kernel
theorem eX0_choose_15 : ino mX0_choose 15 = some (.getfield 9, 18) := by decide +kernel
theorem eX0_choose_18 : ino mX0_choose 18 = some (.iload_n 2, 19) := by decide +kernel
theorem eX0_choose_19 : ino mX0_choose 19 = some (.iload_n 3, 20) := by decide +kernel
theorem eX0_choose_20 : ino mX0_choose 20 = some (.iastore, 21) := by decide +kernel
theorem eX0_choose_21 : ino mX0_choose 21 = some (.aload_n 0, 22) := by decide +kernel
theorem eX0_choose_22 : ino mX0_choose 22 = some (.getfield 18, 25) := by decide +kernel
theorem eX0_choose_25 : ino mX0_choose 25 = some (.iload_n 3, 26) := by decide +kernel
theorem eX0_choose_26 : ino mX0_choose 26 = some (.iload_n 2, 27) := by decide +kernel
theorem eX0_choose_27 : ino mX0_choose 27 = some (.iastore, 28) := by decide +kernel
theorem eX0_choose_28 : ino mX0_choose 28 = some (.return_, 29) := by decide +kernel
theorem eX0_choose_29 : ino mX0_choose 29 = some (.aload_n 1, 30) := by decide +kernel
theorem eX0_choose_30 : ino mX0_choose 30 = some (.iload_n 2, 31) := by decide +kernel
theorem eX0_choose_31 : ino mX0_choose 31 = some (.iload_n 3, 32) := by decide +kernel
theorem eX0_choose_32 : ino mX0_choose 32 = some (.invokevirtual 63, 35) := by decide +kernel
theorem eX0_choose_35 : ino mX0_choose 35 = some (.aload_n 1, 36) := by decide +kernel
theorem eX0_choose_36 : ino mX0_choose 36 = some (.iload_n 2, 37) := by decide +kernel
theorem eX0_choose_37 : ino mX0_choose 37 = some (.iload 4, 39) := by decide +kernel
theorem eX0_choose_39 : ino mX0_choose 39 = some (.invokevirtual 63, 42) := by decide +kernel
theorem eX0_choose_42 : ino mX0_choose 42 = some (.isub, 43) := by decide +kernel
theorem eX0_choose_43 : ino mX0_choose 43 = some (.istore 5, 45) := by decide +kernel
theorem eX0_choose_45 : ino mX0_choose 45 = some (.iload 5, 47) := by decide +kernel
theorem eX0_choose_47 : ino mX0_choose 47 = some (.ifCond .gt 14, 61) := by decide +kernel
theorem eX0_choose_50 : ino mX0_choose 50 = some (.iload 5, 52) := by decide +kernel
theorem eX0_choose_52 : ino mX0_choose 52 = some (.ifCond .ne 47, 99) := by decide +kernel
theorem eX0_choose_55 : ino mX0_choose 55 = some (.iload_n 3, 56) := by decide +kernel
theorem eX0_choose_56 : ino mX0_choose 56 = some (.iload 4, 58) := by decide +kernel
theorem eX0_choose_58 : ino mX0_choose 58 = some (.if_icmp .ge 41, 99) := by decide +kernel
theorem eX0_choose_61 : ino mX0_choose 61 = some (.aload_n 0, 62) := by decide +kernel
theorem eX0_choose_62 : ino mX0_choose 62 = some (.getfield 9, 65) := by decide +kernel
theorem eX0_choose_65 : ino mX0_choose 65 = some (.iload_n 2, 66) := by decide +kernel
theorem eX0_choose_66 : ino mX0_choose 66 = some (.iload_n 3, 67) := by decide +kernel
theorem eX0_choose_67 : ino mX0_choose 67 = some (.iastore, 68) := by decide +kernel
theorem eX0_choose_68 : ino mX0_choose 68 = some (.aload_n 0, 69) := by decide +kernel
theorem eX0_choose_69 : ino mX0_choose 69 = some (.getfield 18, 72) := by decide +kernel
theorem eX0_choose_72 : ino mX0_choose 72 = some (.iload_n 3, 73) := by decide +kernel
theorem eX0_choose_73 : ino mX0_choose 73 = some (.iload_n 2, 74) := by decide +kernel
theorem eX0_choose_74 : ino mX0_choose 74 = some (.iastore, 75) := by decide +kernel
theorem eX0_choose_75 : ino mX0_choose 75 = some (.aload_n 0, 76) := by decide +kernel
theorem eX0_choose_76 : ino mX0_choose 76 = some (.getfield 18, 79) := by decide +kernel
theorem eX0_choose_79 : ino mX0_choose 79 = some (.iload 4, 81) := by decide +kernel
theorem eX0_choose_81 : ino mX0_choose 81 = some (.iconst (-1), 82) := by decide +kernel
theorem eX0_choose_82 : ino mX0_choose 82 = some (.iastore, 83) := by decide +kernel
theorem eX0_choose_83 : ino mX0_choose 83 = some (.aload_n 0, 84) := by decide +kernel
theorem eX0_choose_84 : ino mX0_choose 84 = some (.getfield 15, 87) := by decide +kernel
theorem eX0_choose_87 : ino mX0_choose 87 = some (.iload 4, 89) := by decide +kernel
theorem eX0_choose_89 : ino mX0_choose 89 = some (.dup2, 90) := by decide +kernel
theorem eX0_choose_90 : ino mX0_choose 90 = some (.iaload, 91) := by decide +kernel
theorem eX0_choose_91 : ino mX0_choose 91 = some (.iconst 1, 92) := by decide +kernel
theorem eX0_choose_92 : ino mX0_choose 92 = some (.iload_n 2, 93) := by decide +kernel
theorem eX0_choose_93 : ino mX0_choose 93 = some (.ishl, 94) := by decide +kernel
theorem eX0_choose_94 : ino mX0_choose 94 = some (.ior, 95) := by decide +kernel
theorem eX0_choose_95 : ino mX0_choose 95 = some (.iastore, 96) := by decide +kernel
theorem eX0_choose_96 : ino mX0_choose 96 = some (.goto 15, 111) := by decide +kernel
theorem eX0_choose_99 : ino mX0_choose 99 = some (.aload_n 0, 100) := by decide +kernel
theorem eX0_choose_100 : ino mX0_choose 100 = some (.getfield 15, 103) := by decide +kernel
theorem eX0_choose_103 : ino mX0_choose 103 = some (.iload_n 3, 104) := by decide +kernel
theorem eX0_choose_104 : ino mX0_choose 104 = some (.dup2, 105) := by decide +kernel
theorem eX0_choose_105 : ino mX0_choose 105 = some (.iaload, 106) := by decide +kernel
theorem eX0_choose_106 : ino mX0_choose 106 = some (.iconst 1, 107) := by decide +kernel
theorem eX0_choose_107 : ino mX0_choose 107 = some (.iload_n 2, 108) := by decide +kernel
theorem eX0_choose_108 : ino mX0_choose 108 = some (.ishl, 109) := by decide +kernel
theorem eX0_choose_109 : ino mX0_choose 109 = some (.ior, 110) := by decide +kernel
theorem eX0_choose_110 : ino mX0_choose 110 = some (.iastore, 111) := by decide +kernel
theorem eX0_choose_111 : ino mX0_choose 111 = some (.return_, 112) := by decide +kernel
