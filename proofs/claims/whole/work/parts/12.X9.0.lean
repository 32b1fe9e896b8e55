theorem eX9_init_0 : ino mX9_init 0 = some (.aload_n 0, 1) := by decide +kernel
theorem eX9_init_1 : ino mX9_init 1 = some (.invokespecial 3, 4) := by decide +kernel
theorem eX9_init_4 : ino mX9_init 4 = some (.aload_n 0, 5) := by decide +kernel
theorem eX9_init_5 : ino mX9_init 5 = some (.iconst 4, 6) := by decide +kernel
theorem eX9_init_6 : ino mX9_init 6 = some (.newarray .int, 8) := by decide +kernel
theorem eX9_init_8 : ino mX9_init 8 = some (.putfield 9, 11) := by decide +kernel
theorem eX9_init_11 : ino mX9_init 11 = some (.aload_n 0, 12) := by decide +kernel
theorem eX9_init_12 : ino mX9_init 12 = some (.iconst 4, 13) := by decide +kernel
theorem eX9_init_13 : ino mX9_init 13 = some (.newarray .int, 15) := by decide +kernel
theorem eX9_init_15 : ino mX9_init 15 = some (.putfield 15, 18) := by decide +kernel
theorem eX9_init_18 : ino mX9_init 18 = some (.aload_n 0, 19) := by decide +kernel
theorem eX9_init_19 : ino mX9_init 19 = some (.bipush 36, 21) := by decide +kernel
theorem eX9_init_21 : ino mX9_init 21 = some (.newarray .int, 23) := by decide +kernel
theorem eX9_init_23 : ino mX9_init 23 = some (.putfield 18, 26) := by decide +kernel
theorem eX9_init_26 : ino mX9_init 26 = some (.aload_n 0, 27) := by decide +kernel
theorem eX9_init_27 : ino mX9_init 27 = some (.iconst 0, 28) := by decide +kernel
theorem eX9_init_28 : ino mX9_init 28 = some (.putfield 21, 31) := by decide +kernel
theorem eX9_init_31 : ino mX9_init 31 = some (.aload_n 0, 32) := by decide +kernel
theorem eX9_init_32 : ino mX9_init 32 = some (.iconst 4, 33) := by decide +kernel
theorem eX9_init_33 : ino mX9_init 33 = some (.newarray .int, 35) := by decide +kernel
theorem eX9_init_35 : ino mX9_init 35 = some (.putfield 25, 38) := by decide +kernel
theorem eX9_init_38 : ino mX9_init 38 = some (.aload_n 0, 39) := by decide +kernel
theorem eX9_init_39 : ino mX9_init 39 = some (.iconst 0, 40) := by decide +kernel
theorem eX9_init_40 : ino mX9_init 40 = some (.putfield 28, 43) := by decide +kernel
theorem eX9_init_43 : ino mX9_init 43 = some (.aload_n 0, 44) := by decide +kernel
theorem eX9_init_44 : ino mX9_init 44 = some (.iconst (-1), 45) := by decide +kernel
theorem eX9_init_45 : ino mX9_init 45 = some (.putfield 31, 48) := by decide +kernel
theorem eX9_init_48 : ino mX9_init 48 = some (.return_, 49) := by decide +kernel
theorem eX9_search_0 : ino mX9_search 0 = some (.iconst 0, 1) := by decide +kernel
theorem eX9_search_1 : ino mX9_search 1 = some (.istore 4, 3) := by decide +kernel
theorem eX9_search_3 : ino mX9_search 3 = some (.iload 4, 5) := by decide +kernel
theorem eX9_search_5 : ino mX9_search 5 = some (.iconst 4, 6) := by decide +kernel
theorem eX9_search_6 : ino mX9_search 6 = some (.if_icmp .ge 20, 26) := by decide +kernel
theorem eX9_search_9 : ino mX9_search 9 = some (.aload_n 0, 10) := by decide +kernel
theorem eX9_search_10 : ino mX9_search 10 = some (.getfield 9, 13) := by decide +kernel
theorem eX9_search_13 : ino mX9_search 13 = some (.iload 4, 15) := by decide +kernel
theorem eX9_search_15 : ino mX9_search 15 = some (.aload_n 2, 16) := by decide +kernel
theorem eX9_search_16 : ino mX9_search 16 = some (.iload 4, 18) := by decide +kernel
theorem eX9_search_18 : ino mX9_search 18 = some (.iaload, 19) := by decide +kernel
theorem eX9_search_19 : ino mX9_search 19 = some (.iastore, 20) := by decide +kernel
theorem eX9_search_20 : ino mX9_search 20 = some (.iinc 4 1, 23) := by decide +kernel
theorem eX9_search_23 : ino mX9_search 23 = some (.goto (-20), 3) := by decide +kernel
theorem eX9_search_26 : ino mX9_search 26 = some (.aload_n 0, 27) := by decide +kernel
theorem eX9_search_27 : ino mX9_search 27 = some (.getfield 18, 30) := by decide +kernel
theorem eX9_search_30 : ino mX9_search 30 = some (.iconst 0, 31) := by decide +kernel
theorem eX9_search_31 : ino mX9_search 31 = some (.invokestatic 34, 34) := by decide +kernel
theorem eX9_search_34 : ino mX9_search 34 = some (.aload_n 0, 35) := by decide +kernel
theorem eX9_search_35 : ino mX9_search 35 = some (.iconst 0, 36) := by decide +kernel
theorem eX9_search_36 : ino mX9_search 36 = some (.putfield 21, 39) := by decide +kernel
theorem eX9_search_39 : ino mX9_search 39 = some (.aload_n 0, 40) := by decide +kernel
theorem eX9_search_40 : ino mX9_search 40 = some (.aload_n 1, 41) := by decide +kernel
theorem eX9_search_41 : ino mX9_search 41 = some (.iconst 0, 42) := by decide +kernel
theorem eX9_search_42 : ino mX9_search 42 = some (.iload_n 3, 43) := by decide +kernel
theorem eX9_search_43 : ino mX9_search 43 = some (.invokevirtual 40, 46) := by decide +kernel
theorem eX9_search_46 : ino mX9_search 46 = some (.aload_n 0, 47) := by decide +kernel
theorem eX9_search_47 : ino mX9_search 47 = some (.getfield 21, 50) := by decide +kernel
theorem eX9_search_50 : ino mX9_search 50 = some (.ifCond .le 12, 62) := by decide +kernel
theorem eX9_search_53 : ino mX9_search 53 = some (.aload_n 0, 54) := by decide +kernel
theorem eX9_search_54 : ino mX9_search 54 = some (.aload_n 0, 55) := by decide +kernel
theorem eX9_search_55 : ino mX9_search 55 = some (.iload_n 3, 56) := by decide +kernel
theorem eX9_search_56 : ino mX9_search 56 = some (.invokevirtual 44, 59) := by decide +kernel
theorem eX9_search_59 : ino mX9_search 59 = some (.putfield 31, 62) := by decide +kernel
theorem eX9_search_62 : ino mX9_search 62 = some (.aload_n 0, 63) := by decide +kernel
theorem eX9_search_63 : ino mX9_search 63 = some (.getfield 21, 66) := by decide +kernel
theorem eX9_search_66 : ino mX9_search 66 = some (.ireturn, 67) := by decide +kernel
theorem eX9_walk_0 : ino mX9_walk 0 = some (.iload_n 2, 1) := by decide +kernel
theorem eX9_walk_1 : ino mX9_walk 1 = some (.iload_n 3, 2) := by decide +kernel
theorem eX9_walk_2 : ino mX9_walk 2 = some (.if_icmp .ge 8, 10) := by decide +kernel
theorem eX9_walk_5 : ino mX9_walk 5 = some (.iload_n 2, 6) := by decide +kernel
theorem eX9_walk_6 : ino mX9_walk 6 = some (.iconst 4, 7) := by decide +kernel
theorem eX9_walk_7 : ino mX9_walk 7 = some (.if_icmp .lt 9, 16) := by decide +kernel
theorem eX9_walk_10 : ino mX9_walk 10 = some (.aload_n 0, 11) := by decide +kernel
theorem eX9_walk_11 : ino mX9_walk 11 = some (.iload_n 3, 12) := by decide +kernel
theorem eX9_walk_12 : ino mX9_walk 12 = some (.invokevirtual 48, 15) := by decide +kernel
theorem eX9_walk_15 : ino mX9_walk 15 = some (.return_, 16) := by decide +kernel
theorem eX9_walk_16 : ino mX9_walk 16 = some (.aload_n 0, 17) := by decide +kernel
theorem eX9_walk_17 : ino mX9_walk 17 = some (.getfield 15, 20) := by decide +kernel
theorem eX9_walk_20 : ino mX9_walk 20 = some (.iload_n 2, 21) := by decide +kernel
theorem eX9_walk_21 : ino mX9_walk 21 = some (.iconst 0, 22) := by decide +kernel
theorem eX9_walk_22 : ino mX9_walk 22 = some (.iastore, 23) := by decide +kernel
theorem eX9_walk_23 : ino mX9_walk 23 = some (.aload_n 0, 24) := by decide +kernel
theorem eX9_walk_24 : ino mX9_walk 24 = some (.aload_n 1, 25) := by decide +kernel
theorem eX9_walk_25 : ino mX9_walk 25 = some (.iload_n 2, 26) := by decide +kernel
theorem eX9_walk_26 : ino mX9_walk 26 = some (.iconst 1, 27) := by decide +kernel
theorem eX9_walk_27 : ino mX9_walk 27 = some (.iadd, 28) := by decide +kernel
theorem eX9_walk_28 : ino mX9_walk 28 = some (.iload_n 3, 29) := by decide +kernel
theorem eX9_walk_29 : ino mX9_walk 29 = some (.invokevirtual 40, 32) := by decide +kernel
theorem eX9_walk_32 : ino mX9_walk 32 = some (.iconst 1, 33) := by decide +kernel
theorem eX9_walk_33 : ino mX9_walk 33 = some (.istore 4, 35) := by decide +kernel
theorem eX9_walk_35 : ino mX9_walk 35 = some (.iload 4, 37) := by decide +kernel
theorem eX9_walk_37 : ino mX9_walk 37 = some (.aload_n 1, 38) := by decide +kernel
theorem eX9_walk_38 : ino mX9_walk 38 = some (.getfield 52, 41) := by decide +kernel
theorem eX9_walk_41 : ino mX9_walk 41 = some (.if_icmp .gt 86, 127) := by decide +kernel
theorem eX9_walk_44 : ino mX9_walk 44 = some (.aload_n 1, 45) := by decide +kernel
theorem eX9_walk_45 : ino mX9_walk 45 = some (.getfield 57, 48) := by decide +kernel
theorem eX9_walk_48 : ino mX9_walk 48 = some (.iload 4, 50) := by decide +kernel
theorem eX9_walk_50 : ino mX9_walk 50 = some (.iaload, 51) := by decide +kernel
theorem eX9_walk_51 : ino mX9_walk 51 = some (.istore 5, 53) := by decide +kernel
theorem eX9_walk_53 : ino mX9_walk 53 = some (.aload_n 0, 54) := by decide +kernel
theorem eX9_walk_54 : ino mX9_walk 54 = some (.getfield 9, 57) := by decide +kernel
theorem eX9_walk_57 : ino mX9_walk 57 = some (.iload 5, 59) := by decide +kernel
theorem eX9_walk_59 : ino mX9_walk 59 = some (.iaload, 60) := by decide +kernel
theorem eX9_walk_60 : ino mX9_walk 60 = some (.aload_n 1, 61) := by decide +kernel
theorem eX9_walk_61 : ino mX9_walk 61 = some (.getfield 60, 64) := by decide +kernel
theorem eX9_walk_64 : ino mX9_walk 64 = some (.iload 4, 66) := by decide +kernel
theorem eX9_walk_66 : ino mX9_walk 66 = some (.iaload, 67) := by decide +kernel
theorem eX9_walk_67 : ino mX9_walk 67 = some (.if_icmp .lt 54, 121) := by decide +kernel
theorem eX9_walk_70 : ino mX9_walk 70 = some (.aload_n 0, 71) := by decide +kernel
theorem eX9_walk_71 : ino mX9_walk 71 = some (.getfield 9, 74) := by decide +kernel
theorem eX9_walk_74 : ino mX9_walk 74 = some (.iload 5, 76) := by decide +kernel
theorem eX9_walk_76 : ino mX9_walk 76 = some (.dup2, 77) := by decide +kernel
theorem eX9_walk_77 : ino mX9_walk 77 = some (.iaload, 78) := by decide +kernel
theorem eX9_walk_78 : ino mX9_walk 78 = some (.aload_n 1, 79) := by decide +kernel
theorem eX9_walk_79 : ino mX9_walk 79 = some (.getfield 60, 82) := by decide +kernel
theorem eX9_walk_82 : ino mX9_walk 82 = some (.iload 4, 84) := by decide +kernel
theorem eX9_walk_84 : ino mX9_walk 84 = some (.iaload, 85) := by decide +kernel
theorem eX9_walk_85 : ino mX9_walk 85 = some (.isub, 86) := by decide +kernel
theorem eX9_walk_86 : ino mX9_walk 86 = some (.iastore, 87) := by decide +kernel
theorem eX9_walk_87 : ino mX9_walk 87 = some (.aload_n 0, 88) := by decide +kernel
theorem eX9_walk_88 : ino mX9_walk 88 = some (.getfield 15, 91) := by decide +kernel
theorem eX9_walk_91 : ino mX9_walk 91 = some (.iload_n 2, 92) := by decide +kernel
theorem eX9_walk_92 : ino mX9_walk 92 = some (.iload 4, 94) := by decide +kernel
theorem eX9_walk_94 : ino mX9_walk 94 = some (.iastore, 95) := by decide +kernel
theorem eX9_walk_95 : ino mX9_walk 95 = some (.aload_n 0, 96) := by decide +kernel
theorem eX9_walk_96 : ino mX9_walk 96 = some (.aload_n 1, 97) := by decide +kernel
theorem eX9_walk_97 : ino mX9_walk 97 = some (.iload_n 2, 98) := by decide +kernel
theorem eX9_walk_98 : ino mX9_walk 98 = some (.iconst 1, 99) := by decide +kernel
theorem eX9_walk_99 : ino mX9_walk 99 = some (.iadd, 100) := by decide +kernel
theorem eX9_walk_100 : ino mX9_walk 100 = some (.iload_n 3, 101) := by decide +kernel
theorem eX9_walk_101 : ino mX9_walk 101 = some (.invokevirtual 40, 104) := by decide +kernel
theorem eX9_walk_104 : ino mX9_walk 104 = some (.aload_n 0, 105) := by decide +kernel
theorem eX9_walk_105 : ino mX9_walk 105 = some (.getfield 9, 108) := by decide +kernel
theorem eX9_walk_108 : ino mX9_walk 108 = some (.iload 5, 110) := by decide +kernel
theorem eX9_walk_110 : ino mX9_walk 110 = some (.dup2, 111) := by decide +kernel
theorem eX9_walk_111 : ino mX9_walk 111 = some (.iaload, 112) := by decide +kernel
theorem eX9_walk_112 : ino mX9_walk 112 = some (.aload_n 1, 113) := by decide +kernel
theorem eX9_walk_113 : ino mX9_walk 113 = some (.getfield 60, 116) := by decide +kernel
theorem eX9_walk_116 : ino mX9_walk 116 = some (.iload 4, 118) := by decide +kernel
theorem eX9_walk_118 : ino mX9_walk 118 = some (.iaload, 119) := by decide +kernel
theorem eX9_walk_119 : ino mX9_walk 119 = some (.iadd, 120) := by decide +kernel
theorem eX9_walk_120 : ino mX9_walk 120 = some (.iastore, 121) := by decide +kernel
theorem eX9_walk_121 : ino mX9_walk 121 = some (.iinc 4 1, 124) := by decide +kernel
theorem eX9_walk_124 : ino mX9_walk 124 = some (.goto (-89), 35) := by decide +kernel
theorem eX9_walk_127 : ino mX9_walk 127 = some (.return_, 128) := by decide +kernel
theorem eX9_noteRow_0 : ino mX9_noteRow 0 = some (.iconst 0, 1) := by decide +kernel
theorem eX9_noteRow_1 : ino mX9_noteRow 1 = some (.istore_n 2, 2) := by decide +kernel
theorem eX9_noteRow_2 : ino mX9_noteRow 2 = some (.iload_n 2, 3) := by decide +kernel
theorem eX9_noteRow_3 : ino mX9_noteRow 3 = some (.iconst 4, 4) := by decide +kernel
theorem eX9_noteRow_4 : ino mX9_noteRow 4 = some (.if_icmp .ge 19, 23) := by decide +kernel
theorem eX9_noteRow_7 : ino mX9_noteRow 7 = some (.aload_n 0, 8) := by decide +kernel
theorem eX9_noteRow_8 : ino mX9_noteRow 8 = some (.getfield 9, 11) := by decide +kernel
theorem eX9_noteRow_11 : ino mX9_noteRow 11 = some (.iload_n 2, 12) := by decide +kernel
theorem eX9_noteRow_12 : ino mX9_noteRow 12 = some (.iaload, 13) := by decide +kernel
theorem eX9_noteRow_13 : ino mX9_noteRow 13 = some (.ifCond .eq 4, 17) := by decide +kernel
theorem eX9_noteRow_16 : ino mX9_noteRow 16 = some (.return_, 17) := by decide +kernel
theorem eX9_noteRow_17 : ino mX9_noteRow 17 = some (.iinc 2 1, 20) := by decide +kernel
theorem eX9_noteRow_20 : ino mX9_noteRow 20 = some (.goto (-18), 2) := by decide +kernel
theorem eX9_noteRow_23 : ino mX9_noteRow 23 = some (.aload_n 0, 24) := by decide +kernel
theorem eX9_noteRow_24 : ino mX9_noteRow 24 = some (.getfield 21, 27) := by decide +kernel
theorem eX9_noteRow_27 : ino mX9_noteRow 27 = some (.ifCond .ne 22, 49) := by decide +kernel
theorem eX9_noteRow_30 : ino mX9_noteRow 30 = some (.aload_n 0, 31) := by decide +kernel
theorem eX9_noteRow_31 : ino mX9_noteRow 31 = some (.iload_n 1, 32) := by decide +kernel
theorem eX9_noteRow_32 : ino mX9_noteRow 32 = some (.putfield 28, 35) := by decide +kernel
theorem eX9_noteRow_35 : ino mX9_noteRow 35 = some (.aload_n 0, 36) := by decide +kernel
theorem eX9_noteRow_36 : ino mX9_noteRow 36 = some (.getfield 15, 39) := by decide +kernel
theorem eX9_noteRow_39 : ino mX9_noteRow 39 = some (.iconst 0, 40) := by decide +kernel
theorem eX9_noteRow_40 : ino mX9_noteRow 40 = some (.aload_n 0, 41) := by decide +kernel
theorem eX9_noteRow_41 : ino mX9_noteRow 41 = some (.getfield 25, 44) := by decide +kernel
theorem eX9_noteRow_44 : ino mX9_noteRow 44 = some (.iconst 0, 45) := by decide +kernel
theorem eX9_noteRow_45 : ino mX9_noteRow 45 = some (.iload_n 1, 46) := by decide +kernel
theorem eX9_noteRow_46 : ino mX9_noteRow 46 = some (.invokestatic 63, 49) := by decide +kernel
theorem eX9_noteRow_49 : ino mX9_noteRow 49 = some (.aload_n 0, 50) := by decide +kernel
theorem eX9_noteRow_50 : ino mX9_noteRow 50 = some (.dup, 51) := by decide +kernel
theorem eX9_noteRow_51 : ino mX9_noteRow 51 = some (.getfield 21, 54) := by decide +kernel
theorem eX9_noteRow_54 : ino mX9_noteRow 54 = some (.iconst 1, 55) := by decide +kernel
theorem eX9_noteRow_55 : ino mX9_noteRow 55 = some (.iadd, 56) := by decide +kernel
theorem eX9_noteRow_56 : ino mX9_noteRow 56 = some (.putfield 21, 59) := by decide +kernel
theorem eX9_noteRow_59 : ino mX9_noteRow 59 = some (.iconst 0, 60) := by decide +kernel
theorem eX9_noteRow_60 : ino mX9_noteRow 60 = some (.istore_n 2, 61) := by decide +kernel
theorem eX9_noteRow_61 : ino mX9_noteRow 61 = some (.iload_n 2, 62) := by decide +kernel
theorem eX9_noteRow_62 : ino mX9_noteRow 62 = some (.iload_n 1, 63) := by decide +kernel
theorem eX9_noteRow_63 : ino mX9_noteRow 63 = some (.if_icmp .ge 29, 92) := by decide +kernel
theorem eX9_noteRow_66 : ino mX9_noteRow 66 = some (.aload_n 0, 67) := by decide +kernel
theorem eX9_noteRow_67 : ino mX9_noteRow 67 = some (.getfield 18, 70) := by decide +kernel
theorem eX9_noteRow_70 : ino mX9_noteRow 70 = some (.iload_n 2, 71) := by decide +kernel
theorem eX9_noteRow_71 : ino mX9_noteRow 71 = some (.bipush 9, 73) := by decide +kernel
theorem eX9_noteRow_73 : ino mX9_noteRow 73 = some (.imul, 74) := by decide +kernel
theorem eX9_noteRow_74 : ino mX9_noteRow 74 = some (.aload_n 0, 75) := by decide +kernel
theorem eX9_noteRow_75 : ino mX9_noteRow 75 = some (.getfield 15, 78) := by decide +kernel
theorem eX9_noteRow_78 : ino mX9_noteRow 78 = some (.iload_n 2, 79) := by decide +kernel
theorem eX9_noteRow_79 : ino mX9_noteRow 79 = some (.iaload, 80) := by decide +kernel
theorem eX9_noteRow_80 : ino mX9_noteRow 80 = some (.iadd, 81) := by decide +kernel
theorem eX9_noteRow_81 : ino mX9_noteRow 81 = some (.dup2, 82) := by decide +kernel
theorem eX9_noteRow_82 : ino mX9_noteRow 82 = some (.iaload, 83) := by decide +kernel
theorem eX9_noteRow_83 : ino mX9_noteRow 83 = some (.iconst 1, 84) := by decide +kernel
theorem eX9_noteRow_84 : ino mX9_noteRow 84 = some (.iadd, 85) := by decide +kernel
theorem eX9_noteRow_85 : ino mX9_noteRow 85 = some (.iastore, 86) := by decide +kernel
theorem eX9_noteRow_86 : ino mX9_noteRow 86 = some (.iinc 2 1, 89) := by decide +kernel
theorem eX9_noteRow_89 : ino mX9_noteRow 89 = some (.goto (-28), 61) := by decide +kernel
theorem eX9_noteRow_92 : ino mX9_noteRow 92 = some (.return_, 93) := by decide +kernel
theorem eX9_bestQuestion_0 : ino mX9_bestQuestion 0 = some (.iconst 0, 1) := by decide +kernel
theorem eX9_bestQuestion_1 : ino mX9_bestQuestion 1 = some (.istore_n 2, 2) := by decide +kernel
theorem eX9_bestQuestion_2 : ino mX9_bestQuestion 2 = some (.aload_n 0, 3) := by decide +kernel
theorem eX9_bestQuestion_3 : ino mX9_bestQuestion 3 = some (.getfield 21, 6) := by decide +kernel
theorem eX9_bestQuestion_6 : ino mX9_bestQuestion 6 = some (.iconst 1, 7) := by decide +kernel
theorem eX9_bestQuestion_7 : ino mX9_bestQuestion 7 = some (.iadd, 8) := by decide +kernel
theorem eX9_bestQuestion_8 : ino mX9_bestQuestion 8 = some (.istore_n 3, 9) := by decide +kernel
theorem eX9_bestQuestion_9 : ino mX9_bestQuestion 9 = some (.iconst 0, 10) := by decide +kernel
theorem eX9_bestQuestion_10 : ino mX9_bestQuestion 10 = some (.istore 4, 12) := by decide +kernel
theorem eX9_bestQuestion_12 : ino mX9_bestQuestion 12 = some (.iload 4, 14) := by decide +kernel
theorem eX9_bestQuestion_14 : ino mX9_bestQuestion 14 = some (.iload_n 1, 15) := by decide +kernel
theorem eX9_bestQuestion_15 : ino mX9_bestQuestion 15 = some (.if_icmp .ge 60, 75) := by decide +kernel
theorem eX9_bestQuestion_18 : ino mX9_bestQuestion 18 = some (.iconst 0, 19) := by decide +kernel
theorem eX9_bestQuestion_19 : ino mX9_bestQuestion 19 = some (.istore 5, 21) := by decide +kernel
theorem eX9_bestQuestion_21 : ino mX9_bestQuestion 21 = some (.iconst 0, 22) := by decide +kernel
theorem eX9_bestQuestion_22 : ino mX9_bestQuestion 22 = some (.istore 6, 24) := by decide +kernel
theorem eX9_bestQuestion_24 : ino mX9_bestQuestion 24 = some (.iload 6, 26) := by decide +kernel
theorem eX9_bestQuestion_26 : ino mX9_bestQuestion 26 = some (.bipush 8, 28) := by decide +kernel
theorem eX9_bestQuestion_28 : ino mX9_bestQuestion 28 = some (.if_icmp .gt 29, 57) := by decide +kernel
theorem eX9_bestQuestion_31 : ino mX9_bestQuestion 31 = some (.iload 5, 33) := by decide +kernel
theorem eX9_bestQuestion_33 : ino mX9_bestQuestion 33 = some (.aload_n 0, 34) := by decide +kernel
theorem eX9_bestQuestion_34 : ino mX9_bestQuestion 34 = some (.getfield 18, 37) := by decide +kernel
theorem eX9_bestQuestion_37 : ino mX9_bestQuestion 37 = some (.iload 4, 39) := by decide +kernel
theorem eX9_bestQuestion_39 : ino mX9_bestQuestion 39 = some (.bipush 9, 41) := by decide +kernel
theorem eX9_bestQuestion_41 : ino mX9_bestQuestion 41 = some (.imul, 42) := by decide +kernel
theorem eX9_bestQuestion_42 : ino mX9_bestQuestion 42 = some (.iload 6, 44) := by decide +kernel
theorem eX9_bestQuestion_44 : ino mX9_bestQuestion 44 = some (.iadd, 45) := by decide +kernel
theorem eX9_bestQuestion_45 : ino mX9_bestQuestion 45 = some (.iaload, 46) := by decide +kernel
theorem eX9_bestQuestion_46 : ino mX9_bestQuestion 46 = some (.invokestatic 69, 49) := by decide +kernel
theorem eX9_bestQuestion_49 : ino mX9_bestQuestion 49 = some (.istore 5, 51) := by decide +kernel
theorem eX9_bestQuestion_51 : ino mX9_bestQuestion 51 = some (.iinc 6 1, 54) := by decide +kernel
theorem eX9_bestQuestion_54 : ino mX9_bestQuestion 54 = some (.goto (-30), 24) := by decide +kernel
theorem eX9_bestQuestion_57 : ino mX9_bestQuestion 57 = some (.iload 5, 59) := by decide +kernel
theorem eX9_bestQuestion_59 : ino mX9_bestQuestion 59 = some (.iload_n 3, 60) := by decide +kernel
theorem eX9_bestQuestion_60 : ino mX9_bestQuestion 60 = some (.if_icmp .ge 9, 69) := by decide +kernel
theorem eX9_bestQuestion_63 : ino mX9_bestQuestion 63 = some (.iload 5, 65) := by decide +kernel
theorem eX9_bestQuestion_65 : ino mX9_bestQuestion 65 = some (.istore_n 3, 66) := by decide +kernel
theorem eX9_bestQuestion_66 : ino mX9_bestQuestion 66 = some (.iload 4, 68) := by decide +kernel
theorem eX9_bestQuestion_68 : ino mX9_bestQuestion 68 = some (.istore_n 2, 69) := by decide +kernel
theorem eX9_bestQuestion_69 : ino mX9_bestQuestion 69 = some (.iinc 4 1, 72) := by decide +kernel
theorem eX9_bestQuestion_72 : ino mX9_bestQuestion 72 = some (.goto (-60), 12) := by decide +kernel
theorem eX9_bestQuestion_75 : ino mX9_bestQuestion 75 = some (.iload_n 2, 76) := by decide +kernel
theorem eX9_bestQuestion_76 : ino mX9_bestQuestion 76 = some (.ireturn, 77) := by decide +kernel
