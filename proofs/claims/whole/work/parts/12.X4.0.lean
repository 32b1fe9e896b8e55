theorem eX4_init_0 : ino mX4_init 0 = some (.aload_n 0, 1) := by decide +kernel
theorem eX4_init_1 : ino mX4_init 1 = some (.invokespecial 3, 4) := by decide +kernel
theorem eX4_init_4 : ino mX4_init 4 = some (.aload_n 0, 5) := by decide +kernel
theorem eX4_init_5 : ino mX4_init 5 = some (.iconst 4, 6) := by decide +kernel
theorem eX4_init_6 : ino mX4_init 6 = some (.newarray .int, 8) := by decide +kernel
theorem eX4_init_8 : ino mX4_init 8 = some (.putfield 9, 11) := by decide +kernel
theorem eX4_init_11 : ino mX4_init 11 = some (.aload_n 0, 12) := by decide +kernel
theorem eX4_init_12 : ino mX4_init 12 = some (.iconst 4, 13) := by decide +kernel
theorem eX4_init_13 : ino mX4_init 13 = some (.newarray .int, 15) := by decide +kernel
theorem eX4_init_15 : ino mX4_init 15 = some (.putfield 15, 18) := by decide +kernel
theorem eX4_init_18 : ino mX4_init 18 = some (.aload_n 0, 19) := by decide +kernel
theorem eX4_init_19 : ino mX4_init 19 = some (.iconst 4, 20) := by decide +kernel
theorem eX4_init_20 : ino mX4_init 20 = some (.newarray .int, 22) := by decide +kernel
theorem eX4_init_22 : ino mX4_init 22 = some (.putfield 18, 25) := by decide +kernel
theorem eX4_init_25 : ino mX4_init 25 = some (.aload_n 0, 26) := by decide +kernel
theorem eX4_init_26 : ino mX4_init 26 = some (.iconst 0, 27) := by decide +kernel
theorem eX4_init_27 : ino mX4_init 27 = some (.putfield 21, 30) := by decide +kernel
theorem eX4_init_30 : ino mX4_init 30 = some (.aload_n 0, 31) := by decide +kernel
theorem eX4_init_31 : ino mX4_init 31 = some (.iconst (-1), 32) := by decide +kernel
theorem eX4_init_32 : ino mX4_init 32 = some (.putfield 25, 35) := by decide +kernel
theorem eX4_init_35 : ino mX4_init 35 = some (.return_, 36) := by decide +kernel
theorem eX4_make_0 : ino mX4_make 0 = some (.aload_n 2, 1) := by decide +kernel
theorem eX4_make_1 : ino mX4_make 1 = some (.aload_n 1, 2) := by decide +kernel
theorem eX4_make_2 : ino mX4_make 2 = some (.iload_n 3, 3) := by decide +kernel
theorem eX4_make_3 : ino mX4_make 3 = some (.invokevirtual 28, 6) := by decide +kernel
theorem eX4_make_6 : ino mX4_make 6 = some (.istore 4, 8) := by decide +kernel
theorem eX4_make_8 : ino mX4_make 8 = some (.iconst 0, 9) := by decide +kernel
theorem eX4_make_9 : ino mX4_make 9 = some (.istore 5, 11) := by decide +kernel
theorem eX4_make_11 : ino mX4_make 11 = some (.iconst 0, 12) := by decide +kernel
theorem eX4_make_12 : ino mX4_make 12 = some (.istore 6, 14) := by decide +kernel
theorem eX4_make_14 : ino mX4_make 14 = some (.iconst 0, 15) := by decide +kernel
theorem eX4_make_15 : ino mX4_make 15 = some (.istore 7, 17) := by decide +kernel
theorem eX4_make_17 : ino mX4_make 17 = some (.iload 7, 19) := by decide +kernel
theorem eX4_make_19 : ino mX4_make 19 = some (.iconst 4, 20) := by decide +kernel
theorem eX4_make_20 : ino mX4_make 20 = some (.if_icmp .ge 94, 114) := by decide +kernel
theorem eX4_make_23 : ino mX4_make 23 = some (.iload 4, 25) := by decide +kernel
theorem eX4_make_25 : ino mX4_make 25 = some (.iload 7, 27) := by decide +kernel
theorem eX4_make_27 : ino mX4_make 27 = some (.ishr, 28) := by decide +kernel
theorem eX4_make_28 : ino mX4_make 28 = some (.iconst 1, 29) := by decide +kernel
theorem eX4_make_29 : ino mX4_make 29 = some (.iand, 30) := by decide +kernel
theorem eX4_make_30 : ino mX4_make 30 = some (.ifCond .eq 78, 108) := by decide +kernel
theorem eX4_make_33 : ino mX4_make 33 = some (.aload_n 1, 34) := by decide +kernel
theorem eX4_make_34 : ino mX4_make 34 = some (.iload 7, 36) := by decide +kernel
theorem eX4_make_36 : ino mX4_make 36 = some (.invokestatic 34, 39) := by decide +kernel
theorem eX4_make_39 : ino mX4_make 39 = some (.istore 8, 41) := by decide +kernel
theorem eX4_make_41 : ino mX4_make 41 = some (.iload 8, 43) := by decide +kernel
theorem eX4_make_43 : ino mX4_make 43 = some (.iconst (-1), 44) := by decide +kernel
theorem eX4_make_44 : ino mX4_make 44 = some (.if_icmp .eq 13, 57) := by decide +kernel
theorem eX4_make_47 : ino mX4_make 47 = some (.aload_n 1, 48) := by decide +kernel
theorem eX4_make_48 : ino mX4_make 48 = some (.getfield 37, 51) := by decide +kernel
theorem eX4_make_51 : ino mX4_make 51 = some (.iload 8, 53) := by decide +kernel
theorem eX4_make_53 : ino mX4_make 53 = some (.iaload, 54) := by decide +kernel
theorem eX4_make_54 : ino mX4_make 54 = some (.ifCond .gt 5, 59) := by decide +kernel
theorem eX4_make_57 : ino mX4_make 57 = some (.iconst (-1), 58) := by decide +kernel
theorem eX4_make_58 : ino mX4_make 58 = some (.ireturn, 59) := by decide +kernel
theorem eX4_make_59 : ino mX4_make 59 = some (.aload_n 0, 60) := by decide +kernel
theorem eX4_make_60 : ino mX4_make 60 = some (.iload 8, 62) := by decide +kernel
theorem eX4_make_62 : ino mX4_make 62 = some (.iload 5, 64) := by decide +kernel
theorem eX4_make_64 : ino mX4_make 64 = some (.invokevirtual 42, 67) := by decide +kernel
theorem eX4_make_67 : ino mX4_make 67 = some (.iinc 5 1, 70) := by decide +kernel
theorem eX4_make_70 : ino mX4_make 70 = some (.iload 6, 72) := by decide +kernel
theorem eX4_make_72 : ino mX4_make 72 = some (.aload_n 1, 73) := by decide +kernel
theorem eX4_make_73 : ino mX4_make 73 = some (.getfield 46, 76) := by decide +kernel
theorem eX4_make_76 : ino mX4_make 76 = some (.iload 7, 78) := by decide +kernel
theorem eX4_make_78 : ino mX4_make 78 = some (.iaload, 79) := by decide +kernel
theorem eX4_make_79 : ino mX4_make 79 = some (.aload_n 2, 80) := by decide +kernel
theorem eX4_make_80 : ino mX4_make 80 = some (.iload_n 3, 81) := by decide +kernel
theorem eX4_make_81 : ino mX4_make 81 = some (.iload 7, 83) := by decide +kernel
theorem eX4_make_83 : ino mX4_make 83 = some (.invokevirtual 49, 86) := by decide +kernel
theorem eX4_make_86 : ino mX4_make 86 = some (.isub, 87) := by decide +kernel
theorem eX4_make_87 : ino mX4_make 87 = some (.aload_n 1, 88) := by decide +kernel
theorem eX4_make_88 : ino mX4_make 88 = some (.getfield 37, 91) := by decide +kernel
theorem eX4_make_91 : ino mX4_make 91 = some (.iload 8, 93) := by decide +kernel
theorem eX4_make_93 : ino mX4_make 93 = some (.iaload, 94) := by decide +kernel
theorem eX4_make_94 : ino mX4_make 94 = some (.iadd, 95) := by decide +kernel
theorem eX4_make_95 : ino mX4_make 95 = some (.iconst 1, 96) := by decide +kernel
theorem eX4_make_96 : ino mX4_make 96 = some (.isub, 97) := by decide +kernel
theorem eX4_make_97 : ino mX4_make 97 = some (.aload_n 1, 98) := by decide +kernel
theorem eX4_make_98 : ino mX4_make 98 = some (.getfield 37, 101) := by decide +kernel
theorem eX4_make_101 : ino mX4_make 101 = some (.iload 8, 103) := by decide +kernel
theorem eX4_make_103 : ino mX4_make 103 = some (.iaload, 104) := by decide +kernel
theorem eX4_make_104 : ino mX4_make 104 = some (.idiv, 105) := by decide +kernel
theorem eX4_make_105 : ino mX4_make 105 = some (.iadd, 106) := by decide +kernel
theorem eX4_make_106 : ino mX4_make 106 = some (.istore 6, 108) := by decide +kernel
theorem eX4_make_108 : ino mX4_make 108 = some (.iinc 7 1, 111) := by decide +kernel
theorem eX4_make_111 : ino mX4_make 111 = some (.goto (-94), 17) := by decide +kernel
theorem eX4_make_114 : ino mX4_make 114 = some (.aload_n 0, 115) := by decide +kernel
theorem eX4_make_115 : ino mX4_make 115 = some (.iload 5, 117) := by decide +kernel
theorem eX4_make_117 : ino mX4_make 117 = some (.putfield 21, 120) := by decide +kernel
theorem eX4_make_120 : ino mX4_make 120 = some (.aload_n 0, 121) := by decide +kernel
theorem eX4_make_121 : ino mX4_make 121 = some (.aload_n 2, 122) := by decide +kernel
theorem eX4_make_122 : ino mX4_make 122 = some (.getfield 53, 125) := by decide +kernel
theorem eX4_make_125 : ino mX4_make 125 = some (.iload_n 3, 126) := by decide +kernel
theorem eX4_make_126 : ino mX4_make 126 = some (.iaload, 127) := by decide +kernel
theorem eX4_make_127 : ino mX4_make 127 = some (.invokevirtual 56, 130) := by decide +kernel
theorem eX4_make_130 : ino mX4_make 130 = some (.iload 6, 132) := by decide +kernel
theorem eX4_make_132 : ino mX4_make 132 = some (.ireturn, 133) := by decide +kernel
theorem eX4_richestFloor_0 : ino mX4_richestFloor 0 = some (.iconst (-1), 1) := by decide +kernel
theorem eX4_richestFloor_1 : ino mX4_richestFloor 1 = some (.istore_n 2, 2) := by decide +kernel
theorem eX4_richestFloor_2 : ino mX4_richestFloor 2 = some (.iconst 1, 3) := by decide +kernel
theorem eX4_richestFloor_3 : ino mX4_richestFloor 3 = some (.istore_n 3, 4) := by decide +kernel
theorem eX4_richestFloor_4 : ino mX4_richestFloor 4 = some (.iload_n 3, 5) := by decide +kernel
theorem eX4_richestFloor_5 : ino mX4_richestFloor 5 = some (.aload_n 0, 6) := by decide +kernel
theorem eX4_richestFloor_6 : ino mX4_richestFloor 6 = some (.getfield 60, 9) := by decide +kernel
theorem eX4_richestFloor_9 : ino mX4_richestFloor 9 = some (.if_icmp .gt 41, 50) := by decide +kernel
theorem eX4_richestFloor_12 : ino mX4_richestFloor 12 = some (.aload_n 0, 13) := by decide +kernel
theorem eX4_richestFloor_13 : ino mX4_richestFloor 13 = some (.getfield 63, 16) := by decide +kernel
theorem eX4_richestFloor_16 : ino mX4_richestFloor 16 = some (.iload_n 3, 17) := by decide +kernel
theorem eX4_richestFloor_17 : ino mX4_richestFloor 17 = some (.iaload, 18) := by decide +kernel
theorem eX4_richestFloor_18 : ino mX4_richestFloor 18 = some (.iload_n 1, 19) := by decide +kernel
theorem eX4_richestFloor_19 : ino mX4_richestFloor 19 = some (.if_icmp .ne 25, 44) := by decide +kernel
theorem eX4_richestFloor_22 : ino mX4_richestFloor 22 = some (.iload_n 2, 23) := by decide +kernel
theorem eX4_richestFloor_23 : ino mX4_richestFloor 23 = some (.iconst (-1), 24) := by decide +kernel
theorem eX4_richestFloor_24 : ino mX4_richestFloor 24 = some (.if_icmp .eq 18, 42) := by decide +kernel
theorem eX4_richestFloor_27 : ino mX4_richestFloor 27 = some (.aload_n 0, 28) := by decide +kernel
theorem eX4_richestFloor_28 : ino mX4_richestFloor 28 = some (.getfield 37, 31) := by decide +kernel
theorem eX4_richestFloor_31 : ino mX4_richestFloor 31 = some (.iload_n 3, 32) := by decide +kernel
theorem eX4_richestFloor_32 : ino mX4_richestFloor 32 = some (.iaload, 33) := by decide +kernel
theorem eX4_richestFloor_33 : ino mX4_richestFloor 33 = some (.aload_n 0, 34) := by decide +kernel
theorem eX4_richestFloor_34 : ino mX4_richestFloor 34 = some (.getfield 37, 37) := by decide +kernel
theorem eX4_richestFloor_37 : ino mX4_richestFloor 37 = some (.iload_n 2, 38) := by decide +kernel
theorem eX4_richestFloor_38 : ino mX4_richestFloor 38 = some (.iaload, 39) := by decide +kernel
theorem eX4_richestFloor_39 : ino mX4_richestFloor 39 = some (.if_icmp .le 5, 44) := by decide +kernel
theorem eX4_richestFloor_42 : ino mX4_richestFloor 42 = some (.iload_n 3, 43) := by decide +kernel
theorem eX4_richestFloor_43 : ino mX4_richestFloor 43 = some (.istore_n 2, 44) := by decide +kernel
theorem eX4_richestFloor_44 : ino mX4_richestFloor 44 = some (.iinc 3 1, 47) := by decide +kernel
theorem eX4_richestFloor_47 : ino mX4_richestFloor 47 = some (.goto (-43), 4) := by decide +kernel
theorem eX4_richestFloor_50 : ino mX4_richestFloor 50 = some (.iload_n 2, 51) := by decide +kernel
theorem eX4_richestFloor_51 : ino mX4_richestFloor 51 = some (.ireturn, 52) := by decide +kernel
theorem eX4_insert_0 : ino mX4_insert 0 = some (.iload_n 2, 1) := by decide +kernel
theorem eX4_insert_1 : ino mX4_insert 1 = some (.istore_n 3, 2) := by decide +kernel
theorem eX4_insert_2 : ino mX4_insert 2 = some (.iload_n 3, 3) := by decide +kernel
theorem eX4_insert_3 : ino mX4_insert 3 = some (.ifCond .le 35, 38) := by decide +kernel
theorem eX4_insert_6 : ino mX4_insert 6 = some (.aload_n 0, 7) := by decide +kernel
theorem eX4_insert_7 : ino mX4_insert 7 = some (.getfield 9, 10) := by decide +kernel
theorem eX4_insert_10 : ino mX4_insert 10 = some (.iload_n 3, 11) := by decide +kernel
theorem eX4_insert_11 : ino mX4_insert 11 = some (.iconst 1, 12) := by decide +kernel
theorem eX4_insert_12 : ino mX4_insert 12 = some (.isub, 13) := by decide +kernel
theorem eX4_insert_13 : ino mX4_insert 13 = some (.iaload, 14) := by decide +kernel
theorem eX4_insert_14 : ino mX4_insert 14 = some (.iload_n 1, 15) := by decide +kernel
theorem eX4_insert_15 : ino mX4_insert 15 = some (.if_icmp .le 23, 38) := by decide +kernel
theorem eX4_insert_18 : ino mX4_insert 18 = some (.aload_n 0, 19) := by decide +kernel
theorem eX4_insert_19 : ino mX4_insert 19 = some (.getfield 9, 22) := by decide +kernel
theorem eX4_insert_22 : ino mX4_insert 22 = some (.iload_n 3, 23) := by decide +kernel
theorem eX4_insert_23 : ino mX4_insert 23 = some (.aload_n 0, 24) := by decide +kernel
theorem eX4_insert_24 : ino mX4_insert 24 = some (.getfield 9, 27) := by decide +kernel
theorem eX4_insert_27 : ino mX4_insert 27 = some (.iload_n 3, 28) := by decide +kernel
theorem eX4_insert_28 : ino mX4_insert 28 = some (.iconst 1, 29) := by decide +kernel
theorem eX4_insert_29 : ino mX4_insert 29 = some (.isub, 30) := by decide +kernel
theorem eX4_insert_30 : ino mX4_insert 30 = some (.iaload, 31) := by decide +kernel
theorem eX4_insert_31 : ino mX4_insert 31 = some (.iastore, 32) := by decide +kernel
theorem eX4_insert_32 : ino mX4_insert 32 = some (.iinc 3 (-1), 35) := by decide +kernel
theorem eX4_insert_35 : ino mX4_insert 35 = some (.goto (-33), 2) := by decide +kernel
theorem eX4_insert_38 : ino mX4_insert 38 = some (.aload_n 0, 39) := by decide +kernel
theorem eX4_insert_39 : ino mX4_insert 39 = some (.getfield 9, 42) := by decide +kernel
theorem eX4_insert_42 : ino mX4_insert 42 = some (.iload_n 3, 43) := by decide +kernel
theorem eX4_insert_43 : ino mX4_insert 43 = some (.iload_n 1, 44) := by decide +kernel
theorem eX4_insert_44 : ino mX4_insert 44 = some (.iastore, 45) := by decide +kernel
theorem eX4_insert_45 : ino mX4_insert 45 = some (.return_, 46) := by decide +kernel
theorem eX4_findOrder_0 : ino mX4_findOrder 0 = some (.iconst 1, 1) := by decide +kernel
theorem eX4_findOrder_1 : ino mX4_findOrder 1 = some (.istore_n 2, 2) := by decide +kernel
theorem eX4_findOrder_2 : ino mX4_findOrder 2 = some (.iconst 0, 3) := by decide +kernel
theorem eX4_findOrder_3 : ino mX4_findOrder 3 = some (.istore_n 3, 4) := by decide +kernel
theorem eX4_findOrder_4 : ino mX4_findOrder 4 = some (.iload_n 3, 5) := by decide +kernel
theorem eX4_findOrder_5 : ino mX4_findOrder 5 = some (.aload_n 0, 6) := by decide +kernel
theorem eX4_findOrder_6 : ino mX4_findOrder 6 = some (.getfield 21, 9) := by decide +kernel
theorem eX4_findOrder_9 : ino mX4_findOrder 9 = some (.if_icmp .ge 16, 25) := by decide +kernel
theorem eX4_findOrder_12 : ino mX4_findOrder 12 = some (.iload_n 2, 13) := by decide +kernel
theorem eX4_findOrder_13 : ino mX4_findOrder 13 = some (.aload_n 0, 14) := by decide +kernel
theorem eX4_findOrder_14 : ino mX4_findOrder 14 = some (.getfield 21, 17) := by decide +kernel
theorem eX4_findOrder_17 : ino mX4_findOrder 17 = some (.imul, 18) := by decide +kernel
theorem eX4_findOrder_18 : ino mX4_findOrder 18 = some (.istore_n 2, 19) := by decide +kernel
theorem eX4_findOrder_19 : ino mX4_findOrder 19 = some (.iinc 3 1, 22) := by decide +kernel
theorem eX4_findOrder_22 : ino mX4_findOrder 22 = some (.goto (-18), 4) := by decide +kernel
theorem eX4_findOrder_25 : ino mX4_findOrder 25 = some (.aload_n 0, 26) := by decide +kernel
theorem eX4_findOrder_26 : ino mX4_findOrder 26 = some (.iconst (-1), 27) := by decide +kernel
theorem eX4_findOrder_27 : ino mX4_findOrder 27 = some (.putfield 25, 30) := by decide +kernel
theorem eX4_findOrder_30 : ino mX4_findOrder 30 = some (.iconst 0, 31) := by decide +kernel
theorem eX4_findOrder_31 : ino mX4_findOrder 31 = some (.istore_n 3, 32) := by decide +kernel
theorem eX4_findOrder_32 : ino mX4_findOrder 32 = some (.iload_n 3, 33) := by decide +kernel
theorem eX4_findOrder_33 : ino mX4_findOrder 33 = some (.iload_n 2, 34) := by decide +kernel
theorem eX4_findOrder_34 : ino mX4_findOrder 34 = some (.if_icmp .ge 64, 98) := by decide +kernel
theorem eX4_findOrder_37 : ino mX4_findOrder 37 = some (.aload_n 0, 38) := by decide +kernel
theorem eX4_findOrder_38 : ino mX4_findOrder 38 = some (.iload_n 3, 39) := by decide +kernel
theorem eX4_findOrder_39 : ino mX4_findOrder 39 = some (.invokevirtual 66, 42) := by decide +kernel
theorem eX4_findOrder_42 : ino mX4_findOrder 42 = some (.ifCond .eq 50, 92) := by decide +kernel
theorem eX4_findOrder_45 : ino mX4_findOrder 45 = some (.aload_n 0, 46) := by decide +kernel
theorem eX4_findOrder_46 : ino mX4_findOrder 46 = some (.iload_n 1, 47) := by decide +kernel
theorem eX4_findOrder_47 : ino mX4_findOrder 47 = some (.invokevirtual 70, 50) := by decide +kernel
theorem eX4_findOrder_50 : ino mX4_findOrder 50 = some (.istore 4, 52) := by decide +kernel
theorem eX4_findOrder_52 : ino mX4_findOrder 52 = some (.aload_n 0, 53) := by decide +kernel
theorem eX4_findOrder_53 : ino mX4_findOrder 53 = some (.getfield 25, 56) := by decide +kernel
theorem eX4_findOrder_56 : ino mX4_findOrder 56 = some (.iconst (-1), 57) := by decide +kernel
theorem eX4_findOrder_57 : ino mX4_findOrder 57 = some (.if_icmp .eq 12, 69) := by decide +kernel
theorem eX4_findOrder_60 : ino mX4_findOrder 60 = some (.iload 4, 62) := by decide +kernel
theorem eX4_findOrder_62 : ino mX4_findOrder 62 = some (.aload_n 0, 63) := by decide +kernel
theorem eX4_findOrder_63 : ino mX4_findOrder 63 = some (.getfield 25, 66) := by decide +kernel
theorem eX4_findOrder_66 : ino mX4_findOrder 66 = some (.if_icmp .ge 26, 92) := by decide +kernel
theorem eX4_findOrder_69 : ino mX4_findOrder 69 = some (.aload_n 0, 70) := by decide +kernel
theorem eX4_findOrder_70 : ino mX4_findOrder 70 = some (.iload 4, 72) := by decide +kernel
theorem eX4_findOrder_72 : ino mX4_findOrder 72 = some (.putfield 25, 75) := by decide +kernel
theorem eX4_findOrder_75 : ino mX4_findOrder 75 = some (.aload_n 0, 76) := by decide +kernel
theorem eX4_findOrder_76 : ino mX4_findOrder 76 = some (.getfield 15, 79) := by decide +kernel
theorem eX4_findOrder_79 : ino mX4_findOrder 79 = some (.iconst 0, 80) := by decide +kernel
theorem eX4_findOrder_80 : ino mX4_findOrder 80 = some (.aload_n 0, 81) := by decide +kernel
theorem eX4_findOrder_81 : ino mX4_findOrder 81 = some (.getfield 18, 84) := by decide +kernel
theorem eX4_findOrder_84 : ino mX4_findOrder 84 = some (.iconst 0, 85) := by decide +kernel
theorem eX4_findOrder_85 : ino mX4_findOrder 85 = some (.aload_n 0, 86) := by decide +kernel
theorem eX4_findOrder_86 : ino mX4_findOrder 86 = some (.getfield 21, 89) := by decide +kernel
theorem eX4_findOrder_89 : ino mX4_findOrder 89 = some (.invokestatic 74, 92) := by decide +kernel
theorem eX4_findOrder_92 : ino mX4_findOrder 92 = some (.iinc 3 1, 95) := by decide +kernel
theorem eX4_findOrder_95 : ino mX4_findOrder 95 = some (.goto (-63), 32) := by decide +kernel
theorem eX4_findOrder_98 : ino mX4_findOrder 98 = some (.return_, 99) := by decide +kernel
theorem eX4_pick_0 : ino mX4_pick 0 = some (.iload_n 1, 1) := by decide +kernel
theorem eX4_pick_1 : ino mX4_pick 1 = some (.istore_n 2, 2) := by decide +kernel
theorem eX4_pick_2 : ino mX4_pick 2 = some (.iconst 0, 3) := by decide +kernel
theorem eX4_pick_3 : ino mX4_pick 3 = some (.istore_n 3, 4) := by decide +kernel
theorem eX4_pick_4 : ino mX4_pick 4 = some (.aload_n 0, 5) := by decide +kernel
theorem eX4_pick_5 : ino mX4_pick 5 = some (.getfield 21, 8) := by decide +kernel
theorem eX4_pick_8 : ino mX4_pick 8 = some (.iconst 1, 9) := by decide +kernel
theorem eX4_pick_9 : ino mX4_pick 9 = some (.isub, 10) := by decide +kernel
theorem eX4_pick_10 : ino mX4_pick 10 = some (.istore 4, 12) := by decide +kernel
theorem eX4_pick_12 : ino mX4_pick 12 = some (.iload 4, 14) := by decide +kernel
theorem eX4_pick_14 : ino mX4_pick 14 = some (.ifCond .lt 45, 59) := by decide +kernel
theorem eX4_pick_17 : ino mX4_pick 17 = some (.iload_n 2, 18) := by decide +kernel
theorem eX4_pick_18 : ino mX4_pick 18 = some (.aload_n 0, 19) := by decide +kernel
theorem eX4_pick_19 : ino mX4_pick 19 = some (.getfield 21, 22) := by decide +kernel
theorem eX4_pick_22 : ino mX4_pick 22 = some (.irem, 23) := by decide +kernel
theorem eX4_pick_23 : ino mX4_pick 23 = some (.istore 5, 25) := by decide +kernel
theorem eX4_pick_25 : ino mX4_pick 25 = some (.iload_n 2, 26) := by decide +kernel
theorem eX4_pick_26 : ino mX4_pick 26 = some (.aload_n 0, 27) := by decide +kernel
theorem eX4_pick_27 : ino mX4_pick 27 = some (.getfield 21, 30) := by decide +kernel
theorem eX4_pick_30 : ino mX4_pick 30 = some (.idiv, 31) := by decide +kernel
theorem eX4_pick_31 : ino mX4_pick 31 = some (.istore_n 2, 32) := by decide +kernel
theorem eX4_pick_32 : ino mX4_pick 32 = some (.aload_n 0, 33) := by decide +kernel
theorem eX4_pick_33 : ino mX4_pick 33 = some (.getfield 15, 36) := by decide +kernel
theorem eX4_pick_36 : ino mX4_pick 36 = some (.iload 4, 38) := by decide +kernel
theorem eX4_pick_38 : ino mX4_pick 38 = some (.aload_n 0, 39) := by decide +kernel
theorem eX4_pick_39 : ino mX4_pick 39 = some (.getfield 9, 42) := by decide +kernel
theorem eX4_pick_42 : ino mX4_pick 42 = some (.iload 5, 44) := by decide +kernel
theorem eX4_pick_44 : ino mX4_pick 44 = some (.iaload, 45) := by decide +kernel
theorem eX4_pick_45 : ino mX4_pick 45 = some (.iastore, 46) := by decide +kernel
theorem eX4_pick_46 : ino mX4_pick 46 = some (.iload_n 3, 47) := by decide +kernel
theorem eX4_pick_47 : ino mX4_pick 47 = some (.iconst 1, 48) := by decide +kernel
theorem eX4_pick_48 : ino mX4_pick 48 = some (.iload 5, 50) := by decide +kernel
theorem eX4_pick_50 : ino mX4_pick 50 = some (.ishl, 51) := by decide +kernel
theorem eX4_pick_51 : ino mX4_pick 51 = some (.ior, 52) := by decide +kernel
theorem eX4_pick_52 : ino mX4_pick 52 = some (.istore_n 3, 53) := by decide +kernel
theorem eX4_pick_53 : ino mX4_pick 53 = some (.iinc 4 (-1), 56) := by decide +kernel
theorem eX4_pick_56 : ino mX4_pick 56 = some (.goto (-44), 12) := by decide +kernel
theorem eX4_pick_59 : ino mX4_pick 59 = some (.iload_n 3, 60) := by decide +kernel
theorem eX4_pick_60 : ino mX4_pick 60 = some (.invokestatic 80, 63) := by decide +kernel
theorem eX4_pick_63 : ino mX4_pick 63 = some (.aload_n 0, 64) := by decide +kernel
theorem eX4_pick_64 : ino mX4_pick 64 = some (.getfield 21, 67) := by decide +kernel
theorem eX4_pick_67 : ino mX4_pick 67 = some (.if_icmp .ne 7, 74) := by decide +kernel
theorem eX4_pick_70 : ino mX4_pick 70 = some (.iconst 1, 71) := by decide +kernel
theorem eX4_pick_71 : ino mX4_pick 71 = some (.goto 4, 75) := by decide +kernel
theorem eX4_pick_74 : ino mX4_pick 74 = some (.iconst 0, 75) := by decide +kernel
theorem eX4_pick_75 : ino mX4_pick 75 = some (.ireturn, 76) := by decide +kernel
theorem eX4_pickedLength_0 : ino mX4_pickedLength 0 = some (.iconst 0, 1) := by decide +kernel
theorem eX4_pickedLength_1 : ino mX4_pickedLength 1 = some (.istore_n 2, 2) := by decide +kernel
theorem eX4_pickedLength_2 : ino mX4_pickedLength 2 = some (.iload_n 1, 3) := by decide +kernel
theorem eX4_pickedLength_3 : ino mX4_pickedLength 3 = some (.istore_n 3, 4) := by decide +kernel
theorem eX4_pickedLength_4 : ino mX4_pickedLength 4 = some (.iconst 0, 5) := by decide +kernel
theorem eX4_pickedLength_5 : ino mX4_pickedLength 5 = some (.istore 4, 7) := by decide +kernel
theorem eX4_pickedLength_7 : ino mX4_pickedLength 7 = some (.iload 4, 9) := by decide +kernel
theorem eX4_pickedLength_9 : ino mX4_pickedLength 9 = some (.aload_n 0, 10) := by decide +kernel
theorem eX4_pickedLength_10 : ino mX4_pickedLength 10 = some (.getfield 21, 13) := by decide +kernel
theorem eX4_pickedLength_13 : ino mX4_pickedLength 13 = some (.if_icmp .ge 32, 45) := by decide +kernel
theorem eX4_pickedLength_16 : ino mX4_pickedLength 16 = some (.iload_n 2, 17) := by decide +kernel
theorem eX4_pickedLength_17 : ino mX4_pickedLength 17 = some (.aload_n 0, 18) := by decide +kernel
theorem eX4_pickedLength_18 : ino mX4_pickedLength 18 = some (.getfield 15, 21) := by decide +kernel
theorem eX4_pickedLength_21 : ino mX4_pickedLength 21 = some (.iload 4, 23) := by decide +kernel
theorem eX4_pickedLength_23 : ino mX4_pickedLength 23 = some (.iaload, 24) := by decide +kernel
theorem eX4_pickedLength_24 : ino mX4_pickedLength 24 = some (.iload_n 3, 25) := by decide +kernel
theorem eX4_pickedLength_25 : ino mX4_pickedLength 25 = some (.isub, 26) := by decide +kernel
theorem eX4_pickedLength_26 : ino mX4_pickedLength 26 = some (.invokestatic 85, 29) := by decide +kernel
theorem eX4_pickedLength_29 : ino mX4_pickedLength 29 = some (.iadd, 30) := by decide +kernel
theorem eX4_pickedLength_30 : ino mX4_pickedLength 30 = some (.istore_n 2, 31) := by decide +kernel
theorem eX4_pickedLength_31 : ino mX4_pickedLength 31 = some (.aload_n 0, 32) := by decide +kernel
theorem eX4_pickedLength_32 : ino mX4_pickedLength 32 = some (.getfield 15, 35) := by decide +kernel
theorem eX4_pickedLength_35 : ino mX4_pickedLength 35 = some (.iload 4, 37) := by decide +kernel
theorem eX4_pickedLength_37 : ino mX4_pickedLength 37 = some (.iaload, 38) := by decide +kernel
theorem eX4_pickedLength_38 : ino mX4_pickedLength 38 = some (.istore_n 3, 39) := by decide +kernel
theorem eX4_pickedLength_39 : ino mX4_pickedLength 39 = some (.iinc 4 1, 42) := by decide +kernel
theorem eX4_pickedLength_42 : ino mX4_pickedLength 42 = some (.goto (-35), 7) := by decide +kernel
theorem eX4_pickedLength_45 : ino mX4_pickedLength 45 = some (.iload_n 2, 46) := by decide +kernel
theorem eX4_pickedLength_46 : ino mX4_pickedLength 46 = some (.ireturn, 47) := by decide +kernel
