theorem eX12_hanging_0 : ino mX12_hanging 0 = some (.aload_n 0, 1) := by decide +kernel
theorem eX12_hanging_1 : ino mX12_hanging 1 = some (.iconst 0, 2) := by decide +kernel
theorem eX12_hanging_2 : ino mX12_hanging 2 = some (.putfield 1, 5) := by decide +kernel
theorem eX12_hanging_5 : ino mX12_hanging 5 = some (.aload_n 0, 6) := by decide +kernel
theorem eX12_hanging_6 : ino mX12_hanging 6 = some (.getfield 408, 9) := by decide +kernel
theorem eX12_hanging_9 : ino mX12_hanging 9 = some (.ifCond .eq 10, 19) := by decide +kernel
theorem eX12_hanging_12 : ino mX12_hanging 12 = some (.aload_n 0, 13) := by decide +kernel
theorem eX12_hanging_13 : ino mX12_hanging 13 = some (.getfield 412, 16) := by decide +kernel
theorem eX12_hanging_16 : ino mX12_hanging 16 = some (.goto 4, 20) := by decide +kernel
theorem eX12_hanging_19 : ino mX12_hanging 19 = some (.iconst (-1), 20) := by decide +kernel
theorem eX12_hanging_20 : ino mX12_hanging 20 = some (.ireturn, 21) := by decide +kernel
theorem eX12_holds_0 : ino mX12_holds 0 = some (.aload_n 0, 1) := by decide +kernel
theorem eX12_holds_1 : ino mX12_holds 1 = some (.iconst 0, 2) := by decide +kernel
theorem eX12_holds_2 : ino mX12_holds 2 = some (.putfield 1, 5) := by decide +kernel
theorem eX12_holds_5 : ino mX12_holds 5 = some (.aload_n 0, 6) := by decide +kernel
theorem eX12_holds_6 : ino mX12_holds 6 = some (.iload_n 1, 7) := by decide +kernel
theorem eX12_holds_7 : ino mX12_holds 7 = some (.invokevirtual 306, 10) := by decide +kernel
theorem eX12_holds_10 : ino mX12_holds 10 = some (.ifCond .eq 19, 29) := by decide +kernel
theorem eX12_holds_13 : ino mX12_holds 13 = some (.aload_n 0, 14) := by decide +kernel
theorem eX12_holds_14 : ino mX12_holds 14 = some (.iload_n 1, 15) := by decide +kernel
theorem eX12_holds_15 : ino mX12_holds 15 = some (.invokevirtual 328, 18) := by decide +kernel
theorem eX12_holds_18 : ino mX12_holds 18 = some (.ifCond .ne 11, 29) := by decide +kernel
theorem eX12_holds_21 : ino mX12_holds 21 = some (.aload_n 0, 22) := by decide +kernel
theorem eX12_holds_22 : ino mX12_holds 22 = some (.iload_n 2, 23) := by decide +kernel
theorem eX12_holds_23 : ino mX12_holds 23 = some (.invokevirtual 319, 26) := by decide +kernel
theorem eX12_holds_26 : ino mX12_holds 26 = some (.ifCond .ne 5, 31) := by decide +kernel
theorem eX12_holds_29 : ino mX12_holds 29 = some (.iconst (-1), 30) := by decide +kernel
theorem eX12_holds_30 : ino mX12_holds 30 = some (.ireturn, 31) := by decide +kernel
theorem eX12_holds_31 : ino mX12_holds 31 = some (.iload_n 2, 32) := by decide +kernel
theorem eX12_holds_32 : ino mX12_holds 32 = some (.aload_n 0, 33) := by decide +kernel
theorem eX12_holds_33 : ino mX12_holds 33 = some (.getfield 33, 36) := by decide +kernel
theorem eX12_holds_36 : ino mX12_holds 36 = some (.bipush 96, 38) := by decide +kernel
theorem eX12_holds_38 : ino mX12_holds 38 = some (.iload_n 1, 39) := by decide +kernel
theorem eX12_holds_39 : ino mX12_holds 39 = some (.iadd, 40) := by decide +kernel
theorem eX12_holds_40 : ino mX12_holds 40 = some (.iaload, 41) := by decide +kernel
theorem eX12_holds_41 : ino mX12_holds 41 = some (.aload_n 0, 42) := by decide +kernel
theorem eX12_holds_42 : ino mX12_holds 42 = some (.aload_n 0, 43) := by decide +kernel
theorem eX12_holds_43 : ino mX12_holds 43 = some (.getfield 33, 46) := by decide +kernel
theorem eX12_holds_46 : ino mX12_holds 46 = some (.bipush 88, 48) := by decide +kernel
theorem eX12_holds_48 : ino mX12_holds 48 = some (.iaload, 49) := by decide +kernel
theorem eX12_holds_49 : ino mX12_holds 49 = some (.invokevirtual 331, 52) := by decide +kernel
theorem eX12_holds_52 : ino mX12_holds 52 = some (.isub, 53) := by decide +kernel
theorem eX12_holds_53 : ino mX12_holds 53 = some (.invokestatic 299, 56) := by decide +kernel
theorem eX12_holds_56 : ino mX12_holds 56 = some (.imul, 57) := by decide +kernel
theorem eX12_holds_57 : ino mX12_holds 57 = some (.istore_n 3, 58) := by decide +kernel
theorem eX12_holds_58 : ino mX12_holds 58 = some (.iload_n 3, 59) := by decide +kernel
theorem eX12_holds_59 : ino mX12_holds 59 = some (.ifCond .ne 7, 66) := by decide +kernel
theorem eX12_holds_62 : ino mX12_holds 62 = some (.iconst 0, 63) := by decide +kernel
theorem eX12_holds_63 : ino mX12_holds 63 = some (.goto 23, 86) := by decide +kernel
theorem eX12_holds_66 : ino mX12_holds 66 = some (.aload_n 0, 67) := by decide +kernel
theorem eX12_holds_67 : ino mX12_holds 67 = some (.getfield 33, 70) := by decide +kernel
theorem eX12_holds_70 : ino mX12_holds 70 = some (.iconst 3, 71) := by decide +kernel
theorem eX12_holds_71 : ino mX12_holds 71 = some (.iaload, 72) := by decide +kernel
theorem eX12_holds_72 : ino mX12_holds 72 = some (.aload_n 0, 73) := by decide +kernel
theorem eX12_holds_73 : ino mX12_holds 73 = some (.getfield 33, 76) := by decide +kernel
theorem eX12_holds_76 : ino mX12_holds 76 = some (.bipush 86, 78) := by decide +kernel
theorem eX12_holds_78 : ino mX12_holds 78 = some (.iaload, 79) := by decide +kernel
theorem eX12_holds_79 : ino mX12_holds 79 = some (.isub, 80) := by decide +kernel
theorem eX12_holds_80 : ino mX12_holds 80 = some (.iload_n 3, 81) := by decide +kernel
theorem eX12_holds_81 : ino mX12_holds 81 = some (.iadd, 82) := by decide +kernel
theorem eX12_holds_82 : ino mX12_holds 82 = some (.iconst 1, 83) := by decide +kernel
theorem eX12_holds_83 : ino mX12_holds 83 = some (.isub, 84) := by decide +kernel
theorem eX12_holds_84 : ino mX12_holds 84 = some (.iload_n 3, 85) := by decide +kernel
theorem eX12_holds_85 : ino mX12_holds 85 = some (.idiv, 86) := by decide +kernel
theorem eX12_holds_86 : ino mX12_holds 86 = some (.ireturn, 87) := by decide +kernel
theorem eX12_web_0 : ino mX12_web 0 = some (.aload_n 0, 1) := by decide +kernel
theorem eX12_web_1 : ino mX12_web 1 = some (.iconst 0, 2) := by decide +kernel
theorem eX12_web_2 : ino mX12_web 2 = some (.putfield 1, 5) := by decide +kernel
theorem eX12_web_5 : ino mX12_web 5 = some (.aload_n 0, 6) := by decide +kernel
theorem eX12_web_6 : ino mX12_web 6 = some (.iload_n 1, 7) := by decide +kernel
theorem eX12_web_7 : ino mX12_web 7 = some (.invokevirtual 306, 10) := by decide +kernel
theorem eX12_web_10 : ino mX12_web 10 = some (.ifCond .ne 5, 15) := by decide +kernel
theorem eX12_web_13 : ino mX12_web 13 = some (.iconst (-1), 14) := by decide +kernel
theorem eX12_web_14 : ino mX12_web 14 = some (.ireturn, 15) := by decide +kernel
theorem eX12_web_15 : ino mX12_web 15 = some (.iconst 1, 16) := by decide +kernel
theorem eX12_web_16 : ino mX12_web 16 = some (.iload_n 1, 17) := by decide +kernel
theorem eX12_web_17 : ino mX12_web 17 = some (.ishl, 18) := by decide +kernel
theorem eX12_web_18 : ino mX12_web 18 = some (.istore_n 2, 19) := by decide +kernel
theorem eX12_web_19 : ino mX12_web 19 = some (.iconst 0, 20) := by decide +kernel
theorem eX12_web_20 : ino mX12_web 20 = some (.istore_n 3, 21) := by decide +kernel
theorem eX12_web_21 : ino mX12_web 21 = some (.iload_n 3, 22) := by decide +kernel
theorem eX12_web_22 : ino mX12_web 22 = some (.bipush 6, 24) := by decide +kernel
theorem eX12_web_24 : ino mX12_web 24 = some (.if_icmp .ge 47, 71) := by decide +kernel
theorem eX12_web_27 : ino mX12_web 27 = some (.iconst 0, 28) := by decide +kernel
theorem eX12_web_28 : ino mX12_web 28 = some (.istore 4, 30) := by decide +kernel
theorem eX12_web_30 : ino mX12_web 30 = some (.iload 4, 32) := by decide +kernel
theorem eX12_web_32 : ino mX12_web 32 = some (.aload_n 0, 33) := by decide +kernel
theorem eX12_web_33 : ino mX12_web 33 = some (.getfield 33, 36) := by decide +kernel
theorem eX12_web_36 : ino mX12_web 36 = some (.iconst 1, 37) := by decide +kernel
theorem eX12_web_37 : ino mX12_web 37 = some (.iaload, 38) := by decide +kernel
theorem eX12_web_38 : ino mX12_web 38 = some (.if_icmp .ge 27, 65) := by decide +kernel
theorem eX12_web_41 : ino mX12_web 41 = some (.iload_n 2, 42) := by decide +kernel
theorem eX12_web_42 : ino mX12_web 42 = some (.iload 4, 44) := by decide +kernel
theorem eX12_web_44 : ino mX12_web 44 = some (.invokestatic 256, 47) := by decide +kernel
theorem eX12_web_47 : ino mX12_web 47 = some (.ifCond .eq 12, 59) := by decide +kernel
theorem eX12_web_50 : ino mX12_web 50 = some (.iload_n 2, 51) := by decide +kernel
theorem eX12_web_51 : ino mX12_web 51 = some (.aload_n 0, 52) := by decide +kernel
theorem eX12_web_52 : ino mX12_web 52 = some (.iload 4, 54) := by decide +kernel
theorem eX12_web_54 : ino mX12_web 54 = some (.invokevirtual 316, 57) := by decide +kernel
theorem eX12_web_57 : ino mX12_web 57 = some (.ior, 58) := by decide +kernel
theorem eX12_web_58 : ino mX12_web 58 = some (.istore_n 2, 59) := by decide +kernel
theorem eX12_web_59 : ino mX12_web 59 = some (.iinc 4 1, 62) := by decide +kernel
theorem eX12_web_62 : ino mX12_web 62 = some (.goto (-32), 30) := by decide +kernel
theorem eX12_web_65 : ino mX12_web 65 = some (.iinc 3 1, 68) := by decide +kernel
theorem eX12_web_68 : ino mX12_web 68 = some (.goto (-47), 21) := by decide +kernel
theorem eX12_web_71 : ino mX12_web 71 = some (.iload_n 2, 72) := by decide +kernel
theorem eX12_web_72 : ino mX12_web 72 = some (.ireturn, 73) := by decide +kernel
theorem eX12_likesFloor_0 : ino mX12_likesFloor 0 = some (.aload_n 0, 1) := by decide +kernel
theorem eX12_likesFloor_1 : ino mX12_likesFloor 1 = some (.iload_n 1, 2) := by decide +kernel
theorem eX12_likesFloor_2 : ino mX12_likesFloor 2 = some (.invokevirtual 313, 5) := by decide +kernel
theorem eX12_likesFloor_5 : ino mX12_likesFloor 5 = some (.aload_n 0, 6) := by decide +kernel
theorem eX12_likesFloor_6 : ino mX12_likesFloor 6 = some (.getfield 33, 9) := by decide +kernel
theorem eX12_likesFloor_9 : ino mX12_likesFloor 9 = some (.iconst 5, 10) := by decide +kernel
theorem eX12_likesFloor_10 : ino mX12_likesFloor 10 = some (.iload_n 2, 11) := by decide +kernel
theorem eX12_likesFloor_11 : ino mX12_likesFloor 11 = some (.iadd, 12) := by decide +kernel
theorem eX12_likesFloor_12 : ino mX12_likesFloor 12 = some (.iconst 1, 13) := by decide +kernel
theorem eX12_likesFloor_13 : ino mX12_likesFloor 13 = some (.isub, 14) := by decide +kernel
theorem eX12_likesFloor_14 : ino mX12_likesFloor 14 = some (.iaload, 15) := by decide +kernel
theorem eX12_likesFloor_15 : ino mX12_likesFloor 15 = some (.invokestatic 256, 18) := by decide +kernel
theorem eX12_likesFloor_18 : ino mX12_likesFloor 18 = some (.ifCond .eq 17, 35) := by decide +kernel
theorem eX12_likesFloor_21 : ino mX12_likesFloor 21 = some (.aload_n 0, 22) := by decide +kernel
theorem eX12_likesFloor_22 : ino mX12_likesFloor 22 = some (.getfield 33, 25) := by decide +kernel
theorem eX12_likesFloor_25 : ino mX12_likesFloor 25 = some (.bipush 13, 27) := by decide +kernel
theorem eX12_likesFloor_27 : ino mX12_likesFloor 27 = some (.iload_n 2, 28) := by decide +kernel
theorem eX12_likesFloor_28 : ino mX12_likesFloor 28 = some (.iadd, 29) := by decide +kernel
theorem eX12_likesFloor_29 : ino mX12_likesFloor 29 = some (.iconst 1, 30) := by decide +kernel
theorem eX12_likesFloor_30 : ino mX12_likesFloor 30 = some (.isub, 31) := by decide +kernel
theorem eX12_likesFloor_31 : ino mX12_likesFloor 31 = some (.iaload, 32) := by decide +kernel
theorem eX12_likesFloor_32 : ino mX12_likesFloor 32 = some (.goto 4, 36) := by decide +kernel
theorem eX12_likesFloor_35 : ino mX12_likesFloor 35 = some (.iconst 0, 36) := by decide +kernel
theorem eX12_likesFloor_36 : ino mX12_likesFloor 36 = some (.ireturn, 37) := by decide +kernel
theorem eX12_likesChild_0 : ino mX12_likesChild 0 = some (.aload_n 0, 1) := by decide +kernel
theorem eX12_likesChild_1 : ino mX12_likesChild 1 = some (.getfield 33, 4) := by decide +kernel
theorem eX12_likesChild_4 : ino mX12_likesChild 4 = some (.bipush 37, 6) := by decide +kernel
theorem eX12_likesChild_6 : ino mX12_likesChild 6 = some (.bipush 6, 8) := by decide +kernel
theorem eX12_likesChild_8 : ino mX12_likesChild 8 = some (.iload_n 1, 9) := by decide +kernel
theorem eX12_likesChild_9 : ino mX12_likesChild 9 = some (.imul, 10) := by decide +kernel
theorem eX12_likesChild_10 : ino mX12_likesChild 10 = some (.iadd, 11) := by decide +kernel
theorem eX12_likesChild_11 : ino mX12_likesChild 11 = some (.bipush 6, 13) := by decide +kernel
theorem eX12_likesChild_13 : ino mX12_likesChild 13 = some (.isub, 14) := by decide +kernel
theorem eX12_likesChild_14 : ino mX12_likesChild 14 = some (.iload_n 2, 15) := by decide +kernel
theorem eX12_likesChild_15 : ino mX12_likesChild 15 = some (.iadd, 16) := by decide +kernel
theorem eX12_likesChild_16 : ino mX12_likesChild 16 = some (.iaload, 17) := by decide +kernel
theorem eX12_likesChild_17 : ino mX12_likesChild 17 = some (.ireturn, 18) := by decide +kernel
theorem eX12_holderOf_0 : ino mX12_holderOf 0 = some (.iconst 0, 1) := by decide +kernel
theorem eX12_holderOf_1 : ino mX12_holderOf 1 = some (.istore_n 2, 2) := by decide +kernel
theorem eX12_holderOf_2 : ino mX12_holderOf 2 = some (.iload_n 2, 3) := by decide +kernel
theorem eX12_holderOf_3 : ino mX12_holderOf 3 = some (.aload_n 0, 4) := by decide +kernel
theorem eX12_holderOf_4 : ino mX12_holderOf 4 = some (.getfield 33, 7) := by decide +kernel
theorem eX12_holderOf_7 : ino mX12_holderOf 7 = some (.iconst 1, 8) := by decide +kernel
theorem eX12_holderOf_8 : ino mX12_holderOf 8 = some (.iaload, 9) := by decide +kernel
theorem eX12_holderOf_9 : ino mX12_holderOf 9 = some (.if_icmp .ge 21, 30) := by decide +kernel
theorem eX12_holderOf_12 : ino mX12_holderOf 12 = some (.aload_n 0, 13) := by decide +kernel
theorem eX12_holderOf_13 : ino mX12_holderOf 13 = some (.getfield 83, 16) := by decide +kernel
theorem eX12_holderOf_16 : ino mX12_holderOf 16 = some (.iload_n 2, 17) := by decide +kernel
theorem eX12_holderOf_17 : ino mX12_holderOf 17 = some (.iaload, 18) := by decide +kernel
theorem eX12_holderOf_18 : ino mX12_holderOf 18 = some (.iload_n 1, 19) := by decide +kernel
theorem eX12_holderOf_19 : ino mX12_holderOf 19 = some (.if_icmp .ne 5, 24) := by decide +kernel
theorem eX12_holderOf_22 : ino mX12_holderOf 22 = some (.iload_n 2, 23) := by decide +kernel
theorem eX12_holderOf_23 : ino mX12_holderOf 23 = some (.ireturn, 24) := by decide +kernel
theorem eX12_holderOf_24 : ino mX12_holderOf 24 = some (.iinc 2 1, 27) := by decide +kernel
theorem eX12_holderOf_27 : ino mX12_holderOf 27 = some (.goto (-25), 2) := by decide +kernel
theorem eX12_holderOf_30 : ino mX12_holderOf 30 = some (.iconst (-1), 31) := by decide +kernel
theorem eX12_holderOf_31 : ino mX12_holderOf 31 = some (.ireturn, 32) := by decide +kernel
theorem eX12_asks_0 : ino mX12_asks 0 = some (.iconst 0, 1) := by decide +kernel
theorem eX12_asks_1 : ino mX12_asks 1 = some (.istore_n 2, 2) := by decide +kernel
theorem eX12_asks_2 : ino mX12_asks 2 = some (.iconst 1, 3) := by decide +kernel
theorem eX12_asks_3 : ino mX12_asks 3 = some (.istore_n 3, 4) := by decide +kernel
theorem eX12_asks_4 : ino mX12_asks 4 = some (.iload_n 3, 5) := by decide +kernel
theorem eX12_asks_5 : ino mX12_asks 5 = some (.aload_n 0, 6) := by decide +kernel
theorem eX12_asks_6 : ino mX12_asks 6 = some (.getfield 33, 9) := by decide +kernel
theorem eX12_asks_9 : ino mX12_asks 9 = some (.iconst 0, 10) := by decide +kernel
theorem eX12_asks_10 : ino mX12_asks 10 = some (.iaload, 11) := by decide +kernel
theorem eX12_asks_11 : ino mX12_asks 11 = some (.if_icmp .gt 43, 54) := by decide +kernel
theorem eX12_asks_14 : ino mX12_asks 14 = some (.aload_n 0, 15) := by decide +kernel
theorem eX12_asks_15 : ino mX12_asks 15 = some (.getfield 86, 18) := by decide +kernel
theorem eX12_asks_18 : ino mX12_asks 18 = some (.iload_n 1, 19) := by decide +kernel
theorem eX12_asks_19 : ino mX12_asks 19 = some (.iaload, 20) := by decide +kernel
theorem eX12_asks_20 : ino mX12_asks 20 = some (.iload_n 3, 21) := by decide +kernel
theorem eX12_asks_21 : ino mX12_asks 21 = some (.invokestatic 256, 24) := by decide +kernel
theorem eX12_asks_24 : ino mX12_asks 24 = some (.ifCond .ne 24, 48) := by decide +kernel
theorem eX12_asks_27 : ino mX12_asks 27 = some (.iload_n 2, 28) := by decide +kernel
theorem eX12_asks_28 : ino mX12_asks 28 = some (.ifCond .eq 18, 46) := by decide +kernel
theorem eX12_asks_31 : ino mX12_asks 31 = some (.aload_n 0, 32) := by decide +kernel
theorem eX12_asks_32 : ino mX12_asks 32 = some (.iload_n 1, 33) := by decide +kernel
theorem eX12_asks_33 : ino mX12_asks 33 = some (.iload_n 3, 34) := by decide +kernel
theorem eX12_asks_34 : ino mX12_asks 34 = some (.invokevirtual 415, 37) := by decide +kernel
theorem eX12_asks_37 : ino mX12_asks 37 = some (.aload_n 0, 38) := by decide +kernel
theorem eX12_asks_38 : ino mX12_asks 38 = some (.iload_n 1, 39) := by decide +kernel
theorem eX12_asks_39 : ino mX12_asks 39 = some (.iload_n 2, 40) := by decide +kernel
theorem eX12_asks_40 : ino mX12_asks 40 = some (.invokevirtual 415, 43) := by decide +kernel
theorem eX12_asks_43 : ino mX12_asks 43 = some (.if_icmp .le 5, 48) := by decide +kernel
theorem eX12_asks_46 : ino mX12_asks 46 = some (.iload_n 3, 47) := by decide +kernel
theorem eX12_asks_47 : ino mX12_asks 47 = some (.istore_n 2, 48) := by decide +kernel
theorem eX12_asks_48 : ino mX12_asks 48 = some (.iinc 3 1, 51) := by decide +kernel
theorem eX12_asks_51 : ino mX12_asks 51 = some (.goto (-47), 4) := by decide +kernel
theorem eX12_asks_54 : ino mX12_asks 54 = some (.iload_n 2, 55) := by decide +kernel
theorem eX12_asks_55 : ino mX12_asks 55 = some (.ifCond .ne 5, 60) := by decide +kernel
theorem eX12_asks_58 : ino mX12_asks 58 = some (.iconst 0, 59) := by decide +kernel
theorem eX12_asks_59 : ino mX12_asks 59 = some (.ireturn, 60) := by decide +kernel
theorem eX12_asks_60 : ino mX12_asks 60 = some (.aload_n 0, 61) := by decide +kernel
theorem eX12_asks_61 : ino mX12_asks 61 = some (.getfield 86, 64) := by decide +kernel
theorem eX12_asks_64 : ino mX12_asks 64 = some (.iload_n 1, 65) := by decide +kernel
theorem eX12_asks_65 : ino mX12_asks 65 = some (.dup2, 66) := by decide +kernel
theorem eX12_asks_66 : ino mX12_asks 66 = some (.iaload, 67) := by decide +kernel
theorem eX12_asks_67 : ino mX12_asks 67 = some (.iconst 1, 68) := by decide +kernel
theorem eX12_asks_68 : ino mX12_asks 68 = some (.iload_n 2, 69) := by decide +kernel
theorem eX12_asks_69 : ino mX12_asks 69 = some (.ishl, 70) := by decide +kernel
theorem eX12_asks_70 : ino mX12_asks 70 = some (.ior, 71) := by decide +kernel
theorem eX12_asks_71 : ino mX12_asks 71 = some (.iastore, 72) := by decide +kernel
theorem eX12_asks_72 : ino mX12_asks 72 = some (.aload_n 0, 73) := by decide +kernel
theorem eX12_asks_73 : ino mX12_asks 73 = some (.iload_n 2, 74) := by decide +kernel
theorem eX12_asks_74 : ino mX12_asks 74 = some (.invokevirtual 418, 77) := by decide +kernel
theorem eX12_asks_77 : ino mX12_asks 77 = some (.istore_n 3, 78) := by decide +kernel
theorem eX12_asks_78 : ino mX12_asks 78 = some (.iload_n 3, 79) := by decide +kernel
theorem eX12_asks_79 : ino mX12_asks 79 = some (.ifCond .lt 40, 119) := by decide +kernel
theorem eX12_asks_82 : ino mX12_asks 82 = some (.aload_n 0, 83) := by decide +kernel
theorem eX12_asks_83 : ino mX12_asks 83 = some (.iload_n 2, 84) := by decide +kernel
theorem eX12_asks_84 : ino mX12_asks 84 = some (.iload_n 3, 85) := by decide +kernel
theorem eX12_asks_85 : ino mX12_asks 85 = some (.invokevirtual 421, 88) := by decide +kernel
theorem eX12_asks_88 : ino mX12_asks 88 = some (.aload_n 0, 89) := by decide +kernel
theorem eX12_asks_89 : ino mX12_asks 89 = some (.iload_n 2, 90) := by decide +kernel
theorem eX12_asks_90 : ino mX12_asks 90 = some (.iload_n 1, 91) := by decide +kernel
theorem eX12_asks_91 : ino mX12_asks 91 = some (.invokevirtual 421, 94) := by decide +kernel
theorem eX12_asks_94 : ino mX12_asks 94 = some (.if_icmp .gt 23, 117) := by decide +kernel
theorem eX12_asks_97 : ino mX12_asks 97 = some (.aload_n 0, 98) := by decide +kernel
theorem eX12_asks_98 : ino mX12_asks 98 = some (.iload_n 2, 99) := by decide +kernel
theorem eX12_asks_99 : ino mX12_asks 99 = some (.iload_n 3, 100) := by decide +kernel
theorem eX12_asks_100 : ino mX12_asks 100 = some (.invokevirtual 421, 103) := by decide +kernel
theorem eX12_asks_103 : ino mX12_asks 103 = some (.aload_n 0, 104) := by decide +kernel
theorem eX12_asks_104 : ino mX12_asks 104 = some (.iload_n 2, 105) := by decide +kernel
theorem eX12_asks_105 : ino mX12_asks 105 = some (.iload_n 1, 106) := by decide +kernel
theorem eX12_asks_106 : ino mX12_asks 106 = some (.invokevirtual 421, 109) := by decide +kernel
theorem eX12_asks_109 : ino mX12_asks 109 = some (.if_icmp .ne 10, 119) := by decide +kernel
theorem eX12_asks_112 : ino mX12_asks 112 = some (.iload_n 3, 113) := by decide +kernel
theorem eX12_asks_113 : ino mX12_asks 113 = some (.iload_n 1, 114) := by decide +kernel
theorem eX12_asks_114 : ino mX12_asks 114 = some (.if_icmp .ge 5, 119) := by decide +kernel
theorem eX12_asks_117 : ino mX12_asks 117 = some (.iconst 1, 118) := by decide +kernel
theorem eX12_asks_118 : ino mX12_asks 118 = some (.ireturn, 119) := by decide +kernel
theorem eX12_asks_119 : ino mX12_asks 119 = some (.iload_n 3, 120) := by decide +kernel
theorem eX12_asks_120 : ino mX12_asks 120 = some (.ifCond .lt 10, 130) := by decide +kernel
theorem eX12_asks_123 : ino mX12_asks 123 = some (.aload_n 0, 124) := by decide +kernel
theorem eX12_asks_124 : ino mX12_asks 124 = some (.getfield 83, 127) := by decide +kernel
theorem eX12_asks_127 : ino mX12_asks 127 = some (.iload_n 3, 128) := by decide +kernel
theorem eX12_asks_128 : ino mX12_asks 128 = some (.iconst (-1), 129) := by decide +kernel
theorem eX12_asks_129 : ino mX12_asks 129 = some (.iastore, 130) := by decide +kernel
theorem eX12_asks_130 : ino mX12_asks 130 = some (.aload_n 0, 131) := by decide +kernel
theorem eX12_asks_131 : ino mX12_asks 131 = some (.getfield 83, 134) := by decide +kernel
theorem eX12_asks_134 : ino mX12_asks 134 = some (.iload_n 1, 135) := by decide +kernel
theorem eX12_asks_135 : ino mX12_asks 135 = some (.iload_n 2, 136) := by decide +kernel
theorem eX12_asks_136 : ino mX12_asks 136 = some (.iastore, 137) := by decide +kernel
theorem eX12_asks_137 : ino mX12_asks 137 = some (.iconst 1, 138) := by decide +kernel
theorem eX12_asks_138 : ino mX12_asks 138 = some (.ireturn, 139) := by decide +kernel
theorem eX12_bargain_0 : ino mX12_bargain 0 = some (.aload_n 0, 1) := by decide +kernel
theorem eX12_bargain_1 : ino mX12_bargain 1 = some (.iconst 0, 2) := by decide +kernel
theorem eX12_bargain_2 : ino mX12_bargain 2 = some (.putfield 1, 5) := by decide +kernel
theorem eX12_bargain_5 : ino mX12_bargain 5 = some (.iconst 0, 6) := by decide +kernel
theorem eX12_bargain_6 : ino mX12_bargain 6 = some (.istore_n 1, 7) := by decide +kernel
theorem eX12_bargain_7 : ino mX12_bargain 7 = some (.iload_n 1, 8) := by decide +kernel
theorem eX12_bargain_8 : ino mX12_bargain 8 = some (.bipush 6, 10) := by decide +kernel
theorem eX12_bargain_10 : ino mX12_bargain 10 = some (.if_icmp .ge 23, 33) := by decide +kernel
theorem eX12_bargain_13 : ino mX12_bargain 13 = some (.aload_n 0, 14) := by decide +kernel
theorem eX12_bargain_14 : ino mX12_bargain 14 = some (.getfield 83, 17) := by decide +kernel
theorem eX12_bargain_17 : ino mX12_bargain 17 = some (.iload_n 1, 18) := by decide +kernel
theorem eX12_bargain_18 : ino mX12_bargain 18 = some (.iconst (-1), 19) := by decide +kernel
theorem eX12_bargain_19 : ino mX12_bargain 19 = some (.iastore, 20) := by decide +kernel
theorem eX12_bargain_20 : ino mX12_bargain 20 = some (.aload_n 0, 21) := by decide +kernel
theorem eX12_bargain_21 : ino mX12_bargain 21 = some (.getfield 86, 24) := by decide +kernel
theorem eX12_bargain_24 : ino mX12_bargain 24 = some (.iload_n 1, 25) := by decide +kernel
theorem eX12_bargain_25 : ino mX12_bargain 25 = some (.iconst 0, 26) := by decide +kernel
theorem eX12_bargain_26 : ino mX12_bargain 26 = some (.iastore, 27) := by decide +kernel
theorem eX12_bargain_27 : ino mX12_bargain 27 = some (.iinc 1 1, 30) := by decide +kernel
theorem eX12_bargain_30 : ino mX12_bargain 30 = some (.goto (-23), 7) := by decide +kernel
theorem eX12_bargain_33 : ino mX12_bargain 33 = some (.iconst 1, 34) := by decide +kernel
theorem eX12_bargain_34 : ino mX12_bargain 34 = some (.istore_n 1, 35) := by decide +kernel
theorem eX12_bargain_35 : ino mX12_bargain 35 = some (.iload_n 1, 36) := by decide +kernel
theorem eX12_bargain_36 : ino mX12_bargain 36 = some (.ifCond .eq 53, 89) := by decide +kernel
theorem eX12_bargain_39 : ino mX12_bargain 39 = some (.iconst 0, 40) := by decide +kernel
theorem eX12_bargain_40 : ino mX12_bargain 40 = some (.istore_n 1, 41) := by decide +kernel
theorem eX12_bargain_41 : ino mX12_bargain 41 = some (.iconst 0, 42) := by decide +kernel
theorem eX12_bargain_42 : ino mX12_bargain 42 = some (.istore_n 2, 43) := by decide +kernel
theorem eX12_bargain_43 : ino mX12_bargain 43 = some (.iload_n 2, 44) := by decide +kernel
theorem eX12_bargain_44 : ino mX12_bargain 44 = some (.aload_n 0, 45) := by decide +kernel
theorem eX12_bargain_45 : ino mX12_bargain 45 = some (.getfield 33, 48) := by decide +kernel
theorem eX12_bargain_48 : ino mX12_bargain 48 = some (.iconst 1, 49) := by decide +kernel
theorem eX12_bargain_49 : ino mX12_bargain 49 = some (.iaload, 50) := by decide +kernel
theorem eX12_bargain_50 : ino mX12_bargain 50 = some (.if_icmp .ge 36, 86) := by decide +kernel
theorem eX12_bargain_53 : ino mX12_bargain 53 = some (.aload_n 0, 54) := by decide +kernel
theorem eX12_bargain_54 : ino mX12_bargain 54 = some (.getfield 83, 57) := by decide +kernel
theorem eX12_bargain_57 : ino mX12_bargain 57 = some (.iload_n 2, 58) := by decide +kernel
theorem eX12_bargain_58 : ino mX12_bargain 58 = some (.iaload, 59) := by decide +kernel
theorem eX12_bargain_59 : ino mX12_bargain 59 = some (.ifCond .ge 21, 80) := by decide +kernel
theorem eX12_bargain_62 : ino mX12_bargain 62 = some (.aload_n 0, 63) := by decide +kernel
theorem eX12_bargain_63 : ino mX12_bargain 63 = some (.iload_n 2, 64) := by decide +kernel
theorem eX12_bargain_64 : ino mX12_bargain 64 = some (.invokevirtual 328, 67) := by decide +kernel
theorem eX12_bargain_67 : ino mX12_bargain 67 = some (.ifCond .ne 13, 80) := by decide +kernel
theorem eX12_bargain_70 : ino mX12_bargain 70 = some (.aload_n 0, 71) := by decide +kernel
theorem eX12_bargain_71 : ino mX12_bargain 71 = some (.iload_n 2, 72) := by decide +kernel
theorem eX12_bargain_72 : ino mX12_bargain 72 = some (.invokevirtual 424, 75) := by decide +kernel
theorem eX12_bargain_75 : ino mX12_bargain 75 = some (.ifCond .eq 5, 80) := by decide +kernel
theorem eX12_bargain_78 : ino mX12_bargain 78 = some (.iconst 1, 79) := by decide +kernel
theorem eX12_bargain_79 : ino mX12_bargain 79 = some (.istore_n 1, 80) := by decide +kernel
theorem eX12_bargain_80 : ino mX12_bargain 80 = some (.iinc 2 1, 83) := by decide +kernel
theorem eX12_bargain_83 : ino mX12_bargain 83 = some (.goto (-40), 43) := by decide +kernel
theorem eX12_bargain_86 : ino mX12_bargain 86 = some (.goto (-51), 35) := by decide +kernel
theorem eX12_bargain_89 : ino mX12_bargain 89 = some (.aload_n 0, 90) := by decide +kernel
theorem eX12_bargain_90 : ino mX12_bargain 90 = some (.aload_n 0, 91) := by decide +kernel
theorem eX12_bargain_91 : ino mX12_bargain 91 = some (.getfield 33, 94) := by decide +kernel
theorem eX12_bargain_94 : ino mX12_bargain 94 = some (.iconst 1, 95) := by decide +kernel
theorem eX12_bargain_95 : ino mX12_bargain 95 = some (.iaload, 96) := by decide +kernel
theorem eX12_bargain_96 : ino mX12_bargain 96 = some (.putfield 89, 99) := by decide +kernel
theorem eX12_bargain_99 : ino mX12_bargain 99 = some (.iconst 0, 100) := by decide +kernel
theorem eX12_bargain_100 : ino mX12_bargain 100 = some (.istore_n 2, 101) := by decide +kernel
theorem eX12_bargain_101 : ino mX12_bargain 101 = some (.iconst 0, 102) := by decide +kernel
theorem eX12_bargain_102 : ino mX12_bargain 102 = some (.istore_n 3, 103) := by decide +kernel
theorem eX12_bargain_103 : ino mX12_bargain 103 = some (.iload_n 3, 104) := by decide +kernel
theorem eX12_bargain_104 : ino mX12_bargain 104 = some (.aload_n 0, 105) := by decide +kernel
theorem eX12_bargain_105 : ino mX12_bargain 105 = some (.getfield 89, 108) := by decide +kernel
theorem eX12_bargain_108 : ino mX12_bargain 108 = some (.if_icmp .ge 26, 134) := by decide +kernel
theorem eX12_bargain_111 : ino mX12_bargain 111 = some (.iload_n 2, 112) := by decide +kernel
theorem eX12_bargain_112 : ino mX12_bargain 112 = some (.aload_n 0, 113) := by decide +kernel
theorem eX12_bargain_113 : ino mX12_bargain 113 = some (.getfield 83, 116) := by decide +kernel
theorem eX12_bargain_116 : ino mX12_bargain 116 = some (.iload_n 3, 117) := by decide +kernel
theorem eX12_bargain_117 : ino mX12_bargain 117 = some (.iaload, 118) := by decide +kernel
theorem eX12_bargain_118 : ino mX12_bargain 118 = some (.ifCond .le 7, 125) := by decide +kernel
theorem eX12_bargain_121 : ino mX12_bargain 121 = some (.iconst 1, 122) := by decide +kernel
theorem eX12_bargain_122 : ino mX12_bargain 122 = some (.goto 4, 126) := by decide +kernel
theorem eX12_bargain_125 : ino mX12_bargain 125 = some (.iconst 0, 126) := by decide +kernel
theorem eX12_bargain_126 : ino mX12_bargain 126 = some (.iadd, 127) := by decide +kernel
theorem eX12_bargain_127 : ino mX12_bargain 127 = some (.istore_n 2, 128) := by decide +kernel
theorem eX12_bargain_128 : ino mX12_bargain 128 = some (.iinc 3 1, 131) := by decide +kernel
theorem eX12_bargain_131 : ino mX12_bargain 131 = some (.goto (-28), 103) := by decide +kernel
theorem eX12_bargain_134 : ino mX12_bargain 134 = some (.iload_n 2, 135) := by decide +kernel
theorem eX12_bargain_135 : ino mX12_bargain 135 = some (.ireturn, 136) := by decide +kernel
theorem eX12_bargained_0 : ino mX12_bargained 0 = some (.aload_n 0, 1) := by decide +kernel
theorem eX12_bargained_1 : ino mX12_bargained 1 = some (.iconst 0, 2) := by decide +kernel
theorem eX12_bargained_2 : ino mX12_bargained 2 = some (.putfield 1, 5) := by decide +kernel
theorem eX12_bargained_5 : ino mX12_bargained 5 = some (.iload_n 1, 6) := by decide +kernel
theorem eX12_bargained_6 : ino mX12_bargained 6 = some (.iconst 0, 7) := by decide +kernel
theorem eX12_bargained_7 : ino mX12_bargained 7 = some (.aload_n 0, 8) := by decide +kernel
theorem eX12_bargained_8 : ino mX12_bargained 8 = some (.getfield 89, 11) := by decide +kernel
theorem eX12_bargained_11 : ino mX12_bargained 11 = some (.iconst 1, 12) := by decide +kernel
theorem eX12_bargained_12 : ino mX12_bargained 12 = some (.isub, 13) := by decide +kernel
theorem eX12_bargained_13 : ino mX12_bargained 13 = some (.invokestatic 221, 16) := by decide +kernel
theorem eX12_bargained_16 : ino mX12_bargained 16 = some (.ifCond .eq 12, 28) := by decide +kernel
theorem eX12_bargained_19 : ino mX12_bargained 19 = some (.aload_n 0, 20) := by decide +kernel
theorem eX12_bargained_20 : ino mX12_bargained 20 = some (.getfield 83, 23) := by decide +kernel
theorem eX12_bargained_23 : ino mX12_bargained 23 = some (.iload_n 1, 24) := by decide +kernel
theorem eX12_bargained_24 : ino mX12_bargained 24 = some (.iaload, 25) := by decide +kernel
theorem eX12_bargained_25 : ino mX12_bargained 25 = some (.goto 4, 29) := by decide +kernel
theorem eX12_bargained_28 : ino mX12_bargained 28 = some (.iconst (-1), 29) := by decide +kernel
theorem eX12_bargained_29 : ino mX12_bargained 29 = some (.ireturn, 30) := by decide +kernel
theorem eX12_lays_0 : ino mX12_lays 0 = some (.aload_n 0, 1) := by decide +kernel
theorem eX12_lays_1 : ino mX12_lays 1 = some (.getfield 92, 4) := by decide +kernel
theorem eX12_lays_4 : ino mX12_lays 4 = some (.aload_n 0, 5) := by decide +kernel
theorem eX12_lays_5 : ino mX12_lays 5 = some (.getfield 427, 8) := by decide +kernel
theorem eX12_lays_8 : ino mX12_lays 8 = some (.iload_n 1, 9) := by decide +kernel
theorem eX12_lays_9 : ino mX12_lays 9 = some (.i2b, 10) := by decide +kernel
theorem eX12_lays_10 : ino mX12_lays 10 = some (.bastore, 11) := by decide +kernel
theorem eX12_lays_11 : ino mX12_lays 11 = some (.aload_n 0, 12) := by decide +kernel
theorem eX12_lays_12 : ino mX12_lays 12 = some (.dup, 13) := by decide +kernel
theorem eX12_lays_13 : ino mX12_lays 13 = some (.getfield 427, 16) := by decide +kernel
theorem eX12_lays_16 : ino mX12_lays 16 = some (.iconst 1, 17) := by decide +kernel
theorem eX12_lays_17 : ino mX12_lays 17 = some (.iadd, 18) := by decide +kernel
theorem eX12_lays_18 : ino mX12_lays 18 = some (.putfield 427, 21) := by decide +kernel
theorem eX12_lays_21 : ino mX12_lays 21 = some (.return_, 22) := by decide +kernel
theorem eX12_spells_0 : ino mX12_spells 0 = some (.bipush 56, 2) := by decide +kernel
theorem eX12_spells_2 : ino mX12_spells 2 = some (.istore_n 3, 3) := by decide +kernel
theorem eX12_spells_3 : ino mX12_spells 3 = some (.iload_n 3, 4) := by decide +kernel
theorem eX12_spells_4 : ino mX12_spells 4 = some (.ifCond .lt 33, 37) := by decide +kernel
theorem eX12_spells_7 : ino mX12_spells 7 = some (.lload_n 1, 8) := by decide +kernel
theorem eX12_spells_8 : ino mX12_spells 8 = some (.iload_n 3, 9) := by decide +kernel
theorem eX12_spells_9 : ino mX12_spells 9 = some (.lshr, 10) := by decide +kernel
theorem eX12_spells_10 : ino mX12_spells 10 = some (.ldc2_w 430, 13) := by decide +kernel
theorem eX12_spells_13 : ino mX12_spells 13 = some (.land, 14) := by decide +kernel
theorem eX12_spells_14 : ino mX12_spells 14 = some (.lconst 0, 15) := by decide +kernel
theorem eX12_spells_15 : ino mX12_spells 15 = some (.lcmp, 16) := by decide +kernel
theorem eX12_spells_16 : ino mX12_spells 16 = some (.ifCond .eq 15, 31) := by decide +kernel
theorem eX12_spells_19 : ino mX12_spells 19 = some (.aload_n 0, 20) := by decide +kernel
theorem eX12_spells_20 : ino mX12_spells 20 = some (.lload_n 1, 21) := by decide +kernel
theorem eX12_spells_21 : ino mX12_spells 21 = some (.iload_n 3, 22) := by decide +kernel
theorem eX12_spells_22 : ino mX12_spells 22 = some (.lshr, 23) := by decide +kernel
theorem eX12_spells_23 : ino mX12_spells 23 = some (.ldc2_w 430, 26) := by decide +kernel
theorem eX12_spells_26 : ino mX12_spells 26 = some (.land, 27) := by decide +kernel
theorem eX12_spells_27 : ino mX12_spells 27 = some (.l2i, 28) := by decide +kernel
theorem eX12_spells_28 : ino mX12_spells 28 = some (.invokevirtual 432, 31) := by decide +kernel
theorem eX12_spells_31 : ino mX12_spells 31 = some (.iinc 3 (-8), 34) := by decide +kernel
theorem eX12_spells_34 : ino mX12_spells 34 = some (.goto (-31), 3) := by decide +kernel
theorem eX12_spells_37 : ino mX12_spells 37 = some (.return_, 38) := by decide +kernel
theorem eX12_says_0 : ino mX12_says 0 = some (.aload_n 0, 1) := by decide +kernel
theorem eX12_says_1 : ino mX12_says 1 = some (.bipush 32, 3) := by decide +kernel
theorem eX12_says_3 : ino mX12_says 3 = some (.invokevirtual 432, 6) := by decide +kernel
theorem eX12_says_6 : ino mX12_says 6 = some (.aload_n 0, 7) := by decide +kernel
theorem eX12_says_7 : ino mX12_says 7 = some (.lload_n 1, 8) := by decide +kernel
theorem eX12_says_8 : ino mX12_says 8 = some (.invokevirtual 435, 11) := by decide +kernel
theorem eX12_says_11 : ino mX12_says 11 = some (.return_, 12) := by decide +kernel
theorem eX12_cover_0 : ino mX12_cover 0 = some (.aload_n 0, 1) := by decide +kernel
theorem eX12_cover_1 : ino mX12_cover 1 = some (.iconst 0, 2) := by decide +kernel
theorem eX12_cover_2 : ino mX12_cover 2 = some (.putfield 1, 5) := by decide +kernel
theorem eX12_cover_5 : ino mX12_cover 5 = some (.aload_n 0, 6) := by decide +kernel
theorem eX12_cover_6 : ino mX12_cover 6 = some (.iload_n 1, 7) := by decide +kernel
theorem eX12_cover_7 : ino mX12_cover 7 = some (.invokevirtual 306, 10) := by decide +kernel
theorem eX12_cover_10 : ino mX12_cover 10 = some (.ifCond .ne 5, 15) := by decide +kernel
theorem eX12_cover_13 : ino mX12_cover 13 = some (.iconst (-1), 14) := by decide +kernel
theorem eX12_cover_14 : ino mX12_cover 14 = some (.ireturn, 15) := by decide +kernel
theorem eX12_cover_15 : ino mX12_cover 15 = some (.aload_n 0, 16) := by decide +kernel
theorem eX12_cover_16 : ino mX12_cover 16 = some (.iconst 0, 17) := by decide +kernel
theorem eX12_cover_17 : ino mX12_cover 17 = some (.putfield 427, 20) := by decide +kernel
theorem eX12_cover_20 : ino mX12_cover 20 = some (.aload_n 0, 21) := by decide +kernel
theorem eX12_cover_21 : ino mX12_cover 21 = some (.aload_n 0, 22) := by decide +kernel
theorem eX12_cover_22 : ino mX12_cover 22 = some (.getfield 43, 25) := by decide +kernel
theorem eX12_cover_25 : ino mX12_cover 25 = some (.bipush 8, 27) := by decide +kernel
theorem eX12_cover_27 : ino mX12_cover 27 = some (.iload_n 1, 28) := by decide +kernel
theorem eX12_cover_28 : ino mX12_cover 28 = some (.iadd, 29) := by decide +kernel
theorem eX12_cover_29 : ino mX12_cover 29 = some (.laload, 30) := by decide +kernel
theorem eX12_cover_30 : ino mX12_cover 30 = some (.invokevirtual 435, 33) := by decide +kernel
theorem eX12_cover_33 : ino mX12_cover 33 = some (.aload_n 0, 34) := by decide +kernel
theorem eX12_cover_34 : ino mX12_cover 34 = some (.iload_n 1, 35) := by decide +kernel
theorem eX12_cover_35 : ino mX12_cover 35 = some (.invokevirtual 328, 38) := by decide +kernel
theorem eX12_cover_38 : ino mX12_cover 38 = some (.ifCond .eq 15, 53) := by decide +kernel
theorem eX12_cover_41 : ino mX12_cover 41 = some (.aload_n 0, 42) := by decide +kernel
theorem eX12_cover_42 : ino mX12_cover 42 = some (.ldc2_w 158, 45) := by decide +kernel
theorem eX12_cover_45 : ino mX12_cover 45 = some (.invokevirtual 439, 48) := by decide +kernel
theorem eX12_cover_48 : ino mX12_cover 48 = some (.aload_n 0, 49) := by decide +kernel
theorem eX12_cover_49 : ino mX12_cover 49 = some (.getfield 427, 52) := by decide +kernel
theorem eX12_cover_52 : ino mX12_cover 52 = some (.ireturn, 53) := by decide +kernel
theorem eX12_cover_53 : ino mX12_cover 53 = some (.aload_n 0, 54) := by decide +kernel
theorem eX12_cover_54 : ino mX12_cover 54 = some (.getfield 33, 57) := by decide +kernel
theorem eX12_cover_57 : ino mX12_cover 57 = some (.bipush 90, 59) := by decide +kernel
theorem eX12_cover_59 : ino mX12_cover 59 = some (.iload_n 1, 60) := by decide +kernel
theorem eX12_cover_60 : ino mX12_cover 60 = some (.iadd, 61) := by decide +kernel
theorem eX12_cover_61 : ino mX12_cover 61 = some (.iaload, 62) := by decide +kernel
theorem eX12_cover_62 : ino mX12_cover 62 = some (.ifCond .ne 20, 82) := by decide +kernel
theorem eX12_cover_65 : ino mX12_cover 65 = some (.aload_n 0, 66) := by decide +kernel
theorem eX12_cover_66 : ino mX12_cover 66 = some (.ldc2_w 442, 69) := by decide +kernel
theorem eX12_cover_69 : ino mX12_cover 69 = some (.invokevirtual 439, 72) := by decide +kernel
theorem eX12_cover_72 : ino mX12_cover 72 = some (.aload_n 0, 73) := by decide +kernel
theorem eX12_cover_73 : ino mX12_cover 73 = some (.ldc2_w 140, 76) := by decide +kernel
theorem eX12_cover_76 : ino mX12_cover 76 = some (.invokevirtual 439, 79) := by decide +kernel
theorem eX12_cover_79 : ino mX12_cover 79 = some (.goto 30, 109) := by decide +kernel
theorem eX12_cover_82 : ino mX12_cover 82 = some (.aload_n 0, 83) := by decide +kernel
theorem eX12_cover_83 : ino mX12_cover 83 = some (.ldc2_w 164, 86) := by decide +kernel
theorem eX12_cover_86 : ino mX12_cover 86 = some (.invokevirtual 439, 89) := by decide +kernel
theorem eX12_cover_89 : ino mX12_cover 89 = some (.aload_n 0, 90) := by decide +kernel
theorem eX12_cover_90 : ino mX12_cover 90 = some (.aload_n 0, 91) := by decide +kernel
theorem eX12_cover_91 : ino mX12_cover 91 = some (.getfield 43, 94) := by decide +kernel
theorem eX12_cover_94 : ino mX12_cover 94 = some (.aload_n 0, 95) := by decide +kernel
theorem eX12_cover_95 : ino mX12_cover 95 = some (.getfield 33, 98) := by decide +kernel
theorem eX12_cover_98 : ino mX12_cover 98 = some (.bipush 90, 100) := by decide +kernel
theorem eX12_cover_100 : ino mX12_cover 100 = some (.iload_n 1, 101) := by decide +kernel
theorem eX12_cover_101 : ino mX12_cover 101 = some (.iadd, 102) := by decide +kernel
theorem eX12_cover_102 : ino mX12_cover 102 = some (.iaload, 103) := by decide +kernel
theorem eX12_cover_103 : ino mX12_cover 103 = some (.iconst 1, 104) := by decide +kernel
theorem eX12_cover_104 : ino mX12_cover 104 = some (.isub, 105) := by decide +kernel
theorem eX12_cover_105 : ino mX12_cover 105 = some (.laload, 106) := by decide +kernel
theorem eX12_cover_106 : ino mX12_cover 106 = some (.invokevirtual 439, 109) := by decide +kernel
theorem eX12_cover_109 : ino mX12_cover 109 = some (.aload_n 0, 110) := by decide +kernel
theorem eX12_cover_110 : ino mX12_cover 110 = some (.aload_n 0, 111) := by decide +kernel
theorem eX12_cover_111 : ino mX12_cover 111 = some (.iload_n 1, 112) := by decide +kernel
theorem eX12_cover_112 : ino mX12_cover 112 = some (.invokevirtual 313, 115) := by decide +kernel
theorem eX12_cover_115 : ino mX12_cover 115 = some (.ifCond .ne 9, 124) := by decide +kernel
theorem eX12_cover_118 : ino mX12_cover 118 = some (.ldc2_w 160, 121) := by decide +kernel
theorem eX12_cover_121 : ino mX12_cover 121 = some (.goto 6, 127) := by decide +kernel
theorem eX12_cover_124 : ino mX12_cover 124 = some (.ldc2_w 166, 127) := by decide +kernel
theorem eX12_cover_127 : ino mX12_cover 127 = some (.invokevirtual 439, 130) := by decide +kernel
theorem eX12_cover_130 : ino mX12_cover 130 = some (.iconst 0, 131) := by decide +kernel
theorem eX12_cover_131 : ino mX12_cover 131 = some (.istore_n 2, 132) := by decide +kernel
theorem eX12_cover_132 : ino mX12_cover 132 = some (.iload_n 2, 133) := by decide +kernel
theorem eX12_cover_133 : ino mX12_cover 133 = some (.iconst 4, 134) := by decide +kernel
theorem eX12_cover_134 : ino mX12_cover 134 = some (.if_icmp .ge 34, 168) := by decide +kernel
theorem eX12_cover_137 : ino mX12_cover 137 = some (.aload_n 0, 138) := by decide +kernel
theorem eX12_cover_138 : ino mX12_cover 138 = some (.iload_n 1, 139) := by decide +kernel
theorem eX12_cover_139 : ino mX12_cover 139 = some (.invokevirtual 313, 142) := by decide +kernel
theorem eX12_cover_142 : ino mX12_cover 142 = some (.iload_n 2, 143) := by decide +kernel
theorem eX12_cover_143 : ino mX12_cover 143 = some (.invokestatic 256, 146) := by decide +kernel
theorem eX12_cover_146 : ino mX12_cover 146 = some (.ifCond .eq 16, 162) := by decide +kernel
theorem eX12_cover_149 : ino mX12_cover 149 = some (.aload_n 0, 150) := by decide +kernel
theorem eX12_cover_150 : ino mX12_cover 150 = some (.aload_n 0, 151) := by decide +kernel
theorem eX12_cover_151 : ino mX12_cover 151 = some (.getfield 47, 154) := by decide +kernel
theorem eX12_cover_154 : ino mX12_cover 154 = some (.bipush 8, 156) := by decide +kernel
theorem eX12_cover_156 : ino mX12_cover 156 = some (.iload_n 2, 157) := by decide +kernel
theorem eX12_cover_157 : ino mX12_cover 157 = some (.iadd, 158) := by decide +kernel
theorem eX12_cover_158 : ino mX12_cover 158 = some (.laload, 159) := by decide +kernel
theorem eX12_cover_159 : ino mX12_cover 159 = some (.invokevirtual 439, 162) := by decide +kernel
theorem eX12_cover_162 : ino mX12_cover 162 = some (.iinc 2 1, 165) := by decide +kernel
theorem eX12_cover_165 : ino mX12_cover 165 = some (.goto (-33), 132) := by decide +kernel
theorem eX12_cover_168 : ino mX12_cover 168 = some (.aload_n 0, 169) := by decide +kernel
theorem eX12_cover_169 : ino mX12_cover 169 = some (.getfield 427, 172) := by decide +kernel
theorem eX12_cover_172 : ino mX12_cover 172 = some (.ireturn, 173) := by decide +kernel
theorem eX12_byteAt_0 : ino mX12_byteAt 0 = some (.aload_n 0, 1) := by decide +kernel
theorem eX12_byteAt_1 : ino mX12_byteAt 1 = some (.iconst 0, 2) := by decide +kernel
theorem eX12_byteAt_2 : ino mX12_byteAt 2 = some (.putfield 1, 5) := by decide +kernel
theorem eX12_byteAt_5 : ino mX12_byteAt 5 = some (.iload_n 1, 6) := by decide +kernel
theorem eX12_byteAt_6 : ino mX12_byteAt 6 = some (.iconst 0, 7) := by decide +kernel
theorem eX12_byteAt_7 : ino mX12_byteAt 7 = some (.aload_n 0, 8) := by decide +kernel
theorem eX12_byteAt_8 : ino mX12_byteAt 8 = some (.getfield 427, 11) := by decide +kernel
theorem eX12_byteAt_11 : ino mX12_byteAt 11 = some (.iconst 1, 12) := by decide +kernel
theorem eX12_byteAt_12 : ino mX12_byteAt 12 = some (.isub, 13) := by decide +kernel
theorem eX12_byteAt_13 : ino mX12_byteAt 13 = some (.invokestatic 221, 16) := by decide +kernel
theorem eX12_byteAt_16 : ino mX12_byteAt 16 = some (.ifCond .eq 12, 28) := by decide +kernel
theorem eX12_byteAt_19 : ino mX12_byteAt 19 = some (.aload_n 0, 20) := by decide +kernel
theorem eX12_byteAt_20 : ino mX12_byteAt 20 = some (.getfield 92, 23) := by decide +kernel
theorem eX12_byteAt_23 : ino mX12_byteAt 23 = some (.iload_n 1, 24) := by decide +kernel
theorem eX12_byteAt_24 : ino mX12_byteAt 24 = some (.baload, 25) := by decide +kernel
theorem eX12_byteAt_25 : ino mX12_byteAt 25 = some (.goto 4, 29) := by decide +kernel
theorem eX12_byteAt_28 : ino mX12_byteAt 28 = some (.iconst (-1), 29) := by decide +kernel
theorem eX12_byteAt_29 : ino mX12_byteAt 29 = some (.ireturn, 30) := by decide +kernel
theorem eX12_draw_0 : ino mX12_draw 0 = some (.aload_n 0, 1) := by decide +kernel
theorem eX12_draw_1 : ino mX12_draw 1 = some (.aload_n 0, 2) := by decide +kernel
theorem eX12_draw_2 : ino mX12_draw 2 = some (.getfield 444, 5) := by decide +kernel
theorem eX12_draw_5 : ino mX12_draw 5 = some (.ldc_w 447, 8) := by decide +kernel
theorem eX12_draw_8 : ino mX12_draw 8 = some (.imul, 9) := by decide +kernel
theorem eX12_draw_9 : ino mX12_draw 9 = some (.sipush 12345, 12) := by decide +kernel
theorem eX12_draw_12 : ino mX12_draw 12 = some (.iadd, 13) := by decide +kernel
theorem eX12_draw_13 : ino mX12_draw 13 = some (.putfield 444, 16) := by decide +kernel
theorem eX12_draw_16 : ino mX12_draw 16 = some (.aload_n 0, 17) := by decide +kernel
theorem eX12_draw_17 : ino mX12_draw 17 = some (.getfield 444, 20) := by decide +kernel
theorem eX12_draw_20 : ino mX12_draw 20 = some (.bipush 8, 22) := by decide +kernel
theorem eX12_draw_22 : ino mX12_draw 22 = some (.iushr, 23) := by decide +kernel
theorem eX12_draw_23 : ino mX12_draw 23 = some (.iload_n 1, 24) := by decide +kernel
theorem eX12_draw_24 : ino mX12_draw 24 = some (.irem, 25) := by decide +kernel
theorem eX12_draw_25 : ino mX12_draw 25 = some (.ireturn, 26) := by decide +kernel
theorem eX12_draws_0 : ino mX12_draws 0 = some (.aload_n 0, 1) := by decide +kernel
theorem eX12_draws_1 : ino mX12_draws 1 = some (.iload_n 2, 2) := by decide +kernel
theorem eX12_draws_2 : ino mX12_draws 2 = some (.putfield 444, 5) := by decide +kernel
theorem eX12_draws_5 : ino mX12_draws 5 = some (.iconst 0, 6) := by decide +kernel
theorem eX12_draws_6 : ino mX12_draws 6 = some (.istore_n 3, 7) := by decide +kernel
theorem eX12_draws_7 : ino mX12_draws 7 = some (.iload_n 3, 8) := by decide +kernel
theorem eX12_draws_8 : ino mX12_draws 8 = some (.iload_n 1, 9) := by decide +kernel
theorem eX12_draws_9 : ino mX12_draws 9 = some (.if_icmp .ge 138, 147) := by decide +kernel
theorem eX12_draws_12 : ino mX12_draws 12 = some (.aload_n 0, 13) := by decide +kernel
theorem eX12_draws_13 : ino mX12_draws 13 = some (.getfield 33, 16) := by decide +kernel
theorem eX12_draws_16 : ino mX12_draws 16 = some (.bipush 85, 18) := by decide +kernel
theorem eX12_draws_18 : ino mX12_draws 18 = some (.iaload, 19) := by decide +kernel
theorem eX12_draws_19 : ino mX12_draws 19 = some (.sipush 400, 22) := by decide +kernel
theorem eX12_draws_22 : ino mX12_draws 22 = some (.if_icmp .ge 125, 147) := by decide +kernel
theorem eX12_draws_25 : ino mX12_draws 25 = some (.iconst 0, 26) := by decide +kernel
theorem eX12_draws_26 : ino mX12_draws 26 = some (.istore 4, 28) := by decide +kernel
theorem eX12_draws_28 : ino mX12_draws 28 = some (.iload 4, 30) := by decide +kernel
theorem eX12_draws_30 : ino mX12_draws 30 = some (.aload_n 0, 31) := by decide +kernel
theorem eX12_draws_31 : ino mX12_draws 31 = some (.getfield 33, 34) := by decide +kernel
theorem eX12_draws_34 : ino mX12_draws 34 = some (.iconst 1, 35) := by decide +kernel
theorem eX12_draws_35 : ino mX12_draws 35 = some (.iaload, 36) := by decide +kernel
theorem eX12_draws_36 : ino mX12_draws 36 = some (.if_icmp .ge 101, 137) := by decide +kernel
theorem eX12_draws_39 : ino mX12_draws 39 = some (.aload_n 0, 40) := by decide +kernel
theorem eX12_draws_40 : ino mX12_draws 40 = some (.iload 4, 42) := by decide +kernel
theorem eX12_draws_42 : ino mX12_draws 42 = some (.invokevirtual 328, 45) := by decide +kernel
theorem eX12_draws_45 : ino mX12_draws 45 = some (.ifCond .eq 6, 51) := by decide +kernel
theorem eX12_draws_48 : ino mX12_draws 48 = some (.goto 83, 131) := by decide +kernel
theorem eX12_draws_51 : ino mX12_draws 51 = some (.aload_n 0, 52) := by decide +kernel
theorem eX12_draws_52 : ino mX12_draws 52 = some (.iconst 4, 53) := by decide +kernel
theorem eX12_draws_53 : ino mX12_draws 53 = some (.invokevirtual 448, 56) := by decide +kernel
theorem eX12_draws_56 : ino mX12_draws 56 = some (.istore 5, 58) := by decide +kernel
theorem eX12_draws_58 : ino mX12_draws 58 = some (.iload 5, 60) := by decide +kernel
theorem eX12_draws_60 : ino mX12_draws 60 = some (.ifCond .ne 18, 78) := by decide +kernel
theorem eX12_draws_63 : ino mX12_draws 63 = some (.aload_n 0, 64) := by decide +kernel
theorem eX12_draws_64 : ino mX12_draws 64 = some (.aload_n 0, 65) := by decide +kernel
theorem eX12_draws_65 : ino mX12_draws 65 = some (.getfield 33, 68) := by decide +kernel
theorem eX12_draws_68 : ino mX12_draws 68 = some (.iconst 0, 69) := by decide +kernel
theorem eX12_draws_69 : ino mX12_draws 69 = some (.iaload, 70) := by decide +kernel
theorem eX12_draws_70 : ino mX12_draws 70 = some (.iconst 1, 71) := by decide +kernel
theorem eX12_draws_71 : ino mX12_draws 71 = some (.iadd, 72) := by decide +kernel
theorem eX12_draws_72 : ino mX12_draws 72 = some (.invokevirtual 448, 75) := by decide +kernel
theorem eX12_draws_75 : ino mX12_draws 75 = some (.goto 4, 79) := by decide +kernel
theorem eX12_draws_78 : ino mX12_draws 78 = some (.iconst 0, 79) := by decide +kernel
theorem eX12_draws_79 : ino mX12_draws 79 = some (.istore 6, 81) := by decide +kernel
theorem eX12_draws_81 : ino mX12_draws 81 = some (.iload 5, 83) := by decide +kernel
theorem eX12_draws_83 : ino mX12_draws 83 = some (.ifCond .ne 22, 105) := by decide +kernel
theorem eX12_draws_86 : ino mX12_draws 86 = some (.aload_n 0, 87) := by decide +kernel
theorem eX12_draws_87 : ino mX12_draws 87 = some (.iload 4, 89) := by decide +kernel
theorem eX12_draws_89 : ino mX12_draws 89 = some (.iload 6, 91) := by decide +kernel
theorem eX12_draws_91 : ino mX12_draws 91 = some (.invokevirtual 351, 94) := by decide +kernel
theorem eX12_draws_94 : ino mX12_draws 94 = some (.ifCond .ne 11, 105) := by decide +kernel
theorem eX12_draws_97 : ino mX12_draws 97 = some (.aload_n 0, 98) := by decide +kernel
theorem eX12_draws_98 : ino mX12_draws 98 = some (.iload 4, 100) := by decide +kernel
theorem eX12_draws_100 : ino mX12_draws 100 = some (.iload 6, 102) := by decide +kernel
theorem eX12_draws_102 : ino mX12_draws 102 = some (.invokevirtual 357, 105) := by decide +kernel
theorem eX12_draws_105 : ino mX12_draws 105 = some (.iload 5, 107) := by decide +kernel
theorem eX12_draws_107 : ino mX12_draws 107 = some (.iconst 1, 108) := by decide +kernel
theorem eX12_draws_108 : ino mX12_draws 108 = some (.if_icmp .ne 23, 131) := by decide +kernel
theorem eX12_draws_111 : ino mX12_draws 111 = some (.aload_n 0, 112) := by decide +kernel
theorem eX12_draws_112 : ino mX12_draws 112 = some (.iload 4, 114) := by decide +kernel
theorem eX12_draws_114 : ino mX12_draws 114 = some (.invokevirtual 363, 117) := by decide +kernel
theorem eX12_draws_117 : ino mX12_draws 117 = some (.ifCond .ne 14, 131) := by decide +kernel
theorem eX12_draws_120 : ino mX12_draws 120 = some (.aload_n 0, 121) := by decide +kernel
theorem eX12_draws_121 : ino mX12_draws 121 = some (.getfield 33, 124) := by decide +kernel
theorem eX12_draws_124 : ino mX12_draws 124 = some (.bipush 90, 126) := by decide +kernel
theorem eX12_draws_126 : ino mX12_draws 126 = some (.iload 4, 128) := by decide +kernel
theorem eX12_draws_128 : ino mX12_draws 128 = some (.iadd, 129) := by decide +kernel
theorem eX12_draws_129 : ino mX12_draws 129 = some (.iconst (-1), 130) := by decide +kernel
theorem eX12_draws_130 : ino mX12_draws 130 = some (.iastore, 131) := by decide +kernel
theorem eX12_draws_131 : ino mX12_draws 131 = some (.iinc 4 1, 134) := by decide +kernel
theorem eX12_draws_134 : ino mX12_draws 134 = some (.goto (-106), 28) := by decide +kernel
theorem eX12_draws_137 : ino mX12_draws 137 = some (.aload_n 0, 138) := by decide +kernel
theorem eX12_draws_138 : ino mX12_draws 138 = some (.invokevirtual 348, 141) := by decide +kernel
theorem eX12_draws_141 : ino mX12_draws 141 = some (.iinc 3 1, 144) := by decide +kernel
theorem eX12_draws_144 : ino mX12_draws 144 = some (.goto (-137), 7) := by decide +kernel
theorem eX12_draws_147 : ino mX12_draws 147 = some (.iload_n 3, 148) := by decide +kernel
theorem eX12_draws_148 : ino mX12_draws 148 = some (.ireturn, 149) := by decide +kernel
theorem eX12_drawn_0 : ino mX12_drawn 0 = some (.aload_n 0, 1) := by decide +kernel
theorem eX12_drawn_1 : ino mX12_drawn 1 = some (.iconst 0, 2) := by decide +kernel
theorem eX12_drawn_2 : ino mX12_drawn 2 = some (.putfield 1, 5) := by decide +kernel
theorem eX12_drawn_5 : ino mX12_drawn 5 = some (.iload_n 1, 6) := by decide +kernel
theorem eX12_drawn_6 : ino mX12_drawn 6 = some (.iconst 1, 7) := by decide +kernel
theorem eX12_drawn_7 : ino mX12_drawn 7 = some (.bipush 60, 9) := by decide +kernel
theorem eX12_drawn_9 : ino mX12_drawn 9 = some (.invokestatic 221, 12) := by decide +kernel
theorem eX12_drawn_12 : ino mX12_drawn 12 = some (.ifCond .ne 5, 17) := by decide +kernel
theorem eX12_drawn_15 : ino mX12_drawn 15 = some (.iconst (-1), 16) := by decide +kernel
theorem eX12_drawn_16 : ino mX12_drawn 16 = some (.ireturn, 17) := by decide +kernel
theorem eX12_drawn_17 : ino mX12_drawn 17 = some (.aload_n 0, 18) := by decide +kernel
theorem eX12_drawn_18 : ino mX12_drawn 18 = some (.getfield 33, 21) := by decide +kernel
theorem eX12_drawn_21 : ino mX12_drawn 21 = some (.bipush 85, 23) := by decide +kernel
theorem eX12_drawn_23 : ino mX12_drawn 23 = some (.iaload, 24) := by decide +kernel
theorem eX12_drawn_24 : ino mX12_drawn 24 = some (.sipush 400, 27) := by decide +kernel
theorem eX12_drawn_27 : ino mX12_drawn 27 = some (.if_icmp .ge 7, 34) := by decide +kernel
theorem eX12_drawn_30 : ino mX12_drawn 30 = some (.aload_n 0, 31) := by decide +kernel
theorem eX12_drawn_31 : ino mX12_drawn 31 = some (.invokevirtual 354, 34) := by decide +kernel
theorem eX12_drawn_34 : ino mX12_drawn 34 = some (.aload_n 0, 35) := by decide +kernel
theorem eX12_drawn_35 : ino mX12_drawn 35 = some (.iload_n 1, 36) := by decide +kernel
theorem eX12_drawn_36 : ino mX12_drawn 36 = some (.iload_n 2, 37) := by decide +kernel
theorem eX12_drawn_37 : ino mX12_drawn 37 = some (.invokevirtual 451, 40) := by decide +kernel
theorem eX12_drawn_40 : ino mX12_drawn 40 = some (.ireturn, 41) := by decide +kernel
