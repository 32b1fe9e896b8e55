theorem eX11_plan_0 : ino mX11_plan 0 = some (.aload_n 0, 1) := by decide +kernel
theorem eX11_plan_1 : ino mX11_plan 1 = some (.iload_n 1, 2) := by decide +kernel
theorem eX11_plan_2 : ino mX11_plan 2 = some (.invokevirtual 151, 5) := by decide +kernel
theorem eX11_plan_5 : ino mX11_plan 5 = some (.ifCond .eq 16, 21) := by decide +kernel
theorem eX11_plan_8 : ino mX11_plan 8 = some (.aload_n 0, 9) := by decide +kernel
theorem eX11_plan_9 : ino mX11_plan 9 = some (.getfield 40, 12) := by decide +kernel
theorem eX11_plan_12 : ino mX11_plan 12 = some (.getfield 158, 15) := by decide +kernel
theorem eX11_plan_15 : ino mX11_plan 15 = some (.iload_n 1, 16) := by decide +kernel
theorem eX11_plan_16 : ino mX11_plan 16 = some (.iaload, 17) := by decide +kernel
theorem eX11_plan_17 : ino mX11_plan 17 = some (.iconst (-1), 18) := by decide +kernel
theorem eX11_plan_18 : ino mX11_plan 18 = some (.if_icmp .ne 5, 23) := by decide +kernel
theorem eX11_plan_21 : ino mX11_plan 21 = some (.iconst (-1), 22) := by decide +kernel
theorem eX11_plan_22 : ino mX11_plan 22 = some (.ireturn, 23) := by decide +kernel
theorem eX11_plan_23 : ino mX11_plan 23 = some (.aload_n 0, 24) := by decide +kernel
theorem eX11_plan_24 : ino mX11_plan 24 = some (.getfield 74, 27) := by decide +kernel
theorem eX11_plan_27 : ino mX11_plan 27 = some (.aload_n 0, 28) := by decide +kernel
theorem eX11_plan_28 : ino mX11_plan 28 = some (.getfield 30, 31) := by decide +kernel
theorem eX11_plan_31 : ino mX11_plan 31 = some (.aload_n 0, 32) := by decide +kernel
theorem eX11_plan_32 : ino mX11_plan 32 = some (.getfield 40, 35) := by decide +kernel
theorem eX11_plan_35 : ino mX11_plan 35 = some (.iload_n 1, 36) := by decide +kernel
theorem eX11_plan_36 : ino mX11_plan 36 = some (.invokevirtual 269, 39) := by decide +kernel
theorem eX11_plan_39 : ino mX11_plan 39 = some (.ireturn, 40) := by decide +kernel
theorem eX11_planAt_0 : ino mX11_planAt 0 = some (.iload_n 1, 1) := by decide +kernel
theorem eX11_planAt_1 : ino mX11_planAt 1 = some (.ifCond .lt 26, 27) := by decide +kernel
theorem eX11_planAt_4 : ino mX11_planAt 4 = some (.iload_n 1, 5) := by decide +kernel
theorem eX11_planAt_5 : ino mX11_planAt 5 = some (.aload_n 0, 6) := by decide +kernel
theorem eX11_planAt_6 : ino mX11_planAt 6 = some (.getfield 74, 9) := by decide +kernel
theorem eX11_planAt_9 : ino mX11_planAt 9 = some (.getfield 273, 12) := by decide +kernel
theorem eX11_planAt_12 : ino mX11_planAt 12 = some (.if_icmp .ge 15, 27) := by decide +kernel
theorem eX11_planAt_15 : ino mX11_planAt 15 = some (.aload_n 0, 16) := by decide +kernel
theorem eX11_planAt_16 : ino mX11_planAt 16 = some (.getfield 74, 19) := by decide +kernel
theorem eX11_planAt_19 : ino mX11_planAt 19 = some (.getfield 276, 22) := by decide +kernel
theorem eX11_planAt_22 : ino mX11_planAt 22 = some (.iload_n 1, 23) := by decide +kernel
theorem eX11_planAt_23 : ino mX11_planAt 23 = some (.iaload, 24) := by decide +kernel
theorem eX11_planAt_24 : ino mX11_planAt 24 = some (.goto 4, 28) := by decide +kernel
theorem eX11_planAt_27 : ino mX11_planAt 27 = some (.iconst (-1), 28) := by decide +kernel
theorem eX11_planAt_28 : ino mX11_planAt 28 = some (.ireturn, 29) := by decide +kernel
theorem eX11_passes_0 : ino mX11_passes 0 = some (.aload_n 0, 1) := by decide +kernel
theorem eX11_passes_1 : ino mX11_passes 1 = some (.getfield 74, 4) := by decide +kernel
theorem eX11_passes_4 : ino mX11_passes 4 = some (.getfield 279, 7) := by decide +kernel
theorem eX11_passes_7 : ino mX11_passes 7 = some (.ireturn, 8) := by decide +kernel
theorem eX11_been_0 : ino mX11_been 0 = some (.aload_n 0, 1) := by decide +kernel
theorem eX11_been_1 : ino mX11_been 1 = some (.getfield 13, 4) := by decide +kernel
theorem eX11_been_4 : ino mX11_been 4 = some (.istore_n 2, 5) := by decide +kernel
theorem eX11_been_5 : ino mX11_been 5 = some (.aload_n 0, 6) := by decide +kernel
theorem eX11_been_6 : ino mX11_been 6 = some (.iconst 0, 7) := by decide +kernel
theorem eX11_been_7 : ino mX11_been 7 = some (.putfield 13, 10) := by decide +kernel
theorem eX11_been_10 : ino mX11_been 10 = some (.iload_n 1, 11) := by decide +kernel
theorem eX11_been_11 : ino mX11_been 11 = some (.iconst 1, 12) := by decide +kernel
theorem eX11_been_12 : ino mX11_been 12 = some (.if_icmp .lt 13, 25) := by decide +kernel
theorem eX11_been_15 : ino mX11_been 15 = some (.iload_n 1, 16) := by decide +kernel
theorem eX11_been_16 : ino mX11_been 16 = some (.iconst 4, 17) := by decide +kernel
theorem eX11_been_17 : ino mX11_been 17 = some (.if_icmp .gt 8, 25) := by decide +kernel
theorem eX11_been_20 : ino mX11_been 20 = some (.iload_n 2, 21) := by decide +kernel
theorem eX11_been_21 : ino mX11_been 21 = some (.iconst 4, 22) := by decide +kernel
theorem eX11_been_22 : ino mX11_been 22 = some (.if_icmp .eq 5, 27) := by decide +kernel
theorem eX11_been_25 : ino mX11_been 25 = some (.iconst (-1), 26) := by decide +kernel
theorem eX11_been_26 : ino mX11_been 26 = some (.ireturn, 27) := by decide +kernel
theorem eX11_been_27 : ino mX11_been 27 = some (.aload_n 0, 28) := by decide +kernel
theorem eX11_been_28 : ino mX11_been 28 = some (.getfield 81, 31) := by decide +kernel
theorem eX11_been_31 : ino mX11_been 31 = some (.aload_n 0, 32) := by decide +kernel
theorem eX11_been_32 : ino mX11_been 32 = some (.getfield 30, 35) := by decide +kernel
theorem eX11_been_35 : ino mX11_been 35 = some (.aload_n 0, 36) := by decide +kernel
theorem eX11_been_36 : ino mX11_been 36 = some (.getfield 9, 39) := by decide +kernel
theorem eX11_been_39 : ino mX11_been 39 = some (.iload_n 1, 40) := by decide +kernel
theorem eX11_been_40 : ino mX11_been 40 = some (.invokevirtual 282, 43) := by decide +kernel
theorem eX11_been_43 : ino mX11_been 43 = some (.ireturn, 44) := by decide +kernel
theorem eX11_beenAt_0 : ino mX11_beenAt 0 = some (.iload_n 1, 1) := by decide +kernel
theorem eX11_beenAt_1 : ino mX11_beenAt 1 = some (.ifCond .lt 26, 27) := by decide +kernel
theorem eX11_beenAt_4 : ino mX11_beenAt 4 = some (.iload_n 1, 5) := by decide +kernel
theorem eX11_beenAt_5 : ino mX11_beenAt 5 = some (.aload_n 0, 6) := by decide +kernel
theorem eX11_beenAt_6 : ino mX11_beenAt 6 = some (.getfield 81, 9) := by decide +kernel
theorem eX11_beenAt_9 : ino mX11_beenAt 9 = some (.getfield 286, 12) := by decide +kernel
theorem eX11_beenAt_12 : ino mX11_beenAt 12 = some (.if_icmp .ge 15, 27) := by decide +kernel
theorem eX11_beenAt_15 : ino mX11_beenAt 15 = some (.aload_n 0, 16) := by decide +kernel
theorem eX11_beenAt_16 : ino mX11_beenAt 16 = some (.getfield 81, 19) := by decide +kernel
theorem eX11_beenAt_19 : ino mX11_beenAt 19 = some (.getfield 289, 22) := by decide +kernel
theorem eX11_beenAt_22 : ino mX11_beenAt 22 = some (.iload_n 1, 23) := by decide +kernel
theorem eX11_beenAt_23 : ino mX11_beenAt 23 = some (.iaload, 24) := by decide +kernel
theorem eX11_beenAt_24 : ino mX11_beenAt 24 = some (.goto 4, 28) := by decide +kernel
theorem eX11_beenAt_27 : ino mX11_beenAt 27 = some (.iconst (-1), 28) := by decide +kernel
theorem eX11_beenAt_28 : ino mX11_beenAt 28 = some (.ireturn, 29) := by decide +kernel
theorem eX11_ask_0 : ino mX11_ask 0 = some (.aload_n 0, 1) := by decide +kernel
theorem eX11_ask_1 : ino mX11_ask 1 = some (.getfield 81, 4) := by decide +kernel
theorem eX11_ask_4 : ino mX11_ask 4 = some (.getfield 292, 7) := by decide +kernel
theorem eX11_ask_7 : ino mX11_ask 7 = some (.ireturn, 8) := by decide +kernel
theorem eX11_hung_0 : ino mX11_hung 0 = some (.aload_n 0, 1) := by decide +kernel
theorem eX11_hung_1 : ino mX11_hung 1 = some (.iload_n 1, 2) := by decide +kernel
theorem eX11_hung_2 : ino mX11_hung 2 = some (.invokevirtual 151, 5) := by decide +kernel
theorem eX11_hung_5 : ino mX11_hung 5 = some (.ifCond .ne 5, 10) := by decide +kernel
theorem eX11_hung_8 : ino mX11_hung 8 = some (.iconst (-1), 9) := by decide +kernel
theorem eX11_hung_9 : ino mX11_hung 9 = some (.ireturn, 10) := by decide +kernel
theorem eX11_hung_10 : ino mX11_hung 10 = some (.iconst 0, 11) := by decide +kernel
theorem eX11_hung_11 : ino mX11_hung 11 = some (.istore_n 2, 12) := by decide +kernel
theorem eX11_hung_12 : ino mX11_hung 12 = some (.aload_n 0, 13) := by decide +kernel
theorem eX11_hung_13 : ino mX11_hung 13 = some (.getfield 40, 16) := by decide +kernel
theorem eX11_hung_16 : ino mX11_hung 16 = some (.getfield 161, 19) := by decide +kernel
theorem eX11_hung_19 : ino mX11_hung 19 = some (.iload_n 1, 20) := by decide +kernel
theorem eX11_hung_20 : ino mX11_hung 20 = some (.iaload, 21) := by decide +kernel
theorem eX11_hung_21 : ino mX11_hung 21 = some (.istore_n 3, 22) := by decide +kernel
theorem eX11_hung_22 : ino mX11_hung 22 = some (.iconst 1, 23) := by decide +kernel
theorem eX11_hung_23 : ino mX11_hung 23 = some (.istore 4, 25) := by decide +kernel
theorem eX11_hung_25 : ino mX11_hung 25 = some (.iload 4, 27) := by decide +kernel
theorem eX11_hung_27 : ino mX11_hung 27 = some (.iconst 1, 28) := by decide +kernel
theorem eX11_hung_28 : ino mX11_hung 28 = some (.aload_n 0, 29) := by decide +kernel
theorem eX11_hung_29 : ino mX11_hung 29 = some (.getfield 30, 32) := by decide +kernel
theorem eX11_hung_32 : ino mX11_hung 32 = some (.getfield 148, 35) := by decide +kernel
theorem eX11_hung_35 : ino mX11_hung 35 = some (.ishl, 36) := by decide +kernel
theorem eX11_hung_36 : ino mX11_hung 36 = some (.if_icmp .ge 63, 99) := by decide +kernel
theorem eX11_hung_39 : ino mX11_hung 39 = some (.aload_n 0, 40) := by decide +kernel
theorem eX11_hung_40 : ino mX11_hung 40 = some (.getfield 40, 43) := by decide +kernel
theorem eX11_hung_43 : ino mX11_hung 43 = some (.getfield 161, 46) := by decide +kernel
theorem eX11_hung_46 : ino mX11_hung 46 = some (.iload_n 1, 47) := by decide +kernel
theorem eX11_hung_47 : ino mX11_hung 47 = some (.iaload, 48) := by decide +kernel
theorem eX11_hung_48 : ino mX11_hung 48 = some (.aload_n 0, 49) := by decide +kernel
theorem eX11_hung_49 : ino mX11_hung 49 = some (.getfield 30, 52) := by decide +kernel
theorem eX11_hung_52 : ino mX11_hung 52 = some (.iload 4, 54) := by decide +kernel
theorem eX11_hung_54 : ino mX11_hung 54 = some (.invokevirtual 295, 57) := by decide +kernel
theorem eX11_hung_57 : ino mX11_hung 57 = some (.isub, 58) := by decide +kernel
theorem eX11_hung_58 : ino mX11_hung 58 = some (.invokestatic 299, 61) := by decide +kernel
theorem eX11_hung_61 : ino mX11_hung 61 = some (.istore 5, 63) := by decide +kernel
theorem eX11_hung_63 : ino mX11_hung 63 = some (.iload 5, 65) := by decide +kernel
theorem eX11_hung_65 : ino mX11_hung 65 = some (.iload_n 3, 66) := by decide +kernel
theorem eX11_hung_66 : ino mX11_hung 66 = some (.if_icmp .lt 21, 87) := by decide +kernel
theorem eX11_hung_69 : ino mX11_hung 69 = some (.iload 5, 71) := by decide +kernel
theorem eX11_hung_71 : ino mX11_hung 71 = some (.iload_n 3, 72) := by decide +kernel
theorem eX11_hung_72 : ino mX11_hung 72 = some (.if_icmp .ne 21, 93) := by decide +kernel
theorem eX11_hung_75 : ino mX11_hung 75 = some (.iload 4, 77) := by decide +kernel
theorem eX11_hung_77 : ino mX11_hung 77 = some (.invokestatic 302, 80) := by decide +kernel
theorem eX11_hung_80 : ino mX11_hung 80 = some (.iload_n 2, 81) := by decide +kernel
theorem eX11_hung_81 : ino mX11_hung 81 = some (.invokestatic 302, 84) := by decide +kernel
theorem eX11_hung_84 : ino mX11_hung 84 = some (.if_icmp .ge 9, 93) := by decide +kernel
theorem eX11_hung_87 : ino mX11_hung 87 = some (.iload 4, 89) := by decide +kernel
theorem eX11_hung_89 : ino mX11_hung 89 = some (.istore_n 2, 90) := by decide +kernel
theorem eX11_hung_90 : ino mX11_hung 90 = some (.iload 5, 92) := by decide +kernel
theorem eX11_hung_92 : ino mX11_hung 92 = some (.istore_n 3, 93) := by decide +kernel
theorem eX11_hung_93 : ino mX11_hung 93 = some (.iinc 4 1, 96) := by decide +kernel
theorem eX11_hung_96 : ino mX11_hung 96 = some (.goto (-71), 25) := by decide +kernel
theorem eX11_hung_99 : ino mX11_hung 99 = some (.aload_n 0, 100) := by decide +kernel
theorem eX11_hung_100 : ino mX11_hung 100 = some (.iload_n 2, 101) := by decide +kernel
theorem eX11_hung_101 : ino mX11_hung 101 = some (.putfield 99, 104) := by decide +kernel
theorem eX11_hung_104 : ino mX11_hung 104 = some (.iload_n 3, 105) := by decide +kernel
theorem eX11_hung_105 : ino mX11_hung 105 = some (.ireturn, 106) := by decide +kernel
theorem eX11_hanging_0 : ino mX11_hanging 0 = some (.aload_n 0, 1) := by decide +kernel
theorem eX11_hanging_1 : ino mX11_hanging 1 = some (.getfield 99, 4) := by decide +kernel
theorem eX11_hanging_4 : ino mX11_hanging 4 = some (.ireturn, 5) := by decide +kernel
theorem eX11_holds_0 : ino mX11_holds 0 = some (.aload_n 0, 1) := by decide +kernel
theorem eX11_holds_1 : ino mX11_holds 1 = some (.iload_n 1, 2) := by decide +kernel
theorem eX11_holds_2 : ino mX11_holds 2 = some (.invokevirtual 151, 5) := by decide +kernel
theorem eX11_holds_5 : ino mX11_holds 5 = some (.ifCond .eq 24, 29) := by decide +kernel
theorem eX11_holds_8 : ino mX11_holds 8 = some (.aload_n 0, 9) := by decide +kernel
theorem eX11_holds_9 : ino mX11_holds 9 = some (.iload_n 2, 10) := by decide +kernel
theorem eX11_holds_10 : ino mX11_holds 10 = some (.invokevirtual 184, 13) := by decide +kernel
theorem eX11_holds_13 : ino mX11_holds 13 = some (.ifCond .eq 16, 29) := by decide +kernel
theorem eX11_holds_16 : ino mX11_holds 16 = some (.aload_n 0, 17) := by decide +kernel
theorem eX11_holds_17 : ino mX11_holds 17 = some (.getfield 40, 20) := by decide +kernel
theorem eX11_holds_20 : ino mX11_holds 20 = some (.getfield 158, 23) := by decide +kernel
theorem eX11_holds_23 : ino mX11_holds 23 = some (.iload_n 1, 24) := by decide +kernel
theorem eX11_holds_24 : ino mX11_holds 24 = some (.iaload, 25) := by decide +kernel
theorem eX11_holds_25 : ino mX11_holds 25 = some (.iconst (-1), 26) := by decide +kernel
theorem eX11_holds_26 : ino mX11_holds 26 = some (.if_icmp .ne 5, 31) := by decide +kernel
theorem eX11_holds_29 : ino mX11_holds 29 = some (.iconst (-1), 30) := by decide +kernel
theorem eX11_holds_30 : ino mX11_holds 30 = some (.ireturn, 31) := by decide +kernel
theorem eX11_holds_31 : ino mX11_holds 31 = some (.iload_n 2, 32) := by decide +kernel
theorem eX11_holds_32 : ino mX11_holds 32 = some (.aload_n 0, 33) := by decide +kernel
theorem eX11_holds_33 : ino mX11_holds 33 = some (.getfield 40, 36) := by decide +kernel
theorem eX11_holds_36 : ino mX11_holds 36 = some (.aload_n 0, 37) := by decide +kernel
theorem eX11_holds_37 : ino mX11_holds 37 = some (.getfield 30, 40) := by decide +kernel
theorem eX11_holds_40 : ino mX11_holds 40 = some (.iload_n 1, 41) := by decide +kernel
theorem eX11_holds_41 : ino mX11_holds 41 = some (.invokevirtual 307, 44) := by decide +kernel
theorem eX11_holds_44 : ino mX11_holds 44 = some (.imul, 45) := by decide +kernel
theorem eX11_holds_45 : ino mX11_holds 45 = some (.istore_n 3, 46) := by decide +kernel
theorem eX11_holds_46 : ino mX11_holds 46 = some (.iload_n 3, 47) := by decide +kernel
theorem eX11_holds_47 : ino mX11_holds 47 = some (.ifCond .gt 5, 52) := by decide +kernel
theorem eX11_holds_50 : ino mX11_holds 50 = some (.iconst 0, 51) := by decide +kernel
theorem eX11_holds_51 : ino mX11_holds 51 = some (.ireturn, 52) := by decide +kernel
theorem eX11_holds_52 : ino mX11_holds 52 = some (.aload_n 0, 53) := by decide +kernel
theorem eX11_holds_53 : ino mX11_holds 53 = some (.getfield 30, 56) := by decide +kernel
theorem eX11_holds_56 : ino mX11_holds 56 = some (.getfield 310, 59) := by decide +kernel
theorem eX11_holds_59 : ino mX11_holds 59 = some (.aload_n 0, 60) := by decide +kernel
theorem eX11_holds_60 : ino mX11_holds 60 = some (.getfield 40, 63) := by decide +kernel
theorem eX11_holds_63 : ino mX11_holds 63 = some (.getfield 214, 66) := by decide +kernel
theorem eX11_holds_66 : ino mX11_holds 66 = some (.isub, 67) := by decide +kernel
theorem eX11_holds_67 : ino mX11_holds 67 = some (.iload_n 3, 68) := by decide +kernel
theorem eX11_holds_68 : ino mX11_holds 68 = some (.iadd, 69) := by decide +kernel
theorem eX11_holds_69 : ino mX11_holds 69 = some (.iconst 1, 70) := by decide +kernel
theorem eX11_holds_70 : ino mX11_holds 70 = some (.isub, 71) := by decide +kernel
theorem eX11_holds_71 : ino mX11_holds 71 = some (.iload_n 3, 72) := by decide +kernel
theorem eX11_holds_72 : ino mX11_holds 72 = some (.idiv, 73) := by decide +kernel
theorem eX11_holds_73 : ino mX11_holds 73 = some (.ireturn, 74) := by decide +kernel
theorem eX11_web_0 : ino mX11_web 0 = some (.aload_n 0, 1) := by decide +kernel
theorem eX11_web_1 : ino mX11_web 1 = some (.iload_n 1, 2) := by decide +kernel
theorem eX11_web_2 : ino mX11_web 2 = some (.invokevirtual 151, 5) := by decide +kernel
theorem eX11_web_5 : ino mX11_web 5 = some (.ifCond .ne 5, 10) := by decide +kernel
theorem eX11_web_8 : ino mX11_web 8 = some (.iconst (-1), 9) := by decide +kernel
theorem eX11_web_9 : ino mX11_web 9 = some (.ireturn, 10) := by decide +kernel
theorem eX11_web_10 : ino mX11_web 10 = some (.iconst 1, 11) := by decide +kernel
theorem eX11_web_11 : ino mX11_web 11 = some (.iload_n 1, 12) := by decide +kernel
theorem eX11_web_12 : ino mX11_web 12 = some (.ishl, 13) := by decide +kernel
theorem eX11_web_13 : ino mX11_web 13 = some (.istore_n 2, 14) := by decide +kernel
theorem eX11_web_14 : ino mX11_web 14 = some (.iconst 1, 15) := by decide +kernel
theorem eX11_web_15 : ino mX11_web 15 = some (.istore_n 3, 16) := by decide +kernel
theorem eX11_web_16 : ino mX11_web 16 = some (.iload_n 3, 17) := by decide +kernel
theorem eX11_web_17 : ino mX11_web 17 = some (.aload_n 0, 18) := by decide +kernel
theorem eX11_web_18 : ino mX11_web 18 = some (.getfield 30, 21) := by decide +kernel
theorem eX11_web_21 : ino mX11_web 21 = some (.getfield 142, 24) := by decide +kernel
theorem eX11_web_24 : ino mX11_web 24 = some (.if_icmp .ge 55, 79) := by decide +kernel
theorem eX11_web_27 : ino mX11_web 27 = some (.iconst 0, 28) := by decide +kernel
theorem eX11_web_28 : ino mX11_web 28 = some (.istore 4, 30) := by decide +kernel
theorem eX11_web_30 : ino mX11_web 30 = some (.iload 4, 32) := by decide +kernel
theorem eX11_web_32 : ino mX11_web 32 = some (.aload_n 0, 33) := by decide +kernel
theorem eX11_web_33 : ino mX11_web 33 = some (.getfield 30, 36) := by decide +kernel
theorem eX11_web_36 : ino mX11_web 36 = some (.getfield 142, 39) := by decide +kernel
theorem eX11_web_39 : ino mX11_web 39 = some (.if_icmp .ge 34, 73) := by decide +kernel
theorem eX11_web_42 : ino mX11_web 42 = some (.iload_n 2, 43) := by decide +kernel
theorem eX11_web_43 : ino mX11_web 43 = some (.iload 4, 45) := by decide +kernel
theorem eX11_web_45 : ino mX11_web 45 = some (.ishr, 46) := by decide +kernel
theorem eX11_web_46 : ino mX11_web 46 = some (.iconst 1, 47) := by decide +kernel
theorem eX11_web_47 : ino mX11_web 47 = some (.iand, 48) := by decide +kernel
theorem eX11_web_48 : ino mX11_web 48 = some (.ifCond .eq 19, 67) := by decide +kernel
theorem eX11_web_51 : ino mX11_web 51 = some (.iload_n 2, 52) := by decide +kernel
theorem eX11_web_52 : ino mX11_web 52 = some (.aload_n 0, 53) := by decide +kernel
theorem eX11_web_53 : ino mX11_web 53 = some (.getfield 40, 56) := by decide +kernel
theorem eX11_web_56 : ino mX11_web 56 = some (.aload_n 0, 57) := by decide +kernel
theorem eX11_web_57 : ino mX11_web 57 = some (.getfield 30, 60) := by decide +kernel
theorem eX11_web_60 : ino mX11_web 60 = some (.iload 4, 62) := by decide +kernel
theorem eX11_web_62 : ino mX11_web 62 = some (.invokevirtual 177, 65) := by decide +kernel
theorem eX11_web_65 : ino mX11_web 65 = some (.ior, 66) := by decide +kernel
theorem eX11_web_66 : ino mX11_web 66 = some (.istore_n 2, 67) := by decide +kernel
theorem eX11_web_67 : ino mX11_web 67 = some (.iinc 4 1, 70) := by decide +kernel
theorem eX11_web_70 : ino mX11_web 70 = some (.goto (-40), 30) := by decide +kernel
theorem eX11_web_73 : ino mX11_web 73 = some (.iinc 3 1, 76) := by decide +kernel
theorem eX11_web_76 : ino mX11_web 76 = some (.goto (-60), 16) := by decide +kernel
theorem eX11_web_79 : ino mX11_web 79 = some (.iload_n 2, 80) := by decide +kernel
theorem eX11_web_80 : ino mX11_web 80 = some (.ireturn, 81) := by decide +kernel
theorem eX11_bargain_0 : ino mX11_bargain 0 = some (.aload_n 0, 1) := by decide +kernel
theorem eX11_bargain_1 : ino mX11_bargain 1 = some (.getfield 88, 4) := by decide +kernel
theorem eX11_bargain_4 : ino mX11_bargain 4 = some (.aload_n 0, 5) := by decide +kernel
theorem eX11_bargain_5 : ino mX11_bargain 5 = some (.getfield 30, 8) := by decide +kernel
theorem eX11_bargain_8 : ino mX11_bargain 8 = some (.aload_n 0, 9) := by decide +kernel
theorem eX11_bargain_9 : ino mX11_bargain 9 = some (.getfield 40, 12) := by decide +kernel
theorem eX11_bargain_12 : ino mX11_bargain 12 = some (.invokevirtual 313, 15) := by decide +kernel
theorem eX11_bargain_15 : ino mX11_bargain 15 = some (.ireturn, 16) := by decide +kernel
theorem eX11_bargained_0 : ino mX11_bargained 0 = some (.iload_n 1, 1) := by decide +kernel
theorem eX11_bargained_1 : ino mX11_bargained 1 = some (.ifCond .lt 21, 22) := by decide +kernel
theorem eX11_bargained_4 : ino mX11_bargained 4 = some (.iload_n 1, 5) := by decide +kernel
theorem eX11_bargained_5 : ino mX11_bargained 5 = some (.bipush 6, 7) := by decide +kernel
theorem eX11_bargained_7 : ino mX11_bargained 7 = some (.if_icmp .ge 15, 22) := by decide +kernel
theorem eX11_bargained_10 : ino mX11_bargained 10 = some (.aload_n 0, 11) := by decide +kernel
theorem eX11_bargained_11 : ino mX11_bargained 11 = some (.getfield 88, 14) := by decide +kernel
theorem eX11_bargained_14 : ino mX11_bargained 14 = some (.getfield 317, 17) := by decide +kernel
theorem eX11_bargained_17 : ino mX11_bargained 17 = some (.iload_n 1, 18) := by decide +kernel
theorem eX11_bargained_18 : ino mX11_bargained 18 = some (.iaload, 19) := by decide +kernel
theorem eX11_bargained_19 : ino mX11_bargained 19 = some (.goto 4, 23) := by decide +kernel
theorem eX11_bargained_22 : ino mX11_bargained 22 = some (.iconst (-1), 23) := by decide +kernel
theorem eX11_bargained_23 : ino mX11_bargained 23 = some (.ireturn, 24) := by decide +kernel
theorem eX11_cover_0 : ino mX11_cover 0 = some (.aload_n 0, 1) := by decide +kernel
theorem eX11_cover_1 : ino mX11_cover 1 = some (.iload_n 1, 2) := by decide +kernel
theorem eX11_cover_2 : ino mX11_cover 2 = some (.invokevirtual 151, 5) := by decide +kernel
theorem eX11_cover_5 : ino mX11_cover 5 = some (.ifCond .ne 5, 10) := by decide +kernel
theorem eX11_cover_8 : ino mX11_cover 8 = some (.iconst (-1), 9) := by decide +kernel
theorem eX11_cover_9 : ino mX11_cover 9 = some (.ireturn, 10) := by decide +kernel
theorem eX11_cover_10 : ino mX11_cover 10 = some (.aload_n 0, 11) := by decide +kernel
theorem eX11_cover_11 : ino mX11_cover 11 = some (.iconst 0, 12) := by decide +kernel
theorem eX11_cover_12 : ino mX11_cover 12 = some (.putfield 105, 15) := by decide +kernel
theorem eX11_cover_15 : ino mX11_cover 15 = some (.aload_n 0, 16) := by decide +kernel
theorem eX11_cover_16 : ino mX11_cover 16 = some (.aload_n 0, 17) := by decide +kernel
theorem eX11_cover_17 : ino mX11_cover 17 = some (.getfield 30, 20) := by decide +kernel
theorem eX11_cover_20 : ino mX11_cover 20 = some (.getfield 320, 23) := by decide +kernel
theorem eX11_cover_23 : ino mX11_cover 23 = some (.iload_n 1, 24) := by decide +kernel
theorem eX11_cover_24 : ino mX11_cover 24 = some (.laload, 25) := by decide +kernel
theorem eX11_cover_25 : ino mX11_cover 25 = some (.invokevirtual 324, 28) := by decide +kernel
theorem eX11_cover_28 : ino mX11_cover 28 = some (.aload_n 0, 29) := by decide +kernel
theorem eX11_cover_29 : ino mX11_cover 29 = some (.getfield 40, 32) := by decide +kernel
theorem eX11_cover_32 : ino mX11_cover 32 = some (.getfield 158, 35) := by decide +kernel
theorem eX11_cover_35 : ino mX11_cover 35 = some (.iload_n 1, 36) := by decide +kernel
theorem eX11_cover_36 : ino mX11_cover 36 = some (.iaload, 37) := by decide +kernel
theorem eX11_cover_37 : ino mX11_cover 37 = some (.istore_n 2, 38) := by decide +kernel
theorem eX11_cover_38 : ino mX11_cover 38 = some (.iload_n 2, 39) := by decide +kernel
theorem eX11_cover_39 : ino mX11_cover 39 = some (.iconst (-1), 40) := by decide +kernel
theorem eX11_cover_40 : ino mX11_cover 40 = some (.if_icmp .ne 15, 55) := by decide +kernel
theorem eX11_cover_43 : ino mX11_cover 43 = some (.aload_n 0, 44) := by decide +kernel
theorem eX11_cover_44 : ino mX11_cover 44 = some (.ldc_w 328, 47) := by decide +kernel
theorem eX11_cover_47 : ino mX11_cover 47 = some (.invokevirtual 330, 50) := by decide +kernel
theorem eX11_cover_50 : ino mX11_cover 50 = some (.aload_n 0, 51) := by decide +kernel
theorem eX11_cover_51 : ino mX11_cover 51 = some (.getfield 105, 54) := by decide +kernel
theorem eX11_cover_54 : ino mX11_cover 54 = some (.ireturn, 55) := by decide +kernel
theorem eX11_cover_55 : ino mX11_cover 55 = some (.aload_n 0, 56) := by decide +kernel
theorem eX11_cover_56 : ino mX11_cover 56 = some (.iload_n 2, 57) := by decide +kernel
theorem eX11_cover_57 : ino mX11_cover 57 = some (.invokevirtual 184, 60) := by decide +kernel
theorem eX11_cover_60 : ino mX11_cover 60 = some (.ifCond .eq 26, 86) := by decide +kernel
theorem eX11_cover_63 : ino mX11_cover 63 = some (.aload_n 0, 64) := by decide +kernel
theorem eX11_cover_64 : ino mX11_cover 64 = some (.ldc_w 334, 67) := by decide +kernel
theorem eX11_cover_67 : ino mX11_cover 67 = some (.invokevirtual 330, 70) := by decide +kernel
theorem eX11_cover_70 : ino mX11_cover 70 = some (.aload_n 0, 71) := by decide +kernel
theorem eX11_cover_71 : ino mX11_cover 71 = some (.aload_n 0, 72) := by decide +kernel
theorem eX11_cover_72 : ino mX11_cover 72 = some (.getfield 30, 75) := by decide +kernel
theorem eX11_cover_75 : ino mX11_cover 75 = some (.getfield 336, 78) := by decide +kernel
theorem eX11_cover_78 : ino mX11_cover 78 = some (.iload_n 2, 79) := by decide +kernel
theorem eX11_cover_79 : ino mX11_cover 79 = some (.laload, 80) := by decide +kernel
theorem eX11_cover_80 : ino mX11_cover 80 = some (.invokevirtual 324, 83) := by decide +kernel
theorem eX11_cover_83 : ino mX11_cover 83 = some (.goto 10, 93) := by decide +kernel
theorem eX11_cover_86 : ino mX11_cover 86 = some (.aload_n 0, 87) := by decide +kernel
theorem eX11_cover_87 : ino mX11_cover 87 = some (.ldc_w 339, 90) := by decide +kernel
theorem eX11_cover_90 : ino mX11_cover 90 = some (.invokevirtual 330, 93) := by decide +kernel
theorem eX11_cover_93 : ino mX11_cover 93 = some (.aload_n 0, 94) := by decide +kernel
theorem eX11_cover_94 : ino mX11_cover 94 = some (.aload_n 0, 95) := by decide +kernel
theorem eX11_cover_95 : ino mX11_cover 95 = some (.getfield 40, 98) := by decide +kernel
theorem eX11_cover_98 : ino mX11_cover 98 = some (.aload_n 0, 99) := by decide +kernel
theorem eX11_cover_99 : ino mX11_cover 99 = some (.getfield 30, 102) := by decide +kernel
theorem eX11_cover_102 : ino mX11_cover 102 = some (.iload_n 1, 103) := by decide +kernel
theorem eX11_cover_103 : ino mX11_cover 103 = some (.invokevirtual 173, 106) := by decide +kernel
theorem eX11_cover_106 : ino mX11_cover 106 = some (.invokevirtual 341, 109) := by decide +kernel
theorem eX11_cover_109 : ino mX11_cover 109 = some (.aload_n 0, 110) := by decide +kernel
theorem eX11_cover_110 : ino mX11_cover 110 = some (.getfield 105, 113) := by decide +kernel
theorem eX11_cover_113 : ino mX11_cover 113 = some (.ireturn, 114) := by decide +kernel
theorem eX11_chalkLacking_0 : ino mX11_chalkLacking 0 = some (.iload_n 1, 1) := by decide +kernel
theorem eX11_chalkLacking_1 : ino mX11_chalkLacking 1 = some (.ifCond .ne 11, 12) := by decide +kernel
theorem eX11_chalkLacking_4 : ino mX11_chalkLacking 4 = some (.aload_n 0, 5) := by decide +kernel
theorem eX11_chalkLacking_5 : ino mX11_chalkLacking 5 = some (.ldc_w 344, 8) := by decide +kernel
theorem eX11_chalkLacking_8 : ino mX11_chalkLacking 8 = some (.invokevirtual 330, 11) := by decide +kernel
theorem eX11_chalkLacking_11 : ino mX11_chalkLacking 11 = some (.return_, 12) := by decide +kernel
theorem eX11_chalkLacking_12 : ino mX11_chalkLacking 12 = some (.aload_n 0, 13) := by decide +kernel
theorem eX11_chalkLacking_13 : ino mX11_chalkLacking 13 = some (.ldc_w 346, 16) := by decide +kernel
theorem eX11_chalkLacking_16 : ino mX11_chalkLacking 16 = some (.invokevirtual 330, 19) := by decide +kernel
theorem eX11_chalkLacking_19 : ino mX11_chalkLacking 19 = some (.iconst 0, 20) := by decide +kernel
theorem eX11_chalkLacking_20 : ino mX11_chalkLacking 20 = some (.istore_n 2, 21) := by decide +kernel
theorem eX11_chalkLacking_21 : ino mX11_chalkLacking 21 = some (.iload_n 2, 22) := by decide +kernel
theorem eX11_chalkLacking_22 : ino mX11_chalkLacking 22 = some (.iconst 4, 23) := by decide +kernel
theorem eX11_chalkLacking_23 : ino mX11_chalkLacking 23 = some (.if_icmp .ge 32, 55) := by decide +kernel
theorem eX11_chalkLacking_26 : ino mX11_chalkLacking 26 = some (.iload_n 1, 27) := by decide +kernel
theorem eX11_chalkLacking_27 : ino mX11_chalkLacking 27 = some (.iload_n 2, 28) := by decide +kernel
theorem eX11_chalkLacking_28 : ino mX11_chalkLacking 28 = some (.ishr, 29) := by decide +kernel
theorem eX11_chalkLacking_29 : ino mX11_chalkLacking 29 = some (.iconst 1, 30) := by decide +kernel
theorem eX11_chalkLacking_30 : ino mX11_chalkLacking 30 = some (.iand, 31) := by decide +kernel
theorem eX11_chalkLacking_31 : ino mX11_chalkLacking 31 = some (.ifCond .eq 18, 49) := by decide +kernel
theorem eX11_chalkLacking_34 : ino mX11_chalkLacking 34 = some (.aload_n 0, 35) := by decide +kernel
theorem eX11_chalkLacking_35 : ino mX11_chalkLacking 35 = some (.ldc_w 348, 38) := by decide +kernel
theorem eX11_chalkLacking_38 : ino mX11_chalkLacking 38 = some (.invokevirtual 330, 41) := by decide +kernel
theorem eX11_chalkLacking_41 : ino mX11_chalkLacking 41 = some (.aload_n 0, 42) := by decide +kernel
theorem eX11_chalkLacking_42 : ino mX11_chalkLacking 42 = some (.iload_n 2, 43) := by decide +kernel
theorem eX11_chalkLacking_43 : ino mX11_chalkLacking 43 = some (.invokestatic 350, 46) := by decide +kernel
theorem eX11_chalkLacking_46 : ino mX11_chalkLacking 46 = some (.invokevirtual 324, 49) := by decide +kernel
theorem eX11_chalkLacking_49 : ino mX11_chalkLacking 49 = some (.iinc 2 1, 52) := by decide +kernel
theorem eX11_chalkLacking_52 : ino mX11_chalkLacking 52 = some (.goto (-31), 21) := by decide +kernel
theorem eX11_chalkLacking_55 : ino mX11_chalkLacking 55 = some (.return_, 56) := by decide +kernel
theorem eX11_chalkText_0 : ino mX11_chalkText 0 = some (.iconst 0, 1) := by decide +kernel
theorem eX11_chalkText_1 : ino mX11_chalkText 1 = some (.istore_n 2, 2) := by decide +kernel
theorem eX11_chalkText_2 : ino mX11_chalkText 2 = some (.iload_n 2, 3) := by decide +kernel
theorem eX11_chalkText_3 : ino mX11_chalkText 3 = some (.aload_n 1, 4) := by decide +kernel
theorem eX11_chalkText_4 : ino mX11_chalkText 4 = some (.invokevirtual 356, 7) := by decide +kernel
theorem eX11_chalkText_7 : ino mX11_chalkText 7 = some (.if_icmp .ge 18, 25) := by decide +kernel
theorem eX11_chalkText_10 : ino mX11_chalkText 10 = some (.aload_n 0, 11) := by decide +kernel
theorem eX11_chalkText_11 : ino mX11_chalkText 11 = some (.aload_n 1, 12) := by decide +kernel
theorem eX11_chalkText_12 : ino mX11_chalkText 12 = some (.iload_n 2, 13) := by decide +kernel
theorem eX11_chalkText_13 : ino mX11_chalkText 13 = some (.invokevirtual 361, 16) := by decide +kernel
theorem eX11_chalkText_16 : ino mX11_chalkText 16 = some (.invokevirtual 365, 19) := by decide +kernel
theorem eX11_chalkText_19 : ino mX11_chalkText 19 = some (.iinc 2 1, 22) := by decide +kernel
theorem eX11_chalkText_22 : ino mX11_chalkText 22 = some (.goto (-20), 2) := by decide +kernel
theorem eX11_chalkText_25 : ino mX11_chalkText 25 = some (.return_, 26) := by decide +kernel
theorem eX11_chalkName_0 : ino mX11_chalkName 0 = some (.bipush 56, 2) := by decide +kernel
theorem eX11_chalkName_2 : ino mX11_chalkName 2 = some (.istore_n 3, 3) := by decide +kernel
theorem eX11_chalkName_3 : ino mX11_chalkName 3 = some (.iload_n 3, 4) := by decide +kernel
theorem eX11_chalkName_4 : ino mX11_chalkName 4 = some (.ifCond .lt 30, 34) := by decide +kernel
theorem eX11_chalkName_7 : ino mX11_chalkName 7 = some (.lload_n 1, 8) := by decide +kernel
theorem eX11_chalkName_8 : ino mX11_chalkName 8 = some (.iload_n 3, 9) := by decide +kernel
theorem eX11_chalkName_9 : ino mX11_chalkName 9 = some (.lushr, 10) := by decide +kernel
theorem eX11_chalkName_10 : ino mX11_chalkName 10 = some (.ldc2_w 368, 13) := by decide +kernel
theorem eX11_chalkName_13 : ino mX11_chalkName 13 = some (.land, 14) := by decide +kernel
theorem eX11_chalkName_14 : ino mX11_chalkName 14 = some (.l2i, 15) := by decide +kernel
theorem eX11_chalkName_15 : ino mX11_chalkName 15 = some (.istore 4, 17) := by decide +kernel
theorem eX11_chalkName_17 : ino mX11_chalkName 17 = some (.iload 4, 19) := by decide +kernel
theorem eX11_chalkName_19 : ino mX11_chalkName 19 = some (.ifCond .eq 9, 28) := by decide +kernel
theorem eX11_chalkName_22 : ino mX11_chalkName 22 = some (.aload_n 0, 23) := by decide +kernel
theorem eX11_chalkName_23 : ino mX11_chalkName 23 = some (.iload 4, 25) := by decide +kernel
theorem eX11_chalkName_25 : ino mX11_chalkName 25 = some (.invokevirtual 365, 28) := by decide +kernel
theorem eX11_chalkName_28 : ino mX11_chalkName 28 = some (.iinc 3 (-8), 31) := by decide +kernel
theorem eX11_chalkName_31 : ino mX11_chalkName 31 = some (.goto (-28), 3) := by decide +kernel
theorem eX11_chalkName_34 : ino mX11_chalkName 34 = some (.return_, 35) := by decide +kernel
theorem eX11_chalkByte_0 : ino mX11_chalkByte 0 = some (.aload_n 0, 1) := by decide +kernel
theorem eX11_chalkByte_1 : ino mX11_chalkByte 1 = some (.getfield 105, 4) := by decide +kernel
theorem eX11_chalkByte_4 : ino mX11_chalkByte 4 = some (.bipush 64, 6) := by decide +kernel
theorem eX11_chalkByte_6 : ino mX11_chalkByte 6 = some (.if_icmp .ge 23, 29) := by decide +kernel
theorem eX11_chalkByte_9 : ino mX11_chalkByte 9 = some (.aload_n 0, 10) := by decide +kernel
theorem eX11_chalkByte_10 : ino mX11_chalkByte 10 = some (.getfield 102, 13) := by decide +kernel
theorem eX11_chalkByte_13 : ino mX11_chalkByte 13 = some (.aload_n 0, 14) := by decide +kernel
theorem eX11_chalkByte_14 : ino mX11_chalkByte 14 = some (.getfield 105, 17) := by decide +kernel
theorem eX11_chalkByte_17 : ino mX11_chalkByte 17 = some (.iload_n 1, 18) := by decide +kernel
theorem eX11_chalkByte_18 : ino mX11_chalkByte 18 = some (.iastore, 19) := by decide +kernel
theorem eX11_chalkByte_19 : ino mX11_chalkByte 19 = some (.aload_n 0, 20) := by decide +kernel
theorem eX11_chalkByte_20 : ino mX11_chalkByte 20 = some (.dup, 21) := by decide +kernel
theorem eX11_chalkByte_21 : ino mX11_chalkByte 21 = some (.getfield 105, 24) := by decide +kernel
theorem eX11_chalkByte_24 : ino mX11_chalkByte 24 = some (.iconst 1, 25) := by decide +kernel
theorem eX11_chalkByte_25 : ino mX11_chalkByte 25 = some (.iadd, 26) := by decide +kernel
theorem eX11_chalkByte_26 : ino mX11_chalkByte 26 = some (.putfield 105, 29) := by decide +kernel
theorem eX11_chalkByte_29 : ino mX11_chalkByte 29 = some (.return_, 30) := by decide +kernel
theorem eX11_byteAt_0 : ino mX11_byteAt 0 = some (.iload_n 1, 1) := by decide +kernel
theorem eX11_byteAt_1 : ino mX11_byteAt 1 = some (.ifCond .lt 20, 21) := by decide +kernel
theorem eX11_byteAt_4 : ino mX11_byteAt 4 = some (.iload_n 1, 5) := by decide +kernel
theorem eX11_byteAt_5 : ino mX11_byteAt 5 = some (.aload_n 0, 6) := by decide +kernel
theorem eX11_byteAt_6 : ino mX11_byteAt 6 = some (.getfield 105, 9) := by decide +kernel
theorem eX11_byteAt_9 : ino mX11_byteAt 9 = some (.if_icmp .ge 12, 21) := by decide +kernel
theorem eX11_byteAt_12 : ino mX11_byteAt 12 = some (.aload_n 0, 13) := by decide +kernel
theorem eX11_byteAt_13 : ino mX11_byteAt 13 = some (.getfield 102, 16) := by decide +kernel
theorem eX11_byteAt_16 : ino mX11_byteAt 16 = some (.iload_n 1, 17) := by decide +kernel
theorem eX11_byteAt_17 : ino mX11_byteAt 17 = some (.iaload, 18) := by decide +kernel
theorem eX11_byteAt_18 : ino mX11_byteAt 18 = some (.goto 4, 22) := by decide +kernel
theorem eX11_byteAt_21 : ino mX11_byteAt 21 = some (.iconst (-1), 22) := by decide +kernel
theorem eX11_byteAt_22 : ino mX11_byteAt 22 = some (.ireturn, 23) := by decide +kernel
theorem eX11_drawn_0 : ino mX11_drawn 0 = some (.iload_n 1, 1) := by decide +kernel
theorem eX11_drawn_1 : ino mX11_drawn 1 = some (.iconst 1, 2) := by decide +kernel
theorem eX11_drawn_2 : ino mX11_drawn 2 = some (.if_icmp .lt 9, 11) := by decide +kernel
theorem eX11_drawn_5 : ino mX11_drawn 5 = some (.iload_n 1, 6) := by decide +kernel
theorem eX11_drawn_6 : ino mX11_drawn 6 = some (.bipush 60, 8) := by decide +kernel
theorem eX11_drawn_8 : ino mX11_drawn 8 = some (.if_icmp .le 5, 13) := by decide +kernel
theorem eX11_drawn_11 : ino mX11_drawn 11 = some (.iconst (-1), 12) := by decide +kernel
theorem eX11_drawn_12 : ino mX11_drawn 12 = some (.ireturn, 13) := by decide +kernel
theorem eX11_drawn_13 : ino mX11_drawn 13 = some (.aload_n 0, 14) := by decide +kernel
theorem eX11_drawn_14 : ino mX11_drawn 14 = some (.getfield 40, 17) := by decide +kernel
theorem eX11_drawn_17 : ino mX11_drawn 17 = some (.getfield 211, 20) := by decide +kernel
theorem eX11_drawn_20 : ino mX11_drawn 20 = some (.sipush 400, 23) := by decide +kernel
theorem eX11_drawn_23 : ino mX11_drawn 23 = some (.if_icmp .lt 5, 28) := by decide +kernel
theorem eX11_drawn_26 : ino mX11_drawn 26 = some (.iconst 0, 27) := by decide +kernel
theorem eX11_drawn_27 : ino mX11_drawn 27 = some (.ireturn, 28) := by decide +kernel
theorem eX11_drawn_28 : ino mX11_drawn 28 = some (.aload_n 0, 29) := by decide +kernel
theorem eX11_drawn_29 : ino mX11_drawn 29 = some (.getfield 60, 32) := by decide +kernel
theorem eX11_drawn_32 : ino mX11_drawn 32 = some (.aload_n 0, 33) := by decide +kernel
theorem eX11_drawn_33 : ino mX11_drawn 33 = some (.getfield 40, 36) := by decide +kernel
theorem eX11_drawn_36 : ino mX11_drawn 36 = some (.invokevirtual 249, 39) := by decide +kernel
theorem eX11_drawn_39 : ino mX11_drawn 39 = some (.aload_n 0, 40) := by decide +kernel
theorem eX11_drawn_40 : ino mX11_drawn 40 = some (.getfield 40, 43) := by decide +kernel
theorem eX11_drawn_43 : ino mX11_drawn 43 = some (.aload_n 0, 44) := by decide +kernel
theorem eX11_drawn_44 : ino mX11_drawn 44 = some (.getfield 30, 47) := by decide +kernel
theorem eX11_drawn_47 : ino mX11_drawn 47 = some (.iload_n 1, 48) := by decide +kernel
theorem eX11_drawn_48 : ino mX11_drawn 48 = some (.iload_n 2, 49) := by decide +kernel
theorem eX11_drawn_49 : ino mX11_drawn 49 = some (.invokevirtual 370, 52) := by decide +kernel
theorem eX11_drawn_52 : ino mX11_drawn 52 = some (.ireturn, 53) := by decide +kernel
theorem eX11_odds_0 : ino mX11_odds 0 = some (.aload_n 0, 1) := by decide +kernel
theorem eX11_odds_1 : ino mX11_odds 1 = some (.iload_n 1, 2) := by decide +kernel
theorem eX11_odds_2 : ino mX11_odds 2 = some (.invokevirtual 151, 5) := by decide +kernel
theorem eX11_odds_5 : ino mX11_odds 5 = some (.ifCond .eq 14, 19) := by decide +kernel
theorem eX11_odds_8 : ino mX11_odds 8 = some (.iload_n 2, 9) := by decide +kernel
theorem eX11_odds_9 : ino mX11_odds 9 = some (.iconst 1, 10) := by decide +kernel
theorem eX11_odds_10 : ino mX11_odds 10 = some (.if_icmp .lt 9, 19) := by decide +kernel
theorem eX11_odds_13 : ino mX11_odds 13 = some (.iload_n 2, 14) := by decide +kernel
theorem eX11_odds_14 : ino mX11_odds 14 = some (.bipush 30, 16) := by decide +kernel
theorem eX11_odds_16 : ino mX11_odds 16 = some (.if_icmp .le 5, 21) := by decide +kernel
theorem eX11_odds_19 : ino mX11_odds 19 = some (.iconst (-1), 20) := by decide +kernel
theorem eX11_odds_20 : ino mX11_odds 20 = some (.ireturn, 21) := by decide +kernel
theorem eX11_odds_21 : ino mX11_odds 21 = some (.iconst 0, 22) := by decide +kernel
theorem eX11_odds_22 : ino mX11_odds 22 = some (.istore 4, 24) := by decide +kernel
theorem eX11_odds_24 : ino mX11_odds 24 = some (.iconst 0, 25) := by decide +kernel
theorem eX11_odds_25 : ino mX11_odds 25 = some (.istore 5, 27) := by decide +kernel
theorem eX11_odds_27 : ino mX11_odds 27 = some (.iload 5, 29) := by decide +kernel
theorem eX11_odds_29 : ino mX11_odds 29 = some (.iload_n 2, 30) := by decide +kernel
theorem eX11_odds_30 : ino mX11_odds 30 = some (.if_icmp .ge 54, 84) := by decide +kernel
theorem eX11_odds_33 : ino mX11_odds 33 = some (.aload_n 0, 34) := by decide +kernel
theorem eX11_odds_34 : ino mX11_odds 34 = some (.getfield 44, 37) := by decide +kernel
theorem eX11_odds_37 : ino mX11_odds 37 = some (.aload_n 0, 38) := by decide +kernel
theorem eX11_odds_38 : ino mX11_odds 38 = some (.getfield 40, 41) := by decide +kernel
theorem eX11_odds_41 : ino mX11_odds 41 = some (.invokevirtual 264, 44) := by decide +kernel
theorem eX11_odds_44 : ino mX11_odds 44 = some (.aload_n 0, 45) := by decide +kernel
theorem eX11_odds_45 : ino mX11_odds 45 = some (.getfield 44, 48) := by decide +kernel
theorem eX11_odds_48 : ino mX11_odds 48 = some (.aload_n 0, 49) := by decide +kernel
theorem eX11_odds_49 : ino mX11_odds 49 = some (.getfield 30, 52) := by decide +kernel
theorem eX11_odds_52 : ino mX11_odds 52 = some (.bipush 30, 54) := by decide +kernel
theorem eX11_odds_54 : ino mX11_odds 54 = some (.iload_n 3, 55) := by decide +kernel
theorem eX11_odds_55 : ino mX11_odds 55 = some (.iload 5, 57) := by decide +kernel
theorem eX11_odds_57 : ino mX11_odds 57 = some (.iadd, 58) := by decide +kernel
theorem eX11_odds_58 : ino mX11_odds 58 = some (.invokevirtual 370, 61) := by decide +kernel
theorem eX11_odds_61 : ino mX11_odds 61 = some (.pop, 62) := by decide +kernel
theorem eX11_odds_62 : ino mX11_odds 62 = some (.aload_n 0, 63) := by decide +kernel
theorem eX11_odds_63 : ino mX11_odds 63 = some (.getfield 44, 66) := by decide +kernel
theorem eX11_odds_66 : ino mX11_odds 66 = some (.getfield 158, 69) := by decide +kernel
theorem eX11_odds_69 : ino mX11_odds 69 = some (.iload_n 1, 70) := by decide +kernel
theorem eX11_odds_70 : ino mX11_odds 70 = some (.iaload, 71) := by decide +kernel
theorem eX11_odds_71 : ino mX11_odds 71 = some (.iconst (-1), 72) := by decide +kernel
theorem eX11_odds_72 : ino mX11_odds 72 = some (.if_icmp .ne 6, 78) := by decide +kernel
theorem eX11_odds_75 : ino mX11_odds 75 = some (.iinc 4 1, 78) := by decide +kernel
theorem eX11_odds_78 : ino mX11_odds 78 = some (.iinc 5 1, 81) := by decide +kernel
theorem eX11_odds_81 : ino mX11_odds 81 = some (.goto (-54), 27) := by decide +kernel
theorem eX11_odds_84 : ino mX11_odds 84 = some (.iload 4, 86) := by decide +kernel
theorem eX11_odds_86 : ino mX11_odds 86 = some (.ireturn, 87) := by decide +kernel
theorem eX11_book_0 : ino mX11_book 0 = some (.iload_n 1, 1) := by decide +kernel
theorem eX11_book_1 : ino mX11_book 1 = some (.ifCond .eq 12, 13) := by decide +kernel
theorem eX11_book_4 : ino mX11_book 4 = some (.iload_n 1, 5) := by decide +kernel
theorem eX11_book_5 : ino mX11_book 5 = some (.iconst 1, 6) := by decide +kernel
theorem eX11_book_6 : ino mX11_book 6 = some (.if_icmp .eq 7, 13) := by decide +kernel
theorem eX11_book_9 : ino mX11_book 9 = some (.sipush (-1000), 12) := by decide +kernel
theorem eX11_book_12 : ino mX11_book 12 = some (.ireturn, 13) := by decide +kernel
theorem eX11_book_13 : ino mX11_book 13 = some (.aload_n 0, 14) := by decide +kernel
theorem eX11_book_14 : ino mX11_book 14 = some (.sipush 400, 17) := by decide +kernel
theorem eX11_book_17 : ino mX11_book 17 = some (.invokevirtual 116, 20) := by decide +kernel
theorem eX11_book_20 : ino mX11_book 20 = some (.aload_n 0, 21) := by decide +kernel
theorem eX11_book_21 : ino mX11_book 21 = some (.getfield 95, 24) := by decide +kernel
theorem eX11_book_24 : ino mX11_book 24 = some (.aload_n 0, 25) := by decide +kernel
theorem eX11_book_25 : ino mX11_book 25 = some (.getfield 20, 28) := by decide +kernel
theorem eX11_book_28 : ino mX11_book 28 = some (.aload_n 0, 29) := by decide +kernel
theorem eX11_book_29 : ino mX11_book 29 = some (.getfield 30, 32) := by decide +kernel
theorem eX11_book_32 : ino mX11_book 32 = some (.invokevirtual 374, 35) := by decide +kernel
theorem eX11_book_35 : ino mX11_book 35 = some (.aload_n 0, 36) := by decide +kernel
theorem eX11_book_36 : ino mX11_book 36 = some (.aload_n 0, 37) := by decide +kernel
theorem eX11_book_37 : ino mX11_book 37 = some (.getfield 20, 40) := by decide +kernel
theorem eX11_book_40 : ino mX11_book 40 = some (.getfield 123, 43) := by decide +kernel
theorem eX11_book_43 : ino mX11_book 43 = some (.putfield 24, 46) := by decide +kernel
theorem eX11_book_46 : ino mX11_book 46 = some (.aload_n 0, 47) := by decide +kernel
theorem eX11_book_47 : ino mX11_book 47 = some (.getfield 20, 50) := by decide +kernel
theorem eX11_book_50 : ino mX11_book 50 = some (.invokevirtual 124, 53) := by decide +kernel
theorem eX11_book_53 : ino mX11_book 53 = some (.ifCond .eq 14, 67) := by decide +kernel
theorem eX11_book_56 : ino mX11_book 56 = some (.bipush (-2), 58) := by decide +kernel
theorem eX11_book_58 : ino mX11_book 58 = some (.aload_n 0, 59) := by decide +kernel
theorem eX11_book_59 : ino mX11_book 59 = some (.getfield 20, 62) := by decide +kernel
theorem eX11_book_62 : ino mX11_book 62 = some (.getfield 128, 65) := by decide +kernel
theorem eX11_book_65 : ino mX11_book 65 = some (.isub, 66) := by decide +kernel
theorem eX11_book_66 : ino mX11_book 66 = some (.ireturn, 67) := by decide +kernel
theorem eX11_book_67 : ino mX11_book 67 = some (.aload_n 0, 68) := by decide +kernel
theorem eX11_book_68 : ino mX11_book 68 = some (.getfield 44, 71) := by decide +kernel
theorem eX11_book_71 : ino mX11_book 71 = some (.aload_n 0, 72) := by decide +kernel
theorem eX11_book_72 : ino mX11_book 72 = some (.getfield 40, 75) := by decide +kernel
theorem eX11_book_75 : ino mX11_book 75 = some (.invokevirtual 264, 78) := by decide +kernel
theorem eX11_book_78 : ino mX11_book 78 = some (.aload_n 0, 79) := by decide +kernel
theorem eX11_book_79 : ino mX11_book 79 = some (.getfield 95, 82) := by decide +kernel
theorem eX11_book_82 : ino mX11_book 82 = some (.aload_n 0, 83) := by decide +kernel
theorem eX11_book_83 : ino mX11_book 83 = some (.getfield 30, 86) := by decide +kernel
theorem eX11_book_86 : ino mX11_book 86 = some (.aload_n 0, 87) := by decide +kernel
theorem eX11_book_87 : ino mX11_book 87 = some (.getfield 44, 90) := by decide +kernel
theorem eX11_book_90 : ino mX11_book 90 = some (.invokevirtual 377, 93) := by decide +kernel
theorem eX11_book_93 : ino mX11_book 93 = some (.istore_n 2, 94) := by decide +kernel
theorem eX11_book_94 : ino mX11_book 94 = some (.iload_n 1, 95) := by decide +kernel
theorem eX11_book_95 : ino mX11_book 95 = some (.iconst 1, 96) := by decide +kernel
theorem eX11_book_96 : ino mX11_book 96 = some (.if_icmp .ne 35, 131) := by decide +kernel
theorem eX11_book_99 : ino mX11_book 99 = some (.aload_n 0, 100) := by decide +kernel
theorem eX11_book_100 : ino mX11_book 100 = some (.getfield 95, 103) := by decide +kernel
theorem eX11_book_103 : ino mX11_book 103 = some (.getfield 380, 106) := by decide +kernel
theorem eX11_book_106 : ino mX11_book 106 = some (.ifCond .le 25, 131) := by decide +kernel
theorem eX11_book_109 : ino mX11_book 109 = some (.aload_n 0, 110) := by decide +kernel
theorem eX11_book_110 : ino mX11_book 110 = some (.getfield 60, 113) := by decide +kernel
theorem eX11_book_113 : ino mX11_book 113 = some (.aload_n 0, 114) := by decide +kernel
theorem eX11_book_114 : ino mX11_book 114 = some (.getfield 40, 117) := by decide +kernel
theorem eX11_book_117 : ino mX11_book 117 = some (.invokevirtual 249, 120) := by decide +kernel
theorem eX11_book_120 : ino mX11_book 120 = some (.aload_n 0, 121) := by decide +kernel
theorem eX11_book_121 : ino mX11_book 121 = some (.getfield 40, 124) := by decide +kernel
theorem eX11_book_124 : ino mX11_book 124 = some (.aload_n 0, 125) := by decide +kernel
theorem eX11_book_125 : ino mX11_book 125 = some (.getfield 44, 128) := by decide +kernel
theorem eX11_book_128 : ino mX11_book 128 = some (.invokevirtual 264, 131) := by decide +kernel
theorem eX11_book_131 : ino mX11_book 131 = some (.iload_n 2, 132) := by decide +kernel
theorem eX11_book_132 : ino mX11_book 132 = some (.ireturn, 133) := by decide +kernel
theorem eX11_told_0 : ino mX11_told 0 = some (.iload_n 1, 1) := by decide +kernel
theorem eX11_told_1 : decode mX11_told.2.1 1 = .ok (.tableswitch 63 0 3 #[31, 39, 47, 55], 31) := by decide +kernel
theorem eX11_told_32 : ino mX11_told 32 = some (.aload_n 0, 33) := by decide +kernel
theorem eX11_told_33 : ino mX11_told 33 = some (.getfield 95, 36) := by decide +kernel
theorem eX11_told_36 : ino mX11_told 36 = some (.getfield 383, 39) := by decide +kernel
theorem eX11_told_39 : ino mX11_told 39 = some (.ireturn, 40) := by decide +kernel
theorem eX11_told_40 : ino mX11_told 40 = some (.aload_n 0, 41) := by decide +kernel
theorem eX11_told_41 : ino mX11_told 41 = some (.getfield 95, 44) := by decide +kernel
theorem eX11_told_44 : ino mX11_told 44 = some (.getfield 380, 47) := by decide +kernel
theorem eX11_told_47 : ino mX11_told 47 = some (.ireturn, 48) := by decide +kernel
theorem eX11_told_48 : ino mX11_told 48 = some (.aload_n 0, 49) := by decide +kernel
theorem eX11_told_49 : ino mX11_told 49 = some (.getfield 95, 52) := by decide +kernel
theorem eX11_told_52 : ino mX11_told 52 = some (.getfield 386, 55) := by decide +kernel
theorem eX11_told_55 : ino mX11_told 55 = some (.ireturn, 56) := by decide +kernel
theorem eX11_told_56 : ino mX11_told 56 = some (.aload_n 0, 57) := by decide +kernel
theorem eX11_told_57 : ino mX11_told 57 = some (.getfield 95, 60) := by decide +kernel
theorem eX11_told_60 : ino mX11_told 60 = some (.getfield 389, 63) := by decide +kernel
theorem eX11_told_63 : ino mX11_told 63 = some (.ireturn, 64) := by decide +kernel
theorem eX11_told_64 : ino mX11_told 64 = some (.iconst (-1), 65) := by decide +kernel
theorem eX11_told_65 : ino mX11_told 65 = some (.ireturn, 66) := by decide +kernel
theorem eX11_sentence_0 : ino mX11_sentence 0 = some (.aload_n 0, 1) := by decide +kernel
theorem eX11_sentence_1 : ino mX11_sentence 1 = some (.sipush 200, 4) := by decide +kernel
theorem eX11_sentence_4 : ino mX11_sentence 4 = some (.invokevirtual 116, 7) := by decide +kernel
theorem eX11_sentence_7 : ino mX11_sentence 7 = some (.aload_n 0, 8) := by decide +kernel
theorem eX11_sentence_8 : ino mX11_sentence 8 = some (.getfield 54, 11) := by decide +kernel
theorem eX11_sentence_11 : ino mX11_sentence 11 = some (.aload_n 0, 12) := by decide +kernel
theorem eX11_sentence_12 : ino mX11_sentence 12 = some (.getfield 20, 15) := by decide +kernel
theorem eX11_sentence_15 : ino mX11_sentence 15 = some (.aload_n 0, 16) := by decide +kernel
theorem eX11_sentence_16 : ino mX11_sentence 16 = some (.getfield 30, 19) := by decide +kernel
theorem eX11_sentence_19 : ino mX11_sentence 19 = some (.invokevirtual 392, 22) := by decide +kernel
theorem eX11_sentence_22 : ino mX11_sentence 22 = some (.aload_n 0, 23) := by decide +kernel
theorem eX11_sentence_23 : ino mX11_sentence 23 = some (.aload_n 0, 24) := by decide +kernel
theorem eX11_sentence_24 : ino mX11_sentence 24 = some (.getfield 20, 27) := by decide +kernel
theorem eX11_sentence_27 : ino mX11_sentence 27 = some (.getfield 123, 30) := by decide +kernel
theorem eX11_sentence_30 : ino mX11_sentence 30 = some (.putfield 24, 33) := by decide +kernel
theorem eX11_sentence_33 : ino mX11_sentence 33 = some (.aload_n 0, 34) := by decide +kernel
theorem eX11_sentence_34 : ino mX11_sentence 34 = some (.getfield 20, 37) := by decide +kernel
theorem eX11_sentence_37 : ino mX11_sentence 37 = some (.invokevirtual 124, 40) := by decide +kernel
theorem eX11_sentence_40 : ino mX11_sentence 40 = some (.ifCond .eq 13, 53) := by decide +kernel
theorem eX11_sentence_43 : ino mX11_sentence 43 = some (.iconst (-1), 44) := by decide +kernel
theorem eX11_sentence_44 : ino mX11_sentence 44 = some (.aload_n 0, 45) := by decide +kernel
theorem eX11_sentence_45 : ino mX11_sentence 45 = some (.getfield 20, 48) := by decide +kernel
theorem eX11_sentence_48 : ino mX11_sentence 48 = some (.getfield 128, 51) := by decide +kernel
theorem eX11_sentence_51 : ino mX11_sentence 51 = some (.isub, 52) := by decide +kernel
theorem eX11_sentence_52 : ino mX11_sentence 52 = some (.ireturn, 53) := by decide +kernel
theorem eX11_sentence_53 : ino mX11_sentence 53 = some (.aload_n 0, 54) := by decide +kernel
theorem eX11_sentence_54 : ino mX11_sentence 54 = some (.getfield 50, 57) := by decide +kernel
theorem eX11_sentence_57 : ino mX11_sentence 57 = some (.aload_n 0, 58) := by decide +kernel
theorem eX11_sentence_58 : ino mX11_sentence 58 = some (.getfield 54, 61) := by decide +kernel
theorem eX11_sentence_61 : ino mX11_sentence 61 = some (.invokevirtual 393, 64) := by decide +kernel
theorem eX11_sentence_64 : ino mX11_sentence 64 = some (.aload_n 0, 65) := by decide +kernel
theorem eX11_sentence_65 : ino mX11_sentence 65 = some (.getfield 50, 68) := by decide +kernel
theorem eX11_sentence_68 : ino mX11_sentence 68 = some (.getfield 396, 71) := by decide +kernel
theorem eX11_sentence_71 : ino mX11_sentence 71 = some (.ireturn, 72) := by decide +kernel
