theorem eX12_restore_0 : ino mX12_restore 0 = some (.aload_n 0, 1) := by decide +kernel
theorem eX12_restore_1 : ino mX12_restore 1 = some (.iconst 0, 2) := by decide +kernel
theorem eX12_restore_2 : ino mX12_restore 2 = some (.putfield 1, 5) := by decide +kernel
theorem eX12_restore_5 : ino mX12_restore 5 = some (.iload_n 1, 6) := by decide +kernel
theorem eX12_restore_6 : ino mX12_restore 6 = some (.iconst 0, 7) := by decide +kernel
theorem eX12_restore_7 : ino mX12_restore 7 = some (.iconst 1, 8) := by decide +kernel
theorem eX12_restore_8 : ino mX12_restore 8 = some (.invokestatic 221, 11) := by decide +kernel
theorem eX12_restore_11 : ino mX12_restore 11 = some (.ifCond .eq 12, 23) := by decide +kernel
theorem eX12_restore_14 : ino mX12_restore 14 = some (.aload_n 0, 15) := by decide +kernel
theorem eX12_restore_15 : ino mX12_restore 15 = some (.getfield 111, 18) := by decide +kernel
theorem eX12_restore_18 : ino mX12_restore 18 = some (.iload_n 1, 19) := by decide +kernel
theorem eX12_restore_19 : ino mX12_restore 19 = some (.baload, 20) := by decide +kernel
theorem eX12_restore_20 : ino mX12_restore 20 = some (.ifCond .ne 5, 25) := by decide +kernel
theorem eX12_restore_23 : ino mX12_restore 23 = some (.iconst 0, 24) := by decide +kernel
theorem eX12_restore_24 : ino mX12_restore 24 = some (.ireturn, 25) := by decide +kernel
theorem eX12_restore_25 : ino mX12_restore 25 = some (.iconst 0, 26) := by decide +kernel
theorem eX12_restore_26 : ino mX12_restore 26 = some (.istore_n 2, 27) := by decide +kernel
theorem eX12_restore_27 : ino mX12_restore 27 = some (.iload_n 2, 28) := by decide +kernel
theorem eX12_restore_28 : ino mX12_restore 28 = some (.sipush 325, 31) := by decide +kernel
theorem eX12_restore_31 : ino mX12_restore 31 = some (.if_icmp .ge 27, 58) := by decide +kernel
theorem eX12_restore_34 : ino mX12_restore 34 = some (.aload_n 0, 35) := by decide +kernel
theorem eX12_restore_35 : ino mX12_restore 35 = some (.getfield 33, 38) := by decide +kernel
theorem eX12_restore_38 : ino mX12_restore 38 = some (.iload_n 2, 39) := by decide +kernel
theorem eX12_restore_39 : ino mX12_restore 39 = some (.aload_n 0, 40) := by decide +kernel
theorem eX12_restore_40 : ino mX12_restore 40 = some (.getfield 105, 43) := by decide +kernel
theorem eX12_restore_43 : ino mX12_restore 43 = some (.sipush 325, 46) := by decide +kernel
theorem eX12_restore_46 : ino mX12_restore 46 = some (.iload_n 1, 47) := by decide +kernel
theorem eX12_restore_47 : ino mX12_restore 47 = some (.imul, 48) := by decide +kernel
theorem eX12_restore_48 : ino mX12_restore 48 = some (.iload_n 2, 49) := by decide +kernel
theorem eX12_restore_49 : ino mX12_restore 49 = some (.iadd, 50) := by decide +kernel
theorem eX12_restore_50 : ino mX12_restore 50 = some (.iaload, 51) := by decide +kernel
theorem eX12_restore_51 : ino mX12_restore 51 = some (.iastore, 52) := by decide +kernel
theorem eX12_restore_52 : ino mX12_restore 52 = some (.iinc 2 1, 55) := by decide +kernel
theorem eX12_restore_55 : ino mX12_restore 55 = some (.goto (-28), 27) := by decide +kernel
theorem eX12_restore_58 : ino mX12_restore 58 = some (.iconst 0, 59) := by decide +kernel
theorem eX12_restore_59 : ino mX12_restore 59 = some (.istore_n 2, 60) := by decide +kernel
theorem eX12_restore_60 : ino mX12_restore 60 = some (.iload_n 2, 61) := by decide +kernel
theorem eX12_restore_61 : ino mX12_restore 61 = some (.bipush 19, 63) := by decide +kernel
theorem eX12_restore_63 : ino mX12_restore 63 = some (.if_icmp .ge 26, 89) := by decide +kernel
theorem eX12_restore_66 : ino mX12_restore 66 = some (.aload_n 0, 67) := by decide +kernel
theorem eX12_restore_67 : ino mX12_restore 67 = some (.getfield 43, 70) := by decide +kernel
theorem eX12_restore_70 : ino mX12_restore 70 = some (.iload_n 2, 71) := by decide +kernel
theorem eX12_restore_71 : ino mX12_restore 71 = some (.aload_n 0, 72) := by decide +kernel
theorem eX12_restore_72 : ino mX12_restore 72 = some (.getfield 108, 75) := by decide +kernel
theorem eX12_restore_75 : ino mX12_restore 75 = some (.bipush 19, 77) := by decide +kernel
theorem eX12_restore_77 : ino mX12_restore 77 = some (.iload_n 1, 78) := by decide +kernel
theorem eX12_restore_78 : ino mX12_restore 78 = some (.imul, 79) := by decide +kernel
theorem eX12_restore_79 : ino mX12_restore 79 = some (.iload_n 2, 80) := by decide +kernel
theorem eX12_restore_80 : ino mX12_restore 80 = some (.iadd, 81) := by decide +kernel
theorem eX12_restore_81 : ino mX12_restore 81 = some (.laload, 82) := by decide +kernel
theorem eX12_restore_82 : ino mX12_restore 82 = some (.lastore, 83) := by decide +kernel
theorem eX12_restore_83 : ino mX12_restore 83 = some (.iinc 2 1, 86) := by decide +kernel
theorem eX12_restore_86 : ino mX12_restore 86 = some (.goto (-26), 60) := by decide +kernel
theorem eX12_restore_89 : ino mX12_restore 89 = some (.aload_n 0, 90) := by decide +kernel
theorem eX12_restore_90 : ino mX12_restore 90 = some (.iconst 0, 91) := by decide +kernel
theorem eX12_restore_91 : ino mX12_restore 91 = some (.putfield 293, 94) := by decide +kernel
theorem eX12_restore_94 : ino mX12_restore 94 = some (.iconst 1, 95) := by decide +kernel
theorem eX12_restore_95 : ino mX12_restore 95 = some (.ireturn, 96) := by decide +kernel
theorem eX12_count_0 : ino mX12_count 0 = some (.aload_n 0, 1) := by decide +kernel
theorem eX12_count_1 : ino mX12_count 1 = some (.iconst 0, 2) := by decide +kernel
theorem eX12_count_2 : ino mX12_count 2 = some (.putfield 1, 5) := by decide +kernel
theorem eX12_count_5 : ino mX12_count 5 = some (.iload_n 1, 6) := by decide +kernel
theorem eX12_count_6 : ino mX12_count 6 = some (.iconst 5, 7) := by decide +kernel
theorem eX12_count_7 : ino mX12_count 7 = some (.if_icmp .ne 10, 17) := by decide +kernel
theorem eX12_count_10 : ino mX12_count 10 = some (.aload_n 0, 11) := by decide +kernel
theorem eX12_count_11 : ino mX12_count 11 = some (.getfield 7, 14) := by decide +kernel
theorem eX12_count_14 : ino mX12_count 14 = some (.goto 22, 36) := by decide +kernel
theorem eX12_count_17 : ino mX12_count 17 = some (.iload_n 1, 18) := by decide +kernel
theorem eX12_count_18 : ino mX12_count 18 = some (.iconst 0, 19) := by decide +kernel
theorem eX12_count_19 : ino mX12_count 19 = some (.iconst 4, 20) := by decide +kernel
theorem eX12_count_20 : ino mX12_count 20 = some (.invokestatic 221, 23) := by decide +kernel
theorem eX12_count_23 : ino mX12_count 23 = some (.ifCond .eq 12, 35) := by decide +kernel
theorem eX12_count_26 : ino mX12_count 26 = some (.aload_n 0, 27) := by decide +kernel
theorem eX12_count_27 : ino mX12_count 27 = some (.getfield 33, 30) := by decide +kernel
theorem eX12_count_30 : ino mX12_count 30 = some (.iload_n 1, 31) := by decide +kernel
theorem eX12_count_31 : ino mX12_count 31 = some (.iaload, 32) := by decide +kernel
theorem eX12_count_32 : ino mX12_count 32 = some (.goto 4, 36) := by decide +kernel
theorem eX12_count_35 : ino mX12_count 35 = some (.iconst (-1), 36) := by decide +kernel
theorem eX12_count_36 : ino mX12_count 36 = some (.ireturn, 37) := by decide +kernel
