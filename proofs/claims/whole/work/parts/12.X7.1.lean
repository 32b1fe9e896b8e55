theorem eX7_passHour_0 : ino mX7_passHour 0 = some (.iconst 0, 1) := by decide +kernel
theorem eX7_passHour_1 : ino mX7_passHour 1 = some (.istore_n 2, 2) := by decide +kernel
theorem eX7_passHour_2 : ino mX7_passHour 2 = some (.iload_n 2, 3) := by decide +kernel
theorem eX7_passHour_3 : ino mX7_passHour 3 = some (.aload_n 1, 4) := by decide +kernel
theorem eX7_passHour_4 : ino mX7_passHour 4 = some (.getfield 79, 7) := by decide +kernel
theorem eX7_passHour_7 : ino mX7_passHour 7 = some (.if_icmp .ge 30, 37) := by decide +kernel
theorem eX7_passHour_10 : ino mX7_passHour 10 = some (.aload_n 0, 11) := by decide +kernel
theorem eX7_passHour_11 : ino mX7_passHour 11 = some (.getfield 9, 14) := by decide +kernel
theorem eX7_passHour_14 : ino mX7_passHour 14 = some (.iload_n 2, 15) := by decide +kernel
theorem eX7_passHour_15 : ino mX7_passHour 15 = some (.iaload, 16) := by decide +kernel
theorem eX7_passHour_16 : ino mX7_passHour 16 = some (.ifCond .le 15, 31) := by decide +kernel
theorem eX7_passHour_19 : ino mX7_passHour 19 = some (.aload_n 0, 20) := by decide +kernel
theorem eX7_passHour_20 : ino mX7_passHour 20 = some (.aload_n 1, 21) := by decide +kernel
theorem eX7_passHour_21 : ino mX7_passHour 21 = some (.iload_n 2, 22) := by decide +kernel
theorem eX7_passHour_22 : ino mX7_passHour 22 = some (.aload_n 0, 23) := by decide +kernel
theorem eX7_passHour_23 : ino mX7_passHour 23 = some (.getfield 9, 26) := by decide +kernel
theorem eX7_passHour_26 : ino mX7_passHour 26 = some (.iload_n 2, 27) := by decide +kernel
theorem eX7_passHour_27 : ino mX7_passHour 27 = some (.iaload, 28) := by decide +kernel
theorem eX7_passHour_28 : ino mX7_passHour 28 = some (.invokevirtual 125, 31) := by decide +kernel
theorem eX7_passHour_31 : ino mX7_passHour 31 = some (.iinc 2 1, 34) := by decide +kernel
theorem eX7_passHour_34 : ino mX7_passHour 34 = some (.goto (-32), 2) := by decide +kernel
theorem eX7_passHour_37 : ino mX7_passHour 37 = some (.iconst 0, 38) := by decide +kernel
theorem eX7_passHour_38 : ino mX7_passHour 38 = some (.istore_n 2, 39) := by decide +kernel
theorem eX7_passHour_39 : ino mX7_passHour 39 = some (.iload_n 2, 40) := by decide +kernel
theorem eX7_passHour_40 : ino mX7_passHour 40 = some (.aload_n 1, 41) := by decide +kernel
theorem eX7_passHour_41 : ino mX7_passHour 41 = some (.getfield 79, 44) := by decide +kernel
theorem eX7_passHour_44 : ino mX7_passHour 44 = some (.if_icmp .ge 42, 86) := by decide +kernel
theorem eX7_passHour_47 : ino mX7_passHour 47 = some (.iload_n 2, 48) := by decide +kernel
theorem eX7_passHour_48 : ino mX7_passHour 48 = some (.iconst 1, 49) := by decide +kernel
theorem eX7_passHour_49 : ino mX7_passHour 49 = some (.iadd, 50) := by decide +kernel
theorem eX7_passHour_50 : ino mX7_passHour 50 = some (.istore_n 3, 51) := by decide +kernel
theorem eX7_passHour_51 : ino mX7_passHour 51 = some (.iload_n 3, 52) := by decide +kernel
theorem eX7_passHour_52 : ino mX7_passHour 52 = some (.aload_n 1, 53) := by decide +kernel
theorem eX7_passHour_53 : ino mX7_passHour 53 = some (.getfield 79, 56) := by decide +kernel
theorem eX7_passHour_56 : ino mX7_passHour 56 = some (.if_icmp .ge 24, 80) := by decide +kernel
theorem eX7_passHour_59 : ino mX7_passHour 59 = some (.aload_n 0, 60) := by decide +kernel
theorem eX7_passHour_60 : ino mX7_passHour 60 = some (.iload_n 2, 61) := by decide +kernel
theorem eX7_passHour_61 : ino mX7_passHour 61 = some (.iload_n 3, 62) := by decide +kernel
theorem eX7_passHour_62 : ino mX7_passHour 62 = some (.invokevirtual 82, 65) := by decide +kernel
theorem eX7_passHour_65 : ino mX7_passHour 65 = some (.ifCond .eq 9, 74) := by decide +kernel
theorem eX7_passHour_68 : ino mX7_passHour 68 = some (.aload_n 0, 69) := by decide +kernel
theorem eX7_passHour_69 : ino mX7_passHour 69 = some (.iload_n 2, 70) := by decide +kernel
theorem eX7_passHour_70 : ino mX7_passHour 70 = some (.iload_n 3, 71) := by decide +kernel
theorem eX7_passHour_71 : ino mX7_passHour 71 = some (.invokevirtual 128, 74) := by decide +kernel
theorem eX7_passHour_74 : ino mX7_passHour 74 = some (.iinc 3 1, 77) := by decide +kernel
theorem eX7_passHour_77 : ino mX7_passHour 77 = some (.goto (-26), 51) := by decide +kernel
theorem eX7_passHour_80 : ino mX7_passHour 80 = some (.iinc 2 1, 83) := by decide +kernel
theorem eX7_passHour_83 : ino mX7_passHour 83 = some (.goto (-44), 39) := by decide +kernel
theorem eX7_passHour_86 : ino mX7_passHour 86 = some (.iconst 0, 87) := by decide +kernel
theorem eX7_passHour_87 : ino mX7_passHour 87 = some (.istore_n 2, 88) := by decide +kernel
theorem eX7_passHour_88 : ino mX7_passHour 88 = some (.iload_n 2, 89) := by decide +kernel
theorem eX7_passHour_89 : ino mX7_passHour 89 = some (.aload_n 1, 90) := by decide +kernel
theorem eX7_passHour_90 : ino mX7_passHour 90 = some (.getfield 79, 93) := by decide +kernel
theorem eX7_passHour_93 : ino mX7_passHour 93 = some (.if_icmp .ge 25, 118) := by decide +kernel
theorem eX7_passHour_96 : ino mX7_passHour 96 = some (.aload_n 0, 97) := by decide +kernel
theorem eX7_passHour_97 : ino mX7_passHour 97 = some (.getfield 9, 100) := by decide +kernel
theorem eX7_passHour_100 : ino mX7_passHour 100 = some (.iload_n 2, 101) := by decide +kernel
theorem eX7_passHour_101 : ino mX7_passHour 101 = some (.iaload, 102) := by decide +kernel
theorem eX7_passHour_102 : ino mX7_passHour 102 = some (.iconst (-1), 103) := by decide +kernel
theorem eX7_passHour_103 : ino mX7_passHour 103 = some (.if_icmp .eq 9, 112) := by decide +kernel
theorem eX7_passHour_106 : ino mX7_passHour 106 = some (.aload_n 0, 107) := by decide +kernel
theorem eX7_passHour_107 : ino mX7_passHour 107 = some (.aload_n 1, 108) := by decide +kernel
theorem eX7_passHour_108 : ino mX7_passHour 108 = some (.iload_n 2, 109) := by decide +kernel
theorem eX7_passHour_109 : ino mX7_passHour 109 = some (.invokevirtual 132, 112) := by decide +kernel
theorem eX7_passHour_112 : ino mX7_passHour 112 = some (.iinc 2 1, 115) := by decide +kernel
theorem eX7_passHour_115 : ino mX7_passHour 115 = some (.goto (-27), 88) := by decide +kernel
theorem eX7_passHour_118 : ino mX7_passHour 118 = some (.aload_n 0, 119) := by decide +kernel
theorem eX7_passHour_119 : ino mX7_passHour 119 = some (.dup, 120) := by decide +kernel
theorem eX7_passHour_120 : ino mX7_passHour 120 = some (.getfield 43, 123) := by decide +kernel
theorem eX7_passHour_123 : ino mX7_passHour 123 = some (.iconst 1, 124) := by decide +kernel
theorem eX7_passHour_124 : ino mX7_passHour 124 = some (.iadd, 125) := by decide +kernel
theorem eX7_passHour_125 : ino mX7_passHour 125 = some (.putfield 43, 128) := by decide +kernel
theorem eX7_passHour_128 : ino mX7_passHour 128 = some (.return_, 129) := by decide +kernel
theorem eX7_receive_0 : ino mX7_receive 0 = some (.iload_n 2, 1) := by decide +kernel
theorem eX7_receive_1 : ino mX7_receive 1 = some (.iconst 4, 2) := by decide +kernel
theorem eX7_receive_2 : ino mX7_receive 2 = some (.imul, 3) := by decide +kernel
theorem eX7_receive_3 : ino mX7_receive 3 = some (.aload_n 1, 4) := by decide +kernel
theorem eX7_receive_4 : ino mX7_receive 4 = some (.getfield 136, 7) := by decide +kernel
theorem eX7_receive_7 : ino mX7_receive 7 = some (.iload_n 3, 8) := by decide +kernel
theorem eX7_receive_8 : ino mX7_receive 8 = some (.iaload, 9) := by decide +kernel
theorem eX7_receive_9 : ino mX7_receive 9 = some (.iadd, 10) := by decide +kernel
theorem eX7_receive_10 : ino mX7_receive 10 = some (.istore 4, 12) := by decide +kernel
theorem eX7_receive_12 : ino mX7_receive 12 = some (.aload_n 0, 13) := by decide +kernel
theorem eX7_receive_13 : ino mX7_receive 13 = some (.getfield 27, 16) := by decide +kernel
theorem eX7_receive_16 : ino mX7_receive 16 = some (.iload 4, 18) := by decide +kernel
theorem eX7_receive_18 : ino mX7_receive 18 = some (.aload_n 0, 19) := by decide +kernel
theorem eX7_receive_19 : ino mX7_receive 19 = some (.getfield 27, 22) := by decide +kernel
theorem eX7_receive_22 : ino mX7_receive 22 = some (.iload 4, 24) := by decide +kernel
theorem eX7_receive_24 : ino mX7_receive 24 = some (.iaload, 25) := by decide +kernel
theorem eX7_receive_25 : ino mX7_receive 25 = some (.aload_n 1, 26) := by decide +kernel
theorem eX7_receive_26 : ino mX7_receive 26 = some (.getfield 139, 29) := by decide +kernel
theorem eX7_receive_29 : ino mX7_receive 29 = some (.iload_n 3, 30) := by decide +kernel
theorem eX7_receive_30 : ino mX7_receive 30 = some (.iaload, 31) := by decide +kernel
theorem eX7_receive_31 : ino mX7_receive 31 = some (.iadd, 32) := by decide +kernel
theorem eX7_receive_32 : ino mX7_receive 32 = some (.bipush 99, 34) := by decide +kernel
theorem eX7_receive_34 : ino mX7_receive 34 = some (.invokestatic 122, 37) := by decide +kernel
theorem eX7_receive_37 : ino mX7_receive 37 = some (.iastore, 38) := by decide +kernel
theorem eX7_receive_38 : ino mX7_receive 38 = some (.aload_n 0, 39) := by decide +kernel
theorem eX7_receive_39 : ino mX7_receive 39 = some (.getfield 21, 42) := by decide +kernel
theorem eX7_receive_42 : ino mX7_receive 42 = some (.iload_n 2, 43) := by decide +kernel
theorem eX7_receive_43 : ino mX7_receive 43 = some (.aload_n 0, 44) := by decide +kernel
theorem eX7_receive_44 : ino mX7_receive 44 = some (.getfield 21, 47) := by decide +kernel
theorem eX7_receive_47 : ino mX7_receive 47 = some (.iload_n 2, 48) := by decide +kernel
theorem eX7_receive_48 : ino mX7_receive 48 = some (.iaload, 49) := by decide +kernel
theorem eX7_receive_49 : ino mX7_receive 49 = some (.aload_n 1, 50) := by decide +kernel
theorem eX7_receive_50 : ino mX7_receive 50 = some (.getfield 142, 53) := by decide +kernel
theorem eX7_receive_53 : ino mX7_receive 53 = some (.iload_n 3, 54) := by decide +kernel
theorem eX7_receive_54 : ino mX7_receive 54 = some (.iaload, 55) := by decide +kernel
theorem eX7_receive_55 : ino mX7_receive 55 = some (.iadd, 56) := by decide +kernel
theorem eX7_receive_56 : ino mX7_receive 56 = some (.bipush 99, 58) := by decide +kernel
theorem eX7_receive_58 : ino mX7_receive 58 = some (.invokestatic 122, 61) := by decide +kernel
theorem eX7_receive_61 : ino mX7_receive 61 = some (.iastore, 62) := by decide +kernel
theorem eX7_receive_62 : ino mX7_receive 62 = some (.return_, 63) := by decide +kernel
theorem eX7_talk_0 : ino mX7_talk 0 = some (.iconst 0, 1) := by decide +kernel
theorem eX7_talk_1 : ino mX7_talk 1 = some (.istore_n 3, 2) := by decide +kernel
theorem eX7_talk_2 : ino mX7_talk 2 = some (.iload_n 3, 3) := by decide +kernel
theorem eX7_talk_3 : ino mX7_talk 3 = some (.iconst 4, 4) := by decide +kernel
theorem eX7_talk_4 : ino mX7_talk 4 = some (.if_icmp .ge 67, 71) := by decide +kernel
theorem eX7_talk_7 : ino mX7_talk 7 = some (.aload_n 0, 8) := by decide +kernel
theorem eX7_talk_8 : ino mX7_talk 8 = some (.iload_n 1, 9) := by decide +kernel
theorem eX7_talk_9 : ino mX7_talk 9 = some (.iload_n 3, 10) := by decide +kernel
theorem eX7_talk_10 : ino mX7_talk 10 = some (.invokevirtual 72, 13) := by decide +kernel
theorem eX7_talk_13 : ino mX7_talk 13 = some (.aload_n 0, 14) := by decide +kernel
theorem eX7_talk_14 : ino mX7_talk 14 = some (.iload_n 2, 15) := by decide +kernel
theorem eX7_talk_15 : ino mX7_talk 15 = some (.iload_n 3, 16) := by decide +kernel
theorem eX7_talk_16 : ino mX7_talk 16 = some (.invokevirtual 72, 19) := by decide +kernel
theorem eX7_talk_19 : ino mX7_talk 19 = some (.isub, 20) := by decide +kernel
theorem eX7_talk_20 : ino mX7_talk 20 = some (.istore 4, 22) := by decide +kernel
theorem eX7_talk_22 : ino mX7_talk 22 = some (.iload 4, 24) := by decide +kernel
theorem eX7_talk_24 : ino mX7_talk 24 = some (.iconst 2, 25) := by decide +kernel
theorem eX7_talk_25 : ino mX7_talk 25 = some (.if_icmp .lt 18, 43) := by decide +kernel
theorem eX7_talk_28 : ino mX7_talk 28 = some (.aload_n 0, 29) := by decide +kernel
theorem eX7_talk_29 : ino mX7_talk 29 = some (.getfield 27, 32) := by decide +kernel
theorem eX7_talk_32 : ino mX7_talk 32 = some (.iload_n 2, 33) := by decide +kernel
theorem eX7_talk_33 : ino mX7_talk 33 = some (.iconst 4, 34) := by decide +kernel
theorem eX7_talk_34 : ino mX7_talk 34 = some (.imul, 35) := by decide +kernel
theorem eX7_talk_35 : ino mX7_talk 35 = some (.iload_n 3, 36) := by decide +kernel
theorem eX7_talk_36 : ino mX7_talk 36 = some (.iadd, 37) := by decide +kernel
theorem eX7_talk_37 : ino mX7_talk 37 = some (.dup2, 38) := by decide +kernel
theorem eX7_talk_38 : ino mX7_talk 38 = some (.iaload, 39) := by decide +kernel
theorem eX7_talk_39 : ino mX7_talk 39 = some (.iconst 1, 40) := by decide +kernel
theorem eX7_talk_40 : ino mX7_talk 40 = some (.iadd, 41) := by decide +kernel
theorem eX7_talk_41 : ino mX7_talk 41 = some (.iastore, 42) := by decide +kernel
theorem eX7_talk_42 : ino mX7_talk 42 = some (.return_, 43) := by decide +kernel
theorem eX7_talk_43 : ino mX7_talk 43 = some (.iload 4, 45) := by decide +kernel
theorem eX7_talk_45 : ino mX7_talk 45 = some (.bipush (-2), 47) := by decide +kernel
theorem eX7_talk_47 : ino mX7_talk 47 = some (.if_icmp .gt 18, 65) := by decide +kernel
theorem eX7_talk_50 : ino mX7_talk 50 = some (.aload_n 0, 51) := by decide +kernel
theorem eX7_talk_51 : ino mX7_talk 51 = some (.getfield 27, 54) := by decide +kernel
theorem eX7_talk_54 : ino mX7_talk 54 = some (.iload_n 1, 55) := by decide +kernel
theorem eX7_talk_55 : ino mX7_talk 55 = some (.iconst 4, 56) := by decide +kernel
theorem eX7_talk_56 : ino mX7_talk 56 = some (.imul, 57) := by decide +kernel
theorem eX7_talk_57 : ino mX7_talk 57 = some (.iload_n 3, 58) := by decide +kernel
theorem eX7_talk_58 : ino mX7_talk 58 = some (.iadd, 59) := by decide +kernel
theorem eX7_talk_59 : ino mX7_talk 59 = some (.dup2, 60) := by decide +kernel
theorem eX7_talk_60 : ino mX7_talk 60 = some (.iaload, 61) := by decide +kernel
theorem eX7_talk_61 : ino mX7_talk 61 = some (.iconst 1, 62) := by decide +kernel
theorem eX7_talk_62 : ino mX7_talk 62 = some (.iadd, 63) := by decide +kernel
theorem eX7_talk_63 : ino mX7_talk 63 = some (.iastore, 64) := by decide +kernel
theorem eX7_talk_64 : ino mX7_talk 64 = some (.return_, 65) := by decide +kernel
theorem eX7_talk_65 : ino mX7_talk 65 = some (.iinc 3 1, 68) := by decide +kernel
theorem eX7_talk_68 : ino mX7_talk 68 = some (.goto (-66), 2) := by decide +kernel
theorem eX7_talk_71 : ino mX7_talk 71 = some (.return_, 72) := by decide +kernel
theorem eX7_growOlder_0 : ino mX7_growOlder 0 = some (.aload_n 0, 1) := by decide +kernel
theorem eX7_growOlder_1 : ino mX7_growOlder 1 = some (.getfield 18, 4) := by decide +kernel
theorem eX7_growOlder_4 : ino mX7_growOlder 4 = some (.iload_n 2, 5) := by decide +kernel
theorem eX7_growOlder_5 : ino mX7_growOlder 5 = some (.dup2, 6) := by decide +kernel
theorem eX7_growOlder_6 : ino mX7_growOlder 6 = some (.iaload, 7) := by decide +kernel
theorem eX7_growOlder_7 : ino mX7_growOlder 7 = some (.iconst 1, 8) := by decide +kernel
theorem eX7_growOlder_8 : ino mX7_growOlder 8 = some (.iadd, 9) := by decide +kernel
theorem eX7_growOlder_9 : ino mX7_growOlder 9 = some (.iastore, 10) := by decide +kernel
theorem eX7_growOlder_10 : ino mX7_growOlder 10 = some (.aload_n 1, 11) := by decide +kernel
theorem eX7_growOlder_11 : ino mX7_growOlder 11 = some (.getfield 145, 14) := by decide +kernel
theorem eX7_growOlder_14 : ino mX7_growOlder 14 = some (.ifCond .le 36, 50) := by decide +kernel
theorem eX7_growOlder_17 : ino mX7_growOlder 17 = some (.aload_n 0, 18) := by decide +kernel
theorem eX7_growOlder_18 : ino mX7_growOlder 18 = some (.getfield 18, 21) := by decide +kernel
theorem eX7_growOlder_21 : ino mX7_growOlder 21 = some (.iload_n 2, 22) := by decide +kernel
theorem eX7_growOlder_22 : ino mX7_growOlder 22 = some (.iaload, 23) := by decide +kernel
theorem eX7_growOlder_23 : ino mX7_growOlder 23 = some (.aload_n 1, 24) := by decide +kernel
theorem eX7_growOlder_24 : ino mX7_growOlder 24 = some (.getfield 145, 27) := by decide +kernel
theorem eX7_growOlder_27 : ino mX7_growOlder 27 = some (.irem, 28) := by decide +kernel
theorem eX7_growOlder_28 : ino mX7_growOlder 28 = some (.ifCond .ne 22, 50) := by decide +kernel
theorem eX7_growOlder_31 : ino mX7_growOlder 31 = some (.aload_n 0, 32) := by decide +kernel
theorem eX7_growOlder_32 : ino mX7_growOlder 32 = some (.getfield 15, 35) := by decide +kernel
theorem eX7_growOlder_35 : ino mX7_growOlder 35 = some (.iload_n 2, 36) := by decide +kernel
theorem eX7_growOlder_36 : ino mX7_growOlder 36 = some (.aload_n 0, 37) := by decide +kernel
theorem eX7_growOlder_37 : ino mX7_growOlder 37 = some (.getfield 15, 40) := by decide +kernel
theorem eX7_growOlder_40 : ino mX7_growOlder 40 = some (.iload_n 2, 41) := by decide +kernel
theorem eX7_growOlder_41 : ino mX7_growOlder 41 = some (.iaload, 42) := by decide +kernel
theorem eX7_growOlder_42 : ino mX7_growOlder 42 = some (.iconst 1, 43) := by decide +kernel
theorem eX7_growOlder_43 : ino mX7_growOlder 43 = some (.iadd, 44) := by decide +kernel
theorem eX7_growOlder_44 : ino mX7_growOlder 44 = some (.bipush 60, 46) := by decide +kernel
theorem eX7_growOlder_46 : ino mX7_growOlder 46 = some (.invokestatic 122, 49) := by decide +kernel
theorem eX7_growOlder_49 : ino mX7_growOlder 49 = some (.iastore, 50) := by decide +kernel
theorem eX7_growOlder_50 : ino mX7_growOlder 50 = some (.return_, 51) := by decide +kernel
theorem eX7_drawHours_0 : ino mX7_drawHours 0 = some (.iload_n 3, 1) := by decide +kernel
theorem eX7_drawHours_1 : ino mX7_drawHours 1 = some (.istore 4, 3) := by decide +kernel
theorem eX7_drawHours_3 : ino mX7_drawHours 3 = some (.iconst 0, 4) := by decide +kernel
theorem eX7_drawHours_4 : ino mX7_drawHours 4 = some (.istore 5, 6) := by decide +kernel
theorem eX7_drawHours_6 : ino mX7_drawHours 6 = some (.iload 5, 8) := by decide +kernel
theorem eX7_drawHours_8 : ino mX7_drawHours 8 = some (.iload_n 2, 9) := by decide +kernel
theorem eX7_drawHours_9 : ino mX7_drawHours 9 = some (.if_icmp .ge 33, 42) := by decide +kernel
theorem eX7_drawHours_12 : ino mX7_drawHours 12 = some (.aload_n 0, 13) := by decide +kernel
theorem eX7_drawHours_13 : ino mX7_drawHours 13 = some (.getfield 43, 16) := by decide +kernel
theorem eX7_drawHours_16 : ino mX7_drawHours 16 = some (.sipush 400, 19) := by decide +kernel
theorem eX7_drawHours_19 : ino mX7_drawHours 19 = some (.if_icmp .ge 23, 42) := by decide +kernel
theorem eX7_drawHours_22 : ino mX7_drawHours 22 = some (.aload_n 0, 23) := by decide +kernel
theorem eX7_drawHours_23 : ino mX7_drawHours 23 = some (.aload_n 1, 24) := by decide +kernel
theorem eX7_drawHours_24 : ino mX7_drawHours 24 = some (.iload 4, 26) := by decide +kernel
theorem eX7_drawHours_26 : ino mX7_drawHours 26 = some (.invokevirtual 148, 29) := by decide +kernel
theorem eX7_drawHours_29 : ino mX7_drawHours 29 = some (.istore 4, 31) := by decide +kernel
theorem eX7_drawHours_31 : ino mX7_drawHours 31 = some (.aload_n 0, 32) := by decide +kernel
theorem eX7_drawHours_32 : ino mX7_drawHours 32 = some (.aload_n 1, 33) := by decide +kernel
theorem eX7_drawHours_33 : ino mX7_drawHours 33 = some (.invokevirtual 112, 36) := by decide +kernel
theorem eX7_drawHours_36 : ino mX7_drawHours 36 = some (.iinc 5 1, 39) := by decide +kernel
theorem eX7_drawHours_39 : ino mX7_drawHours 39 = some (.goto (-33), 6) := by decide +kernel
theorem eX7_drawHours_42 : ino mX7_drawHours 42 = some (.iload 5, 44) := by decide +kernel
theorem eX7_drawHours_44 : ino mX7_drawHours 44 = some (.ireturn, 45) := by decide +kernel
theorem eX7_drawDeeds_0 : ino mX7_drawDeeds 0 = some (.iload_n 2, 1) := by decide +kernel
theorem eX7_drawDeeds_1 : ino mX7_drawDeeds 1 = some (.istore_n 3, 2) := by decide +kernel
theorem eX7_drawDeeds_2 : ino mX7_drawDeeds 2 = some (.iconst 0, 3) := by decide +kernel
theorem eX7_drawDeeds_3 : ino mX7_drawDeeds 3 = some (.istore 4, 5) := by decide +kernel
theorem eX7_drawDeeds_5 : ino mX7_drawDeeds 5 = some (.iload 4, 7) := by decide +kernel
theorem eX7_drawDeeds_7 : ino mX7_drawDeeds 7 = some (.aload_n 1, 8) := by decide +kernel
theorem eX7_drawDeeds_8 : ino mX7_drawDeeds 8 = some (.getfield 79, 11) := by decide +kernel
theorem eX7_drawDeeds_11 : ino mX7_drawDeeds 11 = some (.if_icmp .ge 105, 116) := by decide +kernel
theorem eX7_drawDeeds_14 : ino mX7_drawDeeds 14 = some (.aload_n 0, 15) := by decide +kernel
theorem eX7_drawDeeds_15 : ino mX7_drawDeeds 15 = some (.getfield 9, 18) := by decide +kernel
theorem eX7_drawDeeds_18 : ino mX7_drawDeeds 18 = some (.iload 4, 20) := by decide +kernel
theorem eX7_drawDeeds_20 : ino mX7_drawDeeds 20 = some (.iaload, 21) := by decide +kernel
theorem eX7_drawDeeds_21 : ino mX7_drawDeeds 21 = some (.iconst (-1), 22) := by decide +kernel
theorem eX7_drawDeeds_22 : ino mX7_drawDeeds 22 = some (.if_icmp .ne 6, 28) := by decide +kernel
theorem eX7_drawDeeds_25 : ino mX7_drawDeeds 25 = some (.goto 85, 110) := by decide +kernel
theorem eX7_drawDeeds_28 : ino mX7_drawDeeds 28 = some (.iload_n 3, 29) := by decide +kernel
theorem eX7_drawDeeds_29 : ino mX7_drawDeeds 29 = some (.invokestatic 151, 32) := by decide +kernel
theorem eX7_drawDeeds_32 : ino mX7_drawDeeds 32 = some (.istore_n 3, 33) := by decide +kernel
theorem eX7_drawDeeds_33 : ino mX7_drawDeeds 33 = some (.iload_n 3, 34) := by decide +kernel
theorem eX7_drawDeeds_34 : ino mX7_drawDeeds 34 = some (.iconst 4, 35) := by decide +kernel
theorem eX7_drawDeeds_35 : ino mX7_drawDeeds 35 = some (.invokestatic 154, 38) := by decide +kernel
theorem eX7_drawDeeds_38 : ino mX7_drawDeeds 38 = some (.istore 5, 40) := by decide +kernel
theorem eX7_drawDeeds_40 : ino mX7_drawDeeds 40 = some (.iload 5, 42) := by decide +kernel
theorem eX7_drawDeeds_42 : ino mX7_drawDeeds 42 = some (.ifCond .ne 44, 86) := by decide +kernel
theorem eX7_drawDeeds_45 : ino mX7_drawDeeds 45 = some (.iload_n 3, 46) := by decide +kernel
theorem eX7_drawDeeds_46 : ino mX7_drawDeeds 46 = some (.invokestatic 151, 49) := by decide +kernel
theorem eX7_drawDeeds_49 : ino mX7_drawDeeds 49 = some (.istore_n 3, 50) := by decide +kernel
theorem eX7_drawDeeds_50 : ino mX7_drawDeeds 50 = some (.iload_n 3, 51) := by decide +kernel
theorem eX7_drawDeeds_51 : ino mX7_drawDeeds 51 = some (.aload_n 1, 52) := by decide +kernel
theorem eX7_drawDeeds_52 : ino mX7_drawDeeds 52 = some (.getfield 157, 55) := by decide +kernel
theorem eX7_drawDeeds_55 : ino mX7_drawDeeds 55 = some (.iconst 1, 56) := by decide +kernel
theorem eX7_drawDeeds_56 : ino mX7_drawDeeds 56 = some (.iadd, 57) := by decide +kernel
theorem eX7_drawDeeds_57 : ino mX7_drawDeeds 57 = some (.invokestatic 154, 60) := by decide +kernel
theorem eX7_drawDeeds_60 : ino mX7_drawDeeds 60 = some (.istore 6, 62) := by decide +kernel
theorem eX7_drawDeeds_62 : ino mX7_drawDeeds 62 = some (.aload_n 0, 63) := by decide +kernel
theorem eX7_drawDeeds_63 : ino mX7_drawDeeds 63 = some (.aload_n 1, 64) := by decide +kernel
theorem eX7_drawDeeds_64 : ino mX7_drawDeeds 64 = some (.iload 4, 66) := by decide +kernel
theorem eX7_drawDeeds_66 : ino mX7_drawDeeds 66 = some (.iload 6, 68) := by decide +kernel
theorem eX7_drawDeeds_68 : ino mX7_drawDeeds 68 = some (.invokevirtual 90, 71) := by decide +kernel
theorem eX7_drawDeeds_71 : ino mX7_drawDeeds 71 = some (.ifCond .ne 12, 83) := by decide +kernel
theorem eX7_drawDeeds_74 : ino mX7_drawDeeds 74 = some (.aload_n 0, 75) := by decide +kernel
theorem eX7_drawDeeds_75 : ino mX7_drawDeeds 75 = some (.aload_n 1, 76) := by decide +kernel
theorem eX7_drawDeeds_76 : ino mX7_drawDeeds 76 = some (.iload 4, 78) := by decide +kernel
theorem eX7_drawDeeds_78 : ino mX7_drawDeeds 78 = some (.iload 6, 80) := by decide +kernel
theorem eX7_drawDeeds_80 : ino mX7_drawDeeds 80 = some (.invokevirtual 104, 83) := by decide +kernel
theorem eX7_drawDeeds_83 : ino mX7_drawDeeds 83 = some (.goto 27, 110) := by decide +kernel
theorem eX7_drawDeeds_86 : ino mX7_drawDeeds 86 = some (.iload 5, 88) := by decide +kernel
theorem eX7_drawDeeds_88 : ino mX7_drawDeeds 88 = some (.iconst 1, 89) := by decide +kernel
theorem eX7_drawDeeds_89 : ino mX7_drawDeeds 89 = some (.if_icmp .ne 21, 110) := by decide +kernel
theorem eX7_drawDeeds_92 : ino mX7_drawDeeds 92 = some (.aload_n 0, 93) := by decide +kernel
theorem eX7_drawDeeds_93 : ino mX7_drawDeeds 93 = some (.aload_n 1, 94) := by decide +kernel
theorem eX7_drawDeeds_94 : ino mX7_drawDeeds 94 = some (.iload 4, 96) := by decide +kernel
theorem eX7_drawDeeds_96 : ino mX7_drawDeeds 96 = some (.invokevirtual 98, 99) := by decide +kernel
theorem eX7_drawDeeds_99 : ino mX7_drawDeeds 99 = some (.ifCond .ne 11, 110) := by decide +kernel
theorem eX7_drawDeeds_102 : ino mX7_drawDeeds 102 = some (.aload_n 0, 103) := by decide +kernel
theorem eX7_drawDeeds_103 : ino mX7_drawDeeds 103 = some (.getfield 9, 106) := by decide +kernel
theorem eX7_drawDeeds_106 : ino mX7_drawDeeds 106 = some (.iload 4, 108) := by decide +kernel
theorem eX7_drawDeeds_108 : ino mX7_drawDeeds 108 = some (.iconst (-1), 109) := by decide +kernel
theorem eX7_drawDeeds_109 : ino mX7_drawDeeds 109 = some (.iastore, 110) := by decide +kernel
theorem eX7_drawDeeds_110 : ino mX7_drawDeeds 110 = some (.iinc 4 1, 113) := by decide +kernel
theorem eX7_drawDeeds_113 : ino mX7_drawDeeds 113 = some (.goto (-108), 5) := by decide +kernel
theorem eX7_drawDeeds_116 : ino mX7_drawDeeds 116 = some (.iload_n 3, 117) := by decide +kernel
theorem eX7_drawDeeds_117 : ino mX7_drawDeeds 117 = some (.ireturn, 118) := by decide +kernel
theorem eX7_nextDraw_0 : ino mX7_nextDraw 0 = some (.iload_n 0, 1) := by decide +kernel
theorem eX7_nextDraw_1 : ino mX7_nextDraw 1 = some (.ldc 160, 3) := by decide +kernel
theorem eX7_nextDraw_3 : ino mX7_nextDraw 3 = some (.imul, 4) := by decide +kernel
theorem eX7_nextDraw_4 : ino mX7_nextDraw 4 = some (.sipush 12345, 7) := by decide +kernel
theorem eX7_nextDraw_7 : ino mX7_nextDraw 7 = some (.iadd, 8) := by decide +kernel
theorem eX7_nextDraw_8 : ino mX7_nextDraw 8 = some (.ireturn, 9) := by decide +kernel
theorem eX7_drawOf_0 : ino mX7_drawOf 0 = some (.iload_n 1, 1) := by decide +kernel
theorem eX7_drawOf_1 : ino mX7_drawOf 1 = some (.ifCond .le 12, 13) := by decide +kernel
theorem eX7_drawOf_4 : ino mX7_drawOf 4 = some (.iload_n 0, 5) := by decide +kernel
theorem eX7_drawOf_5 : ino mX7_drawOf 5 = some (.bipush 8, 7) := by decide +kernel
theorem eX7_drawOf_7 : ino mX7_drawOf 7 = some (.iushr, 8) := by decide +kernel
theorem eX7_drawOf_8 : ino mX7_drawOf 8 = some (.iload_n 1, 9) := by decide +kernel
theorem eX7_drawOf_9 : ino mX7_drawOf 9 = some (.irem, 10) := by decide +kernel
theorem eX7_drawOf_10 : ino mX7_drawOf 10 = some (.goto 4, 14) := by decide +kernel
theorem eX7_drawOf_13 : ino mX7_drawOf 13 = some (.iconst 0, 14) := by decide +kernel
theorem eX7_drawOf_14 : ino mX7_drawOf 14 = some (.ireturn, 15) := by decide +kernel
