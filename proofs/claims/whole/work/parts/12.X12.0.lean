theorem eX12_thrown_0 : ino mX12_thrown 0 = some (.aload_n 0, 1) := by decide +kernel
theorem eX12_thrown_1 : ino mX12_thrown 1 = some (.getfield 1, 4) := by decide +kernel
theorem eX12_thrown_4 : ino mX12_thrown 4 = some (.ireturn, 5) := by decide +kernel
theorem eX12_throwsIf_0 : ino mX12_throwsIf 0 = some (.aload_n 0, 1) := by decide +kernel
theorem eX12_throwsIf_1 : ino mX12_throwsIf 1 = some (.iload_n 1, 2) := by decide +kernel
theorem eX12_throwsIf_2 : ino mX12_throwsIf 2 = some (.ifCond .eq 7, 9) := by decide +kernel
theorem eX12_throwsIf_5 : ino mX12_throwsIf 5 = some (.iconst 1, 6) := by decide +kernel
theorem eX12_throwsIf_6 : ino mX12_throwsIf 6 = some (.goto 4, 10) := by decide +kernel
theorem eX12_throwsIf_9 : ino mX12_throwsIf 9 = some (.iconst 0, 10) := by decide +kernel
theorem eX12_throwsIf_10 : ino mX12_throwsIf 10 = some (.putfield 1, 13) := by decide +kernel
theorem eX12_throwsIf_13 : ino mX12_throwsIf 13 = some (.iload_n 1, 14) := by decide +kernel
theorem eX12_throwsIf_14 : ino mX12_throwsIf 14 = some (.ireturn, 15) := by decide +kernel
theorem eX12_feed_0 : ino mX12_feed 0 = some (.aload_n 0, 1) := by decide +kernel
theorem eX12_feed_1 : ino mX12_feed 1 = some (.iconst 0, 2) := by decide +kernel
theorem eX12_feed_2 : ino mX12_feed 2 = some (.putfield 1, 5) := by decide +kernel
theorem eX12_feed_5 : ino mX12_feed 5 = some (.aload_n 0, 6) := by decide +kernel
theorem eX12_feed_6 : ino mX12_feed 6 = some (.getfield 7, 9) := by decide +kernel
theorem eX12_feed_9 : ino mX12_feed 9 = some (.bipush 20, 11) := by decide +kernel
theorem eX12_feed_11 : ino mX12_feed 11 = some (.iadd, 12) := by decide +kernel
theorem eX12_feed_12 : ino mX12_feed 12 = some (.sipush 940, 15) := by decide +kernel
theorem eX12_feed_15 : ino mX12_feed 15 = some (.if_icmp .le 5, 20) := by decide +kernel
theorem eX12_feed_18 : ino mX12_feed 18 = some (.iconst (-1), 19) := by decide +kernel
theorem eX12_feed_19 : ino mX12_feed 19 = some (.ireturn, 20) := by decide +kernel
theorem eX12_feed_20 : ino mX12_feed 20 = some (.aload_n 0, 21) := by decide +kernel
theorem eX12_feed_21 : ino mX12_feed 21 = some (.iload_n 1, 22) := by decide +kernel
theorem eX12_feed_22 : ino mX12_feed 22 = some (.invokevirtual 10, 25) := by decide +kernel
theorem eX12_feed_25 : ino mX12_feed 25 = some (.aload_n 0, 26) := by decide +kernel
theorem eX12_feed_26 : ino mX12_feed 26 = some (.iload_n 2, 27) := by decide +kernel
theorem eX12_feed_27 : ino mX12_feed 27 = some (.invokevirtual 10, 30) := by decide +kernel
theorem eX12_feed_30 : ino mX12_feed 30 = some (.aload_n 0, 31) := by decide +kernel
theorem eX12_feed_31 : ino mX12_feed 31 = some (.iload_n 3, 32) := by decide +kernel
theorem eX12_feed_32 : ino mX12_feed 32 = some (.invokevirtual 10, 35) := by decide +kernel
theorem eX12_feed_35 : ino mX12_feed 35 = some (.aload_n 0, 36) := by decide +kernel
theorem eX12_feed_36 : ino mX12_feed 36 = some (.iload 4, 38) := by decide +kernel
theorem eX12_feed_38 : ino mX12_feed 38 = some (.invokevirtual 10, 41) := by decide +kernel
theorem eX12_feed_41 : ino mX12_feed 41 = some (.aload_n 0, 42) := by decide +kernel
theorem eX12_feed_42 : ino mX12_feed 42 = some (.iload 5, 44) := by decide +kernel
theorem eX12_feed_44 : ino mX12_feed 44 = some (.invokevirtual 10, 47) := by decide +kernel
theorem eX12_feed_47 : ino mX12_feed 47 = some (.aload_n 0, 48) := by decide +kernel
theorem eX12_feed_48 : ino mX12_feed 48 = some (.getfield 7, 51) := by decide +kernel
theorem eX12_feed_51 : ino mX12_feed 51 = some (.ireturn, 52) := by decide +kernel
theorem eX12_four_0 : ino mX12_four 0 = some (.bipush 24, 2) := by decide +kernel
theorem eX12_four_2 : ino mX12_four 2 = some (.istore_n 2, 3) := by decide +kernel
theorem eX12_four_3 : ino mX12_four 3 = some (.iload_n 2, 4) := by decide +kernel
theorem eX12_four_4 : ino mX12_four 4 = some (.ifCond .lt 32, 36) := by decide +kernel
theorem eX12_four_7 : ino mX12_four 7 = some (.aload_n 0, 8) := by decide +kernel
theorem eX12_four_8 : ino mX12_four 8 = some (.getfield 14, 11) := by decide +kernel
theorem eX12_four_11 : ino mX12_four 11 = some (.aload_n 0, 12) := by decide +kernel
theorem eX12_four_12 : ino mX12_four 12 = some (.getfield 7, 15) := by decide +kernel
theorem eX12_four_15 : ino mX12_four 15 = some (.iload_n 1, 16) := by decide +kernel
theorem eX12_four_16 : ino mX12_four 16 = some (.iload_n 2, 17) := by decide +kernel
theorem eX12_four_17 : ino mX12_four 17 = some (.ishr, 18) := by decide +kernel
theorem eX12_four_18 : ino mX12_four 18 = some (.i2b, 19) := by decide +kernel
theorem eX12_four_19 : ino mX12_four 19 = some (.bastore, 20) := by decide +kernel
theorem eX12_four_20 : ino mX12_four 20 = some (.aload_n 0, 21) := by decide +kernel
theorem eX12_four_21 : ino mX12_four 21 = some (.dup, 22) := by decide +kernel
theorem eX12_four_22 : ino mX12_four 22 = some (.getfield 7, 25) := by decide +kernel
theorem eX12_four_25 : ino mX12_four 25 = some (.iconst 1, 26) := by decide +kernel
theorem eX12_four_26 : ino mX12_four 26 = some (.iadd, 27) := by decide +kernel
theorem eX12_four_27 : ino mX12_four 27 = some (.putfield 7, 30) := by decide +kernel
theorem eX12_four_30 : ino mX12_four 30 = some (.iinc 2 (-8), 33) := by decide +kernel
theorem eX12_four_33 : ino mX12_four 33 = some (.goto (-30), 3) := by decide +kernel
theorem eX12_four_36 : ino mX12_four 36 = some (.return_, 37) := by decide +kernel
theorem eX12_end_0 : ino mX12_end 0 = some (.aload_n 0, 1) := by decide +kernel
theorem eX12_end_1 : ino mX12_end 1 = some (.iconst 0, 2) := by decide +kernel
theorem eX12_end_2 : ino mX12_end 2 = some (.putfield 1, 5) := by decide +kernel
theorem eX12_end_5 : ino mX12_end 5 = some (.iload_n 1, 6) := by decide +kernel
theorem eX12_end_6 : ino mX12_end 6 = some (.ifCond .lt 11, 17) := by decide +kernel
theorem eX12_end_9 : ino mX12_end 9 = some (.iload_n 1, 10) := by decide +kernel
theorem eX12_end_10 : ino mX12_end 10 = some (.aload_n 0, 11) := by decide +kernel
theorem eX12_end_11 : ino mX12_end 11 = some (.getfield 7, 14) := by decide +kernel
theorem eX12_end_14 : ino mX12_end 14 = some (.if_icmp .le 5, 19) := by decide +kernel
theorem eX12_end_17 : ino mX12_end 17 = some (.iconst 0, 18) := by decide +kernel
theorem eX12_end_18 : ino mX12_end 18 = some (.ireturn, 19) := by decide +kernel
theorem eX12_end_19 : ino mX12_end 19 = some (.aload_n 0, 20) := by decide +kernel
theorem eX12_end_20 : ino mX12_end 20 = some (.iload_n 1, 21) := by decide +kernel
theorem eX12_end_21 : ino mX12_end 21 = some (.putfield 7, 24) := by decide +kernel
theorem eX12_end_24 : ino mX12_end 24 = some (.iconst 1, 25) := by decide +kernel
theorem eX12_end_25 : ino mX12_end 25 = some (.ireturn, 26) := by decide +kernel
theorem eX12_taken_0 : ino mX12_taken 0 = some (.aload_n 0, 1) := by decide +kernel
theorem eX12_taken_1 : ino mX12_taken 1 = some (.aload_n 0, 2) := by decide +kernel
theorem eX12_taken_2 : ino mX12_taken 2 = some (.getfield 7, 5) := by decide +kernel
theorem eX12_taken_5 : ino mX12_taken 5 = some (.putfield 18, 8) := by decide +kernel
theorem eX12_taken_8 : ino mX12_taken 8 = some (.aload_n 0, 9) := by decide +kernel
theorem eX12_taken_9 : ino mX12_taken 9 = some (.iconst 0, 10) := by decide +kernel
theorem eX12_taken_10 : ino mX12_taken 10 = some (.putfield 7, 13) := by decide +kernel
theorem eX12_taken_13 : ino mX12_taken 13 = some (.aload_n 0, 14) := by decide +kernel
theorem eX12_taken_14 : ino mX12_taken 14 = some (.iconst 0, 15) := by decide +kernel
theorem eX12_taken_15 : ino mX12_taken 15 = some (.putfield 21, 18) := by decide +kernel
theorem eX12_taken_18 : ino mX12_taken 18 = some (.aload_n 0, 19) := by decide +kernel
theorem eX12_taken_19 : ino mX12_taken 19 = some (.iload_n 1, 20) := by decide +kernel
theorem eX12_taken_20 : ino mX12_taken 20 = some (.putfield 24, 23) := by decide +kernel
theorem eX12_taken_23 : ino mX12_taken 23 = some (.return_, 24) := by decide +kernel
theorem eX12_isIn_0 : ino mX12_isIn 0 = some (.iload_n 0, 1) := by decide +kernel
theorem eX12_isIn_1 : ino mX12_isIn 1 = some (.iload_n 1, 2) := by decide +kernel
theorem eX12_isIn_2 : ino mX12_isIn 2 = some (.if_icmp .lt 12, 14) := by decide +kernel
theorem eX12_isIn_5 : ino mX12_isIn 5 = some (.iload_n 0, 6) := by decide +kernel
theorem eX12_isIn_6 : ino mX12_isIn 6 = some (.iload_n 2, 7) := by decide +kernel
theorem eX12_isIn_7 : ino mX12_isIn 7 = some (.if_icmp .gt 7, 14) := by decide +kernel
theorem eX12_isIn_10 : ino mX12_isIn 10 = some (.iconst 1, 11) := by decide +kernel
theorem eX12_isIn_11 : ino mX12_isIn 11 = some (.goto 4, 15) := by decide +kernel
theorem eX12_isIn_14 : ino mX12_isIn 14 = some (.iconst 0, 15) := by decide +kernel
theorem eX12_isIn_15 : ino mX12_isIn 15 = some (.ireturn, 16) := by decide +kernel
theorem eX12_bitOf_0 : ino mX12_bitOf 0 = some (.iload_n 0, 1) := by decide +kernel
theorem eX12_bitOf_1 : ino mX12_bitOf 1 = some (.iload_n 1, 2) := by decide +kernel
theorem eX12_bitOf_2 : ino mX12_bitOf 2 = some (.ishr, 3) := by decide +kernel
theorem eX12_bitOf_3 : ino mX12_bitOf 3 = some (.iconst 1, 4) := by decide +kernel
theorem eX12_bitOf_4 : ino mX12_bitOf 4 = some (.iand, 5) := by decide +kernel
theorem eX12_bitOf_5 : ino mX12_bitOf 5 = some (.iconst 1, 6) := by decide +kernel
theorem eX12_bitOf_6 : ino mX12_bitOf 6 = some (.if_icmp .ne 7, 13) := by decide +kernel
theorem eX12_bitOf_9 : ino mX12_bitOf 9 = some (.iconst 1, 10) := by decide +kernel
theorem eX12_bitOf_10 : ino mX12_bitOf 10 = some (.goto 4, 14) := by decide +kernel
theorem eX12_bitOf_13 : ino mX12_bitOf 13 = some (.iconst 0, 14) := by decide +kernel
theorem eX12_bitOf_14 : ino mX12_bitOf 14 = some (.ireturn, 15) := by decide +kernel
theorem eX12_lesser_0 : ino mX12_lesser 0 = some (.iload_n 0, 1) := by decide +kernel
theorem eX12_lesser_1 : ino mX12_lesser 1 = some (.iload_n 1, 2) := by decide +kernel
theorem eX12_lesser_2 : ino mX12_lesser 2 = some (.if_icmp .ge 7, 9) := by decide +kernel
theorem eX12_lesser_5 : ino mX12_lesser 5 = some (.iload_n 0, 6) := by decide +kernel
theorem eX12_lesser_6 : ino mX12_lesser 6 = some (.goto 4, 10) := by decide +kernel
theorem eX12_lesser_9 : ino mX12_lesser 9 = some (.iload_n 1, 10) := by decide +kernel
theorem eX12_lesser_10 : ino mX12_lesser 10 = some (.ireturn, 11) := by decide +kernel
theorem eX12_greater_0 : ino mX12_greater 0 = some (.iload_n 0, 1) := by decide +kernel
theorem eX12_greater_1 : ino mX12_greater 1 = some (.iload_n 1, 2) := by decide +kernel
theorem eX12_greater_2 : ino mX12_greater 2 = some (.if_icmp .le 7, 9) := by decide +kernel
theorem eX12_greater_5 : ino mX12_greater 5 = some (.iload_n 0, 6) := by decide +kernel
theorem eX12_greater_6 : ino mX12_greater 6 = some (.goto 4, 10) := by decide +kernel
theorem eX12_greater_9 : ino mX12_greater 9 = some (.iload_n 1, 10) := by decide +kernel
theorem eX12_greater_10 : ino mX12_greater 10 = some (.ireturn, 11) := by decide +kernel
theorem eX12_absolute_0 : ino mX12_absolute 0 = some (.iload_n 0, 1) := by decide +kernel
theorem eX12_absolute_1 : ino mX12_absolute 1 = some (.ifCond .ge 8, 9) := by decide +kernel
theorem eX12_absolute_4 : ino mX12_absolute 4 = some (.iload_n 0, 5) := by decide +kernel
theorem eX12_absolute_5 : ino mX12_absolute 5 = some (.ineg, 6) := by decide +kernel
theorem eX12_absolute_6 : ino mX12_absolute 6 = some (.goto 4, 10) := by decide +kernel
theorem eX12_absolute_9 : ino mX12_absolute 9 = some (.iload_n 0, 10) := by decide +kernel
theorem eX12_absolute_10 : ino mX12_absolute 10 = some (.ireturn, 11) := by decide +kernel
theorem eX12_bits_0 : ino mX12_bits 0 = some (.iconst 0, 1) := by decide +kernel
theorem eX12_bits_1 : ino mX12_bits 1 = some (.istore_n 1, 2) := by decide +kernel
theorem eX12_bits_2 : ino mX12_bits 2 = some (.iload_n 0, 3) := by decide +kernel
theorem eX12_bits_3 : ino mX12_bits 3 = some (.istore_n 2, 4) := by decide +kernel
theorem eX12_bits_4 : ino mX12_bits 4 = some (.iload_n 2, 5) := by decide +kernel
theorem eX12_bits_5 : ino mX12_bits 5 = some (.ifCond .eq 15, 20) := by decide +kernel
theorem eX12_bits_8 : ino mX12_bits 8 = some (.iinc 1 1, 11) := by decide +kernel
theorem eX12_bits_11 : ino mX12_bits 11 = some (.iload_n 2, 12) := by decide +kernel
theorem eX12_bits_12 : ino mX12_bits 12 = some (.iload_n 2, 13) := by decide +kernel
theorem eX12_bits_13 : ino mX12_bits 13 = some (.iconst 1, 14) := by decide +kernel
theorem eX12_bits_14 : ino mX12_bits 14 = some (.isub, 15) := by decide +kernel
theorem eX12_bits_15 : ino mX12_bits 15 = some (.iand, 16) := by decide +kernel
theorem eX12_bits_16 : ino mX12_bits 16 = some (.istore_n 2, 17) := by decide +kernel
theorem eX12_bits_17 : ino mX12_bits 17 = some (.goto (-13), 4) := by decide +kernel
theorem eX12_bits_20 : ino mX12_bits 20 = some (.iload_n 1, 21) := by decide +kernel
theorem eX12_bits_21 : ino mX12_bits 21 = some (.ireturn, 22) := by decide +kernel
theorem eX12_octet_0 : ino mX12_octet 0 = some (.aload_n 0, 1) := by decide +kernel
theorem eX12_octet_1 : ino mX12_octet 1 = some (.getfield 14, 4) := by decide +kernel
theorem eX12_octet_4 : ino mX12_octet 4 = some (.iload_n 1, 5) := by decide +kernel
theorem eX12_octet_5 : ino mX12_octet 5 = some (.baload, 6) := by decide +kernel
theorem eX12_octet_6 : ino mX12_octet 6 = some (.sipush 255, 9) := by decide +kernel
theorem eX12_octet_9 : ino mX12_octet 9 = some (.iand, 10) := by decide +kernel
theorem eX12_octet_10 : ino mX12_octet 10 = some (.ireturn, 11) := by decide +kernel
theorem eX12_init_0 : ino mX12_init 0 = some (.aload_n 0, 1) := by decide +kernel
theorem eX12_init_1 : ino mX12_init 1 = some (.invokespecial 27, 4) := by decide +kernel
theorem eX12_init_4 : ino mX12_init 4 = some (.aload_n 0, 5) := by decide +kernel
theorem eX12_init_5 : ino mX12_init 5 = some (.sipush 940, 8) := by decide +kernel
theorem eX12_init_8 : ino mX12_init 8 = some (.newarray .byte, 10) := by decide +kernel
theorem eX12_init_10 : ino mX12_init 10 = some (.putfield 14, 13) := by decide +kernel
theorem eX12_init_13 : ino mX12_init 13 = some (.aload_n 0, 14) := by decide +kernel
theorem eX12_init_14 : ino mX12_init 14 = some (.sipush 325, 17) := by decide +kernel
theorem eX12_init_17 : ino mX12_init 17 = some (.newarray .int, 19) := by decide +kernel
theorem eX12_init_19 : ino mX12_init 19 = some (.putfield 33, 22) := by decide +kernel
theorem eX12_init_22 : ino mX12_init 22 = some (.aload_n 0, 23) := by decide +kernel
theorem eX12_init_23 : ino mX12_init 23 = some (.bipush 85, 25) := by decide +kernel
theorem eX12_init_25 : ino mX12_init 25 = some (.newarray .int, 27) := by decide +kernel
theorem eX12_init_27 : ino mX12_init 27 = some (.putfield 37, 30) := by decide +kernel
theorem eX12_init_30 : ino mX12_init 30 = some (.aload_n 0, 31) := by decide +kernel
theorem eX12_init_31 : ino mX12_init 31 = some (.sipush 135, 34) := by decide +kernel
theorem eX12_init_34 : ino mX12_init 34 = some (.newarray .int, 36) := by decide +kernel
theorem eX12_init_36 : ino mX12_init 36 = some (.putfield 40, 39) := by decide +kernel
theorem eX12_init_39 : ino mX12_init 39 = some (.aload_n 0, 40) := by decide +kernel
theorem eX12_init_40 : ino mX12_init 40 = some (.bipush 38, 42) := by decide +kernel
theorem eX12_init_42 : ino mX12_init 42 = some (.newarray .long, 44) := by decide +kernel
theorem eX12_init_44 : ino mX12_init 44 = some (.putfield 43, 47) := by decide +kernel
theorem eX12_init_47 : ino mX12_init 47 = some (.aload_n 0, 48) := by decide +kernel
theorem eX12_init_48 : ino mX12_init 48 = some (.bipush 31, 50) := by decide +kernel
theorem eX12_init_50 : ino mX12_init 50 = some (.newarray .long, 52) := by decide +kernel
theorem eX12_init_52 : ino mX12_init 52 = some (.putfield 47, 55) := by decide +kernel
theorem eX12_init_55 : ino mX12_init 55 = some (.aload_n 0, 56) := by decide +kernel
theorem eX12_init_56 : ino mX12_init 56 = some (.sipush 472, 59) := by decide +kernel
theorem eX12_init_59 : ino mX12_init 59 = some (.newarray .int, 61) := by decide +kernel
theorem eX12_init_61 : ino mX12_init 61 = some (.putfield 50, 64) := by decide +kernel
theorem eX12_init_64 : ino mX12_init 64 = some (.aload_n 0, 65) := by decide +kernel
theorem eX12_init_65 : ino mX12_init 65 = some (.bipush 59, 67) := by decide +kernel
theorem eX12_init_67 : ino mX12_init 67 = some (.newarray .int, 69) := by decide +kernel
theorem eX12_init_69 : ino mX12_init 69 = some (.putfield 53, 72) := by decide +kernel
theorem eX12_init_72 : ino mX12_init 72 = some (.aload_n 0, 73) := by decide +kernel
theorem eX12_init_73 : ino mX12_init 73 = some (.iconst 4, 74) := by decide +kernel
theorem eX12_init_74 : ino mX12_init 74 = some (.newarray .int, 76) := by decide +kernel
theorem eX12_init_76 : ino mX12_init 76 = some (.putfield 56, 79) := by decide +kernel
theorem eX12_init_79 : ino mX12_init 79 = some (.aload_n 0, 80) := by decide +kernel
theorem eX12_init_80 : ino mX12_init 80 = some (.iconst 4, 81) := by decide +kernel
theorem eX12_init_81 : ino mX12_init 81 = some (.newarray .int, 83) := by decide +kernel
theorem eX12_init_83 : ino mX12_init 83 = some (.putfield 59, 86) := by decide +kernel
theorem eX12_init_86 : ino mX12_init 86 = some (.aload_n 0, 87) := by decide +kernel
theorem eX12_init_87 : ino mX12_init 87 = some (.iconst (-1), 88) := by decide +kernel
theorem eX12_init_88 : ino mX12_init 88 = some (.putfield 62, 91) := by decide +kernel
theorem eX12_init_91 : ino mX12_init 91 = some (.aload_n 0, 92) := by decide +kernel
theorem eX12_init_92 : ino mX12_init 92 = some (.iconst (-1), 93) := by decide +kernel
theorem eX12_init_93 : ino mX12_init 93 = some (.putfield 65, 96) := by decide +kernel
theorem eX12_init_96 : ino mX12_init 96 = some (.aload_n 0, 97) := by decide +kernel
theorem eX12_init_97 : ino mX12_init 97 = some (.iconst 4, 98) := by decide +kernel
theorem eX12_init_98 : ino mX12_init 98 = some (.newarray .int, 100) := by decide +kernel
theorem eX12_init_100 : ino mX12_init 100 = some (.putfield 68, 103) := by decide +kernel
theorem eX12_init_103 : ino mX12_init 103 = some (.aload_n 0, 104) := by decide +kernel
theorem eX12_init_104 : ino mX12_init 104 = some (.iconst 4, 105) := by decide +kernel
theorem eX12_init_105 : ino mX12_init 105 = some (.newarray .int, 107) := by decide +kernel
theorem eX12_init_107 : ino mX12_init 107 = some (.putfield 71, 110) := by decide +kernel
theorem eX12_init_110 : ino mX12_init 110 = some (.aload_n 0, 111) := by decide +kernel
theorem eX12_init_111 : ino mX12_init 111 = some (.bipush 9, 113) := by decide +kernel
theorem eX12_init_113 : ino mX12_init 113 = some (.newarray .int, 115) := by decide +kernel
theorem eX12_init_115 : ino mX12_init 115 = some (.putfield 74, 118) := by decide +kernel
theorem eX12_init_118 : ino mX12_init 118 = some (.aload_n 0, 119) := by decide +kernel
theorem eX12_init_119 : ino mX12_init 119 = some (.iconst (-1), 120) := by decide +kernel
theorem eX12_init_120 : ino mX12_init 120 = some (.putfield 77, 123) := by decide +kernel
theorem eX12_init_123 : ino mX12_init 123 = some (.aload_n 0, 124) := by decide +kernel
theorem eX12_init_124 : ino mX12_init 124 = some (.iconst (-1), 125) := by decide +kernel
theorem eX12_init_125 : ino mX12_init 125 = some (.putfield 80, 128) := by decide +kernel
theorem eX12_init_128 : ino mX12_init 128 = some (.aload_n 0, 129) := by decide +kernel
theorem eX12_init_129 : ino mX12_init 129 = some (.bipush 6, 131) := by decide +kernel
theorem eX12_init_131 : ino mX12_init 131 = some (.newarray .int, 133) := by decide +kernel
theorem eX12_init_133 : ino mX12_init 133 = some (.putfield 83, 136) := by decide +kernel
theorem eX12_init_136 : ino mX12_init 136 = some (.aload_n 0, 137) := by decide +kernel
theorem eX12_init_137 : ino mX12_init 137 = some (.bipush 6, 139) := by decide +kernel
theorem eX12_init_139 : ino mX12_init 139 = some (.newarray .int, 141) := by decide +kernel
theorem eX12_init_141 : ino mX12_init 141 = some (.putfield 86, 144) := by decide +kernel
theorem eX12_init_144 : ino mX12_init 144 = some (.aload_n 0, 145) := by decide +kernel
theorem eX12_init_145 : ino mX12_init 145 = some (.iconst (-1), 146) := by decide +kernel
theorem eX12_init_146 : ino mX12_init 146 = some (.putfield 89, 149) := by decide +kernel
theorem eX12_init_149 : ino mX12_init 149 = some (.aload_n 0, 150) := by decide +kernel
theorem eX12_init_150 : ino mX12_init 150 = some (.bipush 72, 152) := by decide +kernel
theorem eX12_init_152 : ino mX12_init 152 = some (.newarray .byte, 154) := by decide +kernel
theorem eX12_init_154 : ino mX12_init 154 = some (.putfield 92, 157) := by decide +kernel
theorem eX12_init_157 : ino mX12_init 157 = some (.aload_n 0, 158) := by decide +kernel
theorem eX12_init_158 : ino mX12_init 158 = some (.iconst 4, 159) := by decide +kernel
theorem eX12_init_159 : ino mX12_init 159 = some (.newarray .int, 161) := by decide +kernel
theorem eX12_init_161 : ino mX12_init 161 = some (.putfield 95, 164) := by decide +kernel
theorem eX12_init_164 : ino mX12_init 164 = some (.aload_n 0, 165) := by decide +kernel
theorem eX12_init_165 : ino mX12_init 165 = some (.bipush 45, 167) := by decide +kernel
theorem eX12_init_167 : ino mX12_init 167 = some (.newarray .int, 169) := by decide +kernel
theorem eX12_init_169 : ino mX12_init 169 = some (.putfield 98, 172) := by decide +kernel
theorem eX12_init_172 : ino mX12_init 172 = some (.aload_n 0, 173) := by decide +kernel
theorem eX12_init_173 : ino mX12_init 173 = some (.bipush 45, 175) := by decide +kernel
theorem eX12_init_175 : ino mX12_init 175 = some (.newarray .boolean, 177) := by decide +kernel
theorem eX12_init_177 : ino mX12_init 177 = some (.putfield 101, 180) := by decide +kernel
theorem eX12_init_180 : ino mX12_init 180 = some (.aload_n 0, 181) := by decide +kernel
theorem eX12_init_181 : ino mX12_init 181 = some (.sipush 650, 184) := by decide +kernel
theorem eX12_init_184 : ino mX12_init 184 = some (.newarray .int, 186) := by decide +kernel
theorem eX12_init_186 : ino mX12_init 186 = some (.putfield 105, 189) := by decide +kernel
theorem eX12_init_189 : ino mX12_init 189 = some (.aload_n 0, 190) := by decide +kernel
theorem eX12_init_190 : ino mX12_init 190 = some (.bipush 38, 192) := by decide +kernel
theorem eX12_init_192 : ino mX12_init 192 = some (.newarray .long, 194) := by decide +kernel
theorem eX12_init_194 : ino mX12_init 194 = some (.putfield 108, 197) := by decide +kernel
theorem eX12_init_197 : ino mX12_init 197 = some (.aload_n 0, 198) := by decide +kernel
theorem eX12_init_198 : ino mX12_init 198 = some (.iconst 2, 199) := by decide +kernel
theorem eX12_init_199 : ino mX12_init 199 = some (.newarray .boolean, 201) := by decide +kernel
theorem eX12_init_201 : ino mX12_init 201 = some (.putfield 111, 204) := by decide +kernel
theorem eX12_init_204 : ino mX12_init 204 = some (.aload_n 0, 205) := by decide +kernel
theorem eX12_init_205 : ino mX12_init 205 = some (.getfield 47, 208) := by decide +kernel
theorem eX12_init_208 : ino mX12_init 208 = some (.iconst 0, 209) := by decide +kernel
theorem eX12_init_209 : ino mX12_init 209 = some (.ldc2_w 114, 212) := by decide +kernel
theorem eX12_init_212 : ino mX12_init 212 = some (.lastore, 213) := by decide +kernel
theorem eX12_init_213 : ino mX12_init 213 = some (.aload_n 0, 214) := by decide +kernel
theorem eX12_init_214 : ino mX12_init 214 = some (.getfield 47, 217) := by decide +kernel
theorem eX12_init_217 : ino mX12_init 217 = some (.iconst 1, 218) := by decide +kernel
theorem eX12_init_218 : ino mX12_init 218 = some (.ldc2_w 116, 221) := by decide +kernel
theorem eX12_init_221 : ino mX12_init 221 = some (.lastore, 222) := by decide +kernel
theorem eX12_init_222 : ino mX12_init 222 = some (.aload_n 0, 223) := by decide +kernel
theorem eX12_init_223 : ino mX12_init 223 = some (.getfield 47, 226) := by decide +kernel
theorem eX12_init_226 : ino mX12_init 226 = some (.iconst 2, 227) := by decide +kernel
theorem eX12_init_227 : ino mX12_init 227 = some (.ldc2_w 118, 230) := by decide +kernel
theorem eX12_init_230 : ino mX12_init 230 = some (.lastore, 231) := by decide +kernel
theorem eX12_init_231 : ino mX12_init 231 = some (.aload_n 0, 232) := by decide +kernel
theorem eX12_init_232 : ino mX12_init 232 = some (.getfield 47, 235) := by decide +kernel
theorem eX12_init_235 : ino mX12_init 235 = some (.iconst 3, 236) := by decide +kernel
theorem eX12_init_236 : ino mX12_init 236 = some (.ldc2_w 120, 239) := by decide +kernel
theorem eX12_init_239 : ino mX12_init 239 = some (.lastore, 240) := by decide +kernel
theorem eX12_init_240 : ino mX12_init 240 = some (.aload_n 0, 241) := by decide +kernel
theorem eX12_init_241 : ino mX12_init 241 = some (.getfield 47, 244) := by decide +kernel
theorem eX12_init_244 : ino mX12_init 244 = some (.iconst 4, 245) := by decide +kernel
theorem eX12_init_245 : ino mX12_init 245 = some (.ldc2_w 122, 248) := by decide +kernel
theorem eX12_init_248 : ino mX12_init 248 = some (.lastore, 249) := by decide +kernel
theorem eX12_init_249 : ino mX12_init 249 = some (.aload_n 0, 250) := by decide +kernel
theorem eX12_init_250 : ino mX12_init 250 = some (.getfield 47, 253) := by decide +kernel
theorem eX12_init_253 : ino mX12_init 253 = some (.iconst 5, 254) := by decide +kernel
theorem eX12_init_254 : ino mX12_init 254 = some (.ldc2_w 124, 257) := by decide +kernel
theorem eX12_init_257 : ino mX12_init 257 = some (.lastore, 258) := by decide +kernel
theorem eX12_init_258 : ino mX12_init 258 = some (.aload_n 0, 259) := by decide +kernel
theorem eX12_init_259 : ino mX12_init 259 = some (.getfield 47, 262) := by decide +kernel
theorem eX12_init_262 : ino mX12_init 262 = some (.bipush 6, 264) := by decide +kernel
theorem eX12_init_264 : ino mX12_init 264 = some (.ldc2_w 126, 267) := by decide +kernel
theorem eX12_init_267 : ino mX12_init 267 = some (.lastore, 268) := by decide +kernel
theorem eX12_init_268 : ino mX12_init 268 = some (.aload_n 0, 269) := by decide +kernel
theorem eX12_init_269 : ino mX12_init 269 = some (.getfield 47, 272) := by decide +kernel
theorem eX12_init_272 : ino mX12_init 272 = some (.bipush 7, 274) := by decide +kernel
theorem eX12_init_274 : ino mX12_init 274 = some (.ldc2_w 128, 277) := by decide +kernel
theorem eX12_init_277 : ino mX12_init 277 = some (.lastore, 278) := by decide +kernel
theorem eX12_init_278 : ino mX12_init 278 = some (.aload_n 0, 279) := by decide +kernel
theorem eX12_init_279 : ino mX12_init 279 = some (.getfield 47, 282) := by decide +kernel
theorem eX12_init_282 : ino mX12_init 282 = some (.bipush 8, 284) := by decide +kernel
theorem eX12_init_284 : ino mX12_init 284 = some (.ldc2_w 130, 287) := by decide +kernel
theorem eX12_init_287 : ino mX12_init 287 = some (.lastore, 288) := by decide +kernel
theorem eX12_init_288 : ino mX12_init 288 = some (.aload_n 0, 289) := by decide +kernel
theorem eX12_init_289 : ino mX12_init 289 = some (.getfield 47, 292) := by decide +kernel
theorem eX12_init_292 : ino mX12_init 292 = some (.bipush 9, 294) := by decide +kernel
theorem eX12_init_294 : ino mX12_init 294 = some (.ldc2_w 132, 297) := by decide +kernel
theorem eX12_init_297 : ino mX12_init 297 = some (.lastore, 298) := by decide +kernel
theorem eX12_init_298 : ino mX12_init 298 = some (.aload_n 0, 299) := by decide +kernel
theorem eX12_init_299 : ino mX12_init 299 = some (.getfield 47, 302) := by decide +kernel
theorem eX12_init_302 : ino mX12_init 302 = some (.bipush 10, 304) := by decide +kernel
theorem eX12_init_304 : ino mX12_init 304 = some (.ldc2_w 134, 307) := by decide +kernel
theorem eX12_init_307 : ino mX12_init 307 = some (.lastore, 308) := by decide +kernel
theorem eX12_init_308 : ino mX12_init 308 = some (.aload_n 0, 309) := by decide +kernel
theorem eX12_init_309 : ino mX12_init 309 = some (.getfield 47, 312) := by decide +kernel
theorem eX12_init_312 : ino mX12_init 312 = some (.bipush 11, 314) := by decide +kernel
theorem eX12_init_314 : ino mX12_init 314 = some (.ldc2_w 136, 317) := by decide +kernel
theorem eX12_init_317 : ino mX12_init 317 = some (.lastore, 318) := by decide +kernel
theorem eX12_init_318 : ino mX12_init 318 = some (.aload_n 0, 319) := by decide +kernel
theorem eX12_init_319 : ino mX12_init 319 = some (.getfield 47, 322) := by decide +kernel
theorem eX12_init_322 : ino mX12_init 322 = some (.bipush 12, 324) := by decide +kernel
theorem eX12_init_324 : ino mX12_init 324 = some (.ldc2_w 138, 327) := by decide +kernel
theorem eX12_init_327 : ino mX12_init 327 = some (.lastore, 328) := by decide +kernel
theorem eX12_init_328 : ino mX12_init 328 = some (.aload_n 0, 329) := by decide +kernel
theorem eX12_init_329 : ino mX12_init 329 = some (.getfield 47, 332) := by decide +kernel
theorem eX12_init_332 : ino mX12_init 332 = some (.bipush 13, 334) := by decide +kernel
theorem eX12_init_334 : ino mX12_init 334 = some (.ldc2_w 140, 337) := by decide +kernel
theorem eX12_init_337 : ino mX12_init 337 = some (.lastore, 338) := by decide +kernel
theorem eX12_init_338 : ino mX12_init 338 = some (.aload_n 0, 339) := by decide +kernel
theorem eX12_init_339 : ino mX12_init 339 = some (.getfield 47, 342) := by decide +kernel
theorem eX12_init_342 : ino mX12_init 342 = some (.bipush 14, 344) := by decide +kernel
theorem eX12_init_344 : ino mX12_init 344 = some (.ldc2_w 142, 347) := by decide +kernel
theorem eX12_init_347 : ino mX12_init 347 = some (.lastore, 348) := by decide +kernel
theorem eX12_init_348 : ino mX12_init 348 = some (.aload_n 0, 349) := by decide +kernel
theorem eX12_init_349 : ino mX12_init 349 = some (.getfield 47, 352) := by decide +kernel
theorem eX12_init_352 : ino mX12_init 352 = some (.bipush 15, 354) := by decide +kernel
theorem eX12_init_354 : ino mX12_init 354 = some (.ldc2_w 144, 357) := by decide +kernel
theorem eX12_init_357 : ino mX12_init 357 = some (.lastore, 358) := by decide +kernel
theorem eX12_init_358 : ino mX12_init 358 = some (.aload_n 0, 359) := by decide +kernel
theorem eX12_init_359 : ino mX12_init 359 = some (.getfield 47, 362) := by decide +kernel
theorem eX12_init_362 : ino mX12_init 362 = some (.bipush 16, 364) := by decide +kernel
theorem eX12_init_364 : ino mX12_init 364 = some (.ldc2_w 146, 367) := by decide +kernel
theorem eX12_init_367 : ino mX12_init 367 = some (.lastore, 368) := by decide +kernel
theorem eX12_init_368 : ino mX12_init 368 = some (.aload_n 0, 369) := by decide +kernel
theorem eX12_init_369 : ino mX12_init 369 = some (.getfield 47, 372) := by decide +kernel
theorem eX12_init_372 : ino mX12_init 372 = some (.bipush 17, 374) := by decide +kernel
theorem eX12_init_374 : ino mX12_init 374 = some (.ldc2_w 148, 377) := by decide +kernel
theorem eX12_init_377 : ino mX12_init 377 = some (.lastore, 378) := by decide +kernel
theorem eX12_init_378 : ino mX12_init 378 = some (.aload_n 0, 379) := by decide +kernel
theorem eX12_init_379 : ino mX12_init 379 = some (.getfield 47, 382) := by decide +kernel
theorem eX12_init_382 : ino mX12_init 382 = some (.bipush 18, 384) := by decide +kernel
theorem eX12_init_384 : ino mX12_init 384 = some (.ldc2_w 150, 387) := by decide +kernel
theorem eX12_init_387 : ino mX12_init 387 = some (.lastore, 388) := by decide +kernel
theorem eX12_init_388 : ino mX12_init 388 = some (.aload_n 0, 389) := by decide +kernel
theorem eX12_init_389 : ino mX12_init 389 = some (.getfield 47, 392) := by decide +kernel
theorem eX12_init_392 : ino mX12_init 392 = some (.bipush 19, 394) := by decide +kernel
theorem eX12_init_394 : ino mX12_init 394 = some (.ldc2_w 152, 397) := by decide +kernel
theorem eX12_init_397 : ino mX12_init 397 = some (.lastore, 398) := by decide +kernel
theorem eX12_init_398 : ino mX12_init 398 = some (.aload_n 0, 399) := by decide +kernel
theorem eX12_init_399 : ino mX12_init 399 = some (.getfield 47, 402) := by decide +kernel
theorem eX12_init_402 : ino mX12_init 402 = some (.bipush 20, 404) := by decide +kernel
theorem eX12_init_404 : ino mX12_init 404 = some (.ldc2_w 154, 407) := by decide +kernel
theorem eX12_init_407 : ino mX12_init 407 = some (.lastore, 408) := by decide +kernel
theorem eX12_init_408 : ino mX12_init 408 = some (.aload_n 0, 409) := by decide +kernel
theorem eX12_init_409 : ino mX12_init 409 = some (.getfield 47, 412) := by decide +kernel
theorem eX12_init_412 : ino mX12_init 412 = some (.bipush 21, 414) := by decide +kernel
theorem eX12_init_414 : ino mX12_init 414 = some (.ldc2_w 156, 417) := by decide +kernel
theorem eX12_init_417 : ino mX12_init 417 = some (.lastore, 418) := by decide +kernel
theorem eX12_init_418 : ino mX12_init 418 = some (.aload_n 0, 419) := by decide +kernel
theorem eX12_init_419 : ino mX12_init 419 = some (.getfield 47, 422) := by decide +kernel
theorem eX12_init_422 : ino mX12_init 422 = some (.bipush 22, 424) := by decide +kernel
theorem eX12_init_424 : ino mX12_init 424 = some (.ldc2_w 158, 427) := by decide +kernel
theorem eX12_init_427 : ino mX12_init 427 = some (.lastore, 428) := by decide +kernel
theorem eX12_init_428 : ino mX12_init 428 = some (.aload_n 0, 429) := by decide +kernel
theorem eX12_init_429 : ino mX12_init 429 = some (.getfield 47, 432) := by decide +kernel
theorem eX12_init_432 : ino mX12_init 432 = some (.bipush 23, 434) := by decide +kernel
theorem eX12_init_434 : ino mX12_init 434 = some (.ldc2_w 160, 437) := by decide +kernel
theorem eX12_init_437 : ino mX12_init 437 = some (.lastore, 438) := by decide +kernel
theorem eX12_init_438 : ino mX12_init 438 = some (.aload_n 0, 439) := by decide +kernel
theorem eX12_init_439 : ino mX12_init 439 = some (.getfield 47, 442) := by decide +kernel
theorem eX12_init_442 : ino mX12_init 442 = some (.bipush 24, 444) := by decide +kernel
theorem eX12_init_444 : ino mX12_init 444 = some (.ldc2_w 162, 447) := by decide +kernel
theorem eX12_init_447 : ino mX12_init 447 = some (.lastore, 448) := by decide +kernel
theorem eX12_init_448 : ino mX12_init 448 = some (.aload_n 0, 449) := by decide +kernel
theorem eX12_init_449 : ino mX12_init 449 = some (.getfield 47, 452) := by decide +kernel
theorem eX12_init_452 : ino mX12_init 452 = some (.bipush 25, 454) := by decide +kernel
theorem eX12_init_454 : ino mX12_init 454 = some (.ldc2_w 164, 457) := by decide +kernel
theorem eX12_init_457 : ino mX12_init 457 = some (.lastore, 458) := by decide +kernel
theorem eX12_init_458 : ino mX12_init 458 = some (.aload_n 0, 459) := by decide +kernel
theorem eX12_init_459 : ino mX12_init 459 = some (.getfield 47, 462) := by decide +kernel
theorem eX12_init_462 : ino mX12_init 462 = some (.bipush 26, 464) := by decide +kernel
theorem eX12_init_464 : ino mX12_init 464 = some (.ldc2_w 166, 467) := by decide +kernel
theorem eX12_init_467 : ino mX12_init 467 = some (.lastore, 468) := by decide +kernel
theorem eX12_init_468 : ino mX12_init 468 = some (.aload_n 0, 469) := by decide +kernel
theorem eX12_init_469 : ino mX12_init 469 = some (.getfield 47, 472) := by decide +kernel
theorem eX12_init_472 : ino mX12_init 472 = some (.bipush 27, 474) := by decide +kernel
theorem eX12_init_474 : ino mX12_init 474 = some (.ldc2_w 168, 477) := by decide +kernel
theorem eX12_init_477 : ino mX12_init 477 = some (.lastore, 478) := by decide +kernel
theorem eX12_init_478 : ino mX12_init 478 = some (.aload_n 0, 479) := by decide +kernel
theorem eX12_init_479 : ino mX12_init 479 = some (.getfield 47, 482) := by decide +kernel
theorem eX12_init_482 : ino mX12_init 482 = some (.bipush 28, 484) := by decide +kernel
theorem eX12_init_484 : ino mX12_init 484 = some (.ldc2_w 170, 487) := by decide +kernel
theorem eX12_init_487 : ino mX12_init 487 = some (.lastore, 488) := by decide +kernel
theorem eX12_init_488 : ino mX12_init 488 = some (.aload_n 0, 489) := by decide +kernel
theorem eX12_init_489 : ino mX12_init 489 = some (.getfield 47, 492) := by decide +kernel
theorem eX12_init_492 : ino mX12_init 492 = some (.bipush 29, 494) := by decide +kernel
theorem eX12_init_494 : ino mX12_init 494 = some (.ldc2_w 172, 497) := by decide +kernel
theorem eX12_init_497 : ino mX12_init 497 = some (.lastore, 498) := by decide +kernel
theorem eX12_init_498 : ino mX12_init 498 = some (.aload_n 0, 499) := by decide +kernel
theorem eX12_init_499 : ino mX12_init 499 = some (.getfield 47, 502) := by decide +kernel
theorem eX12_init_502 : ino mX12_init 502 = some (.bipush 30, 504) := by decide +kernel
theorem eX12_init_504 : ino mX12_init 504 = some (.ldc2_w 174, 507) := by decide +kernel
theorem eX12_init_507 : ino mX12_init 507 = some (.lastore, 508) := by decide +kernel
theorem eX12_init_508 : ino mX12_init 508 = some (.aload_n 0, 509) := by decide +kernel
theorem eX12_init_509 : ino mX12_init 509 = some (.invokevirtual 176, 512) := by decide +kernel
theorem eX12_init_512 : ino mX12_init 512 = some (.iconst 0, 513) := by decide +kernel
theorem eX12_init_513 : ino mX12_init 513 = some (.istore_n 1, 514) := by decide +kernel
theorem eX12_init_514 : ino mX12_init 514 = some (.iload_n 1, 515) := by decide +kernel
theorem eX12_init_515 : ino mX12_init 515 = some (.bipush 85, 517) := by decide +kernel
theorem eX12_init_517 : ino mX12_init 517 = some (.if_icmp .ge 21, 538) := by decide +kernel
theorem eX12_init_520 : ino mX12_init 520 = some (.aload_n 0, 521) := by decide +kernel
theorem eX12_init_521 : ino mX12_init 521 = some (.getfield 33, 524) := by decide +kernel
theorem eX12_init_524 : ino mX12_init 524 = some (.iload_n 1, 525) := by decide +kernel
theorem eX12_init_525 : ino mX12_init 525 = some (.aload_n 0, 526) := by decide +kernel
theorem eX12_init_526 : ino mX12_init 526 = some (.getfield 37, 529) := by decide +kernel
theorem eX12_init_529 : ino mX12_init 529 = some (.iload_n 1, 530) := by decide +kernel
theorem eX12_init_530 : ino mX12_init 530 = some (.iaload, 531) := by decide +kernel
theorem eX12_init_531 : ino mX12_init 531 = some (.iastore, 532) := by decide +kernel
theorem eX12_init_532 : ino mX12_init 532 = some (.iinc 1 1, 535) := by decide +kernel
theorem eX12_init_535 : ino mX12_init 535 = some (.goto (-21), 514) := by decide +kernel
theorem eX12_init_538 : ino mX12_init 538 = some (.return_, 539) := by decide +kernel
theorem eX12_clears_0 : ino mX12_clears 0 = some (.iconst 0, 1) := by decide +kernel
theorem eX12_clears_1 : ino mX12_clears 1 = some (.istore_n 1, 2) := by decide +kernel
theorem eX12_clears_2 : ino mX12_clears 2 = some (.iload_n 1, 3) := by decide +kernel
theorem eX12_clears_3 : ino mX12_clears 3 = some (.bipush 85, 5) := by decide +kernel
theorem eX12_clears_5 : ino mX12_clears 5 = some (.if_icmp .ge 16, 21) := by decide +kernel
theorem eX12_clears_8 : ino mX12_clears 8 = some (.aload_n 0, 9) := by decide +kernel
theorem eX12_clears_9 : ino mX12_clears 9 = some (.getfield 37, 12) := by decide +kernel
theorem eX12_clears_12 : ino mX12_clears 12 = some (.iload_n 1, 13) := by decide +kernel
theorem eX12_clears_13 : ino mX12_clears 13 = some (.iconst 0, 14) := by decide +kernel
theorem eX12_clears_14 : ino mX12_clears 14 = some (.iastore, 15) := by decide +kernel
theorem eX12_clears_15 : ino mX12_clears 15 = some (.iinc 1 1, 18) := by decide +kernel
theorem eX12_clears_18 : ino mX12_clears 18 = some (.goto (-16), 2) := by decide +kernel
theorem eX12_clears_21 : ino mX12_clears 21 = some (.aload_n 0, 22) := by decide +kernel
theorem eX12_clears_22 : ino mX12_clears 22 = some (.getfield 37, 25) := by decide +kernel
theorem eX12_clears_25 : ino mX12_clears 25 = some (.iconst 3, 26) := by decide +kernel
theorem eX12_clears_26 : ino mX12_clears 26 = some (.bipush 100, 28) := by decide +kernel
theorem eX12_clears_28 : ino mX12_clears 28 = some (.iastore, 29) := by decide +kernel
theorem eX12_clears_29 : ino mX12_clears 29 = some (.aload_n 0, 30) := by decide +kernel
theorem eX12_clears_30 : ino mX12_clears 30 = some (.getfield 37, 33) := by decide +kernel
theorem eX12_clears_33 : ino mX12_clears 33 = some (.iconst 4, 34) := by decide +kernel
theorem eX12_clears_34 : ino mX12_clears 34 = some (.bipush 6, 36) := by decide +kernel
theorem eX12_clears_36 : ino mX12_clears 36 = some (.iastore, 37) := by decide +kernel
theorem eX12_clears_37 : ino mX12_clears 37 = some (.return_, 38) := by decide +kernel
theorem eX12_peek_0 : ino mX12_peek 0 = some (.aload_n 0, 1) := by decide +kernel
theorem eX12_peek_1 : ino mX12_peek 1 = some (.getfield 21, 4) := by decide +kernel
theorem eX12_peek_4 : ino mX12_peek 4 = some (.aload_n 0, 5) := by decide +kernel
theorem eX12_peek_5 : ino mX12_peek 5 = some (.getfield 18, 8) := by decide +kernel
theorem eX12_peek_8 : ino mX12_peek 8 = some (.if_icmp .ge 19, 27) := by decide +kernel
theorem eX12_peek_11 : ino mX12_peek 11 = some (.aload_n 0, 12) := by decide +kernel
theorem eX12_peek_12 : ino mX12_peek 12 = some (.getfield 14, 15) := by decide +kernel
theorem eX12_peek_15 : ino mX12_peek 15 = some (.aload_n 0, 16) := by decide +kernel
theorem eX12_peek_16 : ino mX12_peek 16 = some (.getfield 21, 19) := by decide +kernel
theorem eX12_peek_19 : ino mX12_peek 19 = some (.baload, 20) := by decide +kernel
theorem eX12_peek_20 : ino mX12_peek 20 = some (.sipush 255, 23) := by decide +kernel
theorem eX12_peek_23 : ino mX12_peek 23 = some (.iand, 24) := by decide +kernel
theorem eX12_peek_24 : ino mX12_peek 24 = some (.goto 4, 28) := by decide +kernel
theorem eX12_peek_27 : ino mX12_peek 27 = some (.iconst (-1), 28) := by decide +kernel
theorem eX12_peek_28 : ino mX12_peek 28 = some (.ireturn, 29) := by decide +kernel
theorem eX12_isSmall_0 : ino mX12_isSmall 0 = some (.iload_n 0, 1) := by decide +kernel
theorem eX12_isSmall_1 : ino mX12_isSmall 1 = some (.bipush 97, 3) := by decide +kernel
theorem eX12_isSmall_3 : ino mX12_isSmall 3 = some (.if_icmp .lt 13, 16) := by decide +kernel
theorem eX12_isSmall_6 : ino mX12_isSmall 6 = some (.iload_n 0, 7) := by decide +kernel
theorem eX12_isSmall_7 : ino mX12_isSmall 7 = some (.bipush 122, 9) := by decide +kernel
theorem eX12_isSmall_9 : ino mX12_isSmall 9 = some (.if_icmp .gt 7, 16) := by decide +kernel
theorem eX12_isSmall_12 : ino mX12_isSmall 12 = some (.iconst 1, 13) := by decide +kernel
theorem eX12_isSmall_13 : ino mX12_isSmall 13 = some (.goto 4, 17) := by decide +kernel
theorem eX12_isSmall_16 : ino mX12_isSmall 16 = some (.iconst 0, 17) := by decide +kernel
theorem eX12_isSmall_17 : ino mX12_isSmall 17 = some (.ireturn, 18) := by decide +kernel
theorem eX12_isDigit_0 : ino mX12_isDigit 0 = some (.iload_n 0, 1) := by decide +kernel
theorem eX12_isDigit_1 : ino mX12_isDigit 1 = some (.bipush 48, 3) := by decide +kernel
theorem eX12_isDigit_3 : ino mX12_isDigit 3 = some (.if_icmp .lt 13, 16) := by decide +kernel
theorem eX12_isDigit_6 : ino mX12_isDigit 6 = some (.iload_n 0, 7) := by decide +kernel
theorem eX12_isDigit_7 : ino mX12_isDigit 7 = some (.bipush 57, 9) := by decide +kernel
theorem eX12_isDigit_9 : ino mX12_isDigit 9 = some (.if_icmp .gt 7, 16) := by decide +kernel
theorem eX12_isDigit_12 : ino mX12_isDigit 12 = some (.iconst 1, 13) := by decide +kernel
theorem eX12_isDigit_13 : ino mX12_isDigit 13 = some (.goto 4, 17) := by decide +kernel
theorem eX12_isDigit_16 : ino mX12_isDigit 16 = some (.iconst 0, 17) := by decide +kernel
theorem eX12_isDigit_17 : ino mX12_isDigit 17 = some (.ireturn, 18) := by decide +kernel
theorem eX12_next_0 : ino mX12_next 0 = some (.aload_n 0, 1) := by decide +kernel
theorem eX12_next_1 : ino mX12_next 1 = some (.invokevirtual 179, 4) := by decide +kernel
theorem eX12_next_4 : ino mX12_next 4 = some (.bipush 32, 6) := by decide +kernel
theorem eX12_next_6 : ino mX12_next 6 = some (.if_icmp .eq 12, 18) := by decide +kernel
theorem eX12_next_9 : ino mX12_next 9 = some (.aload_n 0, 10) := by decide +kernel
theorem eX12_next_10 : ino mX12_next 10 = some (.invokevirtual 179, 13) := by decide +kernel
theorem eX12_next_13 : ino mX12_next 13 = some (.bipush 10, 15) := by decide +kernel
theorem eX12_next_15 : ino mX12_next 15 = some (.if_icmp .ne 16, 31) := by decide +kernel
theorem eX12_next_18 : ino mX12_next 18 = some (.aload_n 0, 19) := by decide +kernel
theorem eX12_next_19 : ino mX12_next 19 = some (.dup, 20) := by decide +kernel
theorem eX12_next_20 : ino mX12_next 20 = some (.getfield 21, 23) := by decide +kernel
theorem eX12_next_23 : ino mX12_next 23 = some (.iconst 1, 24) := by decide +kernel
theorem eX12_next_24 : ino mX12_next 24 = some (.iadd, 25) := by decide +kernel
theorem eX12_next_25 : ino mX12_next 25 = some (.putfield 21, 28) := by decide +kernel
theorem eX12_next_28 : ino mX12_next 28 = some (.goto (-28), 0) := by decide +kernel
theorem eX12_next_31 : ino mX12_next 31 = some (.aload_n 0, 32) := by decide +kernel
theorem eX12_next_32 : ino mX12_next 32 = some (.aload_n 0, 33) := by decide +kernel
theorem eX12_next_33 : ino mX12_next 33 = some (.getfield 21, 36) := by decide +kernel
theorem eX12_next_36 : ino mX12_next 36 = some (.putfield 183, 39) := by decide +kernel
theorem eX12_next_39 : ino mX12_next 39 = some (.aload_n 0, 40) := by decide +kernel
theorem eX12_next_40 : ino mX12_next 40 = some (.iconst 0, 41) := by decide +kernel
theorem eX12_next_41 : ino mX12_next 41 = some (.putfield 186, 44) := by decide +kernel
theorem eX12_next_44 : ino mX12_next 44 = some (.aload_n 0, 45) := by decide +kernel
theorem eX12_next_45 : ino mX12_next 45 = some (.getfield 18, 48) := by decide +kernel
theorem eX12_next_48 : ino mX12_next 48 = some (.aload_n 0, 49) := by decide +kernel
theorem eX12_next_49 : ino mX12_next 49 = some (.getfield 24, 52) := by decide +kernel
theorem eX12_next_52 : ino mX12_next 52 = some (.if_icmp .le 28, 80) := by decide +kernel
theorem eX12_next_55 : ino mX12_next 55 = some (.aload_n 0, 56) := by decide +kernel
theorem eX12_next_56 : ino mX12_next 56 = some (.getfield 21, 59) := by decide +kernel
theorem eX12_next_59 : ino mX12_next 59 = some (.aload_n 0, 60) := by decide +kernel
theorem eX12_next_60 : ino mX12_next 60 = some (.getfield 24, 63) := by decide +kernel
theorem eX12_next_63 : ino mX12_next 63 = some (.if_icmp .lt 17, 80) := by decide +kernel
theorem eX12_next_66 : ino mX12_next 66 = some (.aload_n 0, 67) := by decide +kernel
theorem eX12_next_67 : ino mX12_next 67 = some (.aload_n 0, 68) := by decide +kernel
theorem eX12_next_68 : ino mX12_next 68 = some (.getfield 24, 71) := by decide +kernel
theorem eX12_next_71 : ino mX12_next 71 = some (.putfield 183, 74) := by decide +kernel
theorem eX12_next_74 : ino mX12_next 74 = some (.aload_n 0, 75) := by decide +kernel
theorem eX12_next_75 : ino mX12_next 75 = some (.iconst 4, 76) := by decide +kernel
theorem eX12_next_76 : ino mX12_next 76 = some (.putfield 189, 79) := by decide +kernel
theorem eX12_next_79 : ino mX12_next 79 = some (.return_, 80) := by decide +kernel
theorem eX12_next_80 : ino mX12_next 80 = some (.aload_n 0, 81) := by decide +kernel
theorem eX12_next_81 : ino mX12_next 81 = some (.invokevirtual 179, 84) := by decide +kernel
theorem eX12_next_84 : ino mX12_next 84 = some (.istore_n 1, 85) := by decide +kernel
theorem eX12_next_85 : ino mX12_next 85 = some (.iload_n 1, 86) := by decide +kernel
theorem eX12_next_86 : ino mX12_next 86 = some (.ifCond .ge 9, 95) := by decide +kernel
theorem eX12_next_89 : ino mX12_next 89 = some (.aload_n 0, 90) := by decide +kernel
theorem eX12_next_90 : ino mX12_next 90 = some (.iconst 0, 91) := by decide +kernel
theorem eX12_next_91 : ino mX12_next 91 = some (.putfield 189, 94) := by decide +kernel
theorem eX12_next_94 : ino mX12_next 94 = some (.return_, 95) := by decide +kernel
theorem eX12_next_95 : ino mX12_next 95 = some (.iload_n 1, 96) := by decide +kernel
theorem eX12_next_96 : ino mX12_next 96 = some (.invokestatic 192, 99) := by decide +kernel
theorem eX12_next_99 : ino mX12_next 99 = some (.ifCond .ne 65, 164) := by decide +kernel
theorem eX12_next_102 : ino mX12_next 102 = some (.iload_n 1, 103) := by decide +kernel
theorem eX12_next_103 : ino mX12_next 103 = some (.invokestatic 196, 106) := by decide +kernel
theorem eX12_next_106 : ino mX12_next 106 = some (.ifCond .ne 58, 164) := by decide +kernel
theorem eX12_next_109 : ino mX12_next 109 = some (.aload_n 0, 110) := by decide +kernel
theorem eX12_next_110 : ino mX12_next 110 = some (.iload_n 1, 111) := by decide +kernel
theorem eX12_next_111 : ino mX12_next 111 = some (.bipush 59, 113) := by decide +kernel
theorem eX12_next_113 : ino mX12_next 113 = some (.if_icmp .eq 27, 140) := by decide +kernel
theorem eX12_next_116 : ino mX12_next 116 = some (.iload_n 1, 117) := by decide +kernel
theorem eX12_next_117 : ino mX12_next 117 = some (.bipush 40, 119) := by decide +kernel
theorem eX12_next_119 : ino mX12_next 119 = some (.if_icmp .eq 21, 140) := by decide +kernel
theorem eX12_next_122 : ino mX12_next 122 = some (.iload_n 1, 123) := by decide +kernel
theorem eX12_next_123 : ino mX12_next 123 = some (.bipush 41, 125) := by decide +kernel
theorem eX12_next_125 : ino mX12_next 125 = some (.if_icmp .eq 15, 140) := by decide +kernel
theorem eX12_next_128 : ino mX12_next 128 = some (.iload_n 1, 129) := by decide +kernel
theorem eX12_next_129 : ino mX12_next 129 = some (.bipush 60, 131) := by decide +kernel
theorem eX12_next_131 : ino mX12_next 131 = some (.if_icmp .lt 13, 144) := by decide +kernel
theorem eX12_next_134 : ino mX12_next 134 = some (.iload_n 1, 135) := by decide +kernel
theorem eX12_next_135 : ino mX12_next 135 = some (.bipush 62, 137) := by decide +kernel
theorem eX12_next_137 : ino mX12_next 137 = some (.if_icmp .gt 7, 144) := by decide +kernel
theorem eX12_next_140 : ino mX12_next 140 = some (.iconst 3, 141) := by decide +kernel
theorem eX12_next_141 : ino mX12_next 141 = some (.goto 4, 145) := by decide +kernel
theorem eX12_next_144 : ino mX12_next 144 = some (.iconst 4, 145) := by decide +kernel
theorem eX12_next_145 : ino mX12_next 145 = some (.putfield 189, 148) := by decide +kernel
theorem eX12_next_148 : ino mX12_next 148 = some (.aload_n 0, 149) := by decide +kernel
theorem eX12_next_149 : ino mX12_next 149 = some (.iload_n 1, 150) := by decide +kernel
theorem eX12_next_150 : ino mX12_next 150 = some (.putfield 199, 153) := by decide +kernel
theorem eX12_next_153 : ino mX12_next 153 = some (.aload_n 0, 154) := by decide +kernel
theorem eX12_next_154 : ino mX12_next 154 = some (.dup, 155) := by decide +kernel
theorem eX12_next_155 : ino mX12_next 155 = some (.getfield 21, 158) := by decide +kernel
theorem eX12_next_158 : ino mX12_next 158 = some (.iconst 1, 159) := by decide +kernel
theorem eX12_next_159 : ino mX12_next 159 = some (.iadd, 160) := by decide +kernel
theorem eX12_next_160 : ino mX12_next 160 = some (.putfield 21, 163) := by decide +kernel
theorem eX12_next_163 : ino mX12_next 163 = some (.return_, 164) := by decide +kernel
theorem eX12_next_164 : ino mX12_next 164 = some (.iload_n 1, 165) := by decide +kernel
theorem eX12_next_165 : ino mX12_next 165 = some (.invokestatic 192, 168) := by decide +kernel
theorem eX12_next_168 : ino mX12_next 168 = some (.istore_n 2, 169) := by decide +kernel
theorem eX12_next_169 : ino mX12_next 169 = some (.iconst 1, 170) := by decide +kernel
theorem eX12_next_170 : ino mX12_next 170 = some (.istore_n 3, 171) := by decide +kernel
theorem eX12_next_171 : ino mX12_next 171 = some (.aload_n 0, 172) := by decide +kernel
theorem eX12_next_172 : ino mX12_next 172 = some (.lconst 0, 173) := by decide +kernel
theorem eX12_next_173 : ino mX12_next 173 = some (.putfield 202, 176) := by decide +kernel
theorem eX12_next_176 : ino mX12_next 176 = some (.aload_n 0, 177) := by decide +kernel
theorem eX12_next_177 : ino mX12_next 177 = some (.iconst 0, 178) := by decide +kernel
theorem eX12_next_178 : ino mX12_next 178 = some (.putfield 199, 181) := by decide +kernel
theorem eX12_next_181 : ino mX12_next 181 = some (.aload_n 0, 182) := by decide +kernel
theorem eX12_next_182 : ino mX12_next 182 = some (.invokevirtual 179, 185) := by decide +kernel
theorem eX12_next_185 : ino mX12_next 185 = some (.invokestatic 192, 188) := by decide +kernel
theorem eX12_next_188 : ino mX12_next 188 = some (.ifCond .ne 13, 201) := by decide +kernel
theorem eX12_next_191 : ino mX12_next 191 = some (.aload_n 0, 192) := by decide +kernel
theorem eX12_next_192 : ino mX12_next 192 = some (.invokevirtual 179, 195) := by decide +kernel
theorem eX12_next_195 : ino mX12_next 195 = some (.invokestatic 196, 198) := by decide +kernel
theorem eX12_next_198 : ino mX12_next 198 = some (.ifCond .eq 100, 298) := by decide +kernel
theorem eX12_next_201 : ino mX12_next 201 = some (.iload_n 3, 202) := by decide +kernel
theorem eX12_next_202 : ino mX12_next 202 = some (.ifCond .eq 18, 220) := by decide +kernel
theorem eX12_next_205 : ino mX12_next 205 = some (.aload_n 0, 206) := by decide +kernel
theorem eX12_next_206 : ino mX12_next 206 = some (.invokevirtual 179, 209) := by decide +kernel
theorem eX12_next_209 : ino mX12_next 209 = some (.invokestatic 192, 212) := by decide +kernel
theorem eX12_next_212 : ino mX12_next 212 = some (.iload_n 2, 213) := by decide +kernel
theorem eX12_next_213 : ino mX12_next 213 = some (.if_icmp .ne 7, 220) := by decide +kernel
theorem eX12_next_216 : ino mX12_next 216 = some (.iconst 1, 217) := by decide +kernel
theorem eX12_next_217 : ino mX12_next 217 = some (.goto 4, 221) := by decide +kernel
theorem eX12_next_220 : ino mX12_next 220 = some (.iconst 0, 221) := by decide +kernel
theorem eX12_next_221 : ino mX12_next 221 = some (.istore_n 3, 222) := by decide +kernel
theorem eX12_next_222 : ino mX12_next 222 = some (.aload_n 0, 223) := by decide +kernel
theorem eX12_next_223 : ino mX12_next 223 = some (.getfield 186, 226) := by decide +kernel
theorem eX12_next_226 : ino mX12_next 226 = some (.bipush 7, 228) := by decide +kernel
theorem eX12_next_228 : ino mX12_next 228 = some (.if_icmp .ge 20, 248) := by decide +kernel
theorem eX12_next_231 : ino mX12_next 231 = some (.aload_n 0, 232) := by decide +kernel
theorem eX12_next_232 : ino mX12_next 232 = some (.aload_n 0, 233) := by decide +kernel
theorem eX12_next_233 : ino mX12_next 233 = some (.getfield 202, 236) := by decide +kernel
theorem eX12_next_236 : ino mX12_next 236 = some (.bipush 8, 238) := by decide +kernel
theorem eX12_next_238 : ino mX12_next 238 = some (.lshl, 239) := by decide +kernel
theorem eX12_next_239 : ino mX12_next 239 = some (.aload_n 0, 240) := by decide +kernel
theorem eX12_next_240 : ino mX12_next 240 = some (.invokevirtual 179, 243) := by decide +kernel
theorem eX12_next_243 : ino mX12_next 243 = some (.i2l, 244) := by decide +kernel
theorem eX12_next_244 : ino mX12_next 244 = some (.lor, 245) := by decide +kernel
theorem eX12_next_245 : ino mX12_next 245 = some (.putfield 202, 248) := by decide +kernel
theorem eX12_next_248 : ino mX12_next 248 = some (.aload_n 0, 249) := by decide +kernel
theorem eX12_next_249 : ino mX12_next 249 = some (.getfield 186, 252) := by decide +kernel
theorem eX12_next_252 : ino mX12_next 252 = some (.iconst 3, 253) := by decide +kernel
theorem eX12_next_253 : ino mX12_next 253 = some (.if_icmp .ge 22, 275) := by decide +kernel
theorem eX12_next_256 : ino mX12_next 256 = some (.aload_n 0, 257) := by decide +kernel
theorem eX12_next_257 : ino mX12_next 257 = some (.bipush 10, 259) := by decide +kernel
theorem eX12_next_259 : ino mX12_next 259 = some (.aload_n 0, 260) := by decide +kernel
theorem eX12_next_260 : ino mX12_next 260 = some (.getfield 199, 263) := by decide +kernel
theorem eX12_next_263 : ino mX12_next 263 = some (.imul, 264) := by decide +kernel
theorem eX12_next_264 : ino mX12_next 264 = some (.aload_n 0, 265) := by decide +kernel
theorem eX12_next_265 : ino mX12_next 265 = some (.invokevirtual 179, 268) := by decide +kernel
theorem eX12_next_268 : ino mX12_next 268 = some (.iadd, 269) := by decide +kernel
theorem eX12_next_269 : ino mX12_next 269 = some (.bipush 48, 271) := by decide +kernel
theorem eX12_next_271 : ino mX12_next 271 = some (.isub, 272) := by decide +kernel
theorem eX12_next_272 : ino mX12_next 272 = some (.putfield 199, 275) := by decide +kernel
theorem eX12_next_275 : ino mX12_next 275 = some (.aload_n 0, 276) := by decide +kernel
theorem eX12_next_276 : ino mX12_next 276 = some (.dup, 277) := by decide +kernel
theorem eX12_next_277 : ino mX12_next 277 = some (.getfield 186, 280) := by decide +kernel
theorem eX12_next_280 : ino mX12_next 280 = some (.iconst 1, 281) := by decide +kernel
theorem eX12_next_281 : ino mX12_next 281 = some (.iadd, 282) := by decide +kernel
theorem eX12_next_282 : ino mX12_next 282 = some (.putfield 186, 285) := by decide +kernel
theorem eX12_next_285 : ino mX12_next 285 = some (.aload_n 0, 286) := by decide +kernel
theorem eX12_next_286 : ino mX12_next 286 = some (.dup, 287) := by decide +kernel
theorem eX12_next_287 : ino mX12_next 287 = some (.getfield 21, 290) := by decide +kernel
theorem eX12_next_290 : ino mX12_next 290 = some (.iconst 1, 291) := by decide +kernel
theorem eX12_next_291 : ino mX12_next 291 = some (.iadd, 292) := by decide +kernel
theorem eX12_next_292 : ino mX12_next 292 = some (.putfield 21, 295) := by decide +kernel
theorem eX12_next_295 : ino mX12_next 295 = some (.goto (-114), 181) := by decide +kernel
theorem eX12_next_298 : ino mX12_next 298 = some (.aload_n 0, 299) := by decide +kernel
theorem eX12_next_299 : ino mX12_next 299 = some (.iload_n 3, 300) := by decide +kernel
theorem eX12_next_300 : ino mX12_next 300 = some (.ifCond .eq 20, 320) := by decide +kernel
theorem eX12_next_303 : ino mX12_next 303 = some (.aload_n 0, 304) := by decide +kernel
theorem eX12_next_304 : ino mX12_next 304 = some (.getfield 186, 307) := by decide +kernel
theorem eX12_next_307 : ino mX12_next 307 = some (.iload_n 2, 308) := by decide +kernel
theorem eX12_next_308 : ino mX12_next 308 = some (.ifCond .eq 8, 316) := by decide +kernel
theorem eX12_next_311 : ino mX12_next 311 = some (.bipush 7, 313) := by decide +kernel
theorem eX12_next_313 : ino mX12_next 313 = some (.goto 4, 317) := by decide +kernel
theorem eX12_next_316 : ino mX12_next 316 = some (.iconst 3, 317) := by decide +kernel
theorem eX12_next_317 : ino mX12_next 317 = some (.if_icmp .le 7, 324) := by decide +kernel
theorem eX12_next_320 : ino mX12_next 320 = some (.iconst 4, 321) := by decide +kernel
theorem eX12_next_321 : ino mX12_next 321 = some (.goto 12, 333) := by decide +kernel
theorem eX12_next_324 : ino mX12_next 324 = some (.iload_n 2, 325) := by decide +kernel
theorem eX12_next_325 : ino mX12_next 325 = some (.ifCond .eq 7, 332) := by decide +kernel
theorem eX12_next_328 : ino mX12_next 328 = some (.iconst 1, 329) := by decide +kernel
theorem eX12_next_329 : ino mX12_next 329 = some (.goto 4, 333) := by decide +kernel
theorem eX12_next_332 : ino mX12_next 332 = some (.iconst 2, 333) := by decide +kernel
theorem eX12_next_333 : ino mX12_next 333 = some (.putfield 189, 336) := by decide +kernel
theorem eX12_next_336 : ino mX12_next 336 = some (.return_, 337) := by decide +kernel
