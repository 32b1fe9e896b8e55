theorem eX12_bad_0 : ino mX12_bad 0 = some (.aload_n 0, 1) := by decide +kernel
theorem eX12_bad_1 : ino mX12_bad 1 = some (.iload_n 1, 2) := by decide +kernel
theorem eX12_bad_2 : ino mX12_bad 2 = some (.putfield 206, 5) := by decide +kernel
theorem eX12_bad_5 : ino mX12_bad 5 = some (.aload_n 0, 6) := by decide +kernel
theorem eX12_bad_6 : ino mX12_bad 6 = some (.aload_n 0, 7) := by decide +kernel
theorem eX12_bad_7 : ino mX12_bad 7 = some (.getfield 183, 10) := by decide +kernel
theorem eX12_bad_10 : ino mX12_bad 10 = some (.putfield 209, 13) := by decide +kernel
theorem eX12_bad_13 : ino mX12_bad 13 = some (.iconst 0, 14) := by decide +kernel
theorem eX12_bad_14 : ino mX12_bad 14 = some (.ireturn, 15) := by decide +kernel
theorem eX12_isWord_0 : ino mX12_isWord 0 = some (.aload_n 0, 1) := by decide +kernel
theorem eX12_isWord_1 : ino mX12_isWord 1 = some (.getfield 189, 4) := by decide +kernel
theorem eX12_isWord_4 : ino mX12_isWord 4 = some (.iconst 1, 5) := by decide +kernel
theorem eX12_isWord_5 : ino mX12_isWord 5 = some (.if_icmp .ne 16, 21) := by decide +kernel
theorem eX12_isWord_8 : ino mX12_isWord 8 = some (.aload_n 0, 9) := by decide +kernel
theorem eX12_isWord_9 : ino mX12_isWord 9 = some (.getfield 202, 12) := by decide +kernel
theorem eX12_isWord_12 : ino mX12_isWord 12 = some (.lload_n 1, 13) := by decide +kernel
theorem eX12_isWord_13 : ino mX12_isWord 13 = some (.lcmp, 14) := by decide +kernel
theorem eX12_isWord_14 : ino mX12_isWord 14 = some (.ifCond .ne 7, 21) := by decide +kernel
theorem eX12_isWord_17 : ino mX12_isWord 17 = some (.iconst 1, 18) := by decide +kernel
theorem eX12_isWord_18 : ino mX12_isWord 18 = some (.goto 4, 22) := by decide +kernel
theorem eX12_isWord_21 : ino mX12_isWord 21 = some (.iconst 0, 22) := by decide +kernel
theorem eX12_isWord_22 : ino mX12_isWord 22 = some (.ireturn, 23) := by decide +kernel
theorem eX12_isSign_0 : ino mX12_isSign 0 = some (.aload_n 0, 1) := by decide +kernel
theorem eX12_isSign_1 : ino mX12_isSign 1 = some (.getfield 189, 4) := by decide +kernel
theorem eX12_isSign_4 : ino mX12_isSign 4 = some (.iconst 3, 5) := by decide +kernel
theorem eX12_isSign_5 : ino mX12_isSign 5 = some (.if_icmp .ne 15, 20) := by decide +kernel
theorem eX12_isSign_8 : ino mX12_isSign 8 = some (.aload_n 0, 9) := by decide +kernel
theorem eX12_isSign_9 : ino mX12_isSign 9 = some (.getfield 199, 12) := by decide +kernel
theorem eX12_isSign_12 : ino mX12_isSign 12 = some (.iload_n 1, 13) := by decide +kernel
theorem eX12_isSign_13 : ino mX12_isSign 13 = some (.if_icmp .ne 7, 20) := by decide +kernel
theorem eX12_isSign_16 : ino mX12_isSign 16 = some (.iconst 1, 17) := by decide +kernel
theorem eX12_isSign_17 : ino mX12_isSign 17 = some (.goto 4, 21) := by decide +kernel
theorem eX12_isSign_20 : ino mX12_isSign 20 = some (.iconst 0, 21) := by decide +kernel
theorem eX12_isSign_21 : ino mX12_isSign 21 = some (.ireturn, 22) := by decide +kernel
theorem eX12_sign_0 : ino mX12_sign 0 = some (.aload_n 0, 1) := by decide +kernel
theorem eX12_sign_1 : ino mX12_sign 1 = some (.iload_n 1, 2) := by decide +kernel
theorem eX12_sign_2 : ino mX12_sign 2 = some (.invokevirtual 212, 5) := by decide +kernel
theorem eX12_sign_5 : ino mX12_sign 5 = some (.ifCond .ne 9, 14) := by decide +kernel
theorem eX12_sign_8 : ino mX12_sign 8 = some (.aload_n 0, 9) := by decide +kernel
theorem eX12_sign_9 : ino mX12_sign 9 = some (.iconst 1, 10) := by decide +kernel
theorem eX12_sign_10 : ino mX12_sign 10 = some (.invokevirtual 215, 13) := by decide +kernel
theorem eX12_sign_13 : ino mX12_sign 13 = some (.ireturn, 14) := by decide +kernel
theorem eX12_sign_14 : ino mX12_sign 14 = some (.aload_n 0, 15) := by decide +kernel
theorem eX12_sign_15 : ino mX12_sign 15 = some (.invokevirtual 218, 18) := by decide +kernel
theorem eX12_sign_18 : ino mX12_sign 18 = some (.iconst 1, 19) := by decide +kernel
theorem eX12_sign_19 : ino mX12_sign 19 = some (.ireturn, 20) := by decide +kernel
theorem eX12_isName_0 : ino mX12_isName 0 = some (.aload_n 0, 1) := by decide +kernel
theorem eX12_isName_1 : ino mX12_isName 1 = some (.getfield 189, 4) := by decide +kernel
theorem eX12_isName_4 : ino mX12_isName 4 = some (.iconst 1, 5) := by decide +kernel
theorem eX12_isName_5 : ino mX12_isName 5 = some (.if_icmp .ne 7, 12) := by decide +kernel
theorem eX12_isName_8 : ino mX12_isName 8 = some (.iconst 1, 9) := by decide +kernel
theorem eX12_isName_9 : ino mX12_isName 9 = some (.goto 4, 13) := by decide +kernel
theorem eX12_isName_12 : ino mX12_isName 12 = some (.iconst 0, 13) := by decide +kernel
theorem eX12_isName_13 : ino mX12_isName 13 = some (.istore_n 1, 14) := by decide +kernel
theorem eX12_isName_14 : ino mX12_isName 14 = some (.iconst 0, 15) := by decide +kernel
theorem eX12_isName_15 : ino mX12_isName 15 = some (.istore_n 2, 16) := by decide +kernel
theorem eX12_isName_16 : ino mX12_isName 16 = some (.iload_n 2, 17) := by decide +kernel
theorem eX12_isName_17 : ino mX12_isName 17 = some (.bipush 31, 19) := by decide +kernel
theorem eX12_isName_19 : ino mX12_isName 19 = some (.if_icmp .ge 33, 52) := by decide +kernel
theorem eX12_isName_22 : ino mX12_isName 22 = some (.iload_n 1, 23) := by decide +kernel
theorem eX12_isName_23 : ino mX12_isName 23 = some (.ifCond .eq 21, 44) := by decide +kernel
theorem eX12_isName_26 : ino mX12_isName 26 = some (.aload_n 0, 27) := by decide +kernel
theorem eX12_isName_27 : ino mX12_isName 27 = some (.getfield 202, 30) := by decide +kernel
theorem eX12_isName_30 : ino mX12_isName 30 = some (.aload_n 0, 31) := by decide +kernel
theorem eX12_isName_31 : ino mX12_isName 31 = some (.getfield 47, 34) := by decide +kernel
theorem eX12_isName_34 : ino mX12_isName 34 = some (.iload_n 2, 35) := by decide +kernel
theorem eX12_isName_35 : ino mX12_isName 35 = some (.laload, 36) := by decide +kernel
theorem eX12_isName_36 : ino mX12_isName 36 = some (.lcmp, 37) := by decide +kernel
theorem eX12_isName_37 : ino mX12_isName 37 = some (.ifCond .eq 7, 44) := by decide +kernel
theorem eX12_isName_40 : ino mX12_isName 40 = some (.iconst 1, 41) := by decide +kernel
theorem eX12_isName_41 : ino mX12_isName 41 = some (.goto 4, 45) := by decide +kernel
theorem eX12_isName_44 : ino mX12_isName 44 = some (.iconst 0, 45) := by decide +kernel
theorem eX12_isName_45 : ino mX12_isName 45 = some (.istore_n 1, 46) := by decide +kernel
theorem eX12_isName_46 : ino mX12_isName 46 = some (.iinc 2 1, 49) := by decide +kernel
theorem eX12_isName_49 : ino mX12_isName 49 = some (.goto (-33), 16) := by decide +kernel
theorem eX12_isName_52 : ino mX12_isName 52 = some (.iload_n 1, 53) := by decide +kernel
theorem eX12_isName_53 : ino mX12_isName 53 = some (.ireturn, 54) := by decide +kernel
theorem eX12_takes_0 : ino mX12_takes 0 = some (.aload_n 0, 1) := by decide +kernel
theorem eX12_takes_1 : ino mX12_takes 1 = some (.getfield 189, 4) := by decide +kernel
theorem eX12_takes_4 : ino mX12_takes 4 = some (.iconst 2, 5) := by decide +kernel
theorem eX12_takes_5 : ino mX12_takes 5 = some (.if_icmp .eq 9, 14) := by decide +kernel
theorem eX12_takes_8 : ino mX12_takes 8 = some (.aload_n 0, 9) := by decide +kernel
theorem eX12_takes_9 : ino mX12_takes 9 = some (.iconst 1, 10) := by decide +kernel
theorem eX12_takes_10 : ino mX12_takes 10 = some (.invokevirtual 215, 13) := by decide +kernel
theorem eX12_takes_13 : ino mX12_takes 13 = some (.ireturn, 14) := by decide +kernel
theorem eX12_takes_14 : ino mX12_takes 14 = some (.aload_n 0, 15) := by decide +kernel
theorem eX12_takes_15 : ino mX12_takes 15 = some (.getfield 199, 18) := by decide +kernel
theorem eX12_takes_18 : ino mX12_takes 18 = some (.iload_n 1, 19) := by decide +kernel
theorem eX12_takes_19 : ino mX12_takes 19 = some (.iload_n 2, 20) := by decide +kernel
theorem eX12_takes_20 : ino mX12_takes 20 = some (.invokestatic 221, 23) := by decide +kernel
theorem eX12_takes_23 : ino mX12_takes 23 = some (.ifCond .ne 9, 32) := by decide +kernel
theorem eX12_takes_26 : ino mX12_takes 26 = some (.aload_n 0, 27) := by decide +kernel
theorem eX12_takes_27 : ino mX12_takes 27 = some (.iconst 2, 28) := by decide +kernel
theorem eX12_takes_28 : ino mX12_takes 28 = some (.invokevirtual 215, 31) := by decide +kernel
theorem eX12_takes_31 : ino mX12_takes 31 = some (.ireturn, 32) := by decide +kernel
theorem eX12_takes_32 : ino mX12_takes 32 = some (.aload_n 0, 33) := by decide +kernel
theorem eX12_takes_33 : ino mX12_takes 33 = some (.aload_n 0, 34) := by decide +kernel
theorem eX12_takes_34 : ino mX12_takes 34 = some (.getfield 199, 37) := by decide +kernel
theorem eX12_takes_37 : ino mX12_takes 37 = some (.putfield 225, 40) := by decide +kernel
theorem eX12_takes_40 : ino mX12_takes 40 = some (.aload_n 0, 41) := by decide +kernel
theorem eX12_takes_41 : ino mX12_takes 41 = some (.invokevirtual 218, 44) := by decide +kernel
theorem eX12_takes_44 : ino mX12_takes 44 = some (.iconst 1, 45) := by decide +kernel
theorem eX12_takes_45 : ino mX12_takes 45 = some (.ireturn, 46) := by decide +kernel
theorem eX12_puts_0 : ino mX12_puts 0 = some (.aload_n 0, 1) := by decide +kernel
theorem eX12_puts_1 : ino mX12_puts 1 = some (.iload_n 2, 2) := by decide +kernel
theorem eX12_puts_2 : ino mX12_puts 2 = some (.iload_n 3, 3) := by decide +kernel
theorem eX12_puts_3 : ino mX12_puts 3 = some (.invokevirtual 228, 6) := by decide +kernel
theorem eX12_puts_6 : ino mX12_puts 6 = some (.ifCond .ne 5, 11) := by decide +kernel
theorem eX12_puts_9 : ino mX12_puts 9 = some (.iconst 0, 10) := by decide +kernel
theorem eX12_puts_10 : ino mX12_puts 10 = some (.ireturn, 11) := by decide +kernel
theorem eX12_puts_11 : ino mX12_puts 11 = some (.aload_n 0, 12) := by decide +kernel
theorem eX12_puts_12 : ino mX12_puts 12 = some (.getfield 37, 15) := by decide +kernel
theorem eX12_puts_15 : ino mX12_puts 15 = some (.iload_n 1, 16) := by decide +kernel
theorem eX12_puts_16 : ino mX12_puts 16 = some (.aload_n 0, 17) := by decide +kernel
theorem eX12_puts_17 : ino mX12_puts 17 = some (.getfield 225, 20) := by decide +kernel
theorem eX12_puts_20 : ino mX12_puts 20 = some (.iastore, 21) := by decide +kernel
theorem eX12_puts_21 : ino mX12_puts 21 = some (.iconst 1, 22) := by decide +kernel
theorem eX12_puts_22 : ino mX12_puts 22 = some (.ireturn, 23) := by decide +kernel
theorem eX12_giftWord_0 : ino mX12_giftWord 0 = some (.iconst 0, 1) := by decide +kernel
theorem eX12_giftWord_1 : ino mX12_giftWord 1 = some (.istore_n 1, 2) := by decide +kernel
theorem eX12_giftWord_2 : ino mX12_giftWord 2 = some (.iload_n 1, 3) := by decide +kernel
theorem eX12_giftWord_3 : ino mX12_giftWord 3 = some (.iconst 4, 4) := by decide +kernel
theorem eX12_giftWord_4 : ino mX12_giftWord 4 = some (.if_icmp .ge 36, 40) := by decide +kernel
theorem eX12_giftWord_7 : ino mX12_giftWord 7 = some (.aload_n 0, 8) := by decide +kernel
theorem eX12_giftWord_8 : ino mX12_giftWord 8 = some (.getfield 189, 11) := by decide +kernel
theorem eX12_giftWord_11 : ino mX12_giftWord 11 = some (.iconst 1, 12) := by decide +kernel
theorem eX12_giftWord_12 : ino mX12_giftWord 12 = some (.if_icmp .ne 22, 34) := by decide +kernel
theorem eX12_giftWord_15 : ino mX12_giftWord 15 = some (.aload_n 0, 16) := by decide +kernel
theorem eX12_giftWord_16 : ino mX12_giftWord 16 = some (.getfield 202, 19) := by decide +kernel
theorem eX12_giftWord_19 : ino mX12_giftWord 19 = some (.aload_n 0, 20) := by decide +kernel
theorem eX12_giftWord_20 : ino mX12_giftWord 20 = some (.getfield 47, 23) := by decide +kernel
theorem eX12_giftWord_23 : ino mX12_giftWord 23 = some (.bipush 8, 25) := by decide +kernel
theorem eX12_giftWord_25 : ino mX12_giftWord 25 = some (.iload_n 1, 26) := by decide +kernel
theorem eX12_giftWord_26 : ino mX12_giftWord 26 = some (.iadd, 27) := by decide +kernel
theorem eX12_giftWord_27 : ino mX12_giftWord 27 = some (.laload, 28) := by decide +kernel
theorem eX12_giftWord_28 : ino mX12_giftWord 28 = some (.lcmp, 29) := by decide +kernel
theorem eX12_giftWord_29 : ino mX12_giftWord 29 = some (.ifCond .ne 5, 34) := by decide +kernel
theorem eX12_giftWord_32 : ino mX12_giftWord 32 = some (.iload_n 1, 33) := by decide +kernel
theorem eX12_giftWord_33 : ino mX12_giftWord 33 = some (.ireturn, 34) := by decide +kernel
theorem eX12_giftWord_34 : ino mX12_giftWord 34 = some (.iinc 1 1, 37) := by decide +kernel
theorem eX12_giftWord_37 : ino mX12_giftWord 37 = some (.goto (-35), 2) := by decide +kernel
theorem eX12_giftWord_40 : ino mX12_giftWord 40 = some (.iconst (-1), 41) := by decide +kernel
theorem eX12_giftWord_41 : ino mX12_giftWord 41 = some (.ireturn, 42) := by decide +kernel
theorem eX12_takesGift_0 : ino mX12_takesGift 0 = some (.aload_n 0, 1) := by decide +kernel
theorem eX12_takesGift_1 : ino mX12_takesGift 1 = some (.aload_n 0, 2) := by decide +kernel
theorem eX12_takesGift_2 : ino mX12_takesGift 2 = some (.invokevirtual 232, 5) := by decide +kernel
theorem eX12_takesGift_5 : ino mX12_takesGift 5 = some (.putfield 225, 8) := by decide +kernel
theorem eX12_takesGift_8 : ino mX12_takesGift 8 = some (.aload_n 0, 9) := by decide +kernel
theorem eX12_takesGift_9 : ino mX12_takesGift 9 = some (.getfield 225, 12) := by decide +kernel
theorem eX12_takesGift_12 : ino mX12_takesGift 12 = some (.ifCond .ge 9, 21) := by decide +kernel
theorem eX12_takesGift_15 : ino mX12_takesGift 15 = some (.aload_n 0, 16) := by decide +kernel
theorem eX12_takesGift_16 : ino mX12_takesGift 16 = some (.iconst 1, 17) := by decide +kernel
theorem eX12_takesGift_17 : ino mX12_takesGift 17 = some (.invokevirtual 215, 20) := by decide +kernel
theorem eX12_takesGift_20 : ino mX12_takesGift 20 = some (.ireturn, 21) := by decide +kernel
theorem eX12_takesGift_21 : ino mX12_takesGift 21 = some (.aload_n 0, 22) := by decide +kernel
theorem eX12_takesGift_22 : ino mX12_takesGift 22 = some (.invokevirtual 218, 25) := by decide +kernel
theorem eX12_takesGift_25 : ino mX12_takesGift 25 = some (.iconst 1, 26) := by decide +kernel
theorem eX12_takesGift_26 : ino mX12_takesGift 26 = some (.ireturn, 27) := by decide +kernel
theorem eX12_find_0 : ino mX12_find 0 = some (.iconst 0, 1) := by decide +kernel
theorem eX12_find_1 : ino mX12_find 1 = some (.istore_n 3, 2) := by decide +kernel
theorem eX12_find_2 : ino mX12_find 2 = some (.iload_n 3, 3) := by decide +kernel
theorem eX12_find_3 : ino mX12_find 3 = some (.iload_n 2, 4) := by decide +kernel
theorem eX12_find_4 : ino mX12_find 4 = some (.if_icmp .ge 27, 31) := by decide +kernel
theorem eX12_find_7 : ino mX12_find 7 = some (.aload_n 0, 8) := by decide +kernel
theorem eX12_find_8 : ino mX12_find 8 = some (.getfield 43, 11) := by decide +kernel
theorem eX12_find_11 : ino mX12_find 11 = some (.iload_n 1, 12) := by decide +kernel
theorem eX12_find_12 : ino mX12_find 12 = some (.iload_n 3, 13) := by decide +kernel
theorem eX12_find_13 : ino mX12_find 13 = some (.iadd, 14) := by decide +kernel
theorem eX12_find_14 : ino mX12_find 14 = some (.laload, 15) := by decide +kernel
theorem eX12_find_15 : ino mX12_find 15 = some (.aload_n 0, 16) := by decide +kernel
theorem eX12_find_16 : ino mX12_find 16 = some (.getfield 202, 19) := by decide +kernel
theorem eX12_find_19 : ino mX12_find 19 = some (.lcmp, 20) := by decide +kernel
theorem eX12_find_20 : ino mX12_find 20 = some (.ifCond .ne 5, 25) := by decide +kernel
theorem eX12_find_23 : ino mX12_find 23 = some (.iload_n 3, 24) := by decide +kernel
theorem eX12_find_24 : ino mX12_find 24 = some (.ireturn, 25) := by decide +kernel
theorem eX12_find_25 : ino mX12_find 25 = some (.iinc 3 1, 28) := by decide +kernel
theorem eX12_find_28 : ino mX12_find 28 = some (.goto (-26), 2) := by decide +kernel
theorem eX12_find_31 : ino mX12_find 31 = some (.iconst (-1), 32) := by decide +kernel
theorem eX12_find_32 : ino mX12_find 32 = some (.ireturn, 33) := by decide +kernel
theorem eX12_fresh_0 : ino mX12_fresh 0 = some (.aload_n 0, 1) := by decide +kernel
theorem eX12_fresh_1 : ino mX12_fresh 1 = some (.invokevirtual 235, 4) := by decide +kernel
theorem eX12_fresh_4 : ino mX12_fresh 4 = some (.ifCond .ne 9, 13) := by decide +kernel
theorem eX12_fresh_7 : ino mX12_fresh 7 = some (.aload_n 0, 8) := by decide +kernel
theorem eX12_fresh_8 : ino mX12_fresh 8 = some (.iconst 1, 9) := by decide +kernel
theorem eX12_fresh_9 : ino mX12_fresh 9 = some (.invokevirtual 215, 12) := by decide +kernel
theorem eX12_fresh_12 : ino mX12_fresh 12 = some (.ireturn, 13) := by decide +kernel
theorem eX12_fresh_13 : ino mX12_fresh 13 = some (.aload_n 0, 14) := by decide +kernel
theorem eX12_fresh_14 : ino mX12_fresh 14 = some (.bipush 19, 16) := by decide +kernel
theorem eX12_fresh_16 : ino mX12_fresh 16 = some (.aload_n 0, 17) := by decide +kernel
theorem eX12_fresh_17 : ino mX12_fresh 17 = some (.getfield 37, 20) := by decide +kernel
theorem eX12_fresh_20 : ino mX12_fresh 20 = some (.iconst 0, 21) := by decide +kernel
theorem eX12_fresh_21 : ino mX12_fresh 21 = some (.iaload, 22) := by decide +kernel
theorem eX12_fresh_22 : ino mX12_fresh 22 = some (.invokevirtual 239, 25) := by decide +kernel
theorem eX12_fresh_25 : ino mX12_fresh 25 = some (.ifCond .ge 33, 58) := by decide +kernel
theorem eX12_fresh_28 : ino mX12_fresh 28 = some (.aload_n 0, 29) := by decide +kernel
theorem eX12_fresh_29 : ino mX12_fresh 29 = some (.bipush 27, 31) := by decide +kernel
theorem eX12_fresh_31 : ino mX12_fresh 31 = some (.aload_n 0, 32) := by decide +kernel
theorem eX12_fresh_32 : ino mX12_fresh 32 = some (.getfield 37, 35) := by decide +kernel
theorem eX12_fresh_35 : ino mX12_fresh 35 = some (.iconst 1, 36) := by decide +kernel
theorem eX12_fresh_36 : ino mX12_fresh 36 = some (.iaload, 37) := by decide +kernel
theorem eX12_fresh_37 : ino mX12_fresh 37 = some (.invokevirtual 239, 40) := by decide +kernel
theorem eX12_fresh_40 : ino mX12_fresh 40 = some (.ifCond .ge 18, 58) := by decide +kernel
theorem eX12_fresh_43 : ino mX12_fresh 43 = some (.aload_n 0, 44) := by decide +kernel
theorem eX12_fresh_44 : ino mX12_fresh 44 = some (.bipush 33, 46) := by decide +kernel
theorem eX12_fresh_46 : ino mX12_fresh 46 = some (.aload_n 0, 47) := by decide +kernel
theorem eX12_fresh_47 : ino mX12_fresh 47 = some (.getfield 37, 50) := by decide +kernel
theorem eX12_fresh_50 : ino mX12_fresh 50 = some (.iconst 2, 51) := by decide +kernel
theorem eX12_fresh_51 : ino mX12_fresh 51 = some (.iaload, 52) := by decide +kernel
theorem eX12_fresh_52 : ino mX12_fresh 52 = some (.invokevirtual 239, 55) := by decide +kernel
theorem eX12_fresh_55 : ino mX12_fresh 55 = some (.ifCond .lt 9, 64) := by decide +kernel
theorem eX12_fresh_58 : ino mX12_fresh 58 = some (.aload_n 0, 59) := by decide +kernel
theorem eX12_fresh_59 : ino mX12_fresh 59 = some (.iconst 3, 60) := by decide +kernel
theorem eX12_fresh_60 : ino mX12_fresh 60 = some (.invokevirtual 215, 63) := by decide +kernel
theorem eX12_fresh_63 : ino mX12_fresh 63 = some (.ireturn, 64) := by decide +kernel
theorem eX12_fresh_64 : ino mX12_fresh 64 = some (.aload_n 0, 65) := by decide +kernel
theorem eX12_fresh_65 : ino mX12_fresh 65 = some (.getfield 43, 68) := by decide +kernel
theorem eX12_fresh_68 : ino mX12_fresh 68 = some (.iload_n 1, 69) := by decide +kernel
theorem eX12_fresh_69 : ino mX12_fresh 69 = some (.aload_n 0, 70) := by decide +kernel
theorem eX12_fresh_70 : ino mX12_fresh 70 = some (.getfield 202, 73) := by decide +kernel
theorem eX12_fresh_73 : ino mX12_fresh 73 = some (.lastore, 74) := by decide +kernel
theorem eX12_fresh_74 : ino mX12_fresh 74 = some (.aload_n 0, 75) := by decide +kernel
theorem eX12_fresh_75 : ino mX12_fresh 75 = some (.invokevirtual 218, 78) := by decide +kernel
theorem eX12_fresh_78 : ino mX12_fresh 78 = some (.iconst 1, 79) := by decide +kernel
theorem eX12_fresh_79 : ino mX12_fresh 79 = some (.ireturn, 80) := by decide +kernel
theorem eX12_looksAt_0 : ino mX12_looksAt 0 = some (.aload_n 0, 1) := by decide +kernel
theorem eX12_looksAt_1 : ino mX12_looksAt 1 = some (.invokevirtual 235, 4) := by decide +kernel
theorem eX12_looksAt_4 : ino mX12_looksAt 4 = some (.ifCond .ne 9, 13) := by decide +kernel
theorem eX12_looksAt_7 : ino mX12_looksAt 7 = some (.aload_n 0, 8) := by decide +kernel
theorem eX12_looksAt_8 : ino mX12_looksAt 8 = some (.iconst 1, 9) := by decide +kernel
theorem eX12_looksAt_9 : ino mX12_looksAt 9 = some (.invokevirtual 215, 12) := by decide +kernel
theorem eX12_looksAt_12 : ino mX12_looksAt 12 = some (.ireturn, 13) := by decide +kernel
theorem eX12_looksAt_13 : ino mX12_looksAt 13 = some (.aload_n 0, 14) := by decide +kernel
theorem eX12_looksAt_14 : ino mX12_looksAt 14 = some (.aload_n 0, 15) := by decide +kernel
theorem eX12_looksAt_15 : ino mX12_looksAt 15 = some (.iload_n 1, 16) := by decide +kernel
theorem eX12_looksAt_16 : ino mX12_looksAt 16 = some (.iload_n 2, 17) := by decide +kernel
theorem eX12_looksAt_17 : ino mX12_looksAt 17 = some (.invokevirtual 239, 20) := by decide +kernel
theorem eX12_looksAt_20 : ino mX12_looksAt 20 = some (.putfield 225, 23) := by decide +kernel
theorem eX12_looksAt_23 : ino mX12_looksAt 23 = some (.aload_n 0, 24) := by decide +kernel
theorem eX12_looksAt_24 : ino mX12_looksAt 24 = some (.getfield 225, 27) := by decide +kernel
theorem eX12_looksAt_27 : ino mX12_looksAt 27 = some (.ifCond .ge 11, 38) := by decide +kernel
theorem eX12_looksAt_30 : ino mX12_looksAt 30 = some (.aload_n 0, 31) := by decide +kernel
theorem eX12_looksAt_31 : ino mX12_looksAt 31 = some (.iconst 3, 32) := by decide +kernel
theorem eX12_looksAt_32 : ino mX12_looksAt 32 = some (.invokevirtual 215, 35) := by decide +kernel
theorem eX12_looksAt_35 : ino mX12_looksAt 35 = some (.ifCond .eq 7, 42) := by decide +kernel
theorem eX12_looksAt_38 : ino mX12_looksAt 38 = some (.iconst 1, 39) := by decide +kernel
theorem eX12_looksAt_39 : ino mX12_looksAt 39 = some (.goto 4, 43) := by decide +kernel
theorem eX12_looksAt_42 : ino mX12_looksAt 42 = some (.iconst 0, 43) := by decide +kernel
theorem eX12_looksAt_43 : ino mX12_looksAt 43 = some (.ireturn, 44) := by decide +kernel
theorem eX12_takesName_0 : ino mX12_takesName 0 = some (.aload_n 0, 1) := by decide +kernel
theorem eX12_takesName_1 : ino mX12_takesName 1 = some (.iload_n 1, 2) := by decide +kernel
theorem eX12_takesName_2 : ino mX12_takesName 2 = some (.iload_n 2, 3) := by decide +kernel
theorem eX12_takesName_3 : ino mX12_takesName 3 = some (.invokevirtual 243, 6) := by decide +kernel
theorem eX12_takesName_6 : ino mX12_takesName 6 = some (.ifCond .ne 5, 11) := by decide +kernel
theorem eX12_takesName_9 : ino mX12_takesName 9 = some (.iconst 0, 10) := by decide +kernel
theorem eX12_takesName_10 : ino mX12_takesName 10 = some (.ireturn, 11) := by decide +kernel
theorem eX12_takesName_11 : ino mX12_takesName 11 = some (.aload_n 0, 12) := by decide +kernel
theorem eX12_takesName_12 : ino mX12_takesName 12 = some (.invokevirtual 218, 15) := by decide +kernel
theorem eX12_takesName_15 : ino mX12_takesName 15 = some (.iconst 1, 16) := by decide +kernel
theorem eX12_takesName_16 : ino mX12_takesName 16 = some (.ireturn, 17) := by decide +kernel
theorem eX12_takesTo_0 : ino mX12_takesTo 0 = some (.aload_n 0, 1) := by decide +kernel
theorem eX12_takesTo_1 : ino mX12_takesTo 1 = some (.ldc2_w 140, 4) := by decide +kernel
theorem eX12_takesTo_4 : ino mX12_takesTo 4 = some (.invokevirtual 246, 7) := by decide +kernel
theorem eX12_takesTo_7 : ino mX12_takesTo 7 = some (.ifCond .eq 14, 21) := by decide +kernel
theorem eX12_takesTo_10 : ino mX12_takesTo 10 = some (.aload_n 0, 11) := by decide +kernel
theorem eX12_takesTo_11 : ino mX12_takesTo 11 = some (.iconst 0, 12) := by decide +kernel
theorem eX12_takesTo_12 : ino mX12_takesTo 12 = some (.putfield 225, 15) := by decide +kernel
theorem eX12_takesTo_15 : ino mX12_takesTo 15 = some (.aload_n 0, 16) := by decide +kernel
theorem eX12_takesTo_16 : ino mX12_takesTo 16 = some (.invokevirtual 218, 19) := by decide +kernel
theorem eX12_takesTo_19 : ino mX12_takesTo 19 = some (.iconst 1, 20) := by decide +kernel
theorem eX12_takesTo_20 : ino mX12_takesTo 20 = some (.ireturn, 21) := by decide +kernel
theorem eX12_takesTo_21 : ino mX12_takesTo 21 = some (.aload_n 0, 22) := by decide +kernel
theorem eX12_takesTo_22 : ino mX12_takesTo 22 = some (.iconst 0, 23) := by decide +kernel
theorem eX12_takesTo_23 : ino mX12_takesTo 23 = some (.aload_n 0, 24) := by decide +kernel
theorem eX12_takesTo_24 : ino mX12_takesTo 24 = some (.getfield 33, 27) := by decide +kernel
theorem eX12_takesTo_27 : ino mX12_takesTo 27 = some (.iconst 0, 28) := by decide +kernel
theorem eX12_takesTo_28 : ino mX12_takesTo 28 = some (.iaload, 29) := by decide +kernel
theorem eX12_takesTo_29 : ino mX12_takesTo 29 = some (.invokevirtual 250, 32) := by decide +kernel
theorem eX12_takesTo_32 : ino mX12_takesTo 32 = some (.ifCond .ne 5, 37) := by decide +kernel
theorem eX12_takesTo_35 : ino mX12_takesTo 35 = some (.iconst 0, 36) := by decide +kernel
theorem eX12_takesTo_36 : ino mX12_takesTo 36 = some (.ireturn, 37) := by decide +kernel
theorem eX12_takesTo_37 : ino mX12_takesTo 37 = some (.aload_n 0, 38) := by decide +kernel
theorem eX12_takesTo_38 : ino mX12_takesTo 38 = some (.dup, 39) := by decide +kernel
theorem eX12_takesTo_39 : ino mX12_takesTo 39 = some (.getfield 225, 42) := by decide +kernel
theorem eX12_takesTo_42 : ino mX12_takesTo 42 = some (.iconst 1, 43) := by decide +kernel
theorem eX12_takesTo_43 : ino mX12_takesTo 43 = some (.iadd, 44) := by decide +kernel
theorem eX12_takesTo_44 : ino mX12_takesTo 44 = some (.putfield 225, 47) := by decide +kernel
theorem eX12_takesTo_47 : ino mX12_takesTo 47 = some (.iconst 1, 48) := by decide +kernel
theorem eX12_takesTo_48 : ino mX12_takesTo 48 = some (.ireturn, 49) := by decide +kernel
theorem eX12_once_0 : ino mX12_once 0 = some (.aload_n 0, 1) := by decide +kernel
theorem eX12_once_1 : ino mX12_once 1 = some (.getfield 253, 4) := by decide +kernel
theorem eX12_once_4 : ino mX12_once 4 = some (.iload_n 1, 5) := by decide +kernel
theorem eX12_once_5 : ino mX12_once 5 = some (.invokestatic 256, 8) := by decide +kernel
theorem eX12_once_8 : ino mX12_once 8 = some (.ifCond .eq 9, 17) := by decide +kernel
theorem eX12_once_11 : ino mX12_once 11 = some (.aload_n 0, 12) := by decide +kernel
theorem eX12_once_12 : ino mX12_once 12 = some (.iconst 3, 13) := by decide +kernel
theorem eX12_once_13 : ino mX12_once 13 = some (.invokevirtual 215, 16) := by decide +kernel
theorem eX12_once_16 : ino mX12_once 16 = some (.ireturn, 17) := by decide +kernel
theorem eX12_once_17 : ino mX12_once 17 = some (.aload_n 0, 18) := by decide +kernel
theorem eX12_once_18 : ino mX12_once 18 = some (.dup, 19) := by decide +kernel
theorem eX12_once_19 : ino mX12_once 19 = some (.getfield 253, 22) := by decide +kernel
theorem eX12_once_22 : ino mX12_once 22 = some (.iconst 1, 23) := by decide +kernel
theorem eX12_once_23 : ino mX12_once 23 = some (.iload_n 1, 24) := by decide +kernel
theorem eX12_once_24 : ino mX12_once 24 = some (.ishl, 25) := by decide +kernel
theorem eX12_once_25 : ino mX12_once 25 = some (.ior, 26) := by decide +kernel
theorem eX12_once_26 : ino mX12_once 26 = some (.putfield 253, 29) := by decide +kernel
theorem eX12_once_29 : ino mX12_once 29 = some (.aload_n 0, 30) := by decide +kernel
theorem eX12_once_30 : ino mX12_once 30 = some (.invokevirtual 218, 33) := by decide +kernel
theorem eX12_once_33 : ino mX12_once 33 = some (.aload_n 0, 34) := by decide +kernel
theorem eX12_once_34 : ino mX12_once 34 = some (.iload_n 2, 35) := by decide +kernel
theorem eX12_once_35 : ino mX12_once 35 = some (.iload_n 3, 36) := by decide +kernel
theorem eX12_once_36 : ino mX12_once 36 = some (.iload 4, 38) := by decide +kernel
theorem eX12_once_38 : ino mX12_once 38 = some (.invokevirtual 259, 41) := by decide +kernel
theorem eX12_once_41 : ino mX12_once 41 = some (.ireturn, 42) := by decide +kernel
theorem eX12_line_0 : ino mX12_line 0 = some (.aload_n 0, 1) := by decide +kernel
theorem eX12_line_1 : ino mX12_line 1 = some (.ldc2_w 114, 4) := by decide +kernel
theorem eX12_line_4 : ino mX12_line 4 = some (.invokevirtual 246, 7) := by decide +kernel
theorem eX12_line_7 : ino mX12_line 7 = some (.ifCond .eq 8, 15) := by decide +kernel
theorem eX12_line_10 : ino mX12_line 10 = some (.aload_n 0, 11) := by decide +kernel
theorem eX12_line_11 : ino mX12_line 11 = some (.invokevirtual 262, 14) := by decide +kernel
theorem eX12_line_14 : ino mX12_line 14 = some (.ireturn, 15) := by decide +kernel
theorem eX12_line_15 : ino mX12_line 15 = some (.aload_n 0, 16) := by decide +kernel
theorem eX12_line_16 : ino mX12_line 16 = some (.ldc2_w 118, 19) := by decide +kernel
theorem eX12_line_19 : ino mX12_line 19 = some (.invokevirtual 246, 22) := by decide +kernel
theorem eX12_line_22 : ino mX12_line 22 = some (.ifCond .eq 65, 87) := by decide +kernel
theorem eX12_line_25 : ino mX12_line 25 = some (.aload_n 0, 26) := by decide +kernel
theorem eX12_line_26 : ino mX12_line 26 = some (.getfield 37, 29) := by decide +kernel
theorem eX12_line_29 : ino mX12_line 29 = some (.iconst 1, 30) := by decide +kernel
theorem eX12_line_30 : ino mX12_line 30 = some (.iaload, 31) := by decide +kernel
theorem eX12_line_31 : ino mX12_line 31 = some (.istore_n 1, 32) := by decide +kernel
theorem eX12_line_32 : ino mX12_line 32 = some (.iload_n 1, 33) := by decide +kernel
theorem eX12_line_33 : ino mX12_line 33 = some (.bipush 6, 35) := by decide +kernel
theorem eX12_line_35 : ino mX12_line 35 = some (.if_icmp .ne 9, 44) := by decide +kernel
theorem eX12_line_38 : ino mX12_line 38 = some (.aload_n 0, 39) := by decide +kernel
theorem eX12_line_39 : ino mX12_line 39 = some (.iconst 4, 40) := by decide +kernel
theorem eX12_line_40 : ino mX12_line 40 = some (.invokevirtual 215, 43) := by decide +kernel
theorem eX12_line_43 : ino mX12_line 43 = some (.ireturn, 44) := by decide +kernel
theorem eX12_line_44 : ino mX12_line 44 = some (.aload_n 0, 45) := by decide +kernel
theorem eX12_line_45 : ino mX12_line 45 = some (.invokevirtual 218, 48) := by decide +kernel
theorem eX12_line_48 : ino mX12_line 48 = some (.aload_n 0, 49) := by decide +kernel
theorem eX12_line_49 : ino mX12_line 49 = some (.bipush 27, 51) := by decide +kernel
theorem eX12_line_51 : ino mX12_line 51 = some (.iload_n 1, 52) := by decide +kernel
theorem eX12_line_52 : ino mX12_line 52 = some (.iadd, 53) := by decide +kernel
theorem eX12_line_53 : ino mX12_line 53 = some (.invokevirtual 265, 56) := by decide +kernel
theorem eX12_line_56 : ino mX12_line 56 = some (.ifCond .eq 17, 73) := by decide +kernel
theorem eX12_line_59 : ino mX12_line 59 = some (.aload_n 0, 60) := by decide +kernel
theorem eX12_line_60 : ino mX12_line 60 = some (.bipush 22, 62) := by decide +kernel
theorem eX12_line_62 : ino mX12_line 62 = some (.iload_n 1, 63) := by decide +kernel
theorem eX12_line_63 : ino mX12_line 63 = some (.iadd, 64) := by decide +kernel
theorem eX12_line_64 : ino mX12_line 64 = some (.iconst 1, 65) := by decide +kernel
theorem eX12_line_65 : ino mX12_line 65 = some (.bipush 20, 67) := by decide +kernel
theorem eX12_line_67 : ino mX12_line 67 = some (.invokevirtual 259, 70) := by decide +kernel
theorem eX12_line_70 : ino mX12_line 70 = some (.ifCond .ne 5, 75) := by decide +kernel
theorem eX12_line_73 : ino mX12_line 73 = some (.iconst 0, 74) := by decide +kernel
theorem eX12_line_74 : ino mX12_line 74 = some (.ireturn, 75) := by decide +kernel
theorem eX12_line_75 : ino mX12_line 75 = some (.aload_n 0, 76) := by decide +kernel
theorem eX12_line_76 : ino mX12_line 76 = some (.getfield 37, 79) := by decide +kernel
theorem eX12_line_79 : ino mX12_line 79 = some (.iconst 1, 80) := by decide +kernel
theorem eX12_line_80 : ino mX12_line 80 = some (.dup2, 81) := by decide +kernel
theorem eX12_line_81 : ino mX12_line 81 = some (.iaload, 82) := by decide +kernel
theorem eX12_line_82 : ino mX12_line 82 = some (.iconst 1, 83) := by decide +kernel
theorem eX12_line_83 : ino mX12_line 83 = some (.iadd, 84) := by decide +kernel
theorem eX12_line_84 : ino mX12_line 84 = some (.iastore, 85) := by decide +kernel
theorem eX12_line_85 : ino mX12_line 85 = some (.iconst 1, 86) := by decide +kernel
theorem eX12_line_86 : ino mX12_line 86 = some (.ireturn, 87) := by decide +kernel
theorem eX12_line_87 : ino mX12_line 87 = some (.aload_n 0, 88) := by decide +kernel
theorem eX12_line_88 : ino mX12_line 88 = some (.ldc2_w 120, 91) := by decide +kernel
theorem eX12_line_91 : ino mX12_line 91 = some (.invokevirtual 246, 94) := by decide +kernel
theorem eX12_line_94 : ino mX12_line 94 = some (.ifCond .eq 64, 158) := by decide +kernel
theorem eX12_line_97 : ino mX12_line 97 = some (.aload_n 0, 98) := by decide +kernel
theorem eX12_line_98 : ino mX12_line 98 = some (.getfield 37, 101) := by decide +kernel
theorem eX12_line_101 : ino mX12_line 101 = some (.iconst 2, 102) := by decide +kernel
theorem eX12_line_102 : ino mX12_line 102 = some (.iaload, 103) := by decide +kernel
theorem eX12_line_103 : ino mX12_line 103 = some (.istore_n 1, 104) := by decide +kernel
theorem eX12_line_104 : ino mX12_line 104 = some (.iload_n 1, 105) := by decide +kernel
theorem eX12_line_105 : ino mX12_line 105 = some (.iconst 5, 106) := by decide +kernel
theorem eX12_line_106 : ino mX12_line 106 = some (.if_icmp .ne 9, 115) := by decide +kernel
theorem eX12_line_109 : ino mX12_line 109 = some (.aload_n 0, 110) := by decide +kernel
theorem eX12_line_110 : ino mX12_line 110 = some (.iconst 4, 111) := by decide +kernel
theorem eX12_line_111 : ino mX12_line 111 = some (.invokevirtual 215, 114) := by decide +kernel
theorem eX12_line_114 : ino mX12_line 114 = some (.ireturn, 115) := by decide +kernel
theorem eX12_line_115 : ino mX12_line 115 = some (.aload_n 0, 116) := by decide +kernel
theorem eX12_line_116 : ino mX12_line 116 = some (.invokevirtual 218, 119) := by decide +kernel
theorem eX12_line_119 : ino mX12_line 119 = some (.aload_n 0, 120) := by decide +kernel
theorem eX12_line_120 : ino mX12_line 120 = some (.bipush 33, 122) := by decide +kernel
theorem eX12_line_122 : ino mX12_line 122 = some (.iload_n 1, 123) := by decide +kernel
theorem eX12_line_123 : ino mX12_line 123 = some (.iadd, 124) := by decide +kernel
theorem eX12_line_124 : ino mX12_line 124 = some (.invokevirtual 265, 127) := by decide +kernel
theorem eX12_line_127 : ino mX12_line 127 = some (.ifCond .eq 17, 144) := by decide +kernel
theorem eX12_line_130 : ino mX12_line 130 = some (.aload_n 0, 131) := by decide +kernel
theorem eX12_line_131 : ino mX12_line 131 = some (.bipush 28, 133) := by decide +kernel
theorem eX12_line_133 : ino mX12_line 133 = some (.iload_n 1, 134) := by decide +kernel
theorem eX12_line_134 : ino mX12_line 134 = some (.iadd, 135) := by decide +kernel
theorem eX12_line_135 : ino mX12_line 135 = some (.iconst 1, 136) := by decide +kernel
theorem eX12_line_136 : ino mX12_line 136 = some (.bipush 20, 138) := by decide +kernel
theorem eX12_line_138 : ino mX12_line 138 = some (.invokevirtual 259, 141) := by decide +kernel
theorem eX12_line_141 : ino mX12_line 141 = some (.ifCond .ne 5, 146) := by decide +kernel
theorem eX12_line_144 : ino mX12_line 144 = some (.iconst 0, 145) := by decide +kernel
theorem eX12_line_145 : ino mX12_line 145 = some (.ireturn, 146) := by decide +kernel
theorem eX12_line_146 : ino mX12_line 146 = some (.aload_n 0, 147) := by decide +kernel
theorem eX12_line_147 : ino mX12_line 147 = some (.getfield 37, 150) := by decide +kernel
theorem eX12_line_150 : ino mX12_line 150 = some (.iconst 2, 151) := by decide +kernel
theorem eX12_line_151 : ino mX12_line 151 = some (.dup2, 152) := by decide +kernel
theorem eX12_line_152 : ino mX12_line 152 = some (.iaload, 153) := by decide +kernel
theorem eX12_line_153 : ino mX12_line 153 = some (.iconst 1, 154) := by decide +kernel
theorem eX12_line_154 : ino mX12_line 154 = some (.iadd, 155) := by decide +kernel
theorem eX12_line_155 : ino mX12_line 155 = some (.iastore, 156) := by decide +kernel
theorem eX12_line_156 : ino mX12_line 156 = some (.iconst 1, 157) := by decide +kernel
theorem eX12_line_157 : ino mX12_line 157 = some (.ireturn, 158) := by decide +kernel
theorem eX12_line_158 : ino mX12_line 158 = some (.aload_n 0, 159) := by decide +kernel
theorem eX12_line_159 : ino mX12_line 159 = some (.ldc2_w 122, 162) := by decide +kernel
theorem eX12_line_162 : ino mX12_line 162 = some (.invokevirtual 246, 165) := by decide +kernel
theorem eX12_line_165 : ino mX12_line 165 = some (.ifCond .eq 8, 173) := by decide +kernel
theorem eX12_line_168 : ino mX12_line 168 = some (.aload_n 0, 169) := by decide +kernel
theorem eX12_line_169 : ino mX12_line 169 = some (.invokevirtual 268, 172) := by decide +kernel
theorem eX12_line_172 : ino mX12_line 172 = some (.ireturn, 173) := by decide +kernel
theorem eX12_line_173 : ino mX12_line 173 = some (.aload_n 0, 174) := by decide +kernel
theorem eX12_line_174 : ino mX12_line 174 = some (.ldc2_w 124, 177) := by decide +kernel
theorem eX12_line_177 : ino mX12_line 177 = some (.invokevirtual 246, 180) := by decide +kernel
theorem eX12_line_180 : ino mX12_line 180 = some (.ifCond .eq 8, 188) := by decide +kernel
theorem eX12_line_183 : ino mX12_line 183 = some (.aload_n 0, 184) := by decide +kernel
theorem eX12_line_184 : ino mX12_line 184 = some (.invokevirtual 271, 187) := by decide +kernel
theorem eX12_line_187 : ino mX12_line 187 = some (.ireturn, 188) := by decide +kernel
theorem eX12_line_188 : ino mX12_line 188 = some (.aload_n 0, 189) := by decide +kernel
theorem eX12_line_189 : ino mX12_line 189 = some (.ldc2_w 126, 192) := by decide +kernel
theorem eX12_line_192 : ino mX12_line 192 = some (.invokevirtual 246, 195) := by decide +kernel
theorem eX12_line_195 : ino mX12_line 195 = some (.ifCond .eq 15, 210) := by decide +kernel
theorem eX12_line_198 : ino mX12_line 198 = some (.aload_n 0, 199) := by decide +kernel
theorem eX12_line_199 : ino mX12_line 199 = some (.iconst 0, 200) := by decide +kernel
theorem eX12_line_200 : ino mX12_line 200 = some (.iconst 3, 201) := by decide +kernel
theorem eX12_line_201 : ino mX12_line 201 = some (.bipush 10, 203) := by decide +kernel
theorem eX12_line_203 : ino mX12_line 203 = some (.sipush 500, 206) := by decide +kernel
theorem eX12_line_206 : ino mX12_line 206 = some (.invokevirtual 274, 209) := by decide +kernel
theorem eX12_line_209 : ino mX12_line 209 = some (.ireturn, 210) := by decide +kernel
theorem eX12_line_210 : ino mX12_line 210 = some (.aload_n 0, 211) := by decide +kernel
theorem eX12_line_211 : ino mX12_line 211 = some (.ldc2_w 128, 214) := by decide +kernel
theorem eX12_line_214 : ino mX12_line 214 = some (.invokevirtual 246, 217) := by decide +kernel
theorem eX12_line_217 : ino mX12_line 217 = some (.ifCond .eq 15, 232) := by decide +kernel
theorem eX12_line_220 : ino mX12_line 220 = some (.aload_n 0, 221) := by decide +kernel
theorem eX12_line_221 : ino mX12_line 221 = some (.iconst 1, 222) := by decide +kernel
theorem eX12_line_222 : ino mX12_line 222 = some (.iconst 4, 223) := by decide +kernel
theorem eX12_line_223 : ino mX12_line 223 = some (.iconst 1, 224) := by decide +kernel
theorem eX12_line_224 : ino mX12_line 224 = some (.bipush 48, 226) := by decide +kernel
theorem eX12_line_226 : ino mX12_line 226 = some (.invokevirtual 274, 229) := by decide +kernel
theorem eX12_line_229 : ino mX12_line 229 = some (.goto 8, 237) := by decide +kernel
theorem eX12_line_232 : ino mX12_line 232 = some (.aload_n 0, 233) := by decide +kernel
theorem eX12_line_233 : ino mX12_line 233 = some (.iconst 1, 234) := by decide +kernel
theorem eX12_line_234 : ino mX12_line 234 = some (.invokevirtual 215, 237) := by decide +kernel
theorem eX12_line_237 : ino mX12_line 237 = some (.ireturn, 238) := by decide +kernel
theorem eX12_readFloor_0 : ino mX12_readFloor 0 = some (.aload_n 0, 1) := by decide +kernel
theorem eX12_readFloor_1 : ino mX12_readFloor 1 = some (.getfield 37, 4) := by decide +kernel
theorem eX12_readFloor_4 : ino mX12_readFloor 4 = some (.iconst 0, 5) := by decide +kernel
theorem eX12_readFloor_5 : ino mX12_readFloor 5 = some (.iaload, 6) := by decide +kernel
theorem eX12_readFloor_6 : ino mX12_readFloor 6 = some (.istore_n 1, 7) := by decide +kernel
theorem eX12_readFloor_7 : ino mX12_readFloor 7 = some (.iload_n 1, 8) := by decide +kernel
theorem eX12_readFloor_8 : ino mX12_readFloor 8 = some (.bipush 8, 10) := by decide +kernel
theorem eX12_readFloor_10 : ino mX12_readFloor 10 = some (.if_icmp .ne 9, 19) := by decide +kernel
theorem eX12_readFloor_13 : ino mX12_readFloor 13 = some (.aload_n 0, 14) := by decide +kernel
theorem eX12_readFloor_14 : ino mX12_readFloor 14 = some (.iconst 4, 15) := by decide +kernel
theorem eX12_readFloor_15 : ino mX12_readFloor 15 = some (.invokevirtual 215, 18) := by decide +kernel
theorem eX12_readFloor_18 : ino mX12_readFloor 18 = some (.ireturn, 19) := by decide +kernel
theorem eX12_readFloor_19 : ino mX12_readFloor 19 = some (.aload_n 0, 20) := by decide +kernel
theorem eX12_readFloor_20 : ino mX12_readFloor 20 = some (.invokevirtual 218, 23) := by decide +kernel
theorem eX12_readFloor_23 : ino mX12_readFloor 23 = some (.aload_n 0, 24) := by decide +kernel
theorem eX12_readFloor_24 : ino mX12_readFloor 24 = some (.bipush 19, 26) := by decide +kernel
theorem eX12_readFloor_26 : ino mX12_readFloor 26 = some (.iload_n 1, 27) := by decide +kernel
theorem eX12_readFloor_27 : ino mX12_readFloor 27 = some (.iadd, 28) := by decide +kernel
theorem eX12_readFloor_28 : ino mX12_readFloor 28 = some (.invokevirtual 265, 31) := by decide +kernel
theorem eX12_readFloor_31 : ino mX12_readFloor 31 = some (.ifCond .eq 10, 41) := by decide +kernel
theorem eX12_readFloor_34 : ino mX12_readFloor 34 = some (.aload_n 0, 35) := by decide +kernel
theorem eX12_readFloor_35 : ino mX12_readFloor 35 = some (.invokevirtual 278, 38) := by decide +kernel
theorem eX12_readFloor_38 : ino mX12_readFloor 38 = some (.ifCond .ne 5, 43) := by decide +kernel
theorem eX12_readFloor_41 : ino mX12_readFloor 41 = some (.iconst 0, 42) := by decide +kernel
theorem eX12_readFloor_42 : ino mX12_readFloor 42 = some (.ireturn, 43) := by decide +kernel
theorem eX12_readFloor_43 : ino mX12_readFloor 43 = some (.aload_n 0, 44) := by decide +kernel
theorem eX12_readFloor_44 : ino mX12_readFloor 44 = some (.getfield 37, 47) := by decide +kernel
theorem eX12_readFloor_47 : ino mX12_readFloor 47 = some (.iconst 5, 48) := by decide +kernel
theorem eX12_readFloor_48 : ino mX12_readFloor 48 = some (.iload_n 1, 49) := by decide +kernel
theorem eX12_readFloor_49 : ino mX12_readFloor 49 = some (.iadd, 50) := by decide +kernel
theorem eX12_readFloor_50 : ino mX12_readFloor 50 = some (.aload_n 0, 51) := by decide +kernel
theorem eX12_readFloor_51 : ino mX12_readFloor 51 = some (.getfield 225, 54) := by decide +kernel
theorem eX12_readFloor_54 : ino mX12_readFloor 54 = some (.iastore, 55) := by decide +kernel
theorem eX12_readFloor_55 : ino mX12_readFloor 55 = some (.aload_n 0, 56) := by decide +kernel
theorem eX12_readFloor_56 : ino mX12_readFloor 56 = some (.bipush 13, 58) := by decide +kernel
theorem eX12_readFloor_58 : ino mX12_readFloor 58 = some (.iload_n 1, 59) := by decide +kernel
theorem eX12_readFloor_59 : ino mX12_readFloor 59 = some (.iadd, 60) := by decide +kernel
theorem eX12_readFloor_60 : ino mX12_readFloor 60 = some (.iconst 1, 61) := by decide +kernel
theorem eX12_readFloor_61 : ino mX12_readFloor 61 = some (.bipush 9, 63) := by decide +kernel
theorem eX12_readFloor_63 : ino mX12_readFloor 63 = some (.invokevirtual 259, 66) := by decide +kernel
theorem eX12_readFloor_66 : ino mX12_readFloor 66 = some (.ifCond .ne 5, 71) := by decide +kernel
theorem eX12_readFloor_69 : ino mX12_readFloor 69 = some (.iconst 0, 70) := by decide +kernel
theorem eX12_readFloor_70 : ino mX12_readFloor 70 = some (.ireturn, 71) := by decide +kernel
theorem eX12_readFloor_71 : ino mX12_readFloor 71 = some (.aload_n 0, 72) := by decide +kernel
theorem eX12_readFloor_72 : ino mX12_readFloor 72 = some (.ldc2_w 116, 75) := by decide +kernel
theorem eX12_readFloor_75 : ino mX12_readFloor 75 = some (.invokevirtual 246, 78) := by decide +kernel
theorem eX12_readFloor_78 : ino mX12_readFloor 78 = some (.ifCond .eq 20, 98) := by decide +kernel
theorem eX12_readFloor_81 : ino mX12_readFloor 81 = some (.aload_n 0, 82) := by decide +kernel
theorem eX12_readFloor_82 : ino mX12_readFloor 82 = some (.getfield 37, 85) := by decide +kernel
theorem eX12_readFloor_85 : ino mX12_readFloor 85 = some (.bipush 21, 87) := by decide +kernel
theorem eX12_readFloor_87 : ino mX12_readFloor 87 = some (.dup2, 88) := by decide +kernel
theorem eX12_readFloor_88 : ino mX12_readFloor 88 = some (.iaload, 89) := by decide +kernel
theorem eX12_readFloor_89 : ino mX12_readFloor 89 = some (.iconst 1, 90) := by decide +kernel
theorem eX12_readFloor_90 : ino mX12_readFloor 90 = some (.iload_n 1, 91) := by decide +kernel
theorem eX12_readFloor_91 : ino mX12_readFloor 91 = some (.ishl, 92) := by decide +kernel
theorem eX12_readFloor_92 : ino mX12_readFloor 92 = some (.ior, 93) := by decide +kernel
theorem eX12_readFloor_93 : ino mX12_readFloor 93 = some (.iastore, 94) := by decide +kernel
theorem eX12_readFloor_94 : ino mX12_readFloor 94 = some (.aload_n 0, 95) := by decide +kernel
theorem eX12_readFloor_95 : ino mX12_readFloor 95 = some (.invokevirtual 218, 98) := by decide +kernel
theorem eX12_readFloor_98 : ino mX12_readFloor 98 = some (.aload_n 0, 99) := by decide +kernel
theorem eX12_readFloor_99 : ino mX12_readFloor 99 = some (.getfield 37, 102) := by decide +kernel
theorem eX12_readFloor_102 : ino mX12_readFloor 102 = some (.iconst 0, 103) := by decide +kernel
theorem eX12_readFloor_103 : ino mX12_readFloor 103 = some (.dup2, 104) := by decide +kernel
theorem eX12_readFloor_104 : ino mX12_readFloor 104 = some (.iaload, 105) := by decide +kernel
theorem eX12_readFloor_105 : ino mX12_readFloor 105 = some (.iconst 1, 106) := by decide +kernel
theorem eX12_readFloor_106 : ino mX12_readFloor 106 = some (.iadd, 107) := by decide +kernel
theorem eX12_readFloor_107 : ino mX12_readFloor 107 = some (.iastore, 108) := by decide +kernel
theorem eX12_readFloor_108 : ino mX12_readFloor 108 = some (.iconst 1, 109) := by decide +kernel
theorem eX12_readFloor_109 : ino mX12_readFloor 109 = some (.ireturn, 110) := by decide +kernel
theorem eX12_readLaw_0 : ino mX12_readLaw 0 = some (.aload_n 0, 1) := by decide +kernel
theorem eX12_readLaw_1 : ino mX12_readLaw 1 = some (.invokevirtual 218, 4) := by decide +kernel
theorem eX12_readLaw_4 : ino mX12_readLaw 4 = some (.aload_n 0, 5) := by decide +kernel
theorem eX12_readLaw_5 : ino mX12_readLaw 5 = some (.invokevirtual 232, 8) := by decide +kernel
theorem eX12_readLaw_8 : ino mX12_readLaw 8 = some (.istore_n 1, 9) := by decide +kernel
theorem eX12_readLaw_9 : ino mX12_readLaw 9 = some (.iload_n 1, 10) := by decide +kernel
theorem eX12_readLaw_10 : ino mX12_readLaw 10 = some (.ifCond .ge 9, 19) := by decide +kernel
theorem eX12_readLaw_13 : ino mX12_readLaw 13 = some (.aload_n 0, 14) := by decide +kernel
theorem eX12_readLaw_14 : ino mX12_readLaw 14 = some (.iconst 1, 15) := by decide +kernel
theorem eX12_readLaw_15 : ino mX12_readLaw 15 = some (.invokevirtual 215, 18) := by decide +kernel
theorem eX12_readLaw_18 : ino mX12_readLaw 18 = some (.ireturn, 19) := by decide +kernel
theorem eX12_readLaw_19 : ino mX12_readLaw 19 = some (.aload_n 0, 20) := by decide +kernel
theorem eX12_readLaw_20 : ino mX12_readLaw 20 = some (.getfield 37, 23) := by decide +kernel
theorem eX12_readLaw_23 : ino mX12_readLaw 23 = some (.bipush 33, 25) := by decide +kernel
theorem eX12_readLaw_25 : ino mX12_readLaw 25 = some (.iload_n 1, 26) := by decide +kernel
theorem eX12_readLaw_26 : ino mX12_readLaw 26 = some (.iadd, 27) := by decide +kernel
theorem eX12_readLaw_27 : ino mX12_readLaw 27 = some (.iaload, 28) := by decide +kernel
theorem eX12_readLaw_28 : ino mX12_readLaw 28 = some (.ifCond .le 9, 37) := by decide +kernel
theorem eX12_readLaw_31 : ino mX12_readLaw 31 = some (.aload_n 0, 32) := by decide +kernel
theorem eX12_readLaw_32 : ino mX12_readLaw 32 = some (.iconst 3, 33) := by decide +kernel
theorem eX12_readLaw_33 : ino mX12_readLaw 33 = some (.invokevirtual 215, 36) := by decide +kernel
theorem eX12_readLaw_36 : ino mX12_readLaw 36 = some (.ireturn, 37) := by decide +kernel
theorem eX12_readLaw_37 : ino mX12_readLaw 37 = some (.aload_n 0, 38) := by decide +kernel
theorem eX12_readLaw_38 : ino mX12_readLaw 38 = some (.invokevirtual 218, 41) := by decide +kernel
theorem eX12_readLaw_41 : ino mX12_readLaw 41 = some (.aload_n 0, 42) := by decide +kernel
theorem eX12_readLaw_42 : ino mX12_readLaw 42 = some (.bipush 33, 44) := by decide +kernel
theorem eX12_readLaw_44 : ino mX12_readLaw 44 = some (.iload_n 1, 45) := by decide +kernel
theorem eX12_readLaw_45 : ino mX12_readLaw 45 = some (.iadd, 46) := by decide +kernel
theorem eX12_readLaw_46 : ino mX12_readLaw 46 = some (.iconst 1, 47) := by decide +kernel
theorem eX12_readLaw_47 : ino mX12_readLaw 47 = some (.bipush 60, 49) := by decide +kernel
theorem eX12_readLaw_49 : ino mX12_readLaw 49 = some (.invokevirtual 259, 52) := by decide +kernel
theorem eX12_readLaw_52 : ino mX12_readLaw 52 = some (.ireturn, 53) := by decide +kernel
theorem eX12_readLike_0 : ino mX12_readLike 0 = some (.aload_n 0, 1) := by decide +kernel
theorem eX12_readLike_1 : ino mX12_readLike 1 = some (.invokevirtual 218, 4) := by decide +kernel
theorem eX12_readLike_4 : ino mX12_readLike 4 = some (.aload_n 0, 5) := by decide +kernel
theorem eX12_readLike_5 : ino mX12_readLike 5 = some (.bipush 19, 7) := by decide +kernel
theorem eX12_readLike_7 : ino mX12_readLike 7 = some (.aload_n 0, 8) := by decide +kernel
theorem eX12_readLike_8 : ino mX12_readLike 8 = some (.getfield 37, 11) := by decide +kernel
theorem eX12_readLike_11 : ino mX12_readLike 11 = some (.iconst 0, 12) := by decide +kernel
theorem eX12_readLike_12 : ino mX12_readLike 12 = some (.iaload, 13) := by decide +kernel
theorem eX12_readLike_13 : ino mX12_readLike 13 = some (.invokevirtual 250, 16) := by decide +kernel
theorem eX12_readLike_16 : ino mX12_readLike 16 = some (.ifCond .ne 5, 21) := by decide +kernel
theorem eX12_readLike_19 : ino mX12_readLike 19 = some (.iconst 0, 20) := by decide +kernel
theorem eX12_readLike_20 : ino mX12_readLike 20 = some (.ireturn, 21) := by decide +kernel
theorem eX12_readLike_21 : ino mX12_readLike 21 = some (.bipush 37, 23) := by decide +kernel
theorem eX12_readLike_23 : ino mX12_readLike 23 = some (.bipush 6, 25) := by decide +kernel
theorem eX12_readLike_25 : ino mX12_readLike 25 = some (.aload_n 0, 26) := by decide +kernel
theorem eX12_readLike_26 : ino mX12_readLike 26 = some (.getfield 225, 29) := by decide +kernel
theorem eX12_readLike_29 : ino mX12_readLike 29 = some (.imul, 30) := by decide +kernel
theorem eX12_readLike_30 : ino mX12_readLike 30 = some (.iadd, 31) := by decide +kernel
theorem eX12_readLike_31 : ino mX12_readLike 31 = some (.istore_n 1, 32) := by decide +kernel
theorem eX12_readLike_32 : ino mX12_readLike 32 = some (.aload_n 0, 33) := by decide +kernel
theorem eX12_readLike_33 : ino mX12_readLike 33 = some (.bipush 27, 35) := by decide +kernel
theorem eX12_readLike_35 : ino mX12_readLike 35 = some (.aload_n 0, 36) := by decide +kernel
theorem eX12_readLike_36 : ino mX12_readLike 36 = some (.getfield 37, 39) := by decide +kernel
theorem eX12_readLike_39 : ino mX12_readLike 39 = some (.iconst 1, 40) := by decide +kernel
theorem eX12_readLike_40 : ino mX12_readLike 40 = some (.iaload, 41) := by decide +kernel
theorem eX12_readLike_41 : ino mX12_readLike 41 = some (.invokevirtual 243, 44) := by decide +kernel
theorem eX12_readLike_44 : ino mX12_readLike 44 = some (.ifCond .ne 5, 49) := by decide +kernel
theorem eX12_readLike_47 : ino mX12_readLike 47 = some (.iconst 0, 48) := by decide +kernel
theorem eX12_readLike_48 : ino mX12_readLike 48 = some (.ireturn, 49) := by decide +kernel
theorem eX12_readLike_49 : ino mX12_readLike 49 = some (.iload_n 1, 50) := by decide +kernel
theorem eX12_readLike_50 : ino mX12_readLike 50 = some (.aload_n 0, 51) := by decide +kernel
theorem eX12_readLike_51 : ino mX12_readLike 51 = some (.getfield 225, 54) := by decide +kernel
theorem eX12_readLike_54 : ino mX12_readLike 54 = some (.iadd, 55) := by decide +kernel
theorem eX12_readLike_55 : ino mX12_readLike 55 = some (.istore_n 1, 56) := by decide +kernel
theorem eX12_readLike_56 : ino mX12_readLike 56 = some (.aload_n 0, 57) := by decide +kernel
theorem eX12_readLike_57 : ino mX12_readLike 57 = some (.getfield 37, 60) := by decide +kernel
theorem eX12_readLike_60 : ino mX12_readLike 60 = some (.iload_n 1, 61) := by decide +kernel
theorem eX12_readLike_61 : ino mX12_readLike 61 = some (.iaload, 62) := by decide +kernel
theorem eX12_readLike_62 : ino mX12_readLike 62 = some (.ifCond .le 9, 71) := by decide +kernel
theorem eX12_readLike_65 : ino mX12_readLike 65 = some (.aload_n 0, 66) := by decide +kernel
theorem eX12_readLike_66 : ino mX12_readLike 66 = some (.iconst 3, 67) := by decide +kernel
theorem eX12_readLike_67 : ino mX12_readLike 67 = some (.invokevirtual 215, 70) := by decide +kernel
theorem eX12_readLike_70 : ino mX12_readLike 70 = some (.ireturn, 71) := by decide +kernel
theorem eX12_readLike_71 : ino mX12_readLike 71 = some (.aload_n 0, 72) := by decide +kernel
theorem eX12_readLike_72 : ino mX12_readLike 72 = some (.invokevirtual 218, 75) := by decide +kernel
theorem eX12_readLike_75 : ino mX12_readLike 75 = some (.aload_n 0, 76) := by decide +kernel
theorem eX12_readLike_76 : ino mX12_readLike 76 = some (.iload_n 1, 77) := by decide +kernel
theorem eX12_readLike_77 : ino mX12_readLike 77 = some (.iconst 1, 78) := by decide +kernel
theorem eX12_readLike_78 : ino mX12_readLike 78 = some (.bipush 9, 80) := by decide +kernel
theorem eX12_readLike_80 : ino mX12_readLike 80 = some (.invokevirtual 259, 83) := by decide +kernel
theorem eX12_readLike_83 : ino mX12_readLike 83 = some (.ireturn, 84) := by decide +kernel
theorem eX12_tower_0 : ino mX12_tower 0 = some (.aload_n 0, 1) := by decide +kernel
theorem eX12_tower_1 : ino mX12_tower 1 = some (.iconst 0, 2) := by decide +kernel
theorem eX12_tower_2 : ino mX12_tower 2 = some (.putfield 1, 5) := by decide +kernel
theorem eX12_tower_5 : ino mX12_tower 5 = some (.aload_n 0, 6) := by decide +kernel
theorem eX12_tower_6 : ino mX12_tower 6 = some (.sipush 900, 9) := by decide +kernel
theorem eX12_tower_9 : ino mX12_tower 9 = some (.invokevirtual 281, 12) := by decide +kernel
theorem eX12_tower_12 : ino mX12_tower 12 = some (.aload_n 0, 13) := by decide +kernel
theorem eX12_tower_13 : ino mX12_tower 13 = some (.iconst 0, 14) := by decide +kernel
theorem eX12_tower_14 : ino mX12_tower 14 = some (.putfield 206, 17) := by decide +kernel
theorem eX12_tower_17 : ino mX12_tower 17 = some (.aload_n 0, 18) := by decide +kernel
theorem eX12_tower_18 : ino mX12_tower 18 = some (.iconst 0, 19) := by decide +kernel
theorem eX12_tower_19 : ino mX12_tower 19 = some (.putfield 284, 22) := by decide +kernel
theorem eX12_tower_22 : ino mX12_tower 22 = some (.aload_n 0, 23) := by decide +kernel
theorem eX12_tower_23 : ino mX12_tower 23 = some (.iconst 0, 24) := by decide +kernel
theorem eX12_tower_24 : ino mX12_tower 24 = some (.putfield 253, 27) := by decide +kernel
theorem eX12_tower_27 : ino mX12_tower 27 = some (.aload_n 0, 28) := by decide +kernel
theorem eX12_tower_28 : ino mX12_tower 28 = some (.invokevirtual 176, 31) := by decide +kernel
theorem eX12_tower_31 : ino mX12_tower 31 = some (.aload_n 0, 32) := by decide +kernel
theorem eX12_tower_32 : ino mX12_tower 32 = some (.invokevirtual 218, 35) := by decide +kernel
theorem eX12_tower_35 : ino mX12_tower 35 = some (.aload_n 0, 36) := by decide +kernel
theorem eX12_tower_36 : ino mX12_tower 36 = some (.getfield 189, 39) := by decide +kernel
theorem eX12_tower_39 : ino mX12_tower 39 = some (.ifCond .eq 39, 78) := by decide +kernel
theorem eX12_tower_42 : ino mX12_tower 42 = some (.aload_n 0, 43) := by decide +kernel
theorem eX12_tower_43 : ino mX12_tower 43 = some (.invokevirtual 287, 46) := by decide +kernel
theorem eX12_tower_46 : ino mX12_tower 46 = some (.ifCond .eq 12, 58) := by decide +kernel
theorem eX12_tower_49 : ino mX12_tower 49 = some (.aload_n 0, 50) := by decide +kernel
theorem eX12_tower_50 : ino mX12_tower 50 = some (.bipush 59, 52) := by decide +kernel
theorem eX12_tower_52 : ino mX12_tower 52 = some (.invokevirtual 290, 55) := by decide +kernel
theorem eX12_tower_55 : ino mX12_tower 55 = some (.ifCond .ne 10, 65) := by decide +kernel
theorem eX12_tower_58 : ino mX12_tower 58 = some (.iconst (-1), 59) := by decide +kernel
theorem eX12_tower_59 : ino mX12_tower 59 = some (.aload_n 0, 60) := by decide +kernel
theorem eX12_tower_60 : ino mX12_tower 60 = some (.getfield 209, 63) := by decide +kernel
theorem eX12_tower_63 : ino mX12_tower 63 = some (.isub, 64) := by decide +kernel
theorem eX12_tower_64 : ino mX12_tower 64 = some (.ireturn, 65) := by decide +kernel
theorem eX12_tower_65 : ino mX12_tower 65 = some (.aload_n 0, 66) := by decide +kernel
theorem eX12_tower_66 : ino mX12_tower 66 = some (.dup, 67) := by decide +kernel
theorem eX12_tower_67 : ino mX12_tower 67 = some (.getfield 284, 70) := by decide +kernel
theorem eX12_tower_70 : ino mX12_tower 70 = some (.iconst 1, 71) := by decide +kernel
theorem eX12_tower_71 : ino mX12_tower 71 = some (.iadd, 72) := by decide +kernel
theorem eX12_tower_72 : ino mX12_tower 72 = some (.putfield 284, 75) := by decide +kernel
theorem eX12_tower_75 : ino mX12_tower 75 = some (.goto (-40), 35) := by decide +kernel
theorem eX12_tower_78 : ino mX12_tower 78 = some (.iconst 0, 79) := by decide +kernel
theorem eX12_tower_79 : ino mX12_tower 79 = some (.istore_n 1, 80) := by decide +kernel
theorem eX12_tower_80 : ino mX12_tower 80 = some (.iload_n 1, 81) := by decide +kernel
theorem eX12_tower_81 : ino mX12_tower 81 = some (.sipush 325, 84) := by decide +kernel
theorem eX12_tower_84 : ino mX12_tower 84 = some (.if_icmp .ge 31, 115) := by decide +kernel
theorem eX12_tower_87 : ino mX12_tower 87 = some (.aload_n 0, 88) := by decide +kernel
theorem eX12_tower_88 : ino mX12_tower 88 = some (.getfield 33, 91) := by decide +kernel
theorem eX12_tower_91 : ino mX12_tower 91 = some (.iload_n 1, 92) := by decide +kernel
theorem eX12_tower_92 : ino mX12_tower 92 = some (.iload_n 1, 93) := by decide +kernel
theorem eX12_tower_93 : ino mX12_tower 93 = some (.bipush 85, 95) := by decide +kernel
theorem eX12_tower_95 : ino mX12_tower 95 = some (.if_icmp .ge 12, 107) := by decide +kernel
theorem eX12_tower_98 : ino mX12_tower 98 = some (.aload_n 0, 99) := by decide +kernel
theorem eX12_tower_99 : ino mX12_tower 99 = some (.getfield 37, 102) := by decide +kernel
theorem eX12_tower_102 : ino mX12_tower 102 = some (.iload_n 1, 103) := by decide +kernel
theorem eX12_tower_103 : ino mX12_tower 103 = some (.iaload, 104) := by decide +kernel
theorem eX12_tower_104 : ino mX12_tower 104 = some (.goto 4, 108) := by decide +kernel
theorem eX12_tower_107 : ino mX12_tower 107 = some (.iconst 0, 108) := by decide +kernel
theorem eX12_tower_108 : ino mX12_tower 108 = some (.iastore, 109) := by decide +kernel
theorem eX12_tower_109 : ino mX12_tower 109 = some (.iinc 1 1, 112) := by decide +kernel
theorem eX12_tower_112 : ino mX12_tower 112 = some (.goto (-32), 80) := by decide +kernel
theorem eX12_tower_115 : ino mX12_tower 115 = some (.iconst 0, 116) := by decide +kernel
theorem eX12_tower_116 : ino mX12_tower 116 = some (.istore_n 1, 117) := by decide +kernel
theorem eX12_tower_117 : ino mX12_tower 117 = some (.iload_n 1, 118) := by decide +kernel
theorem eX12_tower_118 : ino mX12_tower 118 = some (.bipush 19, 120) := by decide +kernel
theorem eX12_tower_120 : ino mX12_tower 120 = some (.if_icmp .ge 24, 144) := by decide +kernel
theorem eX12_tower_123 : ino mX12_tower 123 = some (.aload_n 0, 124) := by decide +kernel
theorem eX12_tower_124 : ino mX12_tower 124 = some (.getfield 43, 127) := by decide +kernel
theorem eX12_tower_127 : ino mX12_tower 127 = some (.iload_n 1, 128) := by decide +kernel
theorem eX12_tower_128 : ino mX12_tower 128 = some (.aload_n 0, 129) := by decide +kernel
theorem eX12_tower_129 : ino mX12_tower 129 = some (.getfield 43, 132) := by decide +kernel
theorem eX12_tower_132 : ino mX12_tower 132 = some (.bipush 19, 134) := by decide +kernel
theorem eX12_tower_134 : ino mX12_tower 134 = some (.iload_n 1, 135) := by decide +kernel
theorem eX12_tower_135 : ino mX12_tower 135 = some (.iadd, 136) := by decide +kernel
theorem eX12_tower_136 : ino mX12_tower 136 = some (.laload, 137) := by decide +kernel
theorem eX12_tower_137 : ino mX12_tower 137 = some (.lastore, 138) := by decide +kernel
theorem eX12_tower_138 : ino mX12_tower 138 = some (.iinc 1 1, 141) := by decide +kernel
theorem eX12_tower_141 : ino mX12_tower 141 = some (.goto (-24), 117) := by decide +kernel
theorem eX12_tower_144 : ino mX12_tower 144 = some (.iconst 0, 145) := by decide +kernel
theorem eX12_tower_145 : ino mX12_tower 145 = some (.istore_n 1, 146) := by decide +kernel
theorem eX12_tower_146 : ino mX12_tower 146 = some (.iload_n 1, 147) := by decide +kernel
theorem eX12_tower_147 : ino mX12_tower 147 = some (.bipush 6, 149) := by decide +kernel
theorem eX12_tower_149 : ino mX12_tower 149 = some (.if_icmp .ge 27, 176) := by decide +kernel
theorem eX12_tower_152 : ino mX12_tower 152 = some (.aload_n 0, 153) := by decide +kernel
theorem eX12_tower_153 : ino mX12_tower 153 = some (.getfield 33, 156) := by decide +kernel
theorem eX12_tower_156 : ino mX12_tower 156 = some (.bipush 96, 158) := by decide +kernel
theorem eX12_tower_158 : ino mX12_tower 158 = some (.iload_n 1, 159) := by decide +kernel
theorem eX12_tower_159 : ino mX12_tower 159 = some (.iadd, 160) := by decide +kernel
theorem eX12_tower_160 : ino mX12_tower 160 = some (.aload_n 0, 161) := by decide +kernel
theorem eX12_tower_161 : ino mX12_tower 161 = some (.getfield 33, 164) := by decide +kernel
theorem eX12_tower_164 : ino mX12_tower 164 = some (.bipush 22, 166) := by decide +kernel
theorem eX12_tower_166 : ino mX12_tower 166 = some (.iload_n 1, 167) := by decide +kernel
theorem eX12_tower_167 : ino mX12_tower 167 = some (.iadd, 168) := by decide +kernel
theorem eX12_tower_168 : ino mX12_tower 168 = some (.iaload, 169) := by decide +kernel
theorem eX12_tower_169 : ino mX12_tower 169 = some (.iastore, 170) := by decide +kernel
theorem eX12_tower_170 : ino mX12_tower 170 = some (.iinc 1 1, 173) := by decide +kernel
theorem eX12_tower_173 : ino mX12_tower 173 = some (.goto (-27), 146) := by decide +kernel
theorem eX12_tower_176 : ino mX12_tower 176 = some (.aload_n 0, 177) := by decide +kernel
theorem eX12_tower_177 : ino mX12_tower 177 = some (.iconst 0, 178) := by decide +kernel
theorem eX12_tower_178 : ino mX12_tower 178 = some (.putfield 293, 181) := by decide +kernel
theorem eX12_tower_181 : ino mX12_tower 181 = some (.aload_n 0, 182) := by decide +kernel
theorem eX12_tower_182 : ino mX12_tower 182 = some (.getfield 284, 185) := by decide +kernel
theorem eX12_tower_185 : ino mX12_tower 185 = some (.ireturn, 186) := by decide +kernel
