theorem eX10_find_0 : ino mX10_find 0 = some (.getstatic 140, 3) := by decide +kernel
theorem eX10_find_3 : ino mX10_find 3 = some (.astore_n 2, 4) := by decide +kernel
theorem eX10_find_4 : ino mX10_find 4 = some (.aload_n 2, 5) := by decide +kernel
theorem eX10_find_5 : ino mX10_find 5 = some (.arraylength, 6) := by decide +kernel
theorem eX10_find_6 : ino mX10_find 6 = some (.istore_n 3, 7) := by decide +kernel
theorem eX10_find_7 : ino mX10_find 7 = some (.iconst 0, 8) := by decide +kernel
theorem eX10_find_8 : ino mX10_find 8 = some (.istore 4, 10) := by decide +kernel
theorem eX10_find_10 : ino mX10_find 10 = some (.iload 4, 12) := by decide +kernel
theorem eX10_find_12 : ino mX10_find 12 = some (.iload_n 3, 13) := by decide +kernel
theorem eX10_find_13 : ino mX10_find 13 = some (.if_icmp .ge 28, 41) := by decide +kernel
theorem eX10_find_16 : ino mX10_find 16 = some (.aload_n 2, 17) := by decide +kernel
theorem eX10_find_17 : ino mX10_find 17 = some (.iload 4, 19) := by decide +kernel
theorem eX10_find_19 : ino mX10_find 19 = some (.aaload, 20) := by decide +kernel
theorem eX10_find_20 : ino mX10_find 20 = some (.astore 5, 22) := by decide +kernel
theorem eX10_find_22 : ino mX10_find 22 = some (.aload 5, 24) := by decide +kernel
theorem eX10_find_24 : ino mX10_find 24 = some (.getfield 122, 27) := by decide +kernel
theorem eX10_find_27 : ino mX10_find 27 = some (.lload_n 0, 28) := by decide +kernel
theorem eX10_find_28 : ino mX10_find 28 = some (.lcmp, 29) := by decide +kernel
theorem eX10_find_29 : ino mX10_find 29 = some (.ifCond .ne 6, 35) := by decide +kernel
theorem eX10_find_32 : ino mX10_find 32 = some (.aload 5, 34) := by decide +kernel
theorem eX10_find_34 : ino mX10_find 34 = some (.areturn, 35) := by decide +kernel
theorem eX10_find_35 : ino mX10_find 35 = some (.iinc 4 1, 38) := by decide +kernel
theorem eX10_find_38 : ino mX10_find 38 = some (.goto (-28), 10) := by decide +kernel
theorem eX10_find_41 : ino mX10_find 41 = some (.aconst_null, 42) := by decide +kernel
theorem eX10_find_42 : ino mX10_find 42 = some (.areturn, 43) := by decide +kernel
theorem eX10_packedGift_0 : ino mX10_packedGift 0 = some (.getstatic 140, 3) := by decide +kernel
theorem eX10_packedGift_3 : ino mX10_packedGift 3 = some (.astore_n 1, 4) := by decide +kernel
theorem eX10_packedGift_4 : ino mX10_packedGift 4 = some (.aload_n 1, 5) := by decide +kernel
theorem eX10_packedGift_5 : ino mX10_packedGift 5 = some (.arraylength, 6) := by decide +kernel
theorem eX10_packedGift_6 : ino mX10_packedGift 6 = some (.istore_n 2, 7) := by decide +kernel
theorem eX10_packedGift_7 : ino mX10_packedGift 7 = some (.iconst 0, 8) := by decide +kernel
theorem eX10_packedGift_8 : ino mX10_packedGift 8 = some (.istore_n 3, 9) := by decide +kernel
theorem eX10_packedGift_9 : ino mX10_packedGift 9 = some (.iload_n 3, 10) := by decide +kernel
theorem eX10_packedGift_10 : ino mX10_packedGift 10 = some (.iload_n 2, 11) := by decide +kernel
theorem eX10_packedGift_11 : ino mX10_packedGift 11 = some (.if_icmp .ge 29, 40) := by decide +kernel
theorem eX10_packedGift_14 : ino mX10_packedGift 14 = some (.aload_n 1, 15) := by decide +kernel
theorem eX10_packedGift_15 : ino mX10_packedGift 15 = some (.iload_n 3, 16) := by decide +kernel
theorem eX10_packedGift_16 : ino mX10_packedGift 16 = some (.aaload, 17) := by decide +kernel
theorem eX10_packedGift_17 : ino mX10_packedGift 17 = some (.astore 4, 19) := by decide +kernel
theorem eX10_packedGift_19 : ino mX10_packedGift 19 = some (.aload 4, 21) := by decide +kernel
theorem eX10_packedGift_21 : ino mX10_packedGift 21 = some (.getfield 126, 24) := by decide +kernel
theorem eX10_packedGift_24 : ino mX10_packedGift 24 = some (.iload_n 0, 25) := by decide +kernel
theorem eX10_packedGift_25 : ino mX10_packedGift 25 = some (.if_icmp .ne 9, 34) := by decide +kernel
theorem eX10_packedGift_28 : ino mX10_packedGift 28 = some (.aload 4, 30) := by decide +kernel
theorem eX10_packedGift_30 : ino mX10_packedGift 30 = some (.getfield 122, 33) := by decide +kernel
theorem eX10_packedGift_33 : ino mX10_packedGift 33 = some (.lreturn, 34) := by decide +kernel
theorem eX10_packedGift_34 : ino mX10_packedGift 34 = some (.iinc 3 1, 37) := by decide +kernel
theorem eX10_packedGift_37 : ino mX10_packedGift 37 = some (.goto (-28), 9) := by decide +kernel
theorem eX10_packedGift_40 : ino mX10_packedGift 40 = some (.lconst 0, 41) := by decide +kernel
theorem eX10_packedGift_41 : ino mX10_packedGift 41 = some (.lreturn, 42) := by decide +kernel
