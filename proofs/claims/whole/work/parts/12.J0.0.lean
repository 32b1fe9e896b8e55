theorem eJ0_length_8abf5_0 : ino mJ0_length_8abf5 0 = some (.aload_n 0, 1) := by decide +kernel
theorem eJ0_length_8abf5_1 : ino mJ0_length_8abf5 1 = some (.getfield 9, 4) := by decide +kernel
theorem eJ0_length_8abf5_4 : ino mJ0_length_8abf5 4 = some (.arraylength, 5) := by decide +kernel
theorem eJ0_length_8abf5_5 : ino mJ0_length_8abf5 5 = some (.aload_n 0, 6) := by decide +kernel
theorem eJ0_length_8abf5_6 : ino mJ0_length_8abf5 6 = some (.invokevirtual 335, 9) := by decide +kernel
theorem eJ0_length_8abf5_9 : ino mJ0_length_8abf5 9 = some (.ishr, 10) := by decide +kernel
theorem eJ0_length_8abf5_10 : ino mJ0_length_8abf5 10 = some (.ireturn, 11) := by decide +kernel
theorem eJ0_charAt_5068e_0 : ino mJ0_charAt_5068e 0 = some (.aload_n 0, 1) := by decide +kernel
theorem eJ0_charAt_5068e_1 : ino mJ0_charAt_5068e 1 = some (.invokevirtual 492, 4) := by decide +kernel
theorem eJ0_charAt_5068e_4 : ino mJ0_charAt_5068e 4 = some (.ifCond .eq 12, 16) := by decide +kernel
theorem eJ0_charAt_5068e_7 : ino mJ0_charAt_5068e 7 = some (.aload_n 0, 8) := by decide +kernel
theorem eJ0_charAt_5068e_8 : ino mJ0_charAt_5068e 8 = some (.getfield 9, 11) := by decide +kernel
theorem eJ0_charAt_5068e_11 : ino mJ0_charAt_5068e 11 = some (.iload_n 1, 12) := by decide +kernel
theorem eJ0_charAt_5068e_12 : ino mJ0_charAt_5068e 12 = some (.invokestatic 495, 15) := by decide +kernel
theorem eJ0_charAt_5068e_15 : ino mJ0_charAt_5068e 15 = some (.ireturn, 16) := by decide +kernel
theorem eJ0_charAt_5068e_16 : ino mJ0_charAt_5068e 16 = some (.aload_n 0, 17) := by decide +kernel
theorem eJ0_charAt_5068e_17 : ino mJ0_charAt_5068e 17 = some (.getfield 9, 20) := by decide +kernel
theorem eJ0_charAt_5068e_20 : ino mJ0_charAt_5068e 20 = some (.iload_n 1, 21) := by decide +kernel
theorem eJ0_charAt_5068e_21 : ino mJ0_charAt_5068e 21 = some (.invokestatic 498, 24) := by decide +kernel
theorem eJ0_charAt_5068e_24 : ino mJ0_charAt_5068e 24 = some (.ireturn, 25) := by decide +kernel
theorem eJ0_coder_7d493_0 : ino mJ0_coder_7d493 0 = some (.getstatic 38, 3) := by decide +kernel
theorem eJ0_coder_7d493_3 : ino mJ0_coder_7d493 3 = some (.ifCond .eq 10, 13) := by decide +kernel
theorem eJ0_coder_7d493_6 : ino mJ0_coder_7d493 6 = some (.aload_n 0, 7) := by decide +kernel
theorem eJ0_coder_7d493_7 : ino mJ0_coder_7d493 7 = some (.getfield 15, 10) := by decide +kernel
theorem eJ0_coder_7d493_10 : ino mJ0_coder_7d493 10 = some (.goto 4, 14) := by decide +kernel
theorem eJ0_coder_7d493_13 : ino mJ0_coder_7d493 13 = some (.iconst 1, 14) := by decide +kernel
theorem eJ0_coder_7d493_14 : ino mJ0_coder_7d493 14 = some (.ireturn, 15) := by decide +kernel
theorem eJ0_isLatin1_aae02_0 : ino mJ0_isLatin1_aae02 0 = some (.getstatic 38, 3) := by decide +kernel
theorem eJ0_isLatin1_aae02_3 : ino mJ0_isLatin1_aae02 3 = some (.ifCond .eq 14, 17) := by decide +kernel
theorem eJ0_isLatin1_aae02_6 : ino mJ0_isLatin1_aae02 6 = some (.aload_n 0, 7) := by decide +kernel
theorem eJ0_isLatin1_aae02_7 : ino mJ0_isLatin1_aae02 7 = some (.getfield 15, 10) := by decide +kernel
theorem eJ0_isLatin1_aae02_10 : ino mJ0_isLatin1_aae02 10 = some (.ifCond .ne 7, 17) := by decide +kernel
theorem eJ0_isLatin1_aae02_13 : ino mJ0_isLatin1_aae02 13 = some (.iconst 1, 14) := by decide +kernel
theorem eJ0_isLatin1_aae02_14 : ino mJ0_isLatin1_aae02 14 = some (.goto 4, 18) := by decide +kernel
theorem eJ0_isLatin1_aae02_17 : ino mJ0_isLatin1_aae02 17 = some (.iconst 0, 18) := by decide +kernel
theorem eJ0_isLatin1_aae02_18 : ino mJ0_isLatin1_aae02 18 = some (.ireturn, 19) := by decide +kernel
theorem eJ0_checkIndex_df160_0 : ino mJ0_checkIndex_df160 0 = some (.iload_n 0, 1) := by decide +kernel
theorem eJ0_checkIndex_df160_1 : ino mJ0_checkIndex_df160 1 = some (.iload_n 1, 2) := by decide +kernel
theorem eJ0_checkIndex_df160_2 : ino mJ0_checkIndex_df160 2 = some (.getstatic 1053, 5) := by decide +kernel
theorem eJ0_checkIndex_df160_5 : ino mJ0_checkIndex_df160 5 = some (.invokestatic 1059, 8) := by decide +kernel
theorem eJ0_checkIndex_df160_8 : ino mJ0_checkIndex_df160 8 = some (.pop, 9) := by decide +kernel
theorem eJ0_checkIndex_df160_9 : ino mJ0_checkIndex_df160 9 = some (.return_, 10) := by decide +kernel
