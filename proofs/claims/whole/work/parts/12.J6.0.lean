theorem eJ6_bitCount_0f7a4_0 : ino mJ6_bitCount_0f7a4 0 = some (.iload_n 0, 1) := by decide +kernel
theorem eJ6_bitCount_0f7a4_1 : ino mJ6_bitCount_0f7a4 1 = some (.iload_n 0, 2) := by decide +kernel
theorem eJ6_bitCount_0f7a4_2 : ino mJ6_bitCount_0f7a4 2 = some (.iconst 1, 3) := by decide +kernel
theorem eJ6_bitCount_0f7a4_3 : ino mJ6_bitCount_0f7a4 3 = some (.iushr, 4) := by decide +kernel
theorem eJ6_bitCount_0f7a4_4 : ino mJ6_bitCount_0f7a4 4 = some (.ldc_w 265, 7) := by decide +kernel
theorem eJ6_bitCount_0f7a4_7 : ino mJ6_bitCount_0f7a4 7 = some (.iand, 8) := by decide +kernel
theorem eJ6_bitCount_0f7a4_8 : ino mJ6_bitCount_0f7a4 8 = some (.isub, 9) := by decide +kernel
theorem eJ6_bitCount_0f7a4_9 : ino mJ6_bitCount_0f7a4 9 = some (.istore_n 0, 10) := by decide +kernel
theorem eJ6_bitCount_0f7a4_10 : ino mJ6_bitCount_0f7a4 10 = some (.iload_n 0, 11) := by decide +kernel
theorem eJ6_bitCount_0f7a4_11 : ino mJ6_bitCount_0f7a4 11 = some (.ldc_w 266, 14) := by decide +kernel
theorem eJ6_bitCount_0f7a4_14 : ino mJ6_bitCount_0f7a4 14 = some (.iand, 15) := by decide +kernel
theorem eJ6_bitCount_0f7a4_15 : ino mJ6_bitCount_0f7a4 15 = some (.iload_n 0, 16) := by decide +kernel
theorem eJ6_bitCount_0f7a4_16 : ino mJ6_bitCount_0f7a4 16 = some (.iconst 2, 17) := by decide +kernel
theorem eJ6_bitCount_0f7a4_17 : ino mJ6_bitCount_0f7a4 17 = some (.iushr, 18) := by decide +kernel
theorem eJ6_bitCount_0f7a4_18 : ino mJ6_bitCount_0f7a4 18 = some (.ldc_w 266, 21) := by decide +kernel
theorem eJ6_bitCount_0f7a4_21 : ino mJ6_bitCount_0f7a4 21 = some (.iand, 22) := by decide +kernel
theorem eJ6_bitCount_0f7a4_22 : ino mJ6_bitCount_0f7a4 22 = some (.iadd, 23) := by decide +kernel
theorem eJ6_bitCount_0f7a4_23 : ino mJ6_bitCount_0f7a4 23 = some (.istore_n 0, 24) := by decide +kernel
theorem eJ6_bitCount_0f7a4_24 : ino mJ6_bitCount_0f7a4 24 = some (.iload_n 0, 25) := by decide +kernel
theorem eJ6_bitCount_0f7a4_25 : ino mJ6_bitCount_0f7a4 25 = some (.iload_n 0, 26) := by decide +kernel
theorem eJ6_bitCount_0f7a4_26 : ino mJ6_bitCount_0f7a4 26 = some (.iconst 4, 27) := by decide +kernel
theorem eJ6_bitCount_0f7a4_27 : ino mJ6_bitCount_0f7a4 27 = some (.iushr, 28) := by decide +kernel
theorem eJ6_bitCount_0f7a4_28 : ino mJ6_bitCount_0f7a4 28 = some (.iadd, 29) := by decide +kernel
theorem eJ6_bitCount_0f7a4_29 : ino mJ6_bitCount_0f7a4 29 = some (.ldc_w 267, 32) := by decide +kernel
theorem eJ6_bitCount_0f7a4_32 : ino mJ6_bitCount_0f7a4 32 = some (.iand, 33) := by decide +kernel
theorem eJ6_bitCount_0f7a4_33 : ino mJ6_bitCount_0f7a4 33 = some (.istore_n 0, 34) := by decide +kernel
theorem eJ6_bitCount_0f7a4_34 : ino mJ6_bitCount_0f7a4 34 = some (.iload_n 0, 35) := by decide +kernel
theorem eJ6_bitCount_0f7a4_35 : ino mJ6_bitCount_0f7a4 35 = some (.iload_n 0, 36) := by decide +kernel
theorem eJ6_bitCount_0f7a4_36 : ino mJ6_bitCount_0f7a4 36 = some (.bipush 8, 38) := by decide +kernel
theorem eJ6_bitCount_0f7a4_38 : ino mJ6_bitCount_0f7a4 38 = some (.iushr, 39) := by decide +kernel
theorem eJ6_bitCount_0f7a4_39 : ino mJ6_bitCount_0f7a4 39 = some (.iadd, 40) := by decide +kernel
theorem eJ6_bitCount_0f7a4_40 : ino mJ6_bitCount_0f7a4 40 = some (.istore_n 0, 41) := by decide +kernel
theorem eJ6_bitCount_0f7a4_41 : ino mJ6_bitCount_0f7a4 41 = some (.iload_n 0, 42) := by decide +kernel
theorem eJ6_bitCount_0f7a4_42 : ino mJ6_bitCount_0f7a4 42 = some (.iload_n 0, 43) := by decide +kernel
theorem eJ6_bitCount_0f7a4_43 : ino mJ6_bitCount_0f7a4 43 = some (.bipush 16, 45) := by decide +kernel
theorem eJ6_bitCount_0f7a4_45 : ino mJ6_bitCount_0f7a4 45 = some (.iushr, 46) := by decide +kernel
theorem eJ6_bitCount_0f7a4_46 : ino mJ6_bitCount_0f7a4 46 = some (.iadd, 47) := by decide +kernel
theorem eJ6_bitCount_0f7a4_47 : ino mJ6_bitCount_0f7a4 47 = some (.istore_n 0, 48) := by decide +kernel
theorem eJ6_bitCount_0f7a4_48 : ino mJ6_bitCount_0f7a4 48 = some (.iload_n 0, 49) := by decide +kernel
theorem eJ6_bitCount_0f7a4_49 : ino mJ6_bitCount_0f7a4 49 = some (.bipush 63, 51) := by decide +kernel
theorem eJ6_bitCount_0f7a4_51 : ino mJ6_bitCount_0f7a4 51 = some (.iand, 52) := by decide +kernel
theorem eJ6_bitCount_0f7a4_52 : ino mJ6_bitCount_0f7a4 52 = some (.ireturn, 53) := by decide +kernel
