theorem eJ2_getChar_3b067_0 : ino mJ2_getChar_3b067 0 = some (.getstatic 44, 3) := by decide +kernel
theorem eJ2_getChar_3b067_3 : ino mJ2_getChar_3b067 3 = some (.ifCond .ne 25, 28) := by decide +kernel
theorem eJ2_getChar_3b067_6 : ino mJ2_getChar_3b067 6 = some (.iload_n 1, 7) := by decide +kernel
theorem eJ2_getChar_3b067_7 : ino mJ2_getChar_3b067 7 = some (.ifCond .lt 11, 18) := by decide +kernel
theorem eJ2_getChar_3b067_10 : ino mJ2_getChar_3b067 10 = some (.iload_n 1, 11) := by decide +kernel
theorem eJ2_getChar_3b067_11 : ino mJ2_getChar_3b067 11 = some (.aload_n 0, 12) := by decide +kernel
theorem eJ2_getChar_3b067_12 : ino mJ2_getChar_3b067 12 = some (.invokestatic 48, 15) := by decide +kernel
theorem eJ2_getChar_3b067_15 : ino mJ2_getChar_3b067 15 = some (.if_icmp .lt 13, 28) := by decide +kernel
theorem eJ2_getChar_3b067_18 : ino mJ2_getChar_3b067 18 = some (.new 52, 21) := by decide +kernel
theorem eJ2_getChar_3b067_21 : ino mJ2_getChar_3b067 21 = some (.dup, 22) := by decide +kernel
theorem eJ2_getChar_3b067_22 : ino mJ2_getChar_3b067 22 = some (.ldc 54, 24) := by decide +kernel
theorem eJ2_getChar_3b067_24 : ino mJ2_getChar_3b067 24 = some (.invokespecial 56, 27) := by decide +kernel
theorem eJ2_getChar_3b067_27 : ino mJ2_getChar_3b067 27 = some (.athrow, 28) := by decide +kernel
theorem eJ2_getChar_3b067_28 : ino mJ2_getChar_3b067 28 = some (.iload_n 1, 29) := by decide +kernel
theorem eJ2_getChar_3b067_29 : ino mJ2_getChar_3b067 29 = some (.iconst 1, 30) := by decide +kernel
theorem eJ2_getChar_3b067_30 : ino mJ2_getChar_3b067 30 = some (.ishl, 31) := by decide +kernel
theorem eJ2_getChar_3b067_31 : ino mJ2_getChar_3b067 31 = some (.istore_n 1, 32) := by decide +kernel
theorem eJ2_getChar_3b067_32 : ino mJ2_getChar_3b067 32 = some (.aload_n 0, 33) := by decide +kernel
theorem eJ2_getChar_3b067_33 : ino mJ2_getChar_3b067 33 = some (.iload_n 1, 34) := by decide +kernel
theorem eJ2_getChar_3b067_34 : ino mJ2_getChar_3b067 34 = some (.iinc 1 1, 37) := by decide +kernel
theorem eJ2_getChar_3b067_37 : ino mJ2_getChar_3b067 37 = some (.baload, 38) := by decide +kernel
theorem eJ2_getChar_3b067_38 : ino mJ2_getChar_3b067 38 = some (.sipush 255, 41) := by decide +kernel
theorem eJ2_getChar_3b067_41 : ino mJ2_getChar_3b067 41 = some (.iand, 42) := by decide +kernel
theorem eJ2_getChar_3b067_42 : ino mJ2_getChar_3b067 42 = some (.getstatic 59, 45) := by decide +kernel
theorem eJ2_getChar_3b067_45 : ino mJ2_getChar_3b067 45 = some (.ishl, 46) := by decide +kernel
theorem eJ2_getChar_3b067_46 : ino mJ2_getChar_3b067 46 = some (.aload_n 0, 47) := by decide +kernel
theorem eJ2_getChar_3b067_47 : ino mJ2_getChar_3b067 47 = some (.iload_n 1, 48) := by decide +kernel
theorem eJ2_getChar_3b067_48 : ino mJ2_getChar_3b067 48 = some (.baload, 49) := by decide +kernel
theorem eJ2_getChar_3b067_49 : ino mJ2_getChar_3b067 49 = some (.sipush 255, 52) := by decide +kernel
theorem eJ2_getChar_3b067_52 : ino mJ2_getChar_3b067 52 = some (.iand, 53) := by decide +kernel
theorem eJ2_getChar_3b067_53 : ino mJ2_getChar_3b067 53 = some (.getstatic 63, 56) := by decide +kernel
theorem eJ2_getChar_3b067_56 : ino mJ2_getChar_3b067 56 = some (.ishl, 57) := by decide +kernel
theorem eJ2_getChar_3b067_57 : ino mJ2_getChar_3b067 57 = some (.ior, 58) := by decide +kernel
theorem eJ2_getChar_3b067_58 : ino mJ2_getChar_3b067 58 = some (.i2c, 59) := by decide +kernel
theorem eJ2_getChar_3b067_59 : ino mJ2_getChar_3b067 59 = some (.ireturn, 60) := by decide +kernel
theorem eJ2_length_9d52b_0 : ino mJ2_length_9d52b 0 = some (.aload_n 0, 1) := by decide +kernel
theorem eJ2_length_9d52b_1 : ino mJ2_length_9d52b 1 = some (.arraylength, 2) := by decide +kernel
theorem eJ2_length_9d52b_2 : ino mJ2_length_9d52b 2 = some (.iconst 1, 3) := by decide +kernel
theorem eJ2_length_9d52b_3 : ino mJ2_length_9d52b 3 = some (.ishr, 4) := by decide +kernel
theorem eJ2_length_9d52b_4 : ino mJ2_length_9d52b 4 = some (.ireturn, 5) := by decide +kernel
theorem eJ2_charAt_3b067_0 : ino mJ2_charAt_3b067 0 = some (.iload_n 1, 1) := by decide +kernel
theorem eJ2_charAt_3b067_1 : ino mJ2_charAt_3b067 1 = some (.aload_n 0, 2) := by decide +kernel
theorem eJ2_charAt_3b067_2 : ino mJ2_charAt_3b067 2 = some (.invokestatic 67, 5) := by decide +kernel
theorem eJ2_charAt_3b067_5 : ino mJ2_charAt_3b067 5 = some (.aload_n 0, 6) := by decide +kernel
theorem eJ2_charAt_3b067_6 : ino mJ2_charAt_3b067 6 = some (.iload_n 1, 7) := by decide +kernel
theorem eJ2_charAt_3b067_7 : ino mJ2_charAt_3b067 7 = some (.invokestatic 71, 10) := by decide +kernel
theorem eJ2_charAt_3b067_10 : ino mJ2_charAt_3b067 10 = some (.ireturn, 11) := by decide +kernel
theorem eJ2_checkIndex_2214a_0 : ino mJ2_checkIndex_2214a 0 = some (.iload_n 0, 1) := by decide +kernel
theorem eJ2_checkIndex_2214a_1 : ino mJ2_checkIndex_2214a 1 = some (.aload_n 1, 2) := by decide +kernel
theorem eJ2_checkIndex_2214a_2 : ino mJ2_checkIndex_2214a 2 = some (.invokestatic 48, 5) := by decide +kernel
theorem eJ2_checkIndex_2214a_5 : ino mJ2_checkIndex_2214a 5 = some (.invokestatic 414, 8) := by decide +kernel
theorem eJ2_checkIndex_2214a_8 : ino mJ2_checkIndex_2214a 8 = some (.return_, 9) := by decide +kernel
