theorem eJ3_checkIndex_8e157_0 : ino mJ3_checkIndex_8e157 0 = some (.iload_n 0, 1) := by decide +kernel
theorem eJ3_checkIndex_8e157_1 : ino mJ3_checkIndex_8e157 1 = some (.ifCond .lt 8, 9) := by decide +kernel
theorem eJ3_checkIndex_8e157_4 : ino mJ3_checkIndex_8e157 4 = some (.iload_n 0, 5) := by decide +kernel
theorem eJ3_checkIndex_8e157_5 : ino mJ3_checkIndex_8e157 5 = some (.iload_n 1, 6) := by decide +kernel
theorem eJ3_checkIndex_8e157_6 : ino mJ3_checkIndex_8e157 6 = some (.if_icmp .lt 10, 16) := by decide +kernel
theorem eJ3_checkIndex_8e157_9 : ino mJ3_checkIndex_8e157 9 = some (.aload_n 2, 10) := by decide +kernel
theorem eJ3_checkIndex_8e157_10 : ino mJ3_checkIndex_8e157 10 = some (.iload_n 0, 11) := by decide +kernel
theorem eJ3_checkIndex_8e157_11 : ino mJ3_checkIndex_8e157 11 = some (.iload_n 1, 12) := by decide +kernel
theorem eJ3_checkIndex_8e157_12 : ino mJ3_checkIndex_8e157 12 = some (.invokestatic 95, 15) := by decide +kernel
theorem eJ3_checkIndex_8e157_15 : ino mJ3_checkIndex_8e157 15 = some (.athrow, 16) := by decide +kernel
theorem eJ3_checkIndex_8e157_16 : ino mJ3_checkIndex_8e157 16 = some (.iload_n 0, 17) := by decide +kernel
theorem eJ3_checkIndex_8e157_17 : ino mJ3_checkIndex_8e157 17 = some (.ireturn, 18) := by decide +kernel
