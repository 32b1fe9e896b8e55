theorem eJ1_charAt_3b067_0 : ino mJ1_charAt_3b067 0 = some (.iload_n 1, 1) := by decide +kernel
theorem eJ1_charAt_3b067_1 : ino mJ1_charAt_3b067 1 = some (.aload_n 0, 2) := by decide +kernel
theorem eJ1_charAt_3b067_2 : ino mJ1_charAt_3b067 2 = some (.arraylength, 3) := by decide +kernel
theorem eJ1_charAt_3b067_3 : ino mJ1_charAt_3b067 3 = some (.invokestatic 9, 6) := by decide +kernel
theorem eJ1_charAt_3b067_6 : ino mJ1_charAt_3b067 6 = some (.aload_n 0, 7) := by decide +kernel
theorem eJ1_charAt_3b067_7 : ino mJ1_charAt_3b067 7 = some (.iload_n 1, 8) := by decide +kernel
theorem eJ1_charAt_3b067_8 : ino mJ1_charAt_3b067 8 = some (.baload, 9) := by decide +kernel
theorem eJ1_charAt_3b067_9 : ino mJ1_charAt_3b067 9 = some (.sipush 255, 12) := by decide +kernel
theorem eJ1_charAt_3b067_12 : ino mJ1_charAt_3b067 12 = some (.iand, 13) := by decide +kernel
theorem eJ1_charAt_3b067_13 : ino mJ1_charAt_3b067 13 = some (.i2c, 14) := by decide +kernel
theorem eJ1_charAt_3b067_14 : ino mJ1_charAt_3b067 14 = some (.ireturn, 15) := by decide +kernel
