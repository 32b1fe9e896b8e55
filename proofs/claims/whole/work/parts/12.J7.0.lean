theorem eJ7_fill_53178_0 : ino mJ7_fill_53178 0 = some (.iconst 0, 1) := by decide +kernel
theorem eJ7_fill_53178_1 : ino mJ7_fill_53178 1 = some (.istore_n 2, 2) := by decide +kernel
theorem eJ7_fill_53178_2 : ino mJ7_fill_53178 2 = some (.aload_n 0, 3) := by decide +kernel
theorem eJ7_fill_53178_3 : ino mJ7_fill_53178 3 = some (.arraylength, 4) := by decide +kernel
theorem eJ7_fill_53178_4 : ino mJ7_fill_53178 4 = some (.istore_n 3, 5) := by decide +kernel
theorem eJ7_fill_53178_5 : ino mJ7_fill_53178 5 = some (.iload_n 2, 6) := by decide +kernel
theorem eJ7_fill_53178_6 : ino mJ7_fill_53178 6 = some (.iload_n 3, 7) := by decide +kernel
theorem eJ7_fill_53178_7 : ino mJ7_fill_53178 7 = some (.if_icmp .ge 13, 20) := by decide +kernel
theorem eJ7_fill_53178_10 : ino mJ7_fill_53178 10 = some (.aload_n 0, 11) := by decide +kernel
theorem eJ7_fill_53178_11 : ino mJ7_fill_53178 11 = some (.iload_n 2, 12) := by decide +kernel
theorem eJ7_fill_53178_12 : ino mJ7_fill_53178 12 = some (.iload_n 1, 13) := by decide +kernel
theorem eJ7_fill_53178_13 : ino mJ7_fill_53178 13 = some (.iastore, 14) := by decide +kernel
theorem eJ7_fill_53178_14 : ino mJ7_fill_53178 14 = some (.iinc 2 1, 17) := by decide +kernel
theorem eJ7_fill_53178_17 : ino mJ7_fill_53178 17 = some (.goto (-12), 5) := by decide +kernel
theorem eJ7_fill_53178_20 : ino mJ7_fill_53178 20 = some (.return_, 21) := by decide +kernel
