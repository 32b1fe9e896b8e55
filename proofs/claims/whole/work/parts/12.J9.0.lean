theorem eJ9_abs_0f7a4_0 : ino mJ9_abs_0f7a4 0 = some (.iload_n 0, 1) := by decide +kernel
theorem eJ9_abs_0f7a4_1 : ino mJ9_abs_0f7a4 1 = some (.ifCond .ge 8, 9) := by decide +kernel
theorem eJ9_abs_0f7a4_4 : ino mJ9_abs_0f7a4 4 = some (.iload_n 0, 5) := by decide +kernel
theorem eJ9_abs_0f7a4_5 : ino mJ9_abs_0f7a4 5 = some (.ineg, 6) := by decide +kernel
theorem eJ9_abs_0f7a4_6 : ino mJ9_abs_0f7a4 6 = some (.goto 4, 10) := by decide +kernel
theorem eJ9_abs_0f7a4_9 : ino mJ9_abs_0f7a4 9 = some (.iload_n 0, 10) := by decide +kernel
theorem eJ9_abs_0f7a4_10 : ino mJ9_abs_0f7a4 10 = some (.ireturn, 11) := by decide +kernel
theorem eJ9_max_7cf53_0 : ino mJ9_max_7cf53 0 = some (.iload_n 0, 1) := by decide +kernel
theorem eJ9_max_7cf53_1 : ino mJ9_max_7cf53 1 = some (.iload_n 1, 2) := by decide +kernel
theorem eJ9_max_7cf53_2 : ino mJ9_max_7cf53 2 = some (.if_icmp .lt 7, 9) := by decide +kernel
theorem eJ9_max_7cf53_5 : ino mJ9_max_7cf53 5 = some (.iload_n 0, 6) := by decide +kernel
theorem eJ9_max_7cf53_6 : ino mJ9_max_7cf53 6 = some (.goto 4, 10) := by decide +kernel
theorem eJ9_max_7cf53_9 : ino mJ9_max_7cf53 9 = some (.iload_n 1, 10) := by decide +kernel
theorem eJ9_max_7cf53_10 : ino mJ9_max_7cf53 10 = some (.ireturn, 11) := by decide +kernel
theorem eJ9_min_7cf53_0 : ino mJ9_min_7cf53 0 = some (.iload_n 0, 1) := by decide +kernel
theorem eJ9_min_7cf53_1 : ino mJ9_min_7cf53 1 = some (.iload_n 1, 2) := by decide +kernel
theorem eJ9_min_7cf53_2 : ino mJ9_min_7cf53 2 = some (.if_icmp .gt 7, 9) := by decide +kernel
theorem eJ9_min_7cf53_5 : ino mJ9_min_7cf53 5 = some (.iload_n 0, 6) := by decide +kernel
theorem eJ9_min_7cf53_6 : ino mJ9_min_7cf53 6 = some (.goto 4, 10) := by decide +kernel
theorem eJ9_min_7cf53_9 : ino mJ9_min_7cf53 9 = some (.iload_n 1, 10) := by decide +kernel
theorem eJ9_min_7cf53_10 : ino mJ9_min_7cf53 10 = some (.ireturn, 11) := by decide +kernel
