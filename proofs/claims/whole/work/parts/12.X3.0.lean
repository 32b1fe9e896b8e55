theorem eX3_init_0 : ino mX3_init 0 = some (.aload_n 0, 1) := by decide +kernel
theorem eX3_init_1 : ino mX3_init 1 = some (.invokespecial 1, 4) := by decide +kernel
theorem eX3_init_4 : ino mX3_init 4 = some (.aload_n 0, 5) := by decide +kernel
theorem eX3_init_5 : ino mX3_init 5 = some (.new 7, 8) := by decide +kernel
theorem eX3_init_8 : ino mX3_init 8 = some (.dup, 9) := by decide +kernel
theorem eX3_init_9 : ino mX3_init 9 = some (.invokespecial 9, 12) := by decide +kernel
theorem eX3_init_12 : ino mX3_init 12 = some (.putfield 10, 15) := by decide +kernel
theorem eX3_init_15 : ino mX3_init 15 = some (.aload_n 0, 16) := by decide +kernel
theorem eX3_init_16 : ino mX3_init 16 = some (.new 16, 19) := by decide +kernel
theorem eX3_init_19 : ino mX3_init 19 = some (.dup, 20) := by decide +kernel
theorem eX3_init_20 : ino mX3_init 20 = some (.invokespecial 18, 23) := by decide +kernel
theorem eX3_init_23 : ino mX3_init 23 = some (.putfield 19, 26) := by decide +kernel
theorem eX3_init_26 : ino mX3_init 26 = some (.aload_n 0, 27) := by decide +kernel
theorem eX3_init_27 : ino mX3_init 27 = some (.new 23, 30) := by decide +kernel
theorem eX3_init_30 : ino mX3_init 30 = some (.dup, 31) := by decide +kernel
theorem eX3_init_31 : ino mX3_init 31 = some (.invokespecial 25, 34) := by decide +kernel
theorem eX3_init_34 : ino mX3_init 34 = some (.putfield 26, 37) := by decide +kernel
theorem eX3_init_37 : ino mX3_init 37 = some (.aload_n 0, 38) := by decide +kernel
theorem eX3_init_38 : ino mX3_init 38 = some (.iconst 0, 39) := by decide +kernel
theorem eX3_init_39 : ino mX3_init 39 = some (.putfield 30, 42) := by decide +kernel
theorem eX3_init_42 : ino mX3_init 42 = some (.return_, 43) := by decide +kernel
theorem eX3_keep_0 : ino mX3_keep 0 = some (.aload_n 0, 1) := by decide +kernel
theorem eX3_keep_1 : ino mX3_keep 1 = some (.getfield 10, 4) := by decide +kernel
theorem eX3_keep_4 : ino mX3_keep 4 = some (.aload_n 1, 5) := by decide +kernel
theorem eX3_keep_5 : ino mX3_keep 5 = some (.invokevirtual 34, 8) := by decide +kernel
theorem eX3_keep_8 : ino mX3_keep 8 = some (.aload_n 0, 9) := by decide +kernel
theorem eX3_keep_9 : ino mX3_keep 9 = some (.getfield 19, 12) := by decide +kernel
theorem eX3_keep_12 : ino mX3_keep 12 = some (.aload_n 2, 13) := by decide +kernel
theorem eX3_keep_13 : ino mX3_keep 13 = some (.invokevirtual 38, 16) := by decide +kernel
theorem eX3_keep_16 : ino mX3_keep 16 = some (.aload_n 0, 17) := by decide +kernel
theorem eX3_keep_17 : ino mX3_keep 17 = some (.getfield 26, 20) := by decide +kernel
theorem eX3_keep_20 : ino mX3_keep 20 = some (.aload_n 3, 21) := by decide +kernel
theorem eX3_keep_21 : ino mX3_keep 21 = some (.invokevirtual 41, 24) := by decide +kernel
theorem eX3_keep_24 : ino mX3_keep 24 = some (.aload_n 0, 25) := by decide +kernel
theorem eX3_keep_25 : ino mX3_keep 25 = some (.iconst 1, 26) := by decide +kernel
theorem eX3_keep_26 : ino mX3_keep 26 = some (.putfield 30, 29) := by decide +kernel
theorem eX3_keep_29 : ino mX3_keep 29 = some (.return_, 30) := by decide +kernel
theorem eX3_giveBack_0 : ino mX3_giveBack 0 = some (.aload_n 1, 1) := by decide +kernel
theorem eX3_giveBack_1 : ino mX3_giveBack 1 = some (.aload_n 0, 2) := by decide +kernel
theorem eX3_giveBack_2 : ino mX3_giveBack 2 = some (.getfield 10, 5) := by decide +kernel
theorem eX3_giveBack_5 : ino mX3_giveBack 5 = some (.invokevirtual 34, 8) := by decide +kernel
theorem eX3_giveBack_8 : ino mX3_giveBack 8 = some (.aload_n 2, 9) := by decide +kernel
theorem eX3_giveBack_9 : ino mX3_giveBack 9 = some (.aload_n 0, 10) := by decide +kernel
theorem eX3_giveBack_10 : ino mX3_giveBack 10 = some (.getfield 19, 13) := by decide +kernel
theorem eX3_giveBack_13 : ino mX3_giveBack 13 = some (.invokevirtual 38, 16) := by decide +kernel
theorem eX3_giveBack_16 : ino mX3_giveBack 16 = some (.aload_n 3, 17) := by decide +kernel
theorem eX3_giveBack_17 : ino mX3_giveBack 17 = some (.aload_n 0, 18) := by decide +kernel
theorem eX3_giveBack_18 : ino mX3_giveBack 18 = some (.getfield 26, 21) := by decide +kernel
theorem eX3_giveBack_21 : ino mX3_giveBack 21 = some (.invokevirtual 41, 24) := by decide +kernel
theorem eX3_giveBack_24 : ino mX3_giveBack 24 = some (.return_, 25) := by decide +kernel
