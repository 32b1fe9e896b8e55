theorem eX2_init_0 : ino mX2_init 0 = some (.aload_n 0, 1) := by decide +kernel
theorem eX2_init_1 : ino mX2_init 1 = some (.invokespecial 1, 4) := by decide +kernel
theorem eX2_init_4 : ino mX2_init 4 = some (.aload_n 0, 5) := by decide +kernel
theorem eX2_init_5 : ino mX2_init 5 = some (.bipush 8, 7) := by decide +kernel
theorem eX2_init_7 : ino mX2_init 7 = some (.anewarray 9, 10) := by decide +kernel
theorem eX2_init_10 : ino mX2_init 10 = some (.putfield 11, 13) := by decide +kernel
theorem eX2_init_13 : ino mX2_init 13 = some (.aload_n 0, 14) := by decide +kernel
theorem eX2_init_14 : ino mX2_init 14 = some (.iconst 0, 15) := by decide +kernel
theorem eX2_init_15 : ino mX2_init 15 = some (.putfield 15, 18) := by decide +kernel
theorem eX2_init_18 : ino mX2_init 18 = some (.aload_n 0, 19) := by decide +kernel
theorem eX2_init_19 : ino mX2_init 19 = some (.iconst 0, 20) := by decide +kernel
theorem eX2_init_20 : ino mX2_init 20 = some (.putfield 19, 23) := by decide +kernel
theorem eX2_init_23 : ino mX2_init 23 = some (.iconst 0, 24) := by decide +kernel
theorem eX2_init_24 : ino mX2_init 24 = some (.istore_n 1, 25) := by decide +kernel
theorem eX2_init_25 : ino mX2_init 25 = some (.iload_n 1, 26) := by decide +kernel
theorem eX2_init_26 : ino mX2_init 26 = some (.bipush 8, 28) := by decide +kernel
theorem eX2_init_28 : ino mX2_init 28 = some (.if_icmp .ge 22, 50) := by decide +kernel
theorem eX2_init_31 : ino mX2_init 31 = some (.aload_n 0, 32) := by decide +kernel
theorem eX2_init_32 : ino mX2_init 32 = some (.getfield 11, 35) := by decide +kernel
theorem eX2_init_35 : ino mX2_init 35 = some (.iload_n 1, 36) := by decide +kernel
theorem eX2_init_36 : ino mX2_init 36 = some (.new 9, 39) := by decide +kernel
theorem eX2_init_39 : ino mX2_init 39 = some (.dup, 40) := by decide +kernel
theorem eX2_init_40 : ino mX2_init 40 = some (.invokespecial 22, 43) := by decide +kernel
theorem eX2_init_43 : ino mX2_init 43 = some (.aastore, 44) := by decide +kernel
theorem eX2_init_44 : ino mX2_init 44 = some (.iinc 1 1, 47) := by decide +kernel
theorem eX2_init_47 : ino mX2_init 47 = some (.goto (-22), 25) := by decide +kernel
theorem eX2_init_50 : ino mX2_init 50 = some (.return_, 51) := by decide +kernel
theorem eX2_clear_0 : ino mX2_clear 0 = some (.aload_n 0, 1) := by decide +kernel
theorem eX2_clear_1 : ino mX2_clear 1 = some (.iconst 0, 2) := by decide +kernel
theorem eX2_clear_2 : ino mX2_clear 2 = some (.putfield 19, 5) := by decide +kernel
theorem eX2_clear_5 : ino mX2_clear 5 = some (.return_, 6) := by decide +kernel
theorem eX2_push_0 : ino mX2_push 0 = some (.aload_n 0, 1) := by decide +kernel
theorem eX2_push_1 : ino mX2_push 1 = some (.getfield 11, 4) := by decide +kernel
theorem eX2_push_4 : ino mX2_push 4 = some (.aload_n 0, 5) := by decide +kernel
theorem eX2_push_5 : ino mX2_push 5 = some (.getfield 15, 8) := by decide +kernel
theorem eX2_push_8 : ino mX2_push 8 = some (.aaload, 9) := by decide +kernel
theorem eX2_push_9 : ino mX2_push 9 = some (.aload_n 1, 10) := by decide +kernel
theorem eX2_push_10 : ino mX2_push 10 = some (.invokevirtual 23, 13) := by decide +kernel
theorem eX2_push_13 : ino mX2_push 13 = some (.aload_n 0, 14) := by decide +kernel
theorem eX2_push_14 : ino mX2_push 14 = some (.aload_n 0, 15) := by decide +kernel
theorem eX2_push_15 : ino mX2_push 15 = some (.getfield 15, 18) := by decide +kernel
theorem eX2_push_18 : ino mX2_push 18 = some (.iconst 1, 19) := by decide +kernel
theorem eX2_push_19 : ino mX2_push 19 = some (.iadd, 20) := by decide +kernel
theorem eX2_push_20 : ino mX2_push 20 = some (.bipush 8, 22) := by decide +kernel
theorem eX2_push_22 : ino mX2_push 22 = some (.irem, 23) := by decide +kernel
theorem eX2_push_23 : ino mX2_push 23 = some (.putfield 15, 26) := by decide +kernel
theorem eX2_push_26 : ino mX2_push 26 = some (.aload_n 0, 27) := by decide +kernel
theorem eX2_push_27 : ino mX2_push 27 = some (.aload_n 0, 28) := by decide +kernel
theorem eX2_push_28 : ino mX2_push 28 = some (.getfield 19, 31) := by decide +kernel
theorem eX2_push_31 : ino mX2_push 31 = some (.iconst 1, 32) := by decide +kernel
theorem eX2_push_32 : ino mX2_push 32 = some (.iadd, 33) := by decide +kernel
theorem eX2_push_33 : ino mX2_push 33 = some (.bipush 8, 35) := by decide +kernel
theorem eX2_push_35 : ino mX2_push 35 = some (.invokestatic 27, 38) := by decide +kernel
theorem eX2_push_38 : ino mX2_push 38 = some (.putfield 19, 41) := by decide +kernel
theorem eX2_push_41 : ino mX2_push 41 = some (.return_, 42) := by decide +kernel
theorem eX2_pop_0 : ino mX2_pop 0 = some (.aload_n 0, 1) := by decide +kernel
theorem eX2_pop_1 : ino mX2_pop 1 = some (.getfield 19, 4) := by decide +kernel
theorem eX2_pop_4 : ino mX2_pop 4 = some (.ifCond .ne 5, 9) := by decide +kernel
theorem eX2_pop_7 : ino mX2_pop 7 = some (.iconst 0, 8) := by decide +kernel
theorem eX2_pop_8 : ino mX2_pop 8 = some (.ireturn, 9) := by decide +kernel
theorem eX2_pop_9 : ino mX2_pop 9 = some (.aload_n 0, 10) := by decide +kernel
theorem eX2_pop_10 : ino mX2_pop 10 = some (.aload_n 0, 11) := by decide +kernel
theorem eX2_pop_11 : ino mX2_pop 11 = some (.getfield 15, 14) := by decide +kernel
theorem eX2_pop_14 : ino mX2_pop 14 = some (.bipush 8, 16) := by decide +kernel
theorem eX2_pop_16 : ino mX2_pop 16 = some (.iadd, 17) := by decide +kernel
theorem eX2_pop_17 : ino mX2_pop 17 = some (.iconst 1, 18) := by decide +kernel
theorem eX2_pop_18 : ino mX2_pop 18 = some (.isub, 19) := by decide +kernel
theorem eX2_pop_19 : ino mX2_pop 19 = some (.bipush 8, 21) := by decide +kernel
theorem eX2_pop_21 : ino mX2_pop 21 = some (.irem, 22) := by decide +kernel
theorem eX2_pop_22 : ino mX2_pop 22 = some (.putfield 15, 25) := by decide +kernel
theorem eX2_pop_25 : ino mX2_pop 25 = some (.aload_n 0, 26) := by decide +kernel
theorem eX2_pop_26 : ino mX2_pop 26 = some (.dup, 27) := by decide +kernel
theorem eX2_pop_27 : ino mX2_pop 27 = some (.getfield 19, 30) := by decide +kernel
theorem eX2_pop_30 : ino mX2_pop 30 = some (.iconst 1, 31) := by decide +kernel
theorem eX2_pop_31 : ino mX2_pop 31 = some (.isub, 32) := by decide +kernel
theorem eX2_pop_32 : ino mX2_pop 32 = some (.putfield 19, 35) := by decide +kernel
theorem eX2_pop_35 : ino mX2_pop 35 = some (.aload_n 1, 36) := by decide +kernel
theorem eX2_pop_36 : ino mX2_pop 36 = some (.aload_n 0, 37) := by decide +kernel
theorem eX2_pop_37 : ino mX2_pop 37 = some (.getfield 11, 40) := by decide +kernel
theorem eX2_pop_40 : ino mX2_pop 40 = some (.aload_n 0, 41) := by decide +kernel
theorem eX2_pop_41 : ino mX2_pop 41 = some (.getfield 15, 44) := by decide +kernel
theorem eX2_pop_44 : ino mX2_pop 44 = some (.aaload, 45) := by decide +kernel
theorem eX2_pop_45 : ino mX2_pop 45 = some (.invokevirtual 23, 48) := by decide +kernel
theorem eX2_pop_48 : ino mX2_pop 48 = some (.iconst 1, 49) := by decide +kernel
theorem eX2_pop_49 : ino mX2_pop 49 = some (.ireturn, 50) := by decide +kernel
