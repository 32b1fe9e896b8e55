theorem eX12_fault_0 : ino mX12_fault 0 = some (.aload_n 0, 1) := by decide +kernel
theorem eX12_fault_1 : ino mX12_fault 1 = some (.iconst 0, 2) := by decide +kernel
theorem eX12_fault_2 : ino mX12_fault 2 = some (.putfield 1, 5) := by decide +kernel
theorem eX12_fault_5 : ino mX12_fault 5 = some (.aload_n 0, 6) := by decide +kernel
theorem eX12_fault_6 : ino mX12_fault 6 = some (.getfield 206, 9) := by decide +kernel
theorem eX12_fault_9 : ino mX12_fault 9 = some (.ireturn, 10) := by decide +kernel
theorem eX12_isChild_0 : ino mX12_isChild 0 = some (.iload_n 1, 1) := by decide +kernel
theorem eX12_isChild_1 : ino mX12_isChild 1 = some (.iconst 0, 2) := by decide +kernel
theorem eX12_isChild_2 : ino mX12_isChild 2 = some (.aload_n 0, 3) := by decide +kernel
theorem eX12_isChild_3 : ino mX12_isChild 3 = some (.getfield 33, 6) := by decide +kernel
theorem eX12_isChild_6 : ino mX12_isChild 6 = some (.iconst 1, 7) := by decide +kernel
theorem eX12_isChild_7 : ino mX12_isChild 7 = some (.iaload, 8) := by decide +kernel
theorem eX12_isChild_8 : ino mX12_isChild 8 = some (.iconst 1, 9) := by decide +kernel
theorem eX12_isChild_9 : ino mX12_isChild 9 = some (.isub, 10) := by decide +kernel
theorem eX12_isChild_10 : ino mX12_isChild 10 = some (.invokestatic 221, 13) := by decide +kernel
theorem eX12_isChild_13 : ino mX12_isChild 13 = some (.ireturn, 14) := by decide +kernel
theorem eX12_isFloor_0 : ino mX12_isFloor 0 = some (.iload_n 1, 1) := by decide +kernel
theorem eX12_isFloor_1 : ino mX12_isFloor 1 = some (.iconst 1, 2) := by decide +kernel
theorem eX12_isFloor_2 : ino mX12_isFloor 2 = some (.aload_n 0, 3) := by decide +kernel
theorem eX12_isFloor_3 : ino mX12_isFloor 3 = some (.getfield 33, 6) := by decide +kernel
theorem eX12_isFloor_6 : ino mX12_isFloor 6 = some (.iconst 0, 7) := by decide +kernel
theorem eX12_isFloor_7 : ino mX12_isFloor 7 = some (.iaload, 8) := by decide +kernel
theorem eX12_isFloor_8 : ino mX12_isFloor 8 = some (.invokestatic 221, 11) := by decide +kernel
theorem eX12_isFloor_11 : ino mX12_isFloor 11 = some (.ireturn, 12) := by decide +kernel
theorem eX12_isUncle_0 : ino mX12_isUncle 0 = some (.iload_n 1, 1) := by decide +kernel
theorem eX12_isUncle_1 : ino mX12_isUncle 1 = some (.iconst 0, 2) := by decide +kernel
theorem eX12_isUncle_2 : ino mX12_isUncle 2 = some (.aload_n 0, 3) := by decide +kernel
theorem eX12_isUncle_3 : ino mX12_isUncle 3 = some (.getfield 33, 6) := by decide +kernel
theorem eX12_isUncle_6 : ino mX12_isUncle 6 = some (.iconst 2, 7) := by decide +kernel
theorem eX12_isUncle_7 : ino mX12_isUncle 7 = some (.iaload, 8) := by decide +kernel
theorem eX12_isUncle_8 : ino mX12_isUncle 8 = some (.iconst 1, 9) := by decide +kernel
theorem eX12_isUncle_9 : ino mX12_isUncle 9 = some (.isub, 10) := by decide +kernel
theorem eX12_isUncle_10 : ino mX12_isUncle 10 = some (.invokestatic 221, 13) := by decide +kernel
theorem eX12_isUncle_13 : ino mX12_isUncle 13 = some (.ireturn, 14) := by decide +kernel
theorem eX12_isServed_0 : ino mX12_isServed 0 = some (.aload_n 0, 1) := by decide +kernel
theorem eX12_isServed_1 : ino mX12_isServed 1 = some (.getfield 33, 4) := by decide +kernel
theorem eX12_isServed_4 : ino mX12_isServed 4 = some (.bipush 90, 6) := by decide +kernel
theorem eX12_isServed_6 : ino mX12_isServed 6 = some (.iload_n 1, 7) := by decide +kernel
theorem eX12_isServed_7 : ino mX12_isServed 7 = some (.iadd, 8) := by decide +kernel
theorem eX12_isServed_8 : ino mX12_isServed 8 = some (.iaload, 9) := by decide +kernel
theorem eX12_isServed_9 : ino mX12_isServed 9 = some (.ifCond .ge 7, 16) := by decide +kernel
theorem eX12_isServed_12 : ino mX12_isServed 12 = some (.iconst 1, 13) := by decide +kernel
theorem eX12_isServed_13 : ino mX12_isServed 13 = some (.goto 4, 17) := by decide +kernel
theorem eX12_isServed_16 : ino mX12_isServed 16 = some (.iconst 0, 17) := by decide +kernel
theorem eX12_isServed_17 : ino mX12_isServed 17 = some (.ireturn, 18) := by decide +kernel
theorem eX12_haves_0 : ino mX12_haves 0 = some (.aload_n 0, 1) := by decide +kernel
theorem eX12_haves_1 : ino mX12_haves 1 = some (.getfield 33, 4) := by decide +kernel
theorem eX12_haves_4 : ino mX12_haves 4 = some (.bipush 120, 6) := by decide +kernel
theorem eX12_haves_6 : ino mX12_haves 6 = some (.iconst 4, 7) := by decide +kernel
theorem eX12_haves_7 : ino mX12_haves 7 = some (.iload_n 1, 8) := by decide +kernel
theorem eX12_haves_8 : ino mX12_haves 8 = some (.imul, 9) := by decide +kernel
theorem eX12_haves_9 : ino mX12_haves 9 = some (.iadd, 10) := by decide +kernel
theorem eX12_haves_10 : ino mX12_haves 10 = some (.iload_n 2, 11) := by decide +kernel
theorem eX12_haves_11 : ino mX12_haves 11 = some (.iadd, 12) := by decide +kernel
theorem eX12_haves_12 : ino mX12_haves 12 = some (.iaload, 13) := by decide +kernel
theorem eX12_haves_13 : ino mX12_haves 13 = some (.ireturn, 14) := by decide +kernel
theorem eX12_lacksOf_0 : ino mX12_lacksOf 0 = some (.iconst 0, 1) := by decide +kernel
theorem eX12_lacksOf_1 : ino mX12_lacksOf 1 = some (.istore_n 2, 2) := by decide +kernel
theorem eX12_lacksOf_2 : ino mX12_lacksOf 2 = some (.iconst 0, 3) := by decide +kernel
theorem eX12_lacksOf_3 : ino mX12_lacksOf 3 = some (.istore_n 3, 4) := by decide +kernel
theorem eX12_lacksOf_4 : ino mX12_lacksOf 4 = some (.iload_n 3, 5) := by decide +kernel
theorem eX12_lacksOf_5 : ino mX12_lacksOf 5 = some (.iconst 4, 6) := by decide +kernel
theorem eX12_lacksOf_6 : ino mX12_lacksOf 6 = some (.if_icmp .ge 37, 43) := by decide +kernel
theorem eX12_lacksOf_9 : ino mX12_lacksOf 9 = some (.iload_n 2, 10) := by decide +kernel
theorem eX12_lacksOf_10 : ino mX12_lacksOf 10 = some (.aload_n 0, 11) := by decide +kernel
theorem eX12_lacksOf_11 : ino mX12_lacksOf 11 = some (.iload_n 1, 12) := by decide +kernel
theorem eX12_lacksOf_12 : ino mX12_lacksOf 12 = some (.iload_n 3, 13) := by decide +kernel
theorem eX12_lacksOf_13 : ino mX12_lacksOf 13 = some (.invokevirtual 296, 16) := by decide +kernel
theorem eX12_lacksOf_16 : ino mX12_lacksOf 16 = some (.aload_n 0, 17) := by decide +kernel
theorem eX12_lacksOf_17 : ino mX12_lacksOf 17 = some (.getfield 33, 20) := by decide +kernel
theorem eX12_lacksOf_20 : ino mX12_lacksOf 20 = some (.bipush 33, 22) := by decide +kernel
theorem eX12_lacksOf_22 : ino mX12_lacksOf 22 = some (.iload_n 3, 23) := by decide +kernel
theorem eX12_lacksOf_23 : ino mX12_lacksOf 23 = some (.iadd, 24) := by decide +kernel
theorem eX12_lacksOf_24 : ino mX12_lacksOf 24 = some (.iaload, 25) := by decide +kernel
theorem eX12_lacksOf_25 : ino mX12_lacksOf 25 = some (.if_icmp .ge 9, 34) := by decide +kernel
theorem eX12_lacksOf_28 : ino mX12_lacksOf 28 = some (.iconst 1, 29) := by decide +kernel
theorem eX12_lacksOf_29 : ino mX12_lacksOf 29 = some (.iload_n 3, 30) := by decide +kernel
theorem eX12_lacksOf_30 : ino mX12_lacksOf 30 = some (.ishl, 31) := by decide +kernel
theorem eX12_lacksOf_31 : ino mX12_lacksOf 31 = some (.goto 4, 35) := by decide +kernel
theorem eX12_lacksOf_34 : ino mX12_lacksOf 34 = some (.iconst 0, 35) := by decide +kernel
theorem eX12_lacksOf_35 : ino mX12_lacksOf 35 = some (.ior, 36) := by decide +kernel
theorem eX12_lacksOf_36 : ino mX12_lacksOf 36 = some (.istore_n 2, 37) := by decide +kernel
theorem eX12_lacksOf_37 : ino mX12_lacksOf 37 = some (.iinc 3 1, 40) := by decide +kernel
theorem eX12_lacksOf_40 : ino mX12_lacksOf 40 = some (.goto (-36), 4) := by decide +kernel
theorem eX12_lacksOf_43 : ino mX12_lacksOf 43 = some (.iload_n 2, 44) := by decide +kernel
theorem eX12_lacksOf_44 : ino mX12_lacksOf 44 = some (.ireturn, 45) := by decide +kernel
theorem eX12_areNear_0 : ino mX12_areNear 0 = some (.aload_n 0, 1) := by decide +kernel
theorem eX12_areNear_1 : ino mX12_areNear 1 = some (.getfield 33, 4) := by decide +kernel
theorem eX12_areNear_4 : ino mX12_areNear 4 = some (.bipush 90, 6) := by decide +kernel
theorem eX12_areNear_6 : ino mX12_areNear 6 = some (.iload_n 1, 7) := by decide +kernel
theorem eX12_areNear_7 : ino mX12_areNear 7 = some (.iadd, 8) := by decide +kernel
theorem eX12_areNear_8 : ino mX12_areNear 8 = some (.iaload, 9) := by decide +kernel
theorem eX12_areNear_9 : ino mX12_areNear 9 = some (.ifCond .le 45, 54) := by decide +kernel
theorem eX12_areNear_12 : ino mX12_areNear 12 = some (.aload_n 0, 13) := by decide +kernel
theorem eX12_areNear_13 : ino mX12_areNear 13 = some (.getfield 33, 16) := by decide +kernel
theorem eX12_areNear_16 : ino mX12_areNear 16 = some (.bipush 90, 18) := by decide +kernel
theorem eX12_areNear_18 : ino mX12_areNear 18 = some (.iload_n 2, 19) := by decide +kernel
theorem eX12_areNear_19 : ino mX12_areNear 19 = some (.iadd, 20) := by decide +kernel
theorem eX12_areNear_20 : ino mX12_areNear 20 = some (.iaload, 21) := by decide +kernel
theorem eX12_areNear_21 : ino mX12_areNear 21 = some (.ifCond .le 33, 54) := by decide +kernel
theorem eX12_areNear_24 : ino mX12_areNear 24 = some (.aload_n 0, 25) := by decide +kernel
theorem eX12_areNear_25 : ino mX12_areNear 25 = some (.getfield 33, 28) := by decide +kernel
theorem eX12_areNear_28 : ino mX12_areNear 28 = some (.bipush 90, 30) := by decide +kernel
theorem eX12_areNear_30 : ino mX12_areNear 30 = some (.iload_n 1, 31) := by decide +kernel
theorem eX12_areNear_31 : ino mX12_areNear 31 = some (.iadd, 32) := by decide +kernel
theorem eX12_areNear_32 : ino mX12_areNear 32 = some (.iaload, 33) := by decide +kernel
theorem eX12_areNear_33 : ino mX12_areNear 33 = some (.aload_n 0, 34) := by decide +kernel
theorem eX12_areNear_34 : ino mX12_areNear 34 = some (.getfield 33, 37) := by decide +kernel
theorem eX12_areNear_37 : ino mX12_areNear 37 = some (.bipush 90, 39) := by decide +kernel
theorem eX12_areNear_39 : ino mX12_areNear 39 = some (.iload_n 2, 40) := by decide +kernel
theorem eX12_areNear_40 : ino mX12_areNear 40 = some (.iadd, 41) := by decide +kernel
theorem eX12_areNear_41 : ino mX12_areNear 41 = some (.iaload, 42) := by decide +kernel
theorem eX12_areNear_42 : ino mX12_areNear 42 = some (.isub, 43) := by decide +kernel
theorem eX12_areNear_43 : ino mX12_areNear 43 = some (.invokestatic 299, 46) := by decide +kernel
theorem eX12_areNear_46 : ino mX12_areNear 46 = some (.iconst 1, 47) := by decide +kernel
theorem eX12_areNear_47 : ino mX12_areNear 47 = some (.if_icmp .ne 7, 54) := by decide +kernel
theorem eX12_areNear_50 : ino mX12_areNear 50 = some (.iconst 1, 51) := by decide +kernel
theorem eX12_areNear_51 : ino mX12_areNear 51 = some (.goto 4, 55) := by decide +kernel
theorem eX12_areNear_54 : ino mX12_areNear 54 = some (.iconst 0, 55) := by decide +kernel
theorem eX12_areNear_55 : ino mX12_areNear 55 = some (.ireturn, 56) := by decide +kernel
theorem eX12_nearTo_0 : ino mX12_nearTo 0 = some (.iconst 0, 1) := by decide +kernel
theorem eX12_nearTo_1 : ino mX12_nearTo 1 = some (.istore_n 2, 2) := by decide +kernel
theorem eX12_nearTo_2 : ino mX12_nearTo 2 = some (.iconst 0, 3) := by decide +kernel
theorem eX12_nearTo_3 : ino mX12_nearTo 3 = some (.istore_n 3, 4) := by decide +kernel
theorem eX12_nearTo_4 : ino mX12_nearTo 4 = some (.iload_n 3, 5) := by decide +kernel
theorem eX12_nearTo_5 : ino mX12_nearTo 5 = some (.aload_n 0, 6) := by decide +kernel
theorem eX12_nearTo_6 : ino mX12_nearTo 6 = some (.getfield 33, 9) := by decide +kernel
theorem eX12_nearTo_9 : ino mX12_nearTo 9 = some (.iconst 1, 10) := by decide +kernel
theorem eX12_nearTo_10 : ino mX12_nearTo 10 = some (.iaload, 11) := by decide +kernel
theorem eX12_nearTo_11 : ino mX12_nearTo 11 = some (.if_icmp .ge 28, 39) := by decide +kernel
theorem eX12_nearTo_14 : ino mX12_nearTo 14 = some (.iload_n 2, 15) := by decide +kernel
theorem eX12_nearTo_15 : ino mX12_nearTo 15 = some (.aload_n 0, 16) := by decide +kernel
theorem eX12_nearTo_16 : ino mX12_nearTo 16 = some (.iload_n 1, 17) := by decide +kernel
theorem eX12_nearTo_17 : ino mX12_nearTo 17 = some (.iload_n 3, 18) := by decide +kernel
theorem eX12_nearTo_18 : ino mX12_nearTo 18 = some (.invokevirtual 303, 21) := by decide +kernel
theorem eX12_nearTo_21 : ino mX12_nearTo 21 = some (.ifCond .eq 9, 30) := by decide +kernel
theorem eX12_nearTo_24 : ino mX12_nearTo 24 = some (.iconst 1, 25) := by decide +kernel
theorem eX12_nearTo_25 : ino mX12_nearTo 25 = some (.iload_n 3, 26) := by decide +kernel
theorem eX12_nearTo_26 : ino mX12_nearTo 26 = some (.ishl, 27) := by decide +kernel
theorem eX12_nearTo_27 : ino mX12_nearTo 27 = some (.goto 4, 31) := by decide +kernel
theorem eX12_nearTo_30 : ino mX12_nearTo 30 = some (.iconst 0, 31) := by decide +kernel
theorem eX12_nearTo_31 : ino mX12_nearTo 31 = some (.ior, 32) := by decide +kernel
theorem eX12_nearTo_32 : ino mX12_nearTo 32 = some (.istore_n 2, 33) := by decide +kernel
theorem eX12_nearTo_33 : ino mX12_nearTo 33 = some (.iinc 3 1, 36) := by decide +kernel
theorem eX12_nearTo_36 : ino mX12_nearTo 36 = some (.goto (-32), 4) := by decide +kernel
theorem eX12_nearTo_39 : ino mX12_nearTo 39 = some (.iload_n 2, 40) := by decide +kernel
theorem eX12_nearTo_40 : ino mX12_nearTo 40 = some (.ireturn, 41) := by decide +kernel
theorem eX12_balanceOf_0 : ino mX12_balanceOf 0 = some (.iconst 0, 1) := by decide +kernel
theorem eX12_balanceOf_1 : ino mX12_balanceOf 1 = some (.istore_n 2, 2) := by decide +kernel
theorem eX12_balanceOf_2 : ino mX12_balanceOf 2 = some (.iconst 0, 3) := by decide +kernel
theorem eX12_balanceOf_3 : ino mX12_balanceOf 3 = some (.istore_n 3, 4) := by decide +kernel
theorem eX12_balanceOf_4 : ino mX12_balanceOf 4 = some (.iload_n 3, 5) := by decide +kernel
theorem eX12_balanceOf_5 : ino mX12_balanceOf 5 = some (.aload_n 0, 6) := by decide +kernel
theorem eX12_balanceOf_6 : ino mX12_balanceOf 6 = some (.getfield 33, 9) := by decide +kernel
theorem eX12_balanceOf_9 : ino mX12_balanceOf 9 = some (.iconst 2, 10) := by decide +kernel
theorem eX12_balanceOf_10 : ino mX12_balanceOf 10 = some (.iaload, 11) := by decide +kernel
theorem eX12_balanceOf_11 : ino mX12_balanceOf 11 = some (.if_icmp .ge 33, 44) := by decide +kernel
theorem eX12_balanceOf_14 : ino mX12_balanceOf 14 = some (.iload_n 2, 15) := by decide +kernel
theorem eX12_balanceOf_15 : ino mX12_balanceOf 15 = some (.iload_n 1, 16) := by decide +kernel
theorem eX12_balanceOf_16 : ino mX12_balanceOf 16 = some (.iload_n 3, 17) := by decide +kernel
theorem eX12_balanceOf_17 : ino mX12_balanceOf 17 = some (.invokestatic 256, 20) := by decide +kernel
theorem eX12_balanceOf_20 : ino mX12_balanceOf 20 = some (.ifCond .eq 15, 35) := by decide +kernel
theorem eX12_balanceOf_23 : ino mX12_balanceOf 23 = some (.aload_n 0, 24) := by decide +kernel
theorem eX12_balanceOf_24 : ino mX12_balanceOf 24 = some (.getfield 33, 27) := by decide +kernel
theorem eX12_balanceOf_27 : ino mX12_balanceOf 27 = some (.bipush 28, 29) := by decide +kernel
theorem eX12_balanceOf_29 : ino mX12_balanceOf 29 = some (.iload_n 3, 30) := by decide +kernel
theorem eX12_balanceOf_30 : ino mX12_balanceOf 30 = some (.iadd, 31) := by decide +kernel
theorem eX12_balanceOf_31 : ino mX12_balanceOf 31 = some (.iaload, 32) := by decide +kernel
theorem eX12_balanceOf_32 : ino mX12_balanceOf 32 = some (.goto 4, 36) := by decide +kernel
theorem eX12_balanceOf_35 : ino mX12_balanceOf 35 = some (.iconst 0, 36) := by decide +kernel
theorem eX12_balanceOf_36 : ino mX12_balanceOf 36 = some (.iadd, 37) := by decide +kernel
theorem eX12_balanceOf_37 : ino mX12_balanceOf 37 = some (.istore_n 2, 38) := by decide +kernel
theorem eX12_balanceOf_38 : ino mX12_balanceOf 38 = some (.iinc 3 1, 41) := by decide +kernel
theorem eX12_balanceOf_41 : ino mX12_balanceOf 41 = some (.goto (-37), 4) := by decide +kernel
theorem eX12_balanceOf_44 : ino mX12_balanceOf 44 = some (.iload_n 2, 45) := by decide +kernel
theorem eX12_balanceOf_45 : ino mX12_balanceOf 45 = some (.ireturn, 46) := by decide +kernel
theorem eX12_onFloor_0 : ino mX12_onFloor 0 = some (.iconst 0, 1) := by decide +kernel
theorem eX12_onFloor_1 : ino mX12_onFloor 1 = some (.istore_n 2, 2) := by decide +kernel
theorem eX12_onFloor_2 : ino mX12_onFloor 2 = some (.iload_n 2, 3) := by decide +kernel
theorem eX12_onFloor_3 : ino mX12_onFloor 3 = some (.aload_n 0, 4) := by decide +kernel
theorem eX12_onFloor_4 : ino mX12_onFloor 4 = some (.getfield 33, 7) := by decide +kernel
theorem eX12_onFloor_7 : ino mX12_onFloor 7 = some (.iconst 1, 8) := by decide +kernel
theorem eX12_onFloor_8 : ino mX12_onFloor 8 = some (.iaload, 9) := by decide +kernel
theorem eX12_onFloor_9 : ino mX12_onFloor 9 = some (.if_icmp .ge 24, 33) := by decide +kernel
theorem eX12_onFloor_12 : ino mX12_onFloor 12 = some (.aload_n 0, 13) := by decide +kernel
theorem eX12_onFloor_13 : ino mX12_onFloor 13 = some (.getfield 33, 16) := by decide +kernel
theorem eX12_onFloor_16 : ino mX12_onFloor 16 = some (.bipush 90, 18) := by decide +kernel
theorem eX12_onFloor_18 : ino mX12_onFloor 18 = some (.iload_n 2, 19) := by decide +kernel
theorem eX12_onFloor_19 : ino mX12_onFloor 19 = some (.iadd, 20) := by decide +kernel
theorem eX12_onFloor_20 : ino mX12_onFloor 20 = some (.iaload, 21) := by decide +kernel
theorem eX12_onFloor_21 : ino mX12_onFloor 21 = some (.iload_n 1, 22) := by decide +kernel
theorem eX12_onFloor_22 : ino mX12_onFloor 22 = some (.if_icmp .ne 5, 27) := by decide +kernel
theorem eX12_onFloor_25 : ino mX12_onFloor 25 = some (.iload_n 2, 26) := by decide +kernel
theorem eX12_onFloor_26 : ino mX12_onFloor 26 = some (.ireturn, 27) := by decide +kernel
theorem eX12_onFloor_27 : ino mX12_onFloor 27 = some (.iinc 2 1, 30) := by decide +kernel
theorem eX12_onFloor_30 : ino mX12_onFloor 30 = some (.goto (-28), 2) := by decide +kernel
theorem eX12_onFloor_33 : ino mX12_onFloor 33 = some (.iconst (-1), 34) := by decide +kernel
theorem eX12_onFloor_34 : ino mX12_onFloor 34 = some (.ireturn, 35) := by decide +kernel
theorem eX12_child_0 : ino mX12_child 0 = some (.aload_n 0, 1) := by decide +kernel
theorem eX12_child_1 : ino mX12_child 1 = some (.aload_n 0, 2) := by decide +kernel
theorem eX12_child_2 : ino mX12_child 2 = some (.iload_n 1, 3) := by decide +kernel
theorem eX12_child_3 : ino mX12_child 3 = some (.invokevirtual 306, 6) := by decide +kernel
theorem eX12_child_6 : ino mX12_child 6 = some (.ifCond .eq 13, 19) := by decide +kernel
theorem eX12_child_9 : ino mX12_child 9 = some (.iload_n 2, 10) := by decide +kernel
theorem eX12_child_10 : ino mX12_child 10 = some (.iconst 0, 11) := by decide +kernel
theorem eX12_child_11 : ino mX12_child 11 = some (.bipush 6, 13) := by decide +kernel
theorem eX12_child_13 : ino mX12_child 13 = some (.invokestatic 221, 16) := by decide +kernel
theorem eX12_child_16 : ino mX12_child 16 = some (.ifCond .ne 7, 23) := by decide +kernel
theorem eX12_child_19 : ino mX12_child 19 = some (.iconst 1, 20) := by decide +kernel
theorem eX12_child_20 : ino mX12_child 20 = some (.goto 4, 24) := by decide +kernel
theorem eX12_child_23 : ino mX12_child 23 = some (.iconst 0, 24) := by decide +kernel
theorem eX12_child_24 : ino mX12_child 24 = some (.invokevirtual 309, 27) := by decide +kernel
theorem eX12_child_27 : ino mX12_child 27 = some (.ifCond .eq 5, 32) := by decide +kernel
theorem eX12_child_30 : ino mX12_child 30 = some (.iconst 0, 31) := by decide +kernel
theorem eX12_child_31 : ino mX12_child 31 = some (.ireturn, 32) := by decide +kernel
theorem eX12_child_32 : ino mX12_child 32 = some (.iload_n 2, 33) := by decide +kernel
theorem eX12_child_33 : decode mX12_child.2.1 33 = .ok (.tableswitch 95 0 5 #[39, 49, 59, 69, 79, 89], 39) := by decide +kernel
theorem eX12_child_72 : ino mX12_child 72 = some (.aload_n 0, 73) := by decide +kernel
theorem eX12_child_73 : ino mX12_child 73 = some (.getfield 33, 76) := by decide +kernel
theorem eX12_child_76 : ino mX12_child 76 = some (.bipush 90, 78) := by decide +kernel
theorem eX12_child_78 : ino mX12_child 78 = some (.iload_n 1, 79) := by decide +kernel
theorem eX12_child_79 : ino mX12_child 79 = some (.iadd, 80) := by decide +kernel
theorem eX12_child_80 : ino mX12_child 80 = some (.iaload, 81) := by decide +kernel
theorem eX12_child_81 : ino mX12_child 81 = some (.ireturn, 82) := by decide +kernel
theorem eX12_child_82 : ino mX12_child 82 = some (.aload_n 0, 83) := by decide +kernel
theorem eX12_child_83 : ino mX12_child 83 = some (.getfield 33, 86) := by decide +kernel
theorem eX12_child_86 : ino mX12_child 86 = some (.bipush 96, 88) := by decide +kernel
theorem eX12_child_88 : ino mX12_child 88 = some (.iload_n 1, 89) := by decide +kernel
theorem eX12_child_89 : ino mX12_child 89 = some (.iadd, 90) := by decide +kernel
theorem eX12_child_90 : ino mX12_child 90 = some (.iaload, 91) := by decide +kernel
theorem eX12_child_91 : ino mX12_child 91 = some (.ireturn, 92) := by decide +kernel
theorem eX12_child_92 : ino mX12_child 92 = some (.aload_n 0, 93) := by decide +kernel
theorem eX12_child_93 : ino mX12_child 93 = some (.getfield 33, 96) := by decide +kernel
theorem eX12_child_96 : ino mX12_child 96 = some (.bipush 102, 98) := by decide +kernel
theorem eX12_child_98 : ino mX12_child 98 = some (.iload_n 1, 99) := by decide +kernel
theorem eX12_child_99 : ino mX12_child 99 = some (.iadd, 100) := by decide +kernel
theorem eX12_child_100 : ino mX12_child 100 = some (.iaload, 101) := by decide +kernel
theorem eX12_child_101 : ino mX12_child 101 = some (.ireturn, 102) := by decide +kernel
theorem eX12_child_102 : ino mX12_child 102 = some (.aload_n 0, 103) := by decide +kernel
theorem eX12_child_103 : ino mX12_child 103 = some (.getfield 33, 106) := by decide +kernel
theorem eX12_child_106 : ino mX12_child 106 = some (.bipush 108, 108) := by decide +kernel
theorem eX12_child_108 : ino mX12_child 108 = some (.iload_n 1, 109) := by decide +kernel
theorem eX12_child_109 : ino mX12_child 109 = some (.iadd, 110) := by decide +kernel
theorem eX12_child_110 : ino mX12_child 110 = some (.iaload, 111) := by decide +kernel
theorem eX12_child_111 : ino mX12_child 111 = some (.ireturn, 112) := by decide +kernel
theorem eX12_child_112 : ino mX12_child 112 = some (.aload_n 0, 113) := by decide +kernel
theorem eX12_child_113 : ino mX12_child 113 = some (.getfield 33, 116) := by decide +kernel
theorem eX12_child_116 : ino mX12_child 116 = some (.bipush 114, 118) := by decide +kernel
theorem eX12_child_118 : ino mX12_child 118 = some (.iload_n 1, 119) := by decide +kernel
theorem eX12_child_119 : ino mX12_child 119 = some (.iadd, 120) := by decide +kernel
theorem eX12_child_120 : ino mX12_child 120 = some (.iaload, 121) := by decide +kernel
theorem eX12_child_121 : ino mX12_child 121 = some (.ireturn, 122) := by decide +kernel
theorem eX12_child_122 : ino mX12_child 122 = some (.aload_n 0, 123) := by decide +kernel
theorem eX12_child_123 : ino mX12_child 123 = some (.iload_n 1, 124) := by decide +kernel
theorem eX12_child_124 : ino mX12_child 124 = some (.invokevirtual 313, 127) := by decide +kernel
theorem eX12_child_127 : ino mX12_child 127 = some (.ireturn, 128) := by decide +kernel
theorem eX12_child_128 : ino mX12_child 128 = some (.aload_n 0, 129) := by decide +kernel
theorem eX12_child_129 : ino mX12_child 129 = some (.iload_n 1, 130) := by decide +kernel
theorem eX12_child_130 : ino mX12_child 130 = some (.invokevirtual 316, 133) := by decide +kernel
theorem eX12_child_133 : ino mX12_child 133 = some (.ireturn, 134) := by decide +kernel
theorem eX12_has_0 : ino mX12_has 0 = some (.aload_n 0, 1) := by decide +kernel
theorem eX12_has_1 : ino mX12_has 1 = some (.iconst 0, 2) := by decide +kernel
theorem eX12_has_2 : ino mX12_has 2 = some (.putfield 1, 5) := by decide +kernel
theorem eX12_has_5 : ino mX12_has 5 = some (.aload_n 0, 6) := by decide +kernel
theorem eX12_has_6 : ino mX12_has 6 = some (.iload_n 1, 7) := by decide +kernel
theorem eX12_has_7 : ino mX12_has 7 = some (.invokevirtual 306, 10) := by decide +kernel
theorem eX12_has_10 : ino mX12_has 10 = some (.ifCond .eq 21, 31) := by decide +kernel
theorem eX12_has_13 : ino mX12_has 13 = some (.iload_n 2, 14) := by decide +kernel
theorem eX12_has_14 : ino mX12_has 14 = some (.iconst 0, 15) := by decide +kernel
theorem eX12_has_15 : ino mX12_has 15 = some (.iconst 3, 16) := by decide +kernel
theorem eX12_has_16 : ino mX12_has 16 = some (.invokestatic 221, 19) := by decide +kernel
theorem eX12_has_19 : ino mX12_has 19 = some (.ifCond .eq 12, 31) := by decide +kernel
theorem eX12_has_22 : ino mX12_has 22 = some (.aload_n 0, 23) := by decide +kernel
theorem eX12_has_23 : ino mX12_has 23 = some (.iload_n 1, 24) := by decide +kernel
theorem eX12_has_24 : ino mX12_has 24 = some (.iload_n 2, 25) := by decide +kernel
theorem eX12_has_25 : ino mX12_has 25 = some (.invokevirtual 296, 28) := by decide +kernel
theorem eX12_has_28 : ino mX12_has 28 = some (.goto 4, 32) := by decide +kernel
theorem eX12_has_31 : ino mX12_has 31 = some (.iconst (-1), 32) := by decide +kernel
theorem eX12_has_32 : ino mX12_has 32 = some (.ireturn, 33) := by decide +kernel
theorem eX12_floor_0 : ino mX12_floor 0 = some (.aload_n 0, 1) := by decide +kernel
theorem eX12_floor_1 : ino mX12_floor 1 = some (.iconst 0, 2) := by decide +kernel
theorem eX12_floor_2 : ino mX12_floor 2 = some (.putfield 1, 5) := by decide +kernel
theorem eX12_floor_5 : ino mX12_floor 5 = some (.aload_n 0, 6) := by decide +kernel
theorem eX12_floor_6 : ino mX12_floor 6 = some (.iload_n 1, 7) := by decide +kernel
theorem eX12_floor_7 : ino mX12_floor 7 = some (.invokevirtual 319, 10) := by decide +kernel
theorem eX12_floor_10 : ino mX12_floor 10 = some (.ifCond .ne 5, 15) := by decide +kernel
theorem eX12_floor_13 : ino mX12_floor 13 = some (.iconst (-1), 14) := by decide +kernel
theorem eX12_floor_14 : ino mX12_floor 14 = some (.ireturn, 15) := by decide +kernel
theorem eX12_floor_15 : ino mX12_floor 15 = some (.iload_n 2, 16) := by decide +kernel
theorem eX12_floor_16 : decode mX12_floor.2.1 16 = .ok (.tableswitch 75 0 3 #[32, 43, 55, 69], 32) := by decide +kernel
theorem eX12_floor_48 : ino mX12_floor 48 = some (.aload_n 0, 49) := by decide +kernel
theorem eX12_floor_49 : ino mX12_floor 49 = some (.getfield 33, 52) := by decide +kernel
theorem eX12_floor_52 : ino mX12_floor 52 = some (.iconst 5, 53) := by decide +kernel
theorem eX12_floor_53 : ino mX12_floor 53 = some (.iload_n 1, 54) := by decide +kernel
theorem eX12_floor_54 : ino mX12_floor 54 = some (.iadd, 55) := by decide +kernel
theorem eX12_floor_55 : ino mX12_floor 55 = some (.iconst 1, 56) := by decide +kernel
theorem eX12_floor_56 : ino mX12_floor 56 = some (.isub, 57) := by decide +kernel
theorem eX12_floor_57 : ino mX12_floor 57 = some (.iaload, 58) := by decide +kernel
theorem eX12_floor_58 : ino mX12_floor 58 = some (.ireturn, 59) := by decide +kernel
theorem eX12_floor_59 : ino mX12_floor 59 = some (.aload_n 0, 60) := by decide +kernel
theorem eX12_floor_60 : ino mX12_floor 60 = some (.getfield 33, 63) := by decide +kernel
theorem eX12_floor_63 : ino mX12_floor 63 = some (.bipush 13, 65) := by decide +kernel
theorem eX12_floor_65 : ino mX12_floor 65 = some (.iload_n 1, 66) := by decide +kernel
theorem eX12_floor_66 : ino mX12_floor 66 = some (.iadd, 67) := by decide +kernel
theorem eX12_floor_67 : ino mX12_floor 67 = some (.iconst 1, 68) := by decide +kernel
theorem eX12_floor_68 : ino mX12_floor 68 = some (.isub, 69) := by decide +kernel
theorem eX12_floor_69 : ino mX12_floor 69 = some (.iaload, 70) := by decide +kernel
theorem eX12_floor_70 : ino mX12_floor 70 = some (.ireturn, 71) := by decide +kernel
theorem eX12_floor_71 : ino mX12_floor 71 = some (.aload_n 0, 72) := by decide +kernel
theorem eX12_floor_72 : ino mX12_floor 72 = some (.getfield 33, 75) := by decide +kernel
theorem eX12_floor_75 : ino mX12_floor 75 = some (.bipush 21, 77) := by decide +kernel
theorem eX12_floor_77 : ino mX12_floor 77 = some (.iaload, 78) := by decide +kernel
theorem eX12_floor_78 : ino mX12_floor 78 = some (.iload_n 1, 79) := by decide +kernel
theorem eX12_floor_79 : ino mX12_floor 79 = some (.iconst 1, 80) := by decide +kernel
theorem eX12_floor_80 : ino mX12_floor 80 = some (.isub, 81) := by decide +kernel
theorem eX12_floor_81 : ino mX12_floor 81 = some (.ishr, 82) := by decide +kernel
theorem eX12_floor_82 : ino mX12_floor 82 = some (.iconst 1, 83) := by decide +kernel
theorem eX12_floor_83 : ino mX12_floor 83 = some (.iand, 84) := by decide +kernel
theorem eX12_floor_84 : ino mX12_floor 84 = some (.ireturn, 85) := by decide +kernel
theorem eX12_floor_85 : ino mX12_floor 85 = some (.aload_n 0, 86) := by decide +kernel
theorem eX12_floor_86 : ino mX12_floor 86 = some (.iload_n 1, 87) := by decide +kernel
theorem eX12_floor_87 : ino mX12_floor 87 = some (.invokevirtual 322, 90) := by decide +kernel
theorem eX12_floor_90 : ino mX12_floor 90 = some (.ireturn, 91) := by decide +kernel
theorem eX12_floor_91 : ino mX12_floor 91 = some (.iconst (-1), 92) := by decide +kernel
theorem eX12_floor_92 : ino mX12_floor 92 = some (.ireturn, 93) := by decide +kernel
theorem eX12_uncle_0 : ino mX12_uncle 0 = some (.aload_n 0, 1) := by decide +kernel
theorem eX12_uncle_1 : ino mX12_uncle 1 = some (.iconst 0, 2) := by decide +kernel
theorem eX12_uncle_2 : ino mX12_uncle 2 = some (.putfield 1, 5) := by decide +kernel
theorem eX12_uncle_5 : ino mX12_uncle 5 = some (.aload_n 0, 6) := by decide +kernel
theorem eX12_uncle_6 : ino mX12_uncle 6 = some (.iload_n 1, 7) := by decide +kernel
theorem eX12_uncle_7 : ino mX12_uncle 7 = some (.invokevirtual 325, 10) := by decide +kernel
theorem eX12_uncle_10 : ino mX12_uncle 10 = some (.ifCond .ne 5, 15) := by decide +kernel
theorem eX12_uncle_13 : ino mX12_uncle 13 = some (.iconst (-1), 14) := by decide +kernel
theorem eX12_uncle_14 : ino mX12_uncle 14 = some (.ireturn, 15) := by decide +kernel
theorem eX12_uncle_15 : ino mX12_uncle 15 = some (.iload_n 2, 16) := by decide +kernel
theorem eX12_uncle_16 : ino mX12_uncle 16 = some (.ifCond .ne 15, 31) := by decide +kernel
theorem eX12_uncle_19 : ino mX12_uncle 19 = some (.aload_n 0, 20) := by decide +kernel
theorem eX12_uncle_20 : ino mX12_uncle 20 = some (.getfield 33, 23) := by decide +kernel
theorem eX12_uncle_23 : ino mX12_uncle 23 = some (.bipush 28, 25) := by decide +kernel
theorem eX12_uncle_25 : ino mX12_uncle 25 = some (.iload_n 1, 26) := by decide +kernel
theorem eX12_uncle_26 : ino mX12_uncle 26 = some (.iadd, 27) := by decide +kernel
theorem eX12_uncle_27 : ino mX12_uncle 27 = some (.iaload, 28) := by decide +kernel
theorem eX12_uncle_28 : ino mX12_uncle 28 = some (.goto 23, 51) := by decide +kernel
theorem eX12_uncle_31 : ino mX12_uncle 31 = some (.iload_n 2, 32) := by decide +kernel
theorem eX12_uncle_32 : ino mX12_uncle 32 = some (.iconst 1, 33) := by decide +kernel
theorem eX12_uncle_33 : ino mX12_uncle 33 = some (.if_icmp .ne 17, 50) := by decide +kernel
theorem eX12_uncle_36 : ino mX12_uncle 36 = some (.aload_n 0, 37) := by decide +kernel
theorem eX12_uncle_37 : ino mX12_uncle 37 = some (.getfield 33, 40) := by decide +kernel
theorem eX12_uncle_40 : ino mX12_uncle 40 = some (.bipush 88, 42) := by decide +kernel
theorem eX12_uncle_42 : ino mX12_uncle 42 = some (.iaload, 43) := by decide +kernel
theorem eX12_uncle_43 : ino mX12_uncle 43 = some (.iload_n 1, 44) := by decide +kernel
theorem eX12_uncle_44 : ino mX12_uncle 44 = some (.ishr, 45) := by decide +kernel
theorem eX12_uncle_45 : ino mX12_uncle 45 = some (.iconst 1, 46) := by decide +kernel
theorem eX12_uncle_46 : ino mX12_uncle 46 = some (.iand, 47) := by decide +kernel
theorem eX12_uncle_47 : ino mX12_uncle 47 = some (.goto 4, 51) := by decide +kernel
theorem eX12_uncle_50 : ino mX12_uncle 50 = some (.iconst (-1), 51) := by decide +kernel
theorem eX12_uncle_51 : ino mX12_uncle 51 = some (.ireturn, 52) := by decide +kernel
theorem eX12_law_0 : ino mX12_law 0 = some (.aload_n 0, 1) := by decide +kernel
theorem eX12_law_1 : ino mX12_law 1 = some (.iconst 0, 2) := by decide +kernel
theorem eX12_law_2 : ino mX12_law 2 = some (.putfield 1, 5) := by decide +kernel
theorem eX12_law_5 : ino mX12_law 5 = some (.iload_n 1, 6) := by decide +kernel
theorem eX12_law_6 : ino mX12_law 6 = some (.iconst 0, 7) := by decide +kernel
theorem eX12_law_7 : ino mX12_law 7 = some (.iconst 3, 8) := by decide +kernel
theorem eX12_law_8 : ino mX12_law 8 = some (.invokestatic 221, 11) := by decide +kernel
theorem eX12_law_11 : ino mX12_law 11 = some (.ifCond .eq 15, 26) := by decide +kernel
theorem eX12_law_14 : ino mX12_law 14 = some (.aload_n 0, 15) := by decide +kernel
theorem eX12_law_15 : ino mX12_law 15 = some (.getfield 33, 18) := by decide +kernel
theorem eX12_law_18 : ino mX12_law 18 = some (.bipush 33, 20) := by decide +kernel
theorem eX12_law_20 : ino mX12_law 20 = some (.iload_n 1, 21) := by decide +kernel
theorem eX12_law_21 : ino mX12_law 21 = some (.iadd, 22) := by decide +kernel
theorem eX12_law_22 : ino mX12_law 22 = some (.iaload, 23) := by decide +kernel
theorem eX12_law_23 : ino mX12_law 23 = some (.goto 4, 27) := by decide +kernel
theorem eX12_law_26 : ino mX12_law 26 = some (.iconst (-1), 27) := by decide +kernel
theorem eX12_law_27 : ino mX12_law 27 = some (.ireturn, 28) := by decide +kernel
theorem eX12_servedSet_0 : ino mX12_servedSet 0 = some (.iconst 0, 1) := by decide +kernel
theorem eX12_servedSet_1 : ino mX12_servedSet 1 = some (.istore_n 1, 2) := by decide +kernel
theorem eX12_servedSet_2 : ino mX12_servedSet 2 = some (.iconst 0, 3) := by decide +kernel
theorem eX12_servedSet_3 : ino mX12_servedSet 3 = some (.istore_n 2, 4) := by decide +kernel
theorem eX12_servedSet_4 : ino mX12_servedSet 4 = some (.iload_n 2, 5) := by decide +kernel
theorem eX12_servedSet_5 : ino mX12_servedSet 5 = some (.aload_n 0, 6) := by decide +kernel
theorem eX12_servedSet_6 : ino mX12_servedSet 6 = some (.getfield 33, 9) := by decide +kernel
theorem eX12_servedSet_9 : ino mX12_servedSet 9 = some (.iconst 1, 10) := by decide +kernel
theorem eX12_servedSet_10 : ino mX12_servedSet 10 = some (.iaload, 11) := by decide +kernel
theorem eX12_servedSet_11 : ino mX12_servedSet 11 = some (.if_icmp .ge 27, 38) := by decide +kernel
theorem eX12_servedSet_14 : ino mX12_servedSet 14 = some (.iload_n 1, 15) := by decide +kernel
theorem eX12_servedSet_15 : ino mX12_servedSet 15 = some (.aload_n 0, 16) := by decide +kernel
theorem eX12_servedSet_16 : ino mX12_servedSet 16 = some (.iload_n 2, 17) := by decide +kernel
theorem eX12_servedSet_17 : ino mX12_servedSet 17 = some (.invokevirtual 328, 20) := by decide +kernel
theorem eX12_servedSet_20 : ino mX12_servedSet 20 = some (.ifCond .eq 9, 29) := by decide +kernel
theorem eX12_servedSet_23 : ino mX12_servedSet 23 = some (.iconst 1, 24) := by decide +kernel
theorem eX12_servedSet_24 : ino mX12_servedSet 24 = some (.iload_n 2, 25) := by decide +kernel
theorem eX12_servedSet_25 : ino mX12_servedSet 25 = some (.ishl, 26) := by decide +kernel
theorem eX12_servedSet_26 : ino mX12_servedSet 26 = some (.goto 4, 30) := by decide +kernel
theorem eX12_servedSet_29 : ino mX12_servedSet 29 = some (.iconst 0, 30) := by decide +kernel
theorem eX12_servedSet_30 : ino mX12_servedSet 30 = some (.ior, 31) := by decide +kernel
theorem eX12_servedSet_31 : ino mX12_servedSet 31 = some (.istore_n 1, 32) := by decide +kernel
theorem eX12_servedSet_32 : ino mX12_servedSet 32 = some (.iinc 2 1, 35) := by decide +kernel
theorem eX12_servedSet_35 : ino mX12_servedSet 35 = some (.goto (-31), 4) := by decide +kernel
theorem eX12_servedSet_38 : ino mX12_servedSet 38 = some (.iload_n 1, 39) := by decide +kernel
theorem eX12_servedSet_39 : ino mX12_servedSet 39 = some (.ireturn, 40) := by decide +kernel
theorem eX12_now_0 : ino mX12_now 0 = some (.aload_n 0, 1) := by decide +kernel
theorem eX12_now_1 : ino mX12_now 1 = some (.iconst 0, 2) := by decide +kernel
theorem eX12_now_2 : ino mX12_now 2 = some (.putfield 1, 5) := by decide +kernel
theorem eX12_now_5 : ino mX12_now 5 = some (.iconst 0, 6) := by decide +kernel
theorem eX12_now_6 : ino mX12_now 6 = some (.istore_n 2, 7) := by decide +kernel
theorem eX12_now_7 : ino mX12_now 7 = some (.iconst 0, 8) := by decide +kernel
theorem eX12_now_8 : ino mX12_now 8 = some (.istore_n 3, 9) := by decide +kernel
theorem eX12_now_9 : ino mX12_now 9 = some (.iconst 0, 10) := by decide +kernel
theorem eX12_now_10 : ino mX12_now 10 = some (.istore 4, 12) := by decide +kernel
theorem eX12_now_12 : ino mX12_now 12 = some (.iload 4, 14) := by decide +kernel
theorem eX12_now_14 : ino mX12_now 14 = some (.aload_n 0, 15) := by decide +kernel
theorem eX12_now_15 : ino mX12_now 15 = some (.getfield 33, 18) := by decide +kernel
theorem eX12_now_18 : ino mX12_now 18 = some (.iconst 1, 19) := by decide +kernel
theorem eX12_now_19 : ino mX12_now 19 = some (.iaload, 20) := by decide +kernel
theorem eX12_now_20 : ino mX12_now 20 = some (.if_icmp .ge 62, 82) := by decide +kernel
theorem eX12_now_23 : ino mX12_now 23 = some (.iload_n 2, 24) := by decide +kernel
theorem eX12_now_24 : ino mX12_now 24 = some (.aload_n 0, 25) := by decide +kernel
theorem eX12_now_25 : ino mX12_now 25 = some (.iload 4, 27) := by decide +kernel
theorem eX12_now_27 : ino mX12_now 27 = some (.invokevirtual 328, 30) := by decide +kernel
theorem eX12_now_30 : ino mX12_now 30 = some (.ifCond .ne 19, 49) := by decide +kernel
theorem eX12_now_33 : ino mX12_now 33 = some (.aload_n 0, 34) := by decide +kernel
theorem eX12_now_34 : ino mX12_now 34 = some (.iload 4, 36) := by decide +kernel
theorem eX12_now_36 : ino mX12_now 36 = some (.invokevirtual 313, 39) := by decide +kernel
theorem eX12_now_39 : ino mX12_now 39 = some (.ifCond .ne 10, 49) := by decide +kernel
theorem eX12_now_42 : ino mX12_now 42 = some (.iconst 1, 43) := by decide +kernel
theorem eX12_now_43 : ino mX12_now 43 = some (.iload 4, 45) := by decide +kernel
theorem eX12_now_45 : ino mX12_now 45 = some (.ishl, 46) := by decide +kernel
theorem eX12_now_46 : ino mX12_now 46 = some (.goto 4, 50) := by decide +kernel
theorem eX12_now_49 : ino mX12_now 49 = some (.iconst 0, 50) := by decide +kernel
theorem eX12_now_50 : ino mX12_now 50 = some (.ior, 51) := by decide +kernel
theorem eX12_now_51 : ino mX12_now 51 = some (.istore_n 2, 52) := by decide +kernel
theorem eX12_now_52 : ino mX12_now 52 = some (.iload_n 3, 53) := by decide +kernel
theorem eX12_now_53 : ino mX12_now 53 = some (.aload_n 0, 54) := by decide +kernel
theorem eX12_now_54 : ino mX12_now 54 = some (.getfield 33, 57) := by decide +kernel
theorem eX12_now_57 : ino mX12_now 57 = some (.bipush 90, 59) := by decide +kernel
theorem eX12_now_59 : ino mX12_now 59 = some (.iload 4, 61) := by decide +kernel
theorem eX12_now_61 : ino mX12_now 61 = some (.iadd, 62) := by decide +kernel
theorem eX12_now_62 : ino mX12_now 62 = some (.iaload, 63) := by decide +kernel
theorem eX12_now_63 : ino mX12_now 63 = some (.ifCond .le 10, 73) := by decide +kernel
theorem eX12_now_66 : ino mX12_now 66 = some (.iconst 1, 67) := by decide +kernel
theorem eX12_now_67 : ino mX12_now 67 = some (.iload 4, 69) := by decide +kernel
theorem eX12_now_69 : ino mX12_now 69 = some (.ishl, 70) := by decide +kernel
theorem eX12_now_70 : ino mX12_now 70 = some (.goto 4, 74) := by decide +kernel
theorem eX12_now_73 : ino mX12_now 73 = some (.iconst 0, 74) := by decide +kernel
theorem eX12_now_74 : ino mX12_now 74 = some (.ior, 75) := by decide +kernel
theorem eX12_now_75 : ino mX12_now 75 = some (.istore_n 3, 76) := by decide +kernel
theorem eX12_now_76 : ino mX12_now 76 = some (.iinc 4 1, 79) := by decide +kernel
theorem eX12_now_79 : ino mX12_now 79 = some (.goto (-67), 12) := by decide +kernel
theorem eX12_now_82 : ino mX12_now 82 = some (.iload_n 1, 83) := by decide +kernel
theorem eX12_now_83 : decode mX12_now.2.1 83 = .ok (.tableswitch 98 0 7 #[45, 53, 61, 69, 81, 86, 88, 90], 45) := by decide +kernel
theorem eX12_now_128 : ino mX12_now 128 = some (.aload_n 0, 129) := by decide +kernel
theorem eX12_now_129 : ino mX12_now 129 = some (.getfield 33, 132) := by decide +kernel
theorem eX12_now_132 : ino mX12_now 132 = some (.bipush 85, 134) := by decide +kernel
theorem eX12_now_134 : ino mX12_now 134 = some (.iaload, 135) := by decide +kernel
theorem eX12_now_135 : ino mX12_now 135 = some (.ireturn, 136) := by decide +kernel
theorem eX12_now_136 : ino mX12_now 136 = some (.aload_n 0, 137) := by decide +kernel
theorem eX12_now_137 : ino mX12_now 137 = some (.getfield 33, 140) := by decide +kernel
theorem eX12_now_140 : ino mX12_now 140 = some (.bipush 86, 142) := by decide +kernel
theorem eX12_now_142 : ino mX12_now 142 = some (.iaload, 143) := by decide +kernel
theorem eX12_now_143 : ino mX12_now 143 = some (.ireturn, 144) := by decide +kernel
theorem eX12_now_144 : ino mX12_now 144 = some (.aload_n 0, 145) := by decide +kernel
theorem eX12_now_145 : ino mX12_now 145 = some (.getfield 33, 148) := by decide +kernel
theorem eX12_now_148 : ino mX12_now 148 = some (.bipush 87, 150) := by decide +kernel
theorem eX12_now_150 : ino mX12_now 150 = some (.iaload, 151) := by decide +kernel
theorem eX12_now_151 : ino mX12_now 151 = some (.ireturn, 152) := by decide +kernel
theorem eX12_now_152 : ino mX12_now 152 = some (.aload_n 0, 153) := by decide +kernel
theorem eX12_now_153 : ino mX12_now 153 = some (.aload_n 0, 154) := by decide +kernel
theorem eX12_now_154 : ino mX12_now 154 = some (.getfield 33, 157) := by decide +kernel
theorem eX12_now_157 : ino mX12_now 157 = some (.bipush 88, 159) := by decide +kernel
theorem eX12_now_159 : ino mX12_now 159 = some (.iaload, 160) := by decide +kernel
theorem eX12_now_160 : ino mX12_now 160 = some (.invokevirtual 331, 163) := by decide +kernel
theorem eX12_now_163 : ino mX12_now 163 = some (.ireturn, 164) := by decide +kernel
theorem eX12_now_164 : ino mX12_now 164 = some (.aload_n 0, 165) := by decide +kernel
theorem eX12_now_165 : ino mX12_now 165 = some (.invokevirtual 334, 168) := by decide +kernel
theorem eX12_now_168 : ino mX12_now 168 = some (.ireturn, 169) := by decide +kernel
theorem eX12_now_169 : ino mX12_now 169 = some (.iload_n 2, 170) := by decide +kernel
theorem eX12_now_170 : ino mX12_now 170 = some (.ireturn, 171) := by decide +kernel
theorem eX12_now_171 : ino mX12_now 171 = some (.iload_n 3, 172) := by decide +kernel
theorem eX12_now_172 : ino mX12_now 172 = some (.ireturn, 173) := by decide +kernel
theorem eX12_now_173 : ino mX12_now 173 = some (.aload_n 0, 174) := by decide +kernel
theorem eX12_now_174 : ino mX12_now 174 = some (.getfield 33, 177) := by decide +kernel
theorem eX12_now_177 : ino mX12_now 177 = some (.bipush 89, 179) := by decide +kernel
theorem eX12_now_179 : ino mX12_now 179 = some (.iaload, 180) := by decide +kernel
theorem eX12_now_180 : ino mX12_now 180 = some (.ireturn, 181) := by decide +kernel
theorem eX12_now_181 : ino mX12_now 181 = some (.iconst (-1), 182) := by decide +kernel
theorem eX12_now_182 : ino mX12_now 182 = some (.ireturn, 183) := by decide +kernel
theorem eX12_whySend_0 : ino mX12_whySend 0 = some (.aload_n 0, 1) := by decide +kernel
theorem eX12_whySend_1 : ino mX12_whySend 1 = some (.iload_n 1, 2) := by decide +kernel
theorem eX12_whySend_2 : ino mX12_whySend 2 = some (.invokevirtual 328, 5) := by decide +kernel
theorem eX12_whySend_5 : ino mX12_whySend 5 = some (.ifCond .eq 7, 12) := by decide +kernel
theorem eX12_whySend_8 : ino mX12_whySend 8 = some (.iconst 1, 9) := by decide +kernel
theorem eX12_whySend_9 : ino mX12_whySend 9 = some (.goto 37, 46) := by decide +kernel
theorem eX12_whySend_12 : ino mX12_whySend 12 = some (.aload_n 0, 13) := by decide +kernel
theorem eX12_whySend_13 : ino mX12_whySend 13 = some (.getfield 33, 16) := by decide +kernel
theorem eX12_whySend_16 : ino mX12_whySend 16 = some (.bipush 90, 18) := by decide +kernel
theorem eX12_whySend_18 : ino mX12_whySend 18 = some (.iload_n 1, 19) := by decide +kernel
theorem eX12_whySend_19 : ino mX12_whySend 19 = some (.iadd, 20) := by decide +kernel
theorem eX12_whySend_20 : ino mX12_whySend 20 = some (.iaload, 21) := by decide +kernel
theorem eX12_whySend_21 : ino mX12_whySend 21 = some (.iload_n 2, 22) := by decide +kernel
theorem eX12_whySend_22 : ino mX12_whySend 22 = some (.if_icmp .ne 7, 29) := by decide +kernel
theorem eX12_whySend_25 : ino mX12_whySend 25 = some (.iconst 2, 26) := by decide +kernel
theorem eX12_whySend_26 : ino mX12_whySend 26 = some (.goto 20, 46) := by decide +kernel
theorem eX12_whySend_29 : ino mX12_whySend 29 = some (.iload_n 2, 30) := by decide +kernel
theorem eX12_whySend_30 : ino mX12_whySend 30 = some (.ifCond .le 15, 45) := by decide +kernel
theorem eX12_whySend_33 : ino mX12_whySend 33 = some (.aload_n 0, 34) := by decide +kernel
theorem eX12_whySend_34 : ino mX12_whySend 34 = some (.iload_n 2, 35) := by decide +kernel
theorem eX12_whySend_35 : ino mX12_whySend 35 = some (.invokevirtual 322, 38) := by decide +kernel
theorem eX12_whySend_38 : ino mX12_whySend 38 = some (.ifCond .lt 7, 45) := by decide +kernel
theorem eX12_whySend_41 : ino mX12_whySend 41 = some (.iconst 3, 42) := by decide +kernel
theorem eX12_whySend_42 : ino mX12_whySend 42 = some (.goto 4, 46) := by decide +kernel
theorem eX12_whySend_45 : ino mX12_whySend 45 = some (.iconst 0, 46) := by decide +kernel
theorem eX12_whySend_46 : ino mX12_whySend 46 = some (.ireturn, 47) := by decide +kernel
theorem eX12_sends_0 : ino mX12_sends 0 = some (.iload_n 2, 1) := by decide +kernel
theorem eX12_sends_1 : ino mX12_sends 1 = some (.aload_n 0, 2) := by decide +kernel
theorem eX12_sends_2 : ino mX12_sends 2 = some (.getfield 33, 5) := by decide +kernel
theorem eX12_sends_5 : ino mX12_sends 5 = some (.bipush 90, 7) := by decide +kernel
theorem eX12_sends_7 : ino mX12_sends 7 = some (.iload_n 1, 8) := by decide +kernel
theorem eX12_sends_8 : ino mX12_sends 8 = some (.iadd, 9) := by decide +kernel
theorem eX12_sends_9 : ino mX12_sends 9 = some (.iaload, 10) := by decide +kernel
theorem eX12_sends_10 : ino mX12_sends 10 = some (.isub, 11) := by decide +kernel
theorem eX12_sends_11 : ino mX12_sends 11 = some (.invokestatic 299, 14) := by decide +kernel
theorem eX12_sends_14 : ino mX12_sends 14 = some (.istore_n 3, 15) := by decide +kernel
theorem eX12_sends_15 : ino mX12_sends 15 = some (.aload_n 0, 16) := by decide +kernel
theorem eX12_sends_16 : ino mX12_sends 16 = some (.getfield 33, 19) := by decide +kernel
theorem eX12_sends_19 : ino mX12_sends 19 = some (.bipush 89, 21) := by decide +kernel
theorem eX12_sends_21 : ino mX12_sends 21 = some (.dup2, 22) := by decide +kernel
theorem eX12_sends_22 : ino mX12_sends 22 = some (.iaload, 23) := by decide +kernel
theorem eX12_sends_23 : ino mX12_sends 23 = some (.iload_n 3, 24) := by decide +kernel
theorem eX12_sends_24 : ino mX12_sends 24 = some (.iadd, 25) := by decide +kernel
theorem eX12_sends_25 : ino mX12_sends 25 = some (.iastore, 26) := by decide +kernel
theorem eX12_sends_26 : ino mX12_sends 26 = some (.aload_n 0, 27) := by decide +kernel
theorem eX12_sends_27 : ino mX12_sends 27 = some (.getfield 33, 30) := by decide +kernel
theorem eX12_sends_30 : ino mX12_sends 30 = some (.bipush 86, 32) := by decide +kernel
theorem eX12_sends_32 : ino mX12_sends 32 = some (.dup2, 33) := by decide +kernel
theorem eX12_sends_33 : ino mX12_sends 33 = some (.iaload, 34) := by decide +kernel
theorem eX12_sends_34 : ino mX12_sends 34 = some (.iload_n 3, 35) := by decide +kernel
theorem eX12_sends_35 : ino mX12_sends 35 = some (.aload_n 0, 36) := by decide +kernel
theorem eX12_sends_36 : ino mX12_sends 36 = some (.getfield 33, 39) := by decide +kernel
theorem eX12_sends_39 : ino mX12_sends 39 = some (.bipush 96, 41) := by decide +kernel
theorem eX12_sends_41 : ino mX12_sends 41 = some (.iload_n 1, 42) := by decide +kernel
theorem eX12_sends_42 : ino mX12_sends 42 = some (.iadd, 43) := by decide +kernel
theorem eX12_sends_43 : ino mX12_sends 43 = some (.iaload, 44) := by decide +kernel
theorem eX12_sends_44 : ino mX12_sends 44 = some (.aload_n 0, 45) := by decide +kernel
theorem eX12_sends_45 : ino mX12_sends 45 = some (.aload_n 0, 46) := by decide +kernel
theorem eX12_sends_46 : ino mX12_sends 46 = some (.getfield 33, 49) := by decide +kernel
theorem eX12_sends_49 : ino mX12_sends 49 = some (.bipush 88, 51) := by decide +kernel
theorem eX12_sends_51 : ino mX12_sends 51 = some (.iaload, 52) := by decide +kernel
theorem eX12_sends_52 : ino mX12_sends 52 = some (.invokevirtual 331, 55) := by decide +kernel
theorem eX12_sends_55 : ino mX12_sends 55 = some (.isub, 56) := by decide +kernel
theorem eX12_sends_56 : ino mX12_sends 56 = some (.invokestatic 299, 59) := by decide +kernel
theorem eX12_sends_59 : ino mX12_sends 59 = some (.imul, 60) := by decide +kernel
theorem eX12_sends_60 : ino mX12_sends 60 = some (.iadd, 61) := by decide +kernel
theorem eX12_sends_61 : ino mX12_sends 61 = some (.iastore, 62) := by decide +kernel
theorem eX12_sends_62 : ino mX12_sends 62 = some (.aload_n 0, 63) := by decide +kernel
theorem eX12_sends_63 : ino mX12_sends 63 = some (.getfield 33, 66) := by decide +kernel
theorem eX12_sends_66 : ino mX12_sends 66 = some (.bipush 90, 68) := by decide +kernel
theorem eX12_sends_68 : ino mX12_sends 68 = some (.iload_n 1, 69) := by decide +kernel
theorem eX12_sends_69 : ino mX12_sends 69 = some (.iadd, 70) := by decide +kernel
theorem eX12_sends_70 : ino mX12_sends 70 = some (.iload_n 2, 71) := by decide +kernel
theorem eX12_sends_71 : ino mX12_sends 71 = some (.iastore, 72) := by decide +kernel
theorem eX12_sends_72 : ino mX12_sends 72 = some (.aload_n 0, 73) := by decide +kernel
theorem eX12_sends_73 : ino mX12_sends 73 = some (.getfield 33, 76) := by decide +kernel
theorem eX12_sends_76 : ino mX12_sends 76 = some (.bipush 86, 78) := by decide +kernel
theorem eX12_sends_78 : ino mX12_sends 78 = some (.iaload, 79) := by decide +kernel
theorem eX12_sends_79 : ino mX12_sends 79 = some (.aload_n 0, 80) := by decide +kernel
theorem eX12_sends_80 : ino mX12_sends 80 = some (.getfield 33, 83) := by decide +kernel
theorem eX12_sends_83 : ino mX12_sends 83 = some (.iconst 3, 84) := by decide +kernel
theorem eX12_sends_84 : ino mX12_sends 84 = some (.iaload, 85) := by decide +kernel
theorem eX12_sends_85 : ino mX12_sends 85 = some (.if_icmp .ge 4, 89) := by decide +kernel
theorem eX12_sends_88 : ino mX12_sends 88 = some (.return_, 89) := by decide +kernel
theorem eX12_sends_89 : ino mX12_sends 89 = some (.aload_n 0, 90) := by decide +kernel
theorem eX12_sends_90 : ino mX12_sends 90 = some (.getfield 33, 93) := by decide +kernel
theorem eX12_sends_93 : ino mX12_sends 93 = some (.bipush 90, 95) := by decide +kernel
theorem eX12_sends_95 : ino mX12_sends 95 = some (.iload_n 1, 96) := by decide +kernel
theorem eX12_sends_96 : ino mX12_sends 96 = some (.iadd, 97) := by decide +kernel
theorem eX12_sends_97 : ino mX12_sends 97 = some (.iconst 0, 98) := by decide +kernel
theorem eX12_sends_98 : ino mX12_sends 98 = some (.iastore, 99) := by decide +kernel
theorem eX12_sends_99 : ino mX12_sends 99 = some (.aload_n 0, 100) := by decide +kernel
theorem eX12_sends_100 : ino mX12_sends 100 = some (.getfield 33, 103) := by decide +kernel
theorem eX12_sends_103 : ino mX12_sends 103 = some (.bipush 114, 105) := by decide +kernel
theorem eX12_sends_105 : ino mX12_sends 105 = some (.iload_n 1, 106) := by decide +kernel
theorem eX12_sends_106 : ino mX12_sends 106 = some (.iadd, 107) := by decide +kernel
theorem eX12_sends_107 : ino mX12_sends 107 = some (.dup2, 108) := by decide +kernel
theorem eX12_sends_108 : ino mX12_sends 108 = some (.iaload, 109) := by decide +kernel
theorem eX12_sends_109 : ino mX12_sends 109 = some (.iconst 1, 110) := by decide +kernel
theorem eX12_sends_110 : ino mX12_sends 110 = some (.iadd, 111) := by decide +kernel
theorem eX12_sends_111 : ino mX12_sends 111 = some (.iastore, 112) := by decide +kernel
theorem eX12_sends_112 : ino mX12_sends 112 = some (.aload_n 0, 113) := by decide +kernel
theorem eX12_sends_113 : ino mX12_sends 113 = some (.getfield 33, 116) := by decide +kernel
theorem eX12_sends_116 : ino mX12_sends 116 = some (.bipush 96, 118) := by decide +kernel
theorem eX12_sends_118 : ino mX12_sends 118 = some (.iload_n 1, 119) := by decide +kernel
theorem eX12_sends_119 : ino mX12_sends 119 = some (.iadd, 120) := by decide +kernel
theorem eX12_sends_120 : ino mX12_sends 120 = some (.bipush 60, 122) := by decide +kernel
theorem eX12_sends_122 : ino mX12_sends 122 = some (.aload_n 0, 123) := by decide +kernel
theorem eX12_sends_123 : ino mX12_sends 123 = some (.getfield 33, 126) := by decide +kernel
theorem eX12_sends_126 : ino mX12_sends 126 = some (.bipush 96, 128) := by decide +kernel
theorem eX12_sends_128 : ino mX12_sends 128 = some (.iload_n 1, 129) := by decide +kernel
theorem eX12_sends_129 : ino mX12_sends 129 = some (.iadd, 130) := by decide +kernel
theorem eX12_sends_130 : ino mX12_sends 130 = some (.iaload, 131) := by decide +kernel
theorem eX12_sends_131 : ino mX12_sends 131 = some (.iconst 2, 132) := by decide +kernel
theorem eX12_sends_132 : ino mX12_sends 132 = some (.iadd, 133) := by decide +kernel
theorem eX12_sends_133 : ino mX12_sends 133 = some (.invokestatic 337, 136) := by decide +kernel
theorem eX12_sends_136 : ino mX12_sends 136 = some (.iastore, 137) := by decide +kernel
theorem eX12_sends_137 : ino mX12_sends 137 = some (.aload_n 0, 138) := by decide +kernel
theorem eX12_sends_138 : ino mX12_sends 138 = some (.getfield 33, 141) := by decide +kernel
theorem eX12_sends_141 : ino mX12_sends 141 = some (.bipush 86, 143) := by decide +kernel
theorem eX12_sends_143 : ino mX12_sends 143 = some (.iconst 0, 144) := by decide +kernel
theorem eX12_sends_144 : ino mX12_sends 144 = some (.iastore, 145) := by decide +kernel
theorem eX12_sends_145 : ino mX12_sends 145 = some (.aload_n 0, 146) := by decide +kernel
theorem eX12_sends_146 : ino mX12_sends 146 = some (.getfield 33, 149) := by decide +kernel
theorem eX12_sends_149 : ino mX12_sends 149 = some (.bipush 87, 151) := by decide +kernel
theorem eX12_sends_151 : ino mX12_sends 151 = some (.dup2, 152) := by decide +kernel
theorem eX12_sends_152 : ino mX12_sends 152 = some (.iaload, 153) := by decide +kernel
theorem eX12_sends_153 : ino mX12_sends 153 = some (.iconst 1, 154) := by decide +kernel
theorem eX12_sends_154 : ino mX12_sends 154 = some (.iadd, 155) := by decide +kernel
theorem eX12_sends_155 : ino mX12_sends 155 = some (.iastore, 156) := by decide +kernel
theorem eX12_sends_156 : ino mX12_sends 156 = some (.return_, 157) := by decide +kernel
