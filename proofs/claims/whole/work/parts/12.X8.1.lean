theorem eX8_takeFloor_0 : ino mX8_takeFloor 0 = some (.aload_n 0, 1) := by decide +kernel
theorem eX8_takeFloor_1 : ino mX8_takeFloor 1 = some (.aload_n 1, 2) := by decide +kernel
theorem eX8_takeFloor_2 : ino mX8_takeFloor 2 = some (.invokevirtual 167, 5) := by decide +kernel
theorem eX8_takeFloor_5 : ino mX8_takeFloor 5 = some (.invokevirtual 182, 8) := by decide +kernel
theorem eX8_takeFloor_8 : ino mX8_takeFloor 8 = some (.istore_n 2, 9) := by decide +kernel
theorem eX8_takeFloor_9 : ino mX8_takeFloor 9 = some (.aload_n 1, 10) := by decide +kernel
theorem eX8_takeFloor_10 : ino mX8_takeFloor 10 = some (.iload_n 2, 11) := by decide +kernel
theorem eX8_takeFloor_11 : ino mX8_takeFloor 11 = some (.iconst (-1), 12) := by decide +kernel
theorem eX8_takeFloor_12 : ino mX8_takeFloor 12 = some (.if_icmp .eq 7, 19) := by decide +kernel
theorem eX8_takeFloor_15 : ino mX8_takeFloor 15 = some (.iconst 1, 16) := by decide +kernel
theorem eX8_takeFloor_16 : ino mX8_takeFloor 16 = some (.goto 4, 20) := by decide +kernel
theorem eX8_takeFloor_19 : ino mX8_takeFloor 19 = some (.iconst 0, 20) := by decide +kernel
theorem eX8_takeFloor_20 : ino mX8_takeFloor 20 = some (.invokevirtual 178, 23) := by decide +kernel
theorem eX8_takeFloor_23 : ino mX8_takeFloor 23 = some (.iload_n 2, 24) := by decide +kernel
theorem eX8_takeFloor_24 : ino mX8_takeFloor 24 = some (.ireturn, 25) := by decide +kernel
theorem eX8_takeChild_0 : ino mX8_takeChild 0 = some (.aload_n 0, 1) := by decide +kernel
theorem eX8_takeChild_1 : ino mX8_takeChild 1 = some (.aload_n 1, 2) := by decide +kernel
theorem eX8_takeChild_2 : ino mX8_takeChild 2 = some (.invokevirtual 167, 5) := by decide +kernel
theorem eX8_takeChild_5 : ino mX8_takeChild 5 = some (.invokevirtual 171, 8) := by decide +kernel
theorem eX8_takeChild_8 : ino mX8_takeChild 8 = some (.istore_n 2, 9) := by decide +kernel
theorem eX8_takeChild_9 : ino mX8_takeChild 9 = some (.aload_n 1, 10) := by decide +kernel
theorem eX8_takeChild_10 : ino mX8_takeChild 10 = some (.iload_n 2, 11) := by decide +kernel
theorem eX8_takeChild_11 : ino mX8_takeChild 11 = some (.iconst (-1), 12) := by decide +kernel
theorem eX8_takeChild_12 : ino mX8_takeChild 12 = some (.if_icmp .eq 7, 19) := by decide +kernel
theorem eX8_takeChild_15 : ino mX8_takeChild 15 = some (.iconst 1, 16) := by decide +kernel
theorem eX8_takeChild_16 : ino mX8_takeChild 16 = some (.goto 4, 20) := by decide +kernel
theorem eX8_takeChild_19 : ino mX8_takeChild 19 = some (.iconst 0, 20) := by decide +kernel
theorem eX8_takeChild_20 : ino mX8_takeChild 20 = some (.invokevirtual 178, 23) := by decide +kernel
theorem eX8_takeChild_23 : ino mX8_takeChild 23 = some (.iload_n 2, 24) := by decide +kernel
theorem eX8_takeChild_24 : ino mX8_takeChild 24 = some (.ireturn, 25) := by decide +kernel
theorem eX8_takeUncle_0 : ino mX8_takeUncle 0 = some (.aload_n 0, 1) := by decide +kernel
theorem eX8_takeUncle_1 : ino mX8_takeUncle 1 = some (.aload_n 1, 2) := by decide +kernel
theorem eX8_takeUncle_2 : ino mX8_takeUncle 2 = some (.invokevirtual 167, 5) := by decide +kernel
theorem eX8_takeUncle_5 : ino mX8_takeUncle 5 = some (.invokevirtual 185, 8) := by decide +kernel
theorem eX8_takeUncle_8 : ino mX8_takeUncle 8 = some (.istore_n 2, 9) := by decide +kernel
theorem eX8_takeUncle_9 : ino mX8_takeUncle 9 = some (.aload_n 1, 10) := by decide +kernel
theorem eX8_takeUncle_10 : ino mX8_takeUncle 10 = some (.iload_n 2, 11) := by decide +kernel
theorem eX8_takeUncle_11 : ino mX8_takeUncle 11 = some (.iconst (-1), 12) := by decide +kernel
theorem eX8_takeUncle_12 : ino mX8_takeUncle 12 = some (.if_icmp .eq 7, 19) := by decide +kernel
theorem eX8_takeUncle_15 : ino mX8_takeUncle 15 = some (.iconst 1, 16) := by decide +kernel
theorem eX8_takeUncle_16 : ino mX8_takeUncle 16 = some (.goto 4, 20) := by decide +kernel
theorem eX8_takeUncle_19 : ino mX8_takeUncle 19 = some (.iconst 0, 20) := by decide +kernel
theorem eX8_takeUncle_20 : ino mX8_takeUncle 20 = some (.invokevirtual 178, 23) := by decide +kernel
theorem eX8_takeUncle_23 : ino mX8_takeUncle 23 = some (.iload_n 2, 24) := by decide +kernel
theorem eX8_takeUncle_24 : ino mX8_takeUncle 24 = some (.ireturn, 25) := by decide +kernel
theorem eX8_takeFloorOrCellar_0 : ino mX8_takeFloorOrCellar 0 = some (.aload_n 1, 1) := by decide +kernel
theorem eX8_takeFloorOrCellar_1 : ino mX8_takeFloorOrCellar 1 = some (.getstatic 188, 4) := by decide +kernel
theorem eX8_takeFloorOrCellar_4 : ino mX8_takeFloorOrCellar 4 = some (.invokevirtual 142, 7) := by decide +kernel
theorem eX8_takeFloorOrCellar_7 : ino mX8_takeFloorOrCellar 7 = some (.ifCond .eq 5, 12) := by decide +kernel
theorem eX8_takeFloorOrCellar_10 : ino mX8_takeFloorOrCellar 10 = some (.iconst 0, 11) := by decide +kernel
theorem eX8_takeFloorOrCellar_11 : ino mX8_takeFloorOrCellar 11 = some (.ireturn, 12) := by decide +kernel
theorem eX8_takeFloorOrCellar_12 : ino mX8_takeFloorOrCellar 12 = some (.aload_n 0, 13) := by decide +kernel
theorem eX8_takeFloorOrCellar_13 : ino mX8_takeFloorOrCellar 13 = some (.aload_n 1, 14) := by decide +kernel
theorem eX8_takeFloorOrCellar_14 : ino mX8_takeFloorOrCellar 14 = some (.invokevirtual 167, 17) := by decide +kernel
theorem eX8_takeFloorOrCellar_17 : ino mX8_takeFloorOrCellar 17 = some (.invokevirtual 182, 20) := by decide +kernel
theorem eX8_takeFloorOrCellar_20 : ino mX8_takeFloorOrCellar 20 = some (.istore_n 2, 21) := by decide +kernel
theorem eX8_takeFloorOrCellar_21 : ino mX8_takeFloorOrCellar 21 = some (.aload_n 1, 22) := by decide +kernel
theorem eX8_takeFloorOrCellar_22 : ino mX8_takeFloorOrCellar 22 = some (.iload_n 2, 23) := by decide +kernel
theorem eX8_takeFloorOrCellar_23 : ino mX8_takeFloorOrCellar 23 = some (.iconst (-1), 24) := by decide +kernel
theorem eX8_takeFloorOrCellar_24 : ino mX8_takeFloorOrCellar 24 = some (.if_icmp .eq 7, 31) := by decide +kernel
theorem eX8_takeFloorOrCellar_27 : ino mX8_takeFloorOrCellar 27 = some (.iconst 1, 28) := by decide +kernel
theorem eX8_takeFloorOrCellar_28 : ino mX8_takeFloorOrCellar 28 = some (.goto 4, 32) := by decide +kernel
theorem eX8_takeFloorOrCellar_31 : ino mX8_takeFloorOrCellar 31 = some (.iconst 0, 32) := by decide +kernel
theorem eX8_takeFloorOrCellar_32 : ino mX8_takeFloorOrCellar 32 = some (.invokevirtual 178, 35) := by decide +kernel
theorem eX8_takeFloorOrCellar_35 : ino mX8_takeFloorOrCellar 35 = some (.iload_n 2, 36) := by decide +kernel
theorem eX8_takeFloorOrCellar_36 : ino mX8_takeFloorOrCellar 36 = some (.ireturn, 37) := by decide +kernel
theorem eX8_floorNamed_0 : ino mX8_floorNamed 0 = some (.iconst 1, 1) := by decide +kernel
theorem eX8_floorNamed_1 : ino mX8_floorNamed 1 = some (.istore_n 3, 2) := by decide +kernel
theorem eX8_floorNamed_2 : ino mX8_floorNamed 2 = some (.iload_n 3, 3) := by decide +kernel
theorem eX8_floorNamed_3 : ino mX8_floorNamed 3 = some (.aload_n 0, 4) := by decide +kernel
theorem eX8_floorNamed_4 : ino mX8_floorNamed 4 = some (.getfield 9, 7) := by decide +kernel
theorem eX8_floorNamed_7 : ino mX8_floorNamed 7 = some (.if_icmp .gt 22, 29) := by decide +kernel
theorem eX8_floorNamed_10 : ino mX8_floorNamed 10 = some (.aload_n 0, 11) := by decide +kernel
theorem eX8_floorNamed_11 : ino mX8_floorNamed 11 = some (.getfield 25, 14) := by decide +kernel
theorem eX8_floorNamed_14 : ino mX8_floorNamed 14 = some (.iload_n 3, 15) := by decide +kernel
theorem eX8_floorNamed_15 : ino mX8_floorNamed 15 = some (.laload, 16) := by decide +kernel
theorem eX8_floorNamed_16 : ino mX8_floorNamed 16 = some (.lload_n 1, 17) := by decide +kernel
theorem eX8_floorNamed_17 : ino mX8_floorNamed 17 = some (.lcmp, 18) := by decide +kernel
theorem eX8_floorNamed_18 : ino mX8_floorNamed 18 = some (.ifCond .ne 5, 23) := by decide +kernel
theorem eX8_floorNamed_21 : ino mX8_floorNamed 21 = some (.iload_n 3, 22) := by decide +kernel
theorem eX8_floorNamed_22 : ino mX8_floorNamed 22 = some (.ireturn, 23) := by decide +kernel
theorem eX8_floorNamed_23 : ino mX8_floorNamed 23 = some (.iinc 3 1, 26) := by decide +kernel
theorem eX8_floorNamed_26 : ino mX8_floorNamed 26 = some (.goto (-24), 2) := by decide +kernel
theorem eX8_floorNamed_29 : ino mX8_floorNamed 29 = some (.iconst (-1), 30) := by decide +kernel
theorem eX8_floorNamed_30 : ino mX8_floorNamed 30 = some (.ireturn, 31) := by decide +kernel
theorem eX8_childNamed_0 : ino mX8_childNamed 0 = some (.iconst 0, 1) := by decide +kernel
theorem eX8_childNamed_1 : ino mX8_childNamed 1 = some (.istore_n 3, 2) := by decide +kernel
theorem eX8_childNamed_2 : ino mX8_childNamed 2 = some (.iload_n 3, 3) := by decide +kernel
theorem eX8_childNamed_3 : ino mX8_childNamed 3 = some (.aload_n 0, 4) := by decide +kernel
theorem eX8_childNamed_4 : ino mX8_childNamed 4 = some (.getfield 29, 7) := by decide +kernel
theorem eX8_childNamed_7 : ino mX8_childNamed 7 = some (.if_icmp .ge 22, 29) := by decide +kernel
theorem eX8_childNamed_10 : ino mX8_childNamed 10 = some (.aload_n 0, 11) := by decide +kernel
theorem eX8_childNamed_11 : ino mX8_childNamed 11 = some (.getfield 35, 14) := by decide +kernel
theorem eX8_childNamed_14 : ino mX8_childNamed 14 = some (.iload_n 3, 15) := by decide +kernel
theorem eX8_childNamed_15 : ino mX8_childNamed 15 = some (.laload, 16) := by decide +kernel
theorem eX8_childNamed_16 : ino mX8_childNamed 16 = some (.lload_n 1, 17) := by decide +kernel
theorem eX8_childNamed_17 : ino mX8_childNamed 17 = some (.lcmp, 18) := by decide +kernel
theorem eX8_childNamed_18 : ino mX8_childNamed 18 = some (.ifCond .ne 5, 23) := by decide +kernel
theorem eX8_childNamed_21 : ino mX8_childNamed 21 = some (.iload_n 3, 22) := by decide +kernel
theorem eX8_childNamed_22 : ino mX8_childNamed 22 = some (.ireturn, 23) := by decide +kernel
theorem eX8_childNamed_23 : ino mX8_childNamed 23 = some (.iinc 3 1, 26) := by decide +kernel
theorem eX8_childNamed_26 : ino mX8_childNamed 26 = some (.goto (-24), 2) := by decide +kernel
theorem eX8_childNamed_29 : ino mX8_childNamed 29 = some (.iconst (-1), 30) := by decide +kernel
theorem eX8_childNamed_30 : ino mX8_childNamed 30 = some (.ireturn, 31) := by decide +kernel
theorem eX8_uncleNamed_0 : ino mX8_uncleNamed 0 = some (.iconst 0, 1) := by decide +kernel
theorem eX8_uncleNamed_1 : ino mX8_uncleNamed 1 = some (.istore_n 3, 2) := by decide +kernel
theorem eX8_uncleNamed_2 : ino mX8_uncleNamed 2 = some (.iload_n 3, 3) := by decide +kernel
theorem eX8_uncleNamed_3 : ino mX8_uncleNamed 3 = some (.aload_n 0, 4) := by decide +kernel
theorem eX8_uncleNamed_4 : ino mX8_uncleNamed 4 = some (.getfield 38, 7) := by decide +kernel
theorem eX8_uncleNamed_7 : ino mX8_uncleNamed 7 = some (.if_icmp .ge 22, 29) := by decide +kernel
theorem eX8_uncleNamed_10 : ino mX8_uncleNamed 10 = some (.aload_n 0, 11) := by decide +kernel
theorem eX8_uncleNamed_11 : ino mX8_uncleNamed 11 = some (.getfield 44, 14) := by decide +kernel
theorem eX8_uncleNamed_14 : ino mX8_uncleNamed 14 = some (.iload_n 3, 15) := by decide +kernel
theorem eX8_uncleNamed_15 : ino mX8_uncleNamed 15 = some (.laload, 16) := by decide +kernel
theorem eX8_uncleNamed_16 : ino mX8_uncleNamed 16 = some (.lload_n 1, 17) := by decide +kernel
theorem eX8_uncleNamed_17 : ino mX8_uncleNamed 17 = some (.lcmp, 18) := by decide +kernel
theorem eX8_uncleNamed_18 : ino mX8_uncleNamed 18 = some (.ifCond .ne 5, 23) := by decide +kernel
theorem eX8_uncleNamed_21 : ino mX8_uncleNamed 21 = some (.iload_n 3, 22) := by decide +kernel
theorem eX8_uncleNamed_22 : ino mX8_uncleNamed 22 = some (.ireturn, 23) := by decide +kernel
theorem eX8_uncleNamed_23 : ino mX8_uncleNamed 23 = some (.iinc 3 1, 26) := by decide +kernel
theorem eX8_uncleNamed_26 : ino mX8_uncleNamed 26 = some (.goto (-24), 2) := by decide +kernel
theorem eX8_uncleNamed_29 : ino mX8_uncleNamed 29 = some (.iconst (-1), 30) := by decide +kernel
theorem eX8_uncleNamed_30 : ino mX8_uncleNamed 30 = some (.ireturn, 31) := by decide +kernel
