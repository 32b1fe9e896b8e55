theorem eX11_said_0 : ino mX11_said 0 = some (.aload_n 0, 1) := by decide +kernel
theorem eX11_said_1 : ino mX11_said 1 = some (.getfield 50, 4) := by decide +kernel
theorem eX11_said_4 : ino mX11_said 4 = some (.getfield 399, 7) := by decide +kernel
theorem eX11_said_7 : ino mX11_said 7 = some (.ifCond .ne 5, 12) := by decide +kernel
theorem eX11_said_10 : ino mX11_said 10 = some (.iconst (-1), 11) := by decide +kernel
theorem eX11_said_11 : ino mX11_said 11 = some (.ireturn, 12) := by decide +kernel
theorem eX11_said_12 : ino mX11_said 12 = some (.iconst 0, 13) := by decide +kernel
theorem eX11_said_13 : ino mX11_said 13 = some (.istore_n 2, 14) := by decide +kernel
theorem eX11_said_14 : ino mX11_said 14 = some (.iconst 0, 15) := by decide +kernel
theorem eX11_said_15 : ino mX11_said 15 = some (.istore_n 3, 16) := by decide +kernel
theorem eX11_said_16 : ino mX11_said 16 = some (.iload_n 3, 17) := by decide +kernel
theorem eX11_said_17 : ino mX11_said 17 = some (.aload_n 0, 18) := by decide +kernel
theorem eX11_said_18 : ino mX11_said 18 = some (.getfield 30, 21) := by decide +kernel
theorem eX11_said_21 : ino mX11_said 21 = some (.getfield 142, 24) := by decide +kernel
theorem eX11_said_24 : ino mX11_said 24 = some (.if_icmp .ge 38, 62) := by decide +kernel
theorem eX11_said_27 : ino mX11_said 27 = some (.aload_n 0, 28) := by decide +kernel
theorem eX11_said_28 : ino mX11_said 28 = some (.getfield 50, 31) := by decide +kernel
theorem eX11_said_31 : ino mX11_said 31 = some (.aload_n 0, 32) := by decide +kernel
theorem eX11_said_32 : ino mX11_said 32 = some (.getfield 30, 35) := by decide +kernel
theorem eX11_said_35 : ino mX11_said 35 = some (.aload_n 0, 36) := by decide +kernel
theorem eX11_said_36 : ino mX11_said 36 = some (.getfield 40, 39) := by decide +kernel
theorem eX11_said_39 : ino mX11_said 39 = some (.iload_n 3, 40) := by decide +kernel
theorem eX11_said_40 : ino mX11_said 40 = some (.invokevirtual 400, 43) := by decide +kernel
theorem eX11_said_43 : ino mX11_said 43 = some (.ifCond .eq 13, 56) := by decide +kernel
theorem eX11_said_46 : ino mX11_said 46 = some (.iload_n 2, 47) := by decide +kernel
theorem eX11_said_47 : ino mX11_said 47 = some (.iload_n 1, 48) := by decide +kernel
theorem eX11_said_48 : ino mX11_said 48 = some (.if_icmp .ne 5, 53) := by decide +kernel
theorem eX11_said_51 : ino mX11_said 51 = some (.iload_n 3, 52) := by decide +kernel
theorem eX11_said_52 : ino mX11_said 52 = some (.ireturn, 53) := by decide +kernel
theorem eX11_said_53 : ino mX11_said 53 = some (.iinc 2 1, 56) := by decide +kernel
theorem eX11_said_56 : ino mX11_said 56 = some (.iinc 3 1, 59) := by decide +kernel
theorem eX11_said_59 : ino mX11_said 59 = some (.goto (-43), 16) := by decide +kernel
theorem eX11_said_62 : ino mX11_said 62 = some (.iload_n 1, 63) := by decide +kernel
theorem eX11_said_63 : ino mX11_said 63 = some (.iconst (-1), 64) := by decide +kernel
theorem eX11_said_64 : ino mX11_said 64 = some (.if_icmp .ne 7, 71) := by decide +kernel
theorem eX11_said_67 : ino mX11_said 67 = some (.iload_n 2, 68) := by decide +kernel
theorem eX11_said_68 : ino mX11_said 68 = some (.goto 4, 72) := by decide +kernel
theorem eX11_said_71 : ino mX11_said 71 = some (.iconst (-1), 72) := by decide +kernel
theorem eX11_said_72 : ino mX11_said 72 = some (.ireturn, 73) := by decide +kernel
theorem eX11_image_0 : ino mX11_image 0 = some (.iload_n 1, 1) := by decide +kernel
theorem eX11_image_1 : ino mX11_image 1 = some (.ifCond .lt 12, 13) := by decide +kernel
theorem eX11_image_4 : ino mX11_image 4 = some (.iload_n 1, 5) := by decide +kernel
theorem eX11_image_5 : ino mX11_image 5 = some (.aload_n 0, 6) := by decide +kernel
theorem eX11_image_6 : ino mX11_image 6 = some (.getfield 67, 9) := by decide +kernel
theorem eX11_image_9 : ino mX11_image 9 = some (.arraylength, 10) := by decide +kernel
theorem eX11_image_10 : ino mX11_image 10 = some (.if_icmp .lt 5, 15) := by decide +kernel
theorem eX11_image_13 : ino mX11_image 13 = some (.iconst 0, 14) := by decide +kernel
theorem eX11_image_14 : ino mX11_image 14 = some (.ireturn, 15) := by decide +kernel
theorem eX11_image_15 : ino mX11_image 15 = some (.aload_n 0, 16) := by decide +kernel
theorem eX11_image_16 : ino mX11_image 16 = some (.getfield 67, 19) := by decide +kernel
theorem eX11_image_19 : ino mX11_image 19 = some (.iload_n 1, 20) := by decide +kernel
theorem eX11_image_20 : ino mX11_image 20 = some (.aaload, 21) := by decide +kernel
theorem eX11_image_21 : ino mX11_image 21 = some (.aload_n 0, 22) := by decide +kernel
theorem eX11_image_22 : ino mX11_image 22 = some (.getfield 30, 25) := by decide +kernel
theorem eX11_image_25 : ino mX11_image 25 = some (.aload_n 0, 26) := by decide +kernel
theorem eX11_image_26 : ino mX11_image 26 = some (.getfield 40, 29) := by decide +kernel
theorem eX11_image_29 : ino mX11_image 29 = some (.aload_n 0, 30) := by decide +kernel
theorem eX11_image_30 : ino mX11_image 30 = some (.getfield 50, 33) := by decide +kernel
theorem eX11_image_33 : ino mX11_image 33 = some (.invokevirtual 404, 36) := by decide +kernel
theorem eX11_image_36 : ino mX11_image 36 = some (.iconst 1, 37) := by decide +kernel
theorem eX11_image_37 : ino mX11_image 37 = some (.ireturn, 38) := by decide +kernel
theorem eX11_restore_0 : ino mX11_restore 0 = some (.iload_n 1, 1) := by decide +kernel
theorem eX11_restore_1 : ino mX11_restore 1 = some (.ifCond .lt 24, 25) := by decide +kernel
theorem eX11_restore_4 : ino mX11_restore 4 = some (.iload_n 1, 5) := by decide +kernel
theorem eX11_restore_5 : ino mX11_restore 5 = some (.aload_n 0, 6) := by decide +kernel
theorem eX11_restore_6 : ino mX11_restore 6 = some (.getfield 67, 9) := by decide +kernel
theorem eX11_restore_9 : ino mX11_restore 9 = some (.arraylength, 10) := by decide +kernel
theorem eX11_restore_10 : ino mX11_restore 10 = some (.if_icmp .ge 15, 25) := by decide +kernel
theorem eX11_restore_13 : ino mX11_restore 13 = some (.aload_n 0, 14) := by decide +kernel
theorem eX11_restore_14 : ino mX11_restore 14 = some (.getfield 67, 17) := by decide +kernel
theorem eX11_restore_17 : ino mX11_restore 17 = some (.iload_n 1, 18) := by decide +kernel
theorem eX11_restore_18 : ino mX11_restore 18 = some (.aaload, 19) := by decide +kernel
theorem eX11_restore_19 : ino mX11_restore 19 = some (.getfield 408, 22) := by decide +kernel
theorem eX11_restore_22 : ino mX11_restore 22 = some (.ifCond .ne 5, 27) := by decide +kernel
theorem eX11_restore_25 : ino mX11_restore 25 = some (.iconst 0, 26) := by decide +kernel
theorem eX11_restore_26 : ino mX11_restore 26 = some (.ireturn, 27) := by decide +kernel
theorem eX11_restore_27 : ino mX11_restore 27 = some (.aload_n 0, 28) := by decide +kernel
theorem eX11_restore_28 : ino mX11_restore 28 = some (.getfield 67, 31) := by decide +kernel
theorem eX11_restore_31 : ino mX11_restore 31 = some (.iload_n 1, 32) := by decide +kernel
theorem eX11_restore_32 : ino mX11_restore 32 = some (.aaload, 33) := by decide +kernel
theorem eX11_restore_33 : ino mX11_restore 33 = some (.aload_n 0, 34) := by decide +kernel
theorem eX11_restore_34 : ino mX11_restore 34 = some (.getfield 30, 37) := by decide +kernel
theorem eX11_restore_37 : ino mX11_restore 37 = some (.aload_n 0, 38) := by decide +kernel
theorem eX11_restore_38 : ino mX11_restore 38 = some (.getfield 40, 41) := by decide +kernel
theorem eX11_restore_41 : ino mX11_restore 41 = some (.aload_n 0, 42) := by decide +kernel
theorem eX11_restore_42 : ino mX11_restore 42 = some (.getfield 50, 45) := by decide +kernel
theorem eX11_restore_45 : ino mX11_restore 45 = some (.invokevirtual 412, 48) := by decide +kernel
theorem eX11_restore_48 : ino mX11_restore 48 = some (.aload_n 0, 49) := by decide +kernel
theorem eX11_restore_49 : ino mX11_restore 49 = some (.getfield 60, 52) := by decide +kernel
theorem eX11_restore_52 : ino mX11_restore 52 = some (.invokevirtual 141, 55) := by decide +kernel
theorem eX11_restore_55 : ino mX11_restore 55 = some (.iconst 1, 56) := by decide +kernel
theorem eX11_restore_56 : ino mX11_restore 56 = some (.ireturn, 57) := by decide +kernel
theorem eX11_count_0 : ino mX11_count 0 = some (.iload_n 1, 1) := by decide +kernel
theorem eX11_count_1 : decode mX11_count.2.1 1 = .ok (.tableswitch 84 0 5 #[39, 47, 55, 63, 71, 79], 39) := by decide +kernel
theorem eX11_count_40 : ino mX11_count 40 = some (.aload_n 0, 41) := by decide +kernel
theorem eX11_count_41 : ino mX11_count 41 = some (.getfield 30, 44) := by decide +kernel
theorem eX11_count_44 : ino mX11_count 44 = some (.getfield 145, 47) := by decide +kernel
theorem eX11_count_47 : ino mX11_count 47 = some (.ireturn, 48) := by decide +kernel
theorem eX11_count_48 : ino mX11_count 48 = some (.aload_n 0, 49) := by decide +kernel
theorem eX11_count_49 : ino mX11_count 49 = some (.getfield 30, 52) := by decide +kernel
theorem eX11_count_52 : ino mX11_count 52 = some (.getfield 142, 55) := by decide +kernel
theorem eX11_count_55 : ino mX11_count 55 = some (.ireturn, 56) := by decide +kernel
theorem eX11_count_56 : ino mX11_count 56 = some (.aload_n 0, 57) := by decide +kernel
theorem eX11_count_57 : ino mX11_count 57 = some (.getfield 30, 60) := by decide +kernel
theorem eX11_count_60 : ino mX11_count 60 = some (.getfield 148, 63) := by decide +kernel
theorem eX11_count_63 : ino mX11_count 63 = some (.ireturn, 64) := by decide +kernel
theorem eX11_count_64 : ino mX11_count 64 = some (.aload_n 0, 65) := by decide +kernel
theorem eX11_count_65 : ino mX11_count 65 = some (.getfield 30, 68) := by decide +kernel
theorem eX11_count_68 : ino mX11_count 68 = some (.getfield 310, 71) := by decide +kernel
theorem eX11_count_71 : ino mX11_count 71 = some (.ireturn, 72) := by decide +kernel
theorem eX11_count_72 : ino mX11_count 72 = some (.aload_n 0, 73) := by decide +kernel
theorem eX11_count_73 : ino mX11_count 73 = some (.getfield 30, 76) := by decide +kernel
theorem eX11_count_76 : ino mX11_count 76 = some (.getfield 415, 79) := by decide +kernel
theorem eX11_count_79 : ino mX11_count 79 = some (.ireturn, 80) := by decide +kernel
theorem eX11_count_80 : ino mX11_count 80 = some (.aload_n 0, 81) := by decide +kernel
theorem eX11_count_81 : ino mX11_count 81 = some (.getfield 13, 84) := by decide +kernel
theorem eX11_count_84 : ino mX11_count 84 = some (.ireturn, 85) := by decide +kernel
theorem eX11_count_85 : ino mX11_count 85 = some (.iconst (-1), 86) := by decide +kernel
theorem eX11_count_86 : ino mX11_count 86 = some (.ireturn, 87) := by decide +kernel
