theorem eX1_init_0 : ino mX1_init 0 = some (.aload_n 0, 1) := by decide +kernel
theorem eX1_init_1 : ino mX1_init 1 = some (.invokespecial 3, 4) := by decide +kernel
theorem eX1_init_4 : ino mX1_init 4 = some (.aload_n 0, 5) := by decide +kernel
theorem eX1_init_5 : ino mX1_init 5 = some (.bipush 40, 7) := by decide +kernel
theorem eX1_init_7 : ino mX1_init 7 = some (.newarray .int, 9) := by decide +kernel
theorem eX1_init_9 : ino mX1_init 9 = some (.putfield 11, 12) := by decide +kernel
theorem eX1_init_12 : ino mX1_init 12 = some (.aload_n 0, 13) := by decide +kernel
theorem eX1_init_13 : ino mX1_init 13 = some (.bipush 40, 15) := by decide +kernel
theorem eX1_init_15 : ino mX1_init 15 = some (.newarray .int, 17) := by decide +kernel
theorem eX1_init_17 : ino mX1_init 17 = some (.putfield 15, 20) := by decide +kernel
theorem eX1_init_20 : ino mX1_init 20 = some (.aload_n 0, 21) := by decide +kernel
theorem eX1_init_21 : ino mX1_init 21 = some (.bipush 40, 23) := by decide +kernel
theorem eX1_init_23 : ino mX1_init 23 = some (.newarray .int, 25) := by decide +kernel
theorem eX1_init_25 : ino mX1_init 25 = some (.putfield 18, 28) := by decide +kernel
theorem eX1_init_28 : ino mX1_init 28 = some (.aload_n 0, 29) := by decide +kernel
theorem eX1_init_29 : ino mX1_init 29 = some (.iconst 0, 30) := by decide +kernel
theorem eX1_init_30 : ino mX1_init 30 = some (.putfield 21, 33) := by decide +kernel
theorem eX1_init_33 : ino mX1_init 33 = some (.aload_n 0, 34) := by decide +kernel
theorem eX1_init_34 : ino mX1_init 34 = some (.iconst (-1), 35) := by decide +kernel
theorem eX1_init_35 : ino mX1_init 35 = some (.putfield 25, 38) := by decide +kernel
theorem eX1_init_38 : ino mX1_init 38 = some (.aload_n 0, 39) := by decide +kernel
theorem eX1_init_39 : ino mX1_init 39 = some (.iconst (-1), 40) := by decide +kernel
theorem eX1_init_40 : ino mX1_init 40 = some (.putfield 28, 43) := by decide +kernel
theorem eX1_init_43 : ino mX1_init 43 = some (.aload_n 0, 44) := by decide +kernel
theorem eX1_init_44 : ino mX1_init 44 = some (.iconst (-1), 45) := by decide +kernel
theorem eX1_init_45 : ino mX1_init 45 = some (.putfield 31, 48) := by decide +kernel
theorem eX1_init_48 : ino mX1_init 48 = some (.aload_n 0, 49) := by decide +kernel
theorem eX1_init_49 : ino mX1_init 49 = some (.iconst (-1), 50) := by decide +kernel
theorem eX1_init_50 : ino mX1_init 50 = some (.putfield 34, 53) := by decide +kernel
theorem eX1_init_53 : ino mX1_init 53 = some (.return_, 54) := by decide +kernel
theorem eX1_readFrom_0 : ino mX1_readFrom 0 = some (.aload_n 0, 1) := by decide +kernel
theorem eX1_readFrom_1 : ino mX1_readFrom 1 = some (.iconst 0, 2) := by decide +kernel
theorem eX1_readFrom_2 : ino mX1_readFrom 2 = some (.putfield 21, 5) := by decide +kernel
theorem eX1_readFrom_5 : ino mX1_readFrom 5 = some (.iconst 0, 6) := by decide +kernel
theorem eX1_readFrom_6 : ino mX1_readFrom 6 = some (.istore_n 3, 7) := by decide +kernel
theorem eX1_readFrom_7 : ino mX1_readFrom 7 = some (.iload_n 3, 8) := by decide +kernel
theorem eX1_readFrom_8 : ino mX1_readFrom 8 = some (.bipush 40, 10) := by decide +kernel
theorem eX1_readFrom_10 : ino mX1_readFrom 10 = some (.if_icmp .gt 35, 45) := by decide +kernel
theorem eX1_readFrom_13 : ino mX1_readFrom 13 = some (.aload_n 1, 14) := by decide +kernel
theorem eX1_readFrom_14 : ino mX1_readFrom 14 = some (.invokevirtual 37, 17) := by decide +kernel
theorem eX1_readFrom_17 : ino mX1_readFrom 17 = some (.ifCond .ne 28, 45) := by decide +kernel
theorem eX1_readFrom_20 : ino mX1_readFrom 20 = some (.aload_n 1, 21) := by decide +kernel
theorem eX1_readFrom_21 : ino mX1_readFrom 21 = some (.invokevirtual 43, 24) := by decide +kernel
theorem eX1_readFrom_24 : ino mX1_readFrom 24 = some (.ifCond .ne 21, 45) := by decide +kernel
theorem eX1_readFrom_27 : ino mX1_readFrom 27 = some (.aload_n 0, 28) := by decide +kernel
theorem eX1_readFrom_28 : ino mX1_readFrom 28 = some (.aload_n 1, 29) := by decide +kernel
theorem eX1_readFrom_29 : ino mX1_readFrom 29 = some (.aload_n 2, 30) := by decide +kernel
theorem eX1_readFrom_30 : ino mX1_readFrom 30 = some (.invokevirtual 46, 33) := by decide +kernel
theorem eX1_readFrom_33 : ino mX1_readFrom 33 = some (.aload_n 1, 34) := by decide +kernel
theorem eX1_readFrom_34 : ino mX1_readFrom 34 = some (.bipush 59, 36) := by decide +kernel
theorem eX1_readFrom_36 : ino mX1_readFrom 36 = some (.invokevirtual 50, 39) := by decide +kernel
theorem eX1_readFrom_39 : ino mX1_readFrom 39 = some (.iinc 3 1, 42) := by decide +kernel
theorem eX1_readFrom_42 : ino mX1_readFrom 42 = some (.goto (-35), 7) := by decide +kernel
theorem eX1_readFrom_45 : ino mX1_readFrom 45 = some (.aload_n 1, 46) := by decide +kernel
theorem eX1_readFrom_46 : ino mX1_readFrom 46 = some (.invokevirtual 54, 49) := by decide +kernel
theorem eX1_readFrom_49 : ino mX1_readFrom 49 = some (.return_, 50) := by decide +kernel
theorem eX1_readLine_0 : ino mX1_readLine 0 = some (.aload_n 1, 1) := by decide +kernel
theorem eX1_readLine_1 : ino mX1_readLine 1 = some (.invokestatic 57, 4) := by decide +kernel
theorem eX1_readLine_4 : ino mX1_readLine 4 = some (.istore_n 3, 5) := by decide +kernel
theorem eX1_readLine_5 : ino mX1_readLine 5 = some (.iload_n 3, 6) := by decide +kernel
theorem eX1_readLine_6 : ino mX1_readLine 6 = some (.iconst (-1), 7) := by decide +kernel
theorem eX1_readLine_7 : ino mX1_readLine 7 = some (.if_icmp .ne 9, 16) := by decide +kernel
theorem eX1_readLine_10 : ino mX1_readLine 10 = some (.aload_n 1, 11) := by decide +kernel
theorem eX1_readLine_11 : ino mX1_readLine 11 = some (.iconst 1, 12) := by decide +kernel
theorem eX1_readLine_12 : ino mX1_readLine 12 = some (.invokevirtual 61, 15) := by decide +kernel
theorem eX1_readLine_15 : ino mX1_readLine 15 = some (.return_, 16) := by decide +kernel
theorem eX1_readLine_16 : ino mX1_readLine 16 = some (.aload_n 0, 17) := by decide +kernel
theorem eX1_readLine_17 : ino mX1_readLine 17 = some (.getfield 21, 20) := by decide +kernel
theorem eX1_readLine_20 : ino mX1_readLine 20 = some (.bipush 40, 22) := by decide +kernel
theorem eX1_readLine_22 : ino mX1_readLine 22 = some (.if_icmp .lt 9, 31) := by decide +kernel
theorem eX1_readLine_25 : ino mX1_readLine 25 = some (.aload_n 1, 26) := by decide +kernel
theorem eX1_readLine_26 : ino mX1_readLine 26 = some (.iconst 4, 27) := by decide +kernel
theorem eX1_readLine_27 : ino mX1_readLine 27 = some (.invokevirtual 61, 30) := by decide +kernel
theorem eX1_readLine_30 : ino mX1_readLine 30 = some (.return_, 31) := by decide +kernel
theorem eX1_readLine_31 : ino mX1_readLine 31 = some (.aload_n 1, 32) := by decide +kernel
theorem eX1_readLine_32 : ino mX1_readLine 32 = some (.invokevirtual 65, 35) := by decide +kernel
theorem eX1_readLine_35 : ino mX1_readLine 35 = some (.aload_n 0, 36) := by decide +kernel
theorem eX1_readLine_36 : ino mX1_readLine 36 = some (.getfield 11, 39) := by decide +kernel
theorem eX1_readLine_39 : ino mX1_readLine 39 = some (.aload_n 0, 40) := by decide +kernel
theorem eX1_readLine_40 : ino mX1_readLine 40 = some (.getfield 21, 43) := by decide +kernel
theorem eX1_readLine_43 : ino mX1_readLine 43 = some (.iload_n 3, 44) := by decide +kernel
theorem eX1_readLine_44 : ino mX1_readLine 44 = some (.iastore, 45) := by decide +kernel
theorem eX1_readLine_45 : ino mX1_readLine 45 = some (.aload_n 0, 46) := by decide +kernel
theorem eX1_readLine_46 : ino mX1_readLine 46 = some (.getfield 15, 49) := by decide +kernel
theorem eX1_readLine_49 : ino mX1_readLine 49 = some (.aload_n 0, 50) := by decide +kernel
theorem eX1_readLine_50 : ino mX1_readLine 50 = some (.getfield 21, 53) := by decide +kernel
theorem eX1_readLine_53 : ino mX1_readLine 53 = some (.aload_n 1, 54) := by decide +kernel
theorem eX1_readLine_54 : ino mX1_readLine 54 = some (.aload_n 2, 55) := by decide +kernel
theorem eX1_readLine_55 : ino mX1_readLine 55 = some (.iload_n 3, 56) := by decide +kernel
theorem eX1_readLine_56 : ino mX1_readLine 56 = some (.invokestatic 68, 59) := by decide +kernel
theorem eX1_readLine_59 : ino mX1_readLine 59 = some (.iastore, 60) := by decide +kernel
theorem eX1_readLine_60 : ino mX1_readLine 60 = some (.aload_n 0, 61) := by decide +kernel
theorem eX1_readLine_61 : ino mX1_readLine 61 = some (.getfield 18, 64) := by decide +kernel
theorem eX1_readLine_64 : ino mX1_readLine 64 = some (.aload_n 0, 65) := by decide +kernel
theorem eX1_readLine_65 : ino mX1_readLine 65 = some (.getfield 21, 68) := by decide +kernel
theorem eX1_readLine_68 : ino mX1_readLine 68 = some (.iload_n 3, 69) := by decide +kernel
theorem eX1_readLine_69 : ino mX1_readLine 69 = some (.ifCond .ne 11, 80) := by decide +kernel
theorem eX1_readLine_72 : ino mX1_readLine 72 = some (.aload_n 2, 73) := by decide +kernel
theorem eX1_readLine_73 : ino mX1_readLine 73 = some (.aload_n 1, 74) := by decide +kernel
theorem eX1_readLine_74 : ino mX1_readLine 74 = some (.invokevirtual 72, 77) := by decide +kernel
theorem eX1_readLine_77 : ino mX1_readLine 77 = some (.goto 4, 81) := by decide +kernel
theorem eX1_readLine_80 : ino mX1_readLine 80 = some (.iconst 0, 81) := by decide +kernel
theorem eX1_readLine_81 : ino mX1_readLine 81 = some (.iastore, 82) := by decide +kernel
theorem eX1_readLine_82 : ino mX1_readLine 82 = some (.aload_n 0, 83) := by decide +kernel
theorem eX1_readLine_83 : ino mX1_readLine 83 = some (.dup, 84) := by decide +kernel
theorem eX1_readLine_84 : ino mX1_readLine 84 = some (.getfield 21, 87) := by decide +kernel
theorem eX1_readLine_87 : ino mX1_readLine 87 = some (.iconst 1, 88) := by decide +kernel
theorem eX1_readLine_88 : ino mX1_readLine 88 = some (.iadd, 89) := by decide +kernel
theorem eX1_readLine_89 : ino mX1_readLine 89 = some (.putfield 21, 92) := by decide +kernel
theorem eX1_readLine_92 : ino mX1_readLine 92 = some (.return_, 93) := by decide +kernel
theorem eX1_deedNow_0 : ino mX1_deedNow 0 = some (.aload_n 0, 1) := by decide +kernel
theorem eX1_deedNow_1 : ino mX1_deedNow 1 = some (.getstatic 77, 4) := by decide +kernel
theorem eX1_deedNow_4 : ino mX1_deedNow 4 = some (.invokevirtual 83, 7) := by decide +kernel
theorem eX1_deedNow_7 : ino mX1_deedNow 7 = some (.ifCond .eq 5, 12) := by decide +kernel
theorem eX1_deedNow_10 : ino mX1_deedNow 10 = some (.iconst 0, 11) := by decide +kernel
theorem eX1_deedNow_11 : ino mX1_deedNow 11 = some (.ireturn, 12) := by decide +kernel
theorem eX1_deedNow_12 : ino mX1_deedNow 12 = some (.aload_n 0, 13) := by decide +kernel
theorem eX1_deedNow_13 : ino mX1_deedNow 13 = some (.getstatic 87, 16) := by decide +kernel
theorem eX1_deedNow_16 : ino mX1_deedNow 16 = some (.invokevirtual 83, 19) := by decide +kernel
theorem eX1_deedNow_19 : ino mX1_deedNow 19 = some (.ifCond .eq 5, 24) := by decide +kernel
theorem eX1_deedNow_22 : ino mX1_deedNow 22 = some (.iconst 1, 23) := by decide +kernel
theorem eX1_deedNow_23 : ino mX1_deedNow 23 = some (.ireturn, 24) := by decide +kernel
theorem eX1_deedNow_24 : ino mX1_deedNow 24 = some (.aload_n 0, 25) := by decide +kernel
theorem eX1_deedNow_25 : ino mX1_deedNow 25 = some (.getstatic 90, 28) := by decide +kernel
theorem eX1_deedNow_28 : ino mX1_deedNow 28 = some (.invokevirtual 83, 31) := by decide +kernel
theorem eX1_deedNow_31 : ino mX1_deedNow 31 = some (.ifCond .eq 5, 36) := by decide +kernel
theorem eX1_deedNow_34 : ino mX1_deedNow 34 = some (.iconst 2, 35) := by decide +kernel
theorem eX1_deedNow_35 : ino mX1_deedNow 35 = some (.ireturn, 36) := by decide +kernel
theorem eX1_deedNow_36 : ino mX1_deedNow 36 = some (.aload_n 0, 37) := by decide +kernel
theorem eX1_deedNow_37 : ino mX1_deedNow 37 = some (.getstatic 93, 40) := by decide +kernel
theorem eX1_deedNow_40 : ino mX1_deedNow 40 = some (.invokevirtual 83, 43) := by decide +kernel
theorem eX1_deedNow_43 : ino mX1_deedNow 43 = some (.ifCond .eq 5, 48) := by decide +kernel
theorem eX1_deedNow_46 : ino mX1_deedNow 46 = some (.iconst 3, 47) := by decide +kernel
theorem eX1_deedNow_47 : ino mX1_deedNow 47 = some (.ireturn, 48) := by decide +kernel
theorem eX1_deedNow_48 : ino mX1_deedNow 48 = some (.aload_n 0, 49) := by decide +kernel
theorem eX1_deedNow_49 : ino mX1_deedNow 49 = some (.getstatic 96, 52) := by decide +kernel
theorem eX1_deedNow_52 : ino mX1_deedNow 52 = some (.invokevirtual 83, 55) := by decide +kernel
theorem eX1_deedNow_55 : ino mX1_deedNow 55 = some (.ifCond .eq 5, 60) := by decide +kernel
theorem eX1_deedNow_58 : ino mX1_deedNow 58 = some (.iconst 4, 59) := by decide +kernel
theorem eX1_deedNow_59 : ino mX1_deedNow 59 = some (.ireturn, 60) := by decide +kernel
theorem eX1_deedNow_60 : ino mX1_deedNow 60 = some (.aload_n 0, 61) := by decide +kernel
theorem eX1_deedNow_61 : ino mX1_deedNow 61 = some (.getstatic 99, 64) := by decide +kernel
theorem eX1_deedNow_64 : ino mX1_deedNow 64 = some (.invokevirtual 83, 67) := by decide +kernel
theorem eX1_deedNow_67 : ino mX1_deedNow 67 = some (.ifCond .eq 7, 74) := by decide +kernel
theorem eX1_deedNow_70 : ino mX1_deedNow 70 = some (.iconst 5, 71) := by decide +kernel
theorem eX1_deedNow_71 : ino mX1_deedNow 71 = some (.goto 4, 75) := by decide +kernel
theorem eX1_deedNow_74 : ino mX1_deedNow 74 = some (.iconst (-1), 75) := by decide +kernel
theorem eX1_deedNow_75 : ino mX1_deedNow 75 = some (.ireturn, 76) := by decide +kernel
theorem eX1_takeWho_0 : ino mX1_takeWho 0 = some (.iload_n 2, 1) := by decide +kernel
theorem eX1_takeWho_1 : ino mX1_takeWho 1 = some (.iconst 5, 2) := by decide +kernel
theorem eX1_takeWho_2 : ino mX1_takeWho 2 = some (.if_icmp .ne 11, 13) := by decide +kernel
theorem eX1_takeWho_5 : ino mX1_takeWho 5 = some (.aload_n 0, 6) := by decide +kernel
theorem eX1_takeWho_6 : ino mX1_takeWho 6 = some (.iconst 1, 7) := by decide +kernel
theorem eX1_takeWho_7 : ino mX1_takeWho 7 = some (.bipush 60, 9) := by decide +kernel
theorem eX1_takeWho_9 : ino mX1_takeWho 9 = some (.invokevirtual 102, 12) := by decide +kernel
theorem eX1_takeWho_12 : ino mX1_takeWho 12 = some (.ireturn, 13) := by decide +kernel
theorem eX1_takeWho_13 : ino mX1_takeWho 13 = some (.iload_n 2, 14) := by decide +kernel
theorem eX1_takeWho_14 : ino mX1_takeWho 14 = some (.iconst 1, 15) := by decide +kernel
theorem eX1_takeWho_15 : ino mX1_takeWho 15 = some (.if_icmp .eq 8, 23) := by decide +kernel
theorem eX1_takeWho_18 : ino mX1_takeWho 18 = some (.iload_n 2, 19) := by decide +kernel
theorem eX1_takeWho_19 : ino mX1_takeWho 19 = some (.iconst 2, 20) := by decide +kernel
theorem eX1_takeWho_20 : ino mX1_takeWho 20 = some (.if_icmp .ne 9, 29) := by decide +kernel
theorem eX1_takeWho_23 : ino mX1_takeWho 23 = some (.aload_n 1, 24) := by decide +kernel
theorem eX1_takeWho_24 : ino mX1_takeWho 24 = some (.aload_n 0, 25) := by decide +kernel
theorem eX1_takeWho_25 : ino mX1_takeWho 25 = some (.invokevirtual 106, 28) := by decide +kernel
theorem eX1_takeWho_28 : ino mX1_takeWho 28 = some (.ireturn, 29) := by decide +kernel
theorem eX1_takeWho_29 : ino mX1_takeWho 29 = some (.aload_n 1, 30) := by decide +kernel
theorem eX1_takeWho_30 : ino mX1_takeWho 30 = some (.aload_n 0, 31) := by decide +kernel
theorem eX1_takeWho_31 : ino mX1_takeWho 31 = some (.invokevirtual 109, 34) := by decide +kernel
theorem eX1_takeWho_34 : ino mX1_takeWho 34 = some (.ireturn, 35) := by decide +kernel
theorem eX1_live_0 : ino mX1_live 0 = some (.aload_n 0, 1) := by decide +kernel
theorem eX1_live_1 : ino mX1_live 1 = some (.iconst 0, 2) := by decide +kernel
theorem eX1_live_2 : ino mX1_live 2 = some (.putfield 25, 5) := by decide +kernel
theorem eX1_live_5 : ino mX1_live 5 = some (.aload_n 0, 6) := by decide +kernel
theorem eX1_live_6 : ino mX1_live 6 = some (.iconst 0, 7) := by decide +kernel
theorem eX1_live_7 : ino mX1_live 7 = some (.putfield 28, 10) := by decide +kernel
theorem eX1_live_10 : ino mX1_live 10 = some (.iconst 0, 11) := by decide +kernel
theorem eX1_live_11 : ino mX1_live 11 = some (.istore_n 3, 12) := by decide +kernel
theorem eX1_live_12 : ino mX1_live 12 = some (.iload_n 3, 13) := by decide +kernel
theorem eX1_live_13 : ino mX1_live 13 = some (.aload_n 0, 14) := by decide +kernel
theorem eX1_live_14 : ino mX1_live 14 = some (.getfield 21, 17) := by decide +kernel
theorem eX1_live_17 : ino mX1_live 17 = some (.if_icmp .ge 98, 115) := by decide +kernel
theorem eX1_live_20 : ino mX1_live 20 = some (.aload_n 0, 21) := by decide +kernel
theorem eX1_live_21 : ino mX1_live 21 = some (.getfield 25, 24) := by decide +kernel
theorem eX1_live_24 : ino mX1_live 24 = some (.ifCond .ne 91, 115) := by decide +kernel
theorem eX1_live_27 : ino mX1_live 27 = some (.aload_n 2, 28) := by decide +kernel
theorem eX1_live_28 : ino mX1_live 28 = some (.aload_n 1, 29) := by decide +kernel
theorem eX1_live_29 : ino mX1_live 29 = some (.aload_n 0, 30) := by decide +kernel
theorem eX1_live_30 : ino mX1_live 30 = some (.getfield 11, 33) := by decide +kernel
theorem eX1_live_33 : ino mX1_live 33 = some (.iload_n 3, 34) := by decide +kernel
theorem eX1_live_34 : ino mX1_live 34 = some (.iaload, 35) := by decide +kernel
theorem eX1_live_35 : ino mX1_live 35 = some (.aload_n 0, 36) := by decide +kernel
theorem eX1_live_36 : ino mX1_live 36 = some (.getfield 15, 39) := by decide +kernel
theorem eX1_live_39 : ino mX1_live 39 = some (.iload_n 3, 40) := by decide +kernel
theorem eX1_live_40 : ino mX1_live 40 = some (.iaload, 41) := by decide +kernel
theorem eX1_live_41 : ino mX1_live 41 = some (.aload_n 0, 42) := by decide +kernel
theorem eX1_live_42 : ino mX1_live 42 = some (.getfield 18, 45) := by decide +kernel
theorem eX1_live_45 : ino mX1_live 45 = some (.iload_n 3, 46) := by decide +kernel
theorem eX1_live_46 : ino mX1_live 46 = some (.iaload, 47) := by decide +kernel
theorem eX1_live_47 : ino mX1_live 47 = some (.invokevirtual 112, 50) := by decide +kernel
theorem eX1_live_50 : ino mX1_live 50 = some (.istore 4, 52) := by decide +kernel
theorem eX1_live_52 : ino mX1_live 52 = some (.iload 4, 54) := by decide +kernel
theorem eX1_live_54 : ino mX1_live 54 = some (.ifCond .ne 39, 93) := by decide +kernel
theorem eX1_live_57 : ino mX1_live 57 = some (.aload_n 2, 58) := by decide +kernel
theorem eX1_live_58 : ino mX1_live 58 = some (.aload_n 1, 59) := by decide +kernel
theorem eX1_live_59 : ino mX1_live 59 = some (.aload_n 0, 60) := by decide +kernel
theorem eX1_live_60 : ino mX1_live 60 = some (.getfield 11, 63) := by decide +kernel
theorem eX1_live_63 : ino mX1_live 63 = some (.iload_n 3, 64) := by decide +kernel
theorem eX1_live_64 : ino mX1_live 64 = some (.iaload, 65) := by decide +kernel
theorem eX1_live_65 : ino mX1_live 65 = some (.aload_n 0, 66) := by decide +kernel
theorem eX1_live_66 : ino mX1_live 66 = some (.getfield 15, 69) := by decide +kernel
theorem eX1_live_69 : ino mX1_live 69 = some (.iload_n 3, 70) := by decide +kernel
theorem eX1_live_70 : ino mX1_live 70 = some (.iaload, 71) := by decide +kernel
theorem eX1_live_71 : ino mX1_live 71 = some (.aload_n 0, 72) := by decide +kernel
theorem eX1_live_72 : ino mX1_live 72 = some (.getfield 18, 75) := by decide +kernel
theorem eX1_live_75 : ino mX1_live 75 = some (.iload_n 3, 76) := by decide +kernel
theorem eX1_live_76 : ino mX1_live 76 = some (.iaload, 77) := by decide +kernel
theorem eX1_live_77 : ino mX1_live 77 = some (.invokevirtual 118, 80) := by decide +kernel
theorem eX1_live_80 : ino mX1_live 80 = some (.aload_n 0, 81) := by decide +kernel
theorem eX1_live_81 : ino mX1_live 81 = some (.dup, 82) := by decide +kernel
theorem eX1_live_82 : ino mX1_live 82 = some (.getfield 28, 85) := by decide +kernel
theorem eX1_live_85 : ino mX1_live 85 = some (.iconst 1, 86) := by decide +kernel
theorem eX1_live_86 : ino mX1_live 86 = some (.iadd, 87) := by decide +kernel
theorem eX1_live_87 : ino mX1_live 87 = some (.putfield 28, 90) := by decide +kernel
theorem eX1_live_90 : ino mX1_live 90 = some (.goto 19, 109) := by decide +kernel
theorem eX1_live_93 : ino mX1_live 93 = some (.aload_n 0, 94) := by decide +kernel
theorem eX1_live_94 : ino mX1_live 94 = some (.bipush 10, 96) := by decide +kernel
theorem eX1_live_96 : ino mX1_live 96 = some (.aload_n 0, 97) := by decide +kernel
theorem eX1_live_97 : ino mX1_live 97 = some (.getfield 11, 100) := by decide +kernel
theorem eX1_live_100 : ino mX1_live 100 = some (.iload_n 3, 101) := by decide +kernel
theorem eX1_live_101 : ino mX1_live 101 = some (.iaload, 102) := by decide +kernel
theorem eX1_live_102 : ino mX1_live 102 = some (.imul, 103) := by decide +kernel
theorem eX1_live_103 : ino mX1_live 103 = some (.iload 4, 105) := by decide +kernel
theorem eX1_live_105 : ino mX1_live 105 = some (.iadd, 106) := by decide +kernel
theorem eX1_live_106 : ino mX1_live 106 = some (.putfield 25, 109) := by decide +kernel
theorem eX1_live_109 : ino mX1_live 109 = some (.iinc 3 1, 112) := by decide +kernel
theorem eX1_live_112 : ino mX1_live 112 = some (.goto (-100), 12) := by decide +kernel
theorem eX1_live_115 : ino mX1_live 115 = some (.aload_n 0, 116) := by decide +kernel
theorem eX1_live_116 : ino mX1_live 116 = some (.aload_n 2, 117) := by decide +kernel
theorem eX1_live_117 : ino mX1_live 117 = some (.getfield 122, 120) := by decide +kernel
theorem eX1_live_120 : ino mX1_live 120 = some (.putfield 31, 123) := by decide +kernel
theorem eX1_live_123 : ino mX1_live 123 = some (.aload_n 0, 124) := by decide +kernel
theorem eX1_live_124 : ino mX1_live 124 = some (.aload_n 2, 125) := by decide +kernel
theorem eX1_live_125 : ino mX1_live 125 = some (.aload_n 1, 126) := by decide +kernel
theorem eX1_live_126 : ino mX1_live 126 = some (.invokevirtual 125, 129) := by decide +kernel
theorem eX1_live_129 : ino mX1_live 129 = some (.putfield 34, 132) := by decide +kernel
theorem eX1_live_132 : ino mX1_live 132 = some (.aload_n 0, 133) := by decide +kernel
theorem eX1_live_133 : ino mX1_live 133 = some (.getfield 25, 136) := by decide +kernel
theorem eX1_live_136 : ino mX1_live 136 = some (.ifCond .ne 7, 143) := by decide +kernel
theorem eX1_live_139 : ino mX1_live 139 = some (.iconst (-1), 140) := by decide +kernel
theorem eX1_live_140 : ino mX1_live 140 = some (.goto 7, 147) := by decide +kernel
theorem eX1_live_143 : ino mX1_live 143 = some (.aload_n 0, 144) := by decide +kernel
theorem eX1_live_144 : ino mX1_live 144 = some (.getfield 28, 147) := by decide +kernel
theorem eX1_live_147 : ino mX1_live 147 = some (.ireturn, 148) := by decide +kernel
