theorem dX0_init_0 : decode cX0_init 0 = .ok (.aload_n 0, 1) := by decide +kernel
theorem dX0_init_1 : decode cX0_init 1 = .ok (.invokespecial 3, 3) := by decide +kernel
theorem dX0_init_4 : decode cX0_init 4 = .ok (.aload_n 0, 1) := by decide +kernel
theorem dX0_init_5 : decode cX0_init 5 = .ok (.bipush 32, 2) := by decide +kernel
theorem dX0_init_7 : decode cX0_init 7 = .ok (.newarray .int, 2) := by decide +kernel
theorem dX0_init_9 : decode cX0_init 9 = .ok (.putfield 11, 3) := by decide +kernel
theorem dX0_init_12 : decode cX0_init 12 = .ok (.aload_n 0, 1) := by decide +kernel
theorem dX0_init_13 : decode cX0_init 13 = .ok (.bipush 32, 2) := by decide +kernel
theorem dX0_init_15 : decode cX0_init 15 = .ok (.newarray .int, 2) := by decide +kernel
theorem dX0_init_17 : decode cX0_init 17 = .ok (.putfield 15, 3) := by decide +kernel
theorem dX0_init_20 : decode cX0_init 20 = .ok (.aload_n 0, 1) := by decide +kernel
theorem dX0_init_21 : decode cX0_init 21 = .ok (.iconst 5, 1) := by decide +kernel
theorem dX0_init_22 : decode cX0_init 22 = .ok (.bipush 6, 2) := by decide +kernel
theorem dX0_init_24 : decode cX0_init 24 = .ok (.multianewarray 18 2, 4) := by decide +kernel
theorem dX0_init_28 : decode cX0_init 28 = .ok (.putfield 20, 3) := by decide +kernel
theorem dX0_init_31 : decode cX0_init 31 = .ok (.aload_n 0, 1) := by decide +kernel
theorem dX0_init_32 : decode cX0_init 32 = .ok (.aload_n 1, 1) := by decide +kernel
theorem dX0_init_33 : decode cX0_init 33 = .ok (.putfield 23, 3) := by decide +kernel
theorem dX0_init_36 : decode cX0_init 36 = .ok (.aload_n 0, 1) := by decide +kernel
theorem dX0_init_37 : decode cX0_init 37 = .ok (.aload_n 2, 1) := by decide +kernel
theorem dX0_init_38 : decode cX0_init 38 = .ok (.putfield 27, 3) := by decide +kernel
theorem dX0_init_41 : decode cX0_init 41 = .ok (.aload_n 0, 1) := by decide +kernel
theorem dX0_init_42 : decode cX0_init 42 = .ok (.aload_n 3, 1) := by decide +kernel
theorem dX0_init_43 : decode cX0_init 43 = .ok (.putfield 31, 3) := by decide +kernel
theorem dX0_init_46 : decode cX0_init 46 = .ok (.aload_n 0, 1) := by decide +kernel
theorem dX0_init_47 : decode cX0_init 47 = .ok (.new 35, 3) := by decide +kernel
theorem dX0_init_50 : decode cX0_init 50 = .ok (.dup, 1) := by decide +kernel
theorem dX0_init_51 : decode cX0_init 51 = .ok (.aload_n 1, 1) := by decide +kernel
theorem dX0_init_52 : decode cX0_init 52 = .ok (.aload_n 2, 1) := by decide +kernel
theorem dX0_init_53 : decode cX0_init 53 = .ok (.invokespecial 37, 3) := by decide +kernel
theorem dX0_init_56 : decode cX0_init 56 = .ok (.putfield 40, 3) := by decide +kernel
theorem dX0_init_59 : decode cX0_init 59 = .ok (.return_, 1) := by decide +kernel
theorem dX0_setUp_0 : decode cX0_setUp 0 = .ok (.aload_n 0, 1) := by decide +kernel
theorem dX0_setUp_1 : decode cX0_setUp 1 = .ok (.getfield 40, 3) := by decide +kernel
theorem dX0_setUp_4 : decode cX0_setUp 4 = .ok (.invokevirtual 43, 3) := by decide +kernel
theorem dX0_setUp_7 : decode cX0_setUp 7 = .ok (.aload_n 0, 1) := by decide +kernel
theorem dX0_setUp_8 : decode cX0_setUp 8 = .ok (.getfield 40, 3) := by decide +kernel
theorem dX0_setUp_11 : decode cX0_setUp 11 = .ok (.aload_n 0, 1) := by decide +kernel
theorem dX0_setUp_12 : decode cX0_setUp 12 = .ok (.getfield 23, 3) := by decide +kernel
theorem dX0_setUp_15 : decode cX0_setUp 15 = .ok (.getfield 46, 3) := by decide +kernel
theorem dX0_setUp_18 : decode cX0_setUp 18 = .ok (.putfield 52, 3) := by decide +kernel
theorem dX0_setUp_21 : decode cX0_setUp 21 = .ok (.aload_n 0, 1) := by decide +kernel
theorem dX0_setUp_22 : decode cX0_setUp 22 = .ok (.getfield 40, 3) := by decide +kernel
theorem dX0_setUp_25 : decode cX0_setUp 25 = .ok (.aload_n 0, 1) := by decide +kernel
theorem dX0_setUp_26 : decode cX0_setUp 26 = .ok (.getfield 31, 3) := by decide +kernel
theorem dX0_setUp_29 : decode cX0_setUp 29 = .ok (.getfield 53, 3) := by decide +kernel
theorem dX0_setUp_32 : decode cX0_setUp 32 = .ok (.aload_n 0, 1) := by decide +kernel
theorem dX0_setUp_33 : decode cX0_setUp 33 = .ok (.getfield 31, 3) := by decide +kernel
theorem dX0_setUp_36 : decode cX0_setUp 36 = .ok (.getfield 56, 3) := by decide +kernel
theorem dX0_setUp_39 : decode cX0_setUp 39 = .ok (.invokevirtual 59, 3) := by decide +kernel
theorem dX0_setUp_42 : decode cX0_setUp 42 = .ok (.return_, 1) := by decide +kernel
theorem dX0_goRound_0 : decode cX0_goRound 0 = .ok (.iconst 0, 1) := by decide +kernel
theorem dX0_goRound_1 : decode cX0_goRound 1 = .ok (.istore_n 2, 1) := by decide +kernel
theorem dX0_goRound_2 : decode cX0_goRound 2 = .ok (.iload_n 2, 1) := by decide +kernel
theorem dX0_goRound_3 : decode cX0_goRound 3 = .ok (.aload_n 0, 1) := by decide +kernel
theorem dX0_goRound_4 : decode cX0_goRound 4 = .ok (.getfield 27, 3) := by decide +kernel
theorem dX0_goRound_7 : decode cX0_goRound 7 = .ok (.getfield 63, 3) := by decide +kernel
theorem dX0_goRound_10 : decode cX0_goRound 10 = .ok (.if_icmp .ge 35, 3) := by decide +kernel
theorem dX0_goRound_13 : decode cX0_goRound 13 = .ok (.aload_n 0, 1) := by decide +kernel
theorem dX0_goRound_14 : decode cX0_goRound 14 = .ok (.getfield 27, 3) := by decide +kernel
theorem dX0_goRound_17 : decode cX0_goRound 17 = .ok (.iload_n 1, 1) := by decide +kernel
theorem dX0_goRound_18 : decode cX0_goRound 18 = .ok (.iload_n 2, 1) := by decide +kernel
theorem dX0_goRound_19 : decode cX0_goRound 19 = .ok (.invokevirtual 68, 3) := by decide +kernel
theorem dX0_goRound_22 : decode cX0_goRound 22 = .ok (.istore_n 3, 1) := by decide +kernel
theorem dX0_goRound_23 : decode cX0_goRound 23 = .ok (.aload_n 0, 1) := by decide +kernel
theorem dX0_goRound_24 : decode cX0_goRound 24 = .ok (.getfield 40, 3) := by decide +kernel
theorem dX0_goRound_27 : decode cX0_goRound 27 = .ok (.iload_n 3, 1) := by decide +kernel
theorem dX0_goRound_28 : decode cX0_goRound 28 = .ok (.aload_n 0, 1) := by decide +kernel
theorem dX0_goRound_29 : decode cX0_goRound 29 = .ok (.getfield 40, 3) := by decide +kernel
theorem dX0_goRound_32 : decode cX0_goRound 32 = .ok (.iload_n 3, 1) := by decide +kernel
theorem dX0_goRound_33 : decode cX0_goRound 33 = .ok (.invokevirtual 72, 3) := by decide +kernel
theorem dX0_goRound_36 : decode cX0_goRound 36 = .ok (.invokevirtual 76, 3) := by decide +kernel
theorem dX0_goRound_39 : decode cX0_goRound 39 = .ok (.iinc 2 1, 3) := by decide +kernel
theorem dX0_goRound_42 : decode cX0_goRound 42 = .ok (.goto (-40), 3) := by decide +kernel
theorem dX0_goRound_45 : decode cX0_goRound 45 = .ok (.return_, 1) := by decide +kernel
theorem dX0_dishInTurn_0 : decode cX0_dishInTurn 0 = .ok (.aload_n 0, 1) := by decide +kernel
theorem dX0_dishInTurn_1 : decode cX0_dishInTurn 1 = .ok (.invokevirtual 79, 3) := by decide +kernel
theorem dX0_dishInTurn_4 : decode cX0_dishInTurn 4 = .ok (.aload_n 0, 1) := by decide +kernel
theorem dX0_dishInTurn_5 : decode cX0_dishInTurn 5 = .ok (.iload_n 1, 1) := by decide +kernel
theorem dX0_dishInTurn_6 : decode cX0_dishInTurn 6 = .ok (.invokevirtual 82, 3) := by decide +kernel
theorem dX0_dishInTurn_9 : decode cX0_dishInTurn 9 = .ok (.aload_n 0, 1) := by decide +kernel
theorem dX0_dishInTurn_10 : decode cX0_dishInTurn 10 = .ok (.getfield 40, 3) := by decide +kernel
theorem dX0_dishInTurn_13 : decode cX0_dishInTurn 13 = .ok (.getfield 86, 3) := by decide +kernel
theorem dX0_dishInTurn_16 : decode cX0_dishInTurn 16 = .ok (.iload_n 2, 1) := by decide +kernel
theorem dX0_dishInTurn_17 : decode cX0_dishInTurn 17 = .ok (.iaload, 1) := by decide +kernel
theorem dX0_dishInTurn_18 : decode cX0_dishInTurn 18 = .ok (.ireturn, 1) := by decide +kernel
theorem dX0_joyFrom_0 : decode cX0_joyFrom 0 = .ok (.aload_n 0, 1) := by decide +kernel
theorem dX0_joyFrom_1 : decode cX0_joyFrom 1 = .ok (.invokevirtual 79, 3) := by decide +kernel
theorem dX0_joyFrom_4 : decode cX0_joyFrom 4 = .ok (.aload_n 0, 1) := by decide +kernel
theorem dX0_joyFrom_5 : decode cX0_joyFrom 5 = .ok (.iload_n 1, 1) := by decide +kernel
theorem dX0_joyFrom_6 : decode cX0_joyFrom 6 = .ok (.invokevirtual 82, 3) := by decide +kernel
theorem dX0_joyFrom_9 : decode cX0_joyFrom 9 = .ok (.iload_n 2, 1) := by decide +kernel
theorem dX0_joyFrom_10 : decode cX0_joyFrom 10 = .ok (.iconst (-1), 1) := by decide +kernel
theorem dX0_joyFrom_11 : decode cX0_joyFrom 11 = .ok (.if_icmp .ne 13, 3) := by decide +kernel
theorem dX0_joyFrom_14 : decode cX0_joyFrom 14 = .ok (.aload_n 0, 1) := by decide +kernel
theorem dX0_joyFrom_15 : decode cX0_joyFrom 15 = .ok (.getfield 40, 3) := by decide +kernel
theorem dX0_joyFrom_18 : decode cX0_joyFrom 18 = .ok (.invokevirtual 89, 3) := by decide +kernel
theorem dX0_joyFrom_21 : decode cX0_joyFrom 21 = .ok (.goto 11, 3) := by decide +kernel
theorem dX0_joyFrom_24 : decode cX0_joyFrom 24 = .ok (.aload_n 0, 1) := by decide +kernel
theorem dX0_joyFrom_25 : decode cX0_joyFrom 25 = .ok (.getfield 40, 3) := by decide +kernel
theorem dX0_joyFrom_28 : decode cX0_joyFrom 28 = .ok (.iload_n 2, 1) := by decide +kernel
theorem dX0_joyFrom_29 : decode cX0_joyFrom 29 = .ok (.invokevirtual 93, 3) := by decide +kernel
theorem dX0_joyFrom_32 : decode cX0_joyFrom 32 = .ok (.ireturn, 1) := by decide +kernel
theorem dX0_bestFirst_0 : decode cX0_bestFirst 0 = .ok (.iconst 0, 1) := by decide +kernel
theorem dX0_bestFirst_1 : decode cX0_bestFirst 1 = .ok (.istore_n 2, 1) := by decide +kernel
theorem dX0_bestFirst_2 : decode cX0_bestFirst 2 = .ok (.iconst (-1), 1) := by decide +kernel
theorem dX0_bestFirst_3 : decode cX0_bestFirst 3 = .ok (.istore_n 3, 1) := by decide +kernel
theorem dX0_bestFirst_4 : decode cX0_bestFirst 4 = .ok (.iconst 0, 1) := by decide +kernel
theorem dX0_bestFirst_5 : decode cX0_bestFirst 5 = .ok (.istore 4, 2) := by decide +kernel
theorem dX0_bestFirst_7 : decode cX0_bestFirst 7 = .ok (.iload 4, 2) := by decide +kernel
theorem dX0_bestFirst_9 : decode cX0_bestFirst 9 = .ok (.aload_n 0, 1) := by decide +kernel
theorem dX0_bestFirst_10 : decode cX0_bestFirst 10 = .ok (.getfield 27, 3) := by decide +kernel
theorem dX0_bestFirst_13 : decode cX0_bestFirst 13 = .ok (.getfield 63, 3) := by decide +kernel
theorem dX0_bestFirst_16 : decode cX0_bestFirst 16 = .ok (.if_icmp .ge 30, 3) := by decide +kernel
theorem dX0_bestFirst_19 : decode cX0_bestFirst 19 = .ok (.aload_n 0, 1) := by decide +kernel
theorem dX0_bestFirst_20 : decode cX0_bestFirst 20 = .ok (.iload 4, 2) := by decide +kernel
theorem dX0_bestFirst_22 : decode cX0_bestFirst 22 = .ok (.iload_n 1, 1) := by decide +kernel
theorem dX0_bestFirst_23 : decode cX0_bestFirst 23 = .ok (.invokevirtual 96, 3) := by decide +kernel
theorem dX0_bestFirst_26 : decode cX0_bestFirst 26 = .ok (.istore 5, 2) := by decide +kernel
theorem dX0_bestFirst_28 : decode cX0_bestFirst 28 = .ok (.iload 5, 2) := by decide +kernel
theorem dX0_bestFirst_30 : decode cX0_bestFirst 30 = .ok (.iload_n 3, 1) := by decide +kernel
theorem dX0_bestFirst_31 : decode cX0_bestFirst 31 = .ok (.if_icmp .le 9, 3) := by decide +kernel
theorem dX0_bestFirst_34 : decode cX0_bestFirst 34 = .ok (.iload 4, 2) := by decide +kernel
theorem dX0_bestFirst_36 : decode cX0_bestFirst 36 = .ok (.istore_n 2, 1) := by decide +kernel
theorem dX0_bestFirst_37 : decode cX0_bestFirst 37 = .ok (.iload 5, 2) := by decide +kernel
theorem dX0_bestFirst_39 : decode cX0_bestFirst 39 = .ok (.istore_n 3, 1) := by decide +kernel
theorem dX0_bestFirst_40 : decode cX0_bestFirst 40 = .ok (.iinc 4 1, 3) := by decide +kernel
theorem dX0_bestFirst_43 : decode cX0_bestFirst 43 = .ok (.goto (-36), 3) := by decide +kernel
theorem dX0_bestFirst_46 : decode cX0_bestFirst 46 = .ok (.iload_n 2, 1) := by decide +kernel
theorem dX0_bestFirst_47 : decode cX0_bestFirst 47 = .ok (.ireturn, 1) := by decide +kernel
theorem dX0_seekContent_0 : decode cX0_seekContent 0 = .ok (.aload_n 0, 1) := by decide +kernel
theorem dX0_seekContent_1 : decode cX0_seekContent 1 = .ok (.iconst 0, 1) := by decide +kernel
theorem dX0_seekContent_2 : decode cX0_seekContent 2 = .ok (.putfield 99, 3) := by decide +kernel
theorem dX0_seekContent_5 : decode cX0_seekContent 5 = .ok (.aload_n 0, 1) := by decide +kernel
theorem dX0_seekContent_6 : decode cX0_seekContent 6 = .ok (.iconst (-1), 1) := by decide +kernel
theorem dX0_seekContent_7 : decode cX0_seekContent 7 = .ok (.putfield 102, 3) := by decide +kernel
theorem dX0_seekContent_10 : decode cX0_seekContent 10 = .ok (.aload_n 0, 1) := by decide +kernel
theorem dX0_seekContent_11 : decode cX0_seekContent 11 = .ok (.invokevirtual 79, 3) := by decide +kernel
theorem dX0_seekContent_14 : decode cX0_seekContent 14 = .ok (.aload_n 0, 1) := by decide +kernel
theorem dX0_seekContent_15 : decode cX0_seekContent 15 = .ok (.iconst 0, 1) := by decide +kernel
theorem dX0_seekContent_16 : decode cX0_seekContent 16 = .ok (.invokevirtual 105, 3) := by decide +kernel
theorem dX0_seekContent_19 : decode cX0_seekContent 19 = .ok (.return_, 1) := by decide +kernel
theorem dX0_seatOnwards_0 : decode cX0_seatOnwards 0 = .ok (.iload_n 1, 1) := by decide +kernel
theorem dX0_seatOnwards_1 : decode cX0_seatOnwards 1 = .ok (.aload_n 0, 1) := by decide +kernel
theorem dX0_seatOnwards_2 : decode cX0_seatOnwards 2 = .ok (.getfield 27, 3) := by decide +kernel
theorem dX0_seatOnwards_5 : decode cX0_seatOnwards 5 = .ok (.getfield 63, 3) := by decide +kernel
theorem dX0_seatOnwards_8 : decode cX0_seatOnwards 8 = .ok (.if_icmp .lt 42, 3) := by decide +kernel
theorem dX0_seatOnwards_11 : decode cX0_seatOnwards 11 = .ok (.aload_n 0, 1) := by decide +kernel
theorem dX0_seatOnwards_12 : decode cX0_seatOnwards 12 = .ok (.getfield 40, 3) := by decide +kernel
theorem dX0_seatOnwards_15 : decode cX0_seatOnwards 15 = .ok (.invokevirtual 108, 3) := by decide +kernel
theorem dX0_seatOnwards_18 : decode cX0_seatOnwards 18 = .ok (.ifCond .eq 31, 3) := by decide +kernel
theorem dX0_seatOnwards_21 : decode cX0_seatOnwards 21 = .ok (.aload_n 0, 1) := by decide +kernel
theorem dX0_seatOnwards_22 : decode cX0_seatOnwards 22 = .ok (.dup, 1) := by decide +kernel
theorem dX0_seatOnwards_23 : decode cX0_seatOnwards 23 = .ok (.getfield 99, 3) := by decide +kernel
theorem dX0_seatOnwards_26 : decode cX0_seatOnwards 26 = .ok (.iconst 1, 1) := by decide +kernel
theorem dX0_seatOnwards_27 : decode cX0_seatOnwards 27 = .ok (.iadd, 1) := by decide +kernel
theorem dX0_seatOnwards_28 : decode cX0_seatOnwards 28 = .ok (.putfield 99, 3) := by decide +kernel
theorem dX0_seatOnwards_31 : decode cX0_seatOnwards 31 = .ok (.aload_n 0, 1) := by decide +kernel
theorem dX0_seatOnwards_32 : decode cX0_seatOnwards 32 = .ok (.aload_n 0, 1) := by decide +kernel
theorem dX0_seatOnwards_33 : decode cX0_seatOnwards 33 = .ok (.getfield 102, 3) := by decide +kernel
theorem dX0_seatOnwards_36 : decode cX0_seatOnwards 36 = .ok (.aload_n 0, 1) := by decide +kernel
theorem dX0_seatOnwards_37 : decode cX0_seatOnwards 37 = .ok (.getfield 40, 3) := by decide +kernel
theorem dX0_seatOnwards_40 : decode cX0_seatOnwards 40 = .ok (.invokevirtual 89, 3) := by decide +kernel
theorem dX0_seatOnwards_43 : decode cX0_seatOnwards 43 = .ok (.invokestatic 112, 3) := by decide +kernel
theorem dX0_seatOnwards_46 : decode cX0_seatOnwards 46 = .ok (.putfield 102, 3) := by decide +kernel
theorem dX0_seatOnwards_49 : decode cX0_seatOnwards 49 = .ok (.return_, 1) := by decide +kernel
theorem dX0_seatOnwards_50 : decode cX0_seatOnwards 50 = .ok (.iconst 0, 1) := by decide +kernel
theorem dX0_seatOnwards_51 : decode cX0_seatOnwards 51 = .ok (.istore_n 2, 1) := by decide +kernel
theorem dX0_seatOnwards_52 : decode cX0_seatOnwards 52 = .ok (.iload_n 2, 1) := by decide +kernel
theorem dX0_seatOnwards_53 : decode cX0_seatOnwards 53 = .ok (.aload_n 0, 1) := by decide +kernel
theorem dX0_seatOnwards_54 : decode cX0_seatOnwards 54 = .ok (.getfield 23, 3) := by decide +kernel
theorem dX0_seatOnwards_57 : decode cX0_seatOnwards 57 = .ok (.getfield 117, 3) := by decide +kernel
theorem dX0_seatOnwards_60 : decode cX0_seatOnwards 60 = .ok (.if_icmp .ge 45, 3) := by decide +kernel
theorem dX0_seatOnwards_63 : decode cX0_seatOnwards 63 = .ok (.aload_n 0, 1) := by decide +kernel
theorem dX0_seatOnwards_64 : decode cX0_seatOnwards 64 = .ok (.getfield 40, 3) := by decide +kernel
theorem dX0_seatOnwards_67 : decode cX0_seatOnwards 67 = .ok (.iload_n 1, 1) := by decide +kernel
theorem dX0_seatOnwards_68 : decode cX0_seatOnwards 68 = .ok (.iload_n 2, 1) := by decide +kernel
theorem dX0_seatOnwards_69 : decode cX0_seatOnwards 69 = .ok (.invokevirtual 120, 3) := by decide +kernel
theorem dX0_seatOnwards_72 : decode cX0_seatOnwards 72 = .ok (.ifCond .eq 27, 3) := by decide +kernel
theorem dX0_seatOnwards_75 : decode cX0_seatOnwards 75 = .ok (.aload_n 0, 1) := by decide +kernel
theorem dX0_seatOnwards_76 : decode cX0_seatOnwards 76 = .ok (.getfield 40, 3) := by decide +kernel
theorem dX0_seatOnwards_79 : decode cX0_seatOnwards 79 = .ok (.iload_n 1, 1) := by decide +kernel
theorem dX0_seatOnwards_80 : decode cX0_seatOnwards 80 = .ok (.iload_n 2, 1) := by decide +kernel
theorem dX0_seatOnwards_81 : decode cX0_seatOnwards 81 = .ok (.invokevirtual 76, 3) := by decide +kernel
theorem dX0_seatOnwards_84 : decode cX0_seatOnwards 84 = .ok (.aload_n 0, 1) := by decide +kernel
theorem dX0_seatOnwards_85 : decode cX0_seatOnwards 85 = .ok (.iload_n 1, 1) := by decide +kernel
theorem dX0_seatOnwards_86 : decode cX0_seatOnwards 86 = .ok (.iconst 1, 1) := by decide +kernel
theorem dX0_seatOnwards_87 : decode cX0_seatOnwards 87 = .ok (.iadd, 1) := by decide +kernel
theorem dX0_seatOnwards_88 : decode cX0_seatOnwards 88 = .ok (.invokevirtual 105, 3) := by decide +kernel
theorem dX0_seatOnwards_91 : decode cX0_seatOnwards 91 = .ok (.aload_n 0, 1) := by decide +kernel
theorem dX0_seatOnwards_92 : decode cX0_seatOnwards 92 = .ok (.getfield 40, 3) := by decide +kernel
theorem dX0_seatOnwards_95 : decode cX0_seatOnwards 95 = .ok (.iload_n 1, 1) := by decide +kernel
theorem dX0_seatOnwards_96 : decode cX0_seatOnwards 96 = .ok (.invokevirtual 124, 3) := by decide +kernel
theorem dX0_seatOnwards_99 : decode cX0_seatOnwards 99 = .ok (.iinc 2 1, 3) := by decide +kernel
theorem dX0_seatOnwards_102 : decode cX0_seatOnwards 102 = .ok (.goto (-50), 3) := by decide +kernel
theorem dX0_seatOnwards_105 : decode cX0_seatOnwards 105 = .ok (.return_, 1) := by decide +kernel
theorem dX0_roundsTillSettled_0 : decode cX0_roundsTillSettled 0 = .ok (.aload_n 0, 1) := by decide +kernel
theorem dX0_roundsTillSettled_1 : decode cX0_roundsTillSettled 1 = .ok (.invokevirtual 79, 3) := by decide +kernel
theorem dX0_roundsTillSettled_4 : decode cX0_roundsTillSettled 4 = .ok (.aload_n 0, 1) := by decide +kernel
theorem dX0_roundsTillSettled_5 : decode cX0_roundsTillSettled 5 = .ok (.iload_n 1, 1) := by decide +kernel
theorem dX0_roundsTillSettled_6 : decode cX0_roundsTillSettled 6 = .ok (.invokevirtual 82, 3) := by decide +kernel
theorem dX0_roundsTillSettled_9 : decode cX0_roundsTillSettled 9 = .ok (.iconst 1, 1) := by decide +kernel
theorem dX0_roundsTillSettled_10 : decode cX0_roundsTillSettled 10 = .ok (.istore_n 2, 1) := by decide +kernel
theorem dX0_roundsTillSettled_11 : decode cX0_roundsTillSettled 11 = .ok (.iload_n 2, 1) := by decide +kernel
theorem dX0_roundsTillSettled_12 : decode cX0_roundsTillSettled 12 = .ok (.bipush 20, 2) := by decide +kernel
theorem dX0_roundsTillSettled_14 : decode cX0_roundsTillSettled 14 = .ok (.if_icmp .gt 60, 3) := by decide +kernel
theorem dX0_roundsTillSettled_17 : decode cX0_roundsTillSettled 17 = .ok (.iconst 0, 1) := by decide +kernel
theorem dX0_roundsTillSettled_18 : decode cX0_roundsTillSettled 18 = .ok (.istore_n 3, 1) := by decide +kernel
theorem dX0_roundsTillSettled_19 : decode cX0_roundsTillSettled 19 = .ok (.iconst 0, 1) := by decide +kernel
theorem dX0_roundsTillSettled_20 : decode cX0_roundsTillSettled 20 = .ok (.istore 4, 2) := by decide +kernel
theorem dX0_roundsTillSettled_22 : decode cX0_roundsTillSettled 22 = .ok (.iload 4, 2) := by decide +kernel
theorem dX0_roundsTillSettled_24 : decode cX0_roundsTillSettled 24 = .ok (.aload_n 0, 1) := by decide +kernel
theorem dX0_roundsTillSettled_25 : decode cX0_roundsTillSettled 25 = .ok (.getfield 27, 3) := by decide +kernel
theorem dX0_roundsTillSettled_28 : decode cX0_roundsTillSettled 28 = .ok (.getfield 63, 3) := by decide +kernel
theorem dX0_roundsTillSettled_31 : decode cX0_roundsTillSettled 31 = .ok (.if_icmp .ge 31, 3) := by decide +kernel
theorem dX0_roundsTillSettled_34 : decode cX0_roundsTillSettled 34 = .ok (.aload_n 0, 1) := by decide +kernel
theorem dX0_roundsTillSettled_35 : decode cX0_roundsTillSettled 35 = .ok (.getfield 40, 3) := by decide +kernel
theorem dX0_roundsTillSettled_38 : decode cX0_roundsTillSettled 38 = .ok (.aload_n 0, 1) := by decide +kernel
theorem dX0_roundsTillSettled_39 : decode cX0_roundsTillSettled 39 = .ok (.getfield 27, 3) := by decide +kernel
theorem dX0_roundsTillSettled_42 : decode cX0_roundsTillSettled 42 = .ok (.iload_n 1, 1) := by decide +kernel
theorem dX0_roundsTillSettled_43 : decode cX0_roundsTillSettled 43 = .ok (.iload 4, 2) := by decide +kernel
theorem dX0_roundsTillSettled_45 : decode cX0_roundsTillSettled 45 = .ok (.invokevirtual 68, 3) := by decide +kernel
theorem dX0_roundsTillSettled_48 : decode cX0_roundsTillSettled 48 = .ok (.invokevirtual 127, 3) := by decide +kernel
theorem dX0_roundsTillSettled_51 : decode cX0_roundsTillSettled 51 = .ok (.ifCond .eq 5, 3) := by decide +kernel
theorem dX0_roundsTillSettled_54 : decode cX0_roundsTillSettled 54 = .ok (.iconst 1, 1) := by decide +kernel
theorem dX0_roundsTillSettled_55 : decode cX0_roundsTillSettled 55 = .ok (.istore_n 3, 1) := by decide +kernel
theorem dX0_roundsTillSettled_56 : decode cX0_roundsTillSettled 56 = .ok (.iinc 4 1, 3) := by decide +kernel
theorem dX0_roundsTillSettled_59 : decode cX0_roundsTillSettled 59 = .ok (.goto (-37), 3) := by decide +kernel
theorem dX0_roundsTillSettled_62 : decode cX0_roundsTillSettled 62 = .ok (.iload_n 3, 1) := by decide +kernel
theorem dX0_roundsTillSettled_63 : decode cX0_roundsTillSettled 63 = .ok (.ifCond .ne 5, 3) := by decide +kernel
theorem dX0_roundsTillSettled_66 : decode cX0_roundsTillSettled 66 = .ok (.iload_n 2, 1) := by decide +kernel
theorem dX0_roundsTillSettled_67 : decode cX0_roundsTillSettled 67 = .ok (.ireturn, 1) := by decide +kernel
theorem dX0_roundsTillSettled_68 : decode cX0_roundsTillSettled 68 = .ok (.iinc 2 1, 3) := by decide +kernel
theorem dX0_roundsTillSettled_71 : decode cX0_roundsTillSettled 71 = .ok (.goto (-60), 3) := by decide +kernel
theorem dX0_roundsTillSettled_74 : decode cX0_roundsTillSettled 74 = .ok (.iconst (-1), 1) := by decide +kernel
theorem dX0_roundsTillSettled_75 : decode cX0_roundsTillSettled 75 = .ok (.ireturn, 1) := by decide +kernel
theorem dX0_mostGiven_0 : decode cX0_mostGiven 0 = .ok (.iconst 1, 1) := by decide +kernel
theorem dX0_mostGiven_1 : decode cX0_mostGiven 1 = .ok (.aload_n 0, 1) := by decide +kernel
theorem dX0_mostGiven_2 : decode cX0_mostGiven 2 = .ok (.getfield 27, 3) := by decide +kernel
theorem dX0_mostGiven_5 : decode cX0_mostGiven 5 = .ok (.getfield 63, 3) := by decide +kernel
theorem dX0_mostGiven_8 : decode cX0_mostGiven 8 = .ok (.ishl, 1) := by decide +kernel
theorem dX0_mostGiven_9 : decode cX0_mostGiven 9 = .ok (.istore_n 1, 1) := by decide +kernel
theorem dX0_mostGiven_10 : decode cX0_mostGiven 10 = .ok (.iconst 0, 1) := by decide +kernel
theorem dX0_mostGiven_11 : decode cX0_mostGiven 11 = .ok (.istore_n 2, 1) := by decide +kernel
theorem dX0_mostGiven_12 : decode cX0_mostGiven 12 = .ok (.iload_n 2, 1) := by decide +kernel
theorem dX0_mostGiven_13 : decode cX0_mostGiven 13 = .ok (.iload_n 1, 1) := by decide +kernel
theorem dX0_mostGiven_14 : decode cX0_mostGiven 14 = .ok (.if_icmp .ge 16, 3) := by decide +kernel
theorem dX0_mostGiven_17 : decode cX0_mostGiven 17 = .ok (.aload_n 0, 1) := by decide +kernel
theorem dX0_mostGiven_18 : decode cX0_mostGiven 18 = .ok (.getfield 11, 3) := by decide +kernel
theorem dX0_mostGiven_21 : decode cX0_mostGiven 21 = .ok (.iload_n 2, 1) := by decide +kernel
theorem dX0_mostGiven_22 : decode cX0_mostGiven 22 = .ok (.iconst 0, 1) := by decide +kernel
theorem dX0_mostGiven_23 : decode cX0_mostGiven 23 = .ok (.iastore, 1) := by decide +kernel
theorem dX0_mostGiven_24 : decode cX0_mostGiven 24 = .ok (.iinc 2 1, 3) := by decide +kernel
theorem dX0_mostGiven_27 : decode cX0_mostGiven 27 = .ok (.goto (-15), 3) := by decide +kernel
theorem dX0_mostGiven_30 : decode cX0_mostGiven 30 = .ok (.iconst 0, 1) := by decide +kernel
theorem dX0_mostGiven_31 : decode cX0_mostGiven 31 = .ok (.istore_n 2, 1) := by decide +kernel
theorem dX0_mostGiven_32 : decode cX0_mostGiven 32 = .ok (.iload_n 2, 1) := by decide +kernel
theorem dX0_mostGiven_33 : decode cX0_mostGiven 33 = .ok (.aload_n 0, 1) := by decide +kernel
theorem dX0_mostGiven_34 : decode cX0_mostGiven 34 = .ok (.getfield 23, 3) := by decide +kernel
theorem dX0_mostGiven_37 : decode cX0_mostGiven 37 = .ok (.getfield 117, 3) := by decide +kernel
theorem dX0_mostGiven_40 : decode cX0_mostGiven 40 = .ok (.if_icmp .ge 99, 3) := by decide +kernel
theorem dX0_mostGiven_43 : decode cX0_mostGiven 43 = .ok (.aload_n 0, 1) := by decide +kernel
theorem dX0_mostGiven_44 : decode cX0_mostGiven 44 = .ok (.iload_n 2, 1) := by decide +kernel
theorem dX0_mostGiven_45 : decode cX0_mostGiven 45 = .ok (.invokevirtual 131, 3) := by decide +kernel
theorem dX0_mostGiven_48 : decode cX0_mostGiven 48 = .ok (.iload_n 1, 1) := by decide +kernel
theorem dX0_mostGiven_49 : decode cX0_mostGiven 49 = .ok (.iconst 1, 1) := by decide +kernel
theorem dX0_mostGiven_50 : decode cX0_mostGiven 50 = .ok (.isub, 1) := by decide +kernel
theorem dX0_mostGiven_51 : decode cX0_mostGiven 51 = .ok (.istore_n 3, 1) := by decide +kernel
theorem dX0_mostGiven_52 : decode cX0_mostGiven 52 = .ok (.iload_n 3, 1) := by decide +kernel
theorem dX0_mostGiven_53 : decode cX0_mostGiven 53 = .ok (.ifCond .le 80, 3) := by decide +kernel
theorem dX0_mostGiven_56 : decode cX0_mostGiven 56 = .ok (.iconst 1, 1) := by decide +kernel
theorem dX0_mostGiven_57 : decode cX0_mostGiven 57 = .ok (.istore 4, 2) := by decide +kernel
theorem dX0_mostGiven_59 : decode cX0_mostGiven 59 = .ok (.iload 4, 2) := by decide +kernel
theorem dX0_mostGiven_61 : decode cX0_mostGiven 61 = .ok (.iload_n 3, 1) := by decide +kernel
theorem dX0_mostGiven_62 : decode cX0_mostGiven 62 = .ok (.if_icmp .gt 65, 3) := by decide +kernel
theorem dX0_mostGiven_65 : decode cX0_mostGiven 65 = .ok (.iload 4, 2) := by decide +kernel
theorem dX0_mostGiven_67 : decode cX0_mostGiven 67 = .ok (.iload_n 3, 1) := by decide +kernel
theorem dX0_mostGiven_68 : decode cX0_mostGiven 68 = .ok (.iand, 1) := by decide +kernel
theorem dX0_mostGiven_69 : decode cX0_mostGiven 69 = .ok (.iload 4, 2) := by decide +kernel
theorem dX0_mostGiven_71 : decode cX0_mostGiven 71 = .ok (.if_icmp .ne 50, 3) := by decide +kernel
theorem dX0_mostGiven_74 : decode cX0_mostGiven 74 = .ok (.aload_n 0, 1) := by decide +kernel
theorem dX0_mostGiven_75 : decode cX0_mostGiven 75 = .ok (.getfield 15, 3) := by decide +kernel
theorem dX0_mostGiven_78 : decode cX0_mostGiven 78 = .ok (.iload 4, 2) := by decide +kernel
theorem dX0_mostGiven_80 : decode cX0_mostGiven 80 = .ok (.iaload, 1) := by decide +kernel
theorem dX0_mostGiven_81 : decode cX0_mostGiven 81 = .ok (.iconst (-1), 1) := by decide +kernel
theorem dX0_mostGiven_82 : decode cX0_mostGiven 82 = .ok (.if_icmp .eq 39, 3) := by decide +kernel
theorem dX0_mostGiven_85 : decode cX0_mostGiven 85 = .ok (.aload_n 0, 1) := by decide +kernel
theorem dX0_mostGiven_86 : decode cX0_mostGiven 86 = .ok (.getfield 11, 3) := by decide +kernel
theorem dX0_mostGiven_89 : decode cX0_mostGiven 89 = .ok (.iload_n 3, 1) := by decide +kernel
theorem dX0_mostGiven_90 : decode cX0_mostGiven 90 = .ok (.iload 4, 2) := by decide +kernel
theorem dX0_mostGiven_92 : decode cX0_mostGiven 92 = .ok (.ixor, 1) := by decide +kernel
theorem dX0_mostGiven_93 : decode cX0_mostGiven 93 = .ok (.iaload, 1) := by decide +kernel
theorem dX0_mostGiven_94 : decode cX0_mostGiven 94 = .ok (.aload_n 0, 1) := by decide +kernel
theorem dX0_mostGiven_95 : decode cX0_mostGiven 95 = .ok (.getfield 15, 3) := by decide +kernel
theorem dX0_mostGiven_98 : decode cX0_mostGiven 98 = .ok (.iload 4, 2) := by decide +kernel
theorem dX0_mostGiven_100 : decode cX0_mostGiven 100 = .ok (.iaload, 1) := by decide +kernel
theorem dX0_mostGiven_101 : decode cX0_mostGiven 101 = .ok (.iadd, 1) := by decide +kernel
theorem dX0_mostGiven_102 : decode cX0_mostGiven 102 = .ok (.istore 5, 2) := by decide +kernel
theorem dX0_mostGiven_104 : decode cX0_mostGiven 104 = .ok (.aload_n 0, 1) := by decide +kernel
theorem dX0_mostGiven_105 : decode cX0_mostGiven 105 = .ok (.getfield 11, 3) := by decide +kernel
theorem dX0_mostGiven_108 : decode cX0_mostGiven 108 = .ok (.iload_n 3, 1) := by decide +kernel
theorem dX0_mostGiven_109 : decode cX0_mostGiven 109 = .ok (.aload_n 0, 1) := by decide +kernel
theorem dX0_mostGiven_110 : decode cX0_mostGiven 110 = .ok (.getfield 11, 3) := by decide +kernel
theorem dX0_mostGiven_113 : decode cX0_mostGiven 113 = .ok (.iload_n 3, 1) := by decide +kernel
theorem dX0_mostGiven_114 : decode cX0_mostGiven 114 = .ok (.iaload, 1) := by decide +kernel
theorem dX0_mostGiven_115 : decode cX0_mostGiven 115 = .ok (.iload 5, 2) := by decide +kernel
theorem dX0_mostGiven_117 : decode cX0_mostGiven 117 = .ok (.invokestatic 112, 3) := by decide +kernel
theorem dX0_mostGiven_120 : decode cX0_mostGiven 120 = .ok (.iastore, 1) := by decide +kernel
theorem dX0_mostGiven_121 : decode cX0_mostGiven 121 = .ok (.iinc 4 1, 3) := by decide +kernel
theorem dX0_mostGiven_124 : decode cX0_mostGiven 124 = .ok (.goto (-65), 3) := by decide +kernel
theorem dX0_mostGiven_127 : decode cX0_mostGiven 127 = .ok (.iinc 3 (-1), 3) := by decide +kernel
theorem dX0_mostGiven_130 : decode cX0_mostGiven 130 = .ok (.goto (-78), 3) := by decide +kernel
theorem dX0_mostGiven_133 : decode cX0_mostGiven 133 = .ok (.iinc 2 1, 3) := by decide +kernel
theorem dX0_mostGiven_136 : decode cX0_mostGiven 136 = .ok (.goto (-104), 3) := by decide +kernel
theorem dX0_mostGiven_139 : decode cX0_mostGiven 139 = .ok (.aload_n 0, 1) := by decide +kernel
theorem dX0_mostGiven_140 : decode cX0_mostGiven 140 = .ok (.getfield 11, 3) := by decide +kernel
theorem dX0_mostGiven_143 : decode cX0_mostGiven 143 = .ok (.iload_n 1, 1) := by decide +kernel
theorem dX0_mostGiven_144 : decode cX0_mostGiven 144 = .ok (.iconst 1, 1) := by decide +kernel
theorem dX0_mostGiven_145 : decode cX0_mostGiven 145 = .ok (.isub, 1) := by decide +kernel
theorem dX0_mostGiven_146 : decode cX0_mostGiven 146 = .ok (.iaload, 1) := by decide +kernel
theorem dX0_mostGiven_147 : decode cX0_mostGiven 147 = .ok (.ireturn, 1) := by decide +kernel
theorem dX0_findJoyOfGroups_0 : decode cX0_findJoyOfGroups 0 = .ok (.aload_n 0, 1) := by decide +kernel
theorem dX0_findJoyOfGroups_1 : decode cX0_findJoyOfGroups 1 = .ok (.getfield 15, 3) := by decide +kernel
theorem dX0_findJoyOfGroups_4 : decode cX0_findJoyOfGroups 4 = .ok (.iconst 0, 1) := by decide +kernel
theorem dX0_findJoyOfGroups_5 : decode cX0_findJoyOfGroups 5 = .ok (.iconst 0, 1) := by decide +kernel
theorem dX0_findJoyOfGroups_6 : decode cX0_findJoyOfGroups 6 = .ok (.iastore, 1) := by decide +kernel
theorem dX0_findJoyOfGroups_7 : decode cX0_findJoyOfGroups 7 = .ok (.iconst 0, 1) := by decide +kernel
theorem dX0_findJoyOfGroups_8 : decode cX0_findJoyOfGroups 8 = .ok (.istore_n 2, 1) := by decide +kernel
theorem dX0_findJoyOfGroups_9 : decode cX0_findJoyOfGroups 9 = .ok (.iload_n 2, 1) := by decide +kernel
theorem dX0_findJoyOfGroups_10 : decode cX0_findJoyOfGroups 10 = .ok (.aload_n 0, 1) := by decide +kernel
theorem dX0_findJoyOfGroups_11 : decode cX0_findJoyOfGroups 11 = .ok (.getfield 27, 3) := by decide +kernel
theorem dX0_findJoyOfGroups_14 : decode cX0_findJoyOfGroups 14 = .ok (.getfield 63, 3) := by decide +kernel
theorem dX0_findJoyOfGroups_17 : decode cX0_findJoyOfGroups 17 = .ok (.if_icmp .ge 133, 3) := by decide +kernel
theorem dX0_findJoyOfGroups_20 : decode cX0_findJoyOfGroups 20 = .ok (.aload_n 0, 1) := by decide +kernel
theorem dX0_findJoyOfGroups_21 : decode cX0_findJoyOfGroups 21 = .ok (.getfield 27, 3) := by decide +kernel
theorem dX0_findJoyOfGroups_24 : decode cX0_findJoyOfGroups 24 = .ok (.getfield 134, 3) := by decide +kernel
theorem dX0_findJoyOfGroups_27 : decode cX0_findJoyOfGroups 27 = .ok (.iload_n 2, 1) := by decide +kernel
theorem dX0_findJoyOfGroups_28 : decode cX0_findJoyOfGroups 28 = .ok (.aaload, 1) := by decide +kernel
theorem dX0_findJoyOfGroups_29 : decode cX0_findJoyOfGroups 29 = .ok (.astore_n 3, 1) := by decide +kernel
theorem dX0_findJoyOfGroups_30 : decode cX0_findJoyOfGroups 30 = .ok (.aload_n 0, 1) := by decide +kernel
theorem dX0_findJoyOfGroups_31 : decode cX0_findJoyOfGroups 31 = .ok (.getfield 23, 3) := by decide +kernel
theorem dX0_findJoyOfGroups_34 : decode cX0_findJoyOfGroups 34 = .ok (.getfield 138, 3) := by decide +kernel
theorem dX0_findJoyOfGroups_37 : decode cX0_findJoyOfGroups 37 = .ok (.iload_n 1, 1) := by decide +kernel
theorem dX0_findJoyOfGroups_38 : decode cX0_findJoyOfGroups 38 = .ok (.iaload, 1) := by decide +kernel
theorem dX0_findJoyOfGroups_39 : decode cX0_findJoyOfGroups 39 = .ok (.aload_n 3, 1) := by decide +kernel
theorem dX0_findJoyOfGroups_40 : decode cX0_findJoyOfGroups 40 = .ok (.getfield 141, 3) := by decide +kernel
theorem dX0_findJoyOfGroups_43 : decode cX0_findJoyOfGroups 43 = .ok (.if_icmp .gt 7, 3) := by decide +kernel
theorem dX0_findJoyOfGroups_46 : decode cX0_findJoyOfGroups 46 = .ok (.iconst 1, 1) := by decide +kernel
theorem dX0_findJoyOfGroups_47 : decode cX0_findJoyOfGroups 47 = .ok (.goto 4, 3) := by decide +kernel
theorem dX0_findJoyOfGroups_50 : decode cX0_findJoyOfGroups 50 = .ok (.iconst 0, 1) := by decide +kernel
theorem dX0_findJoyOfGroups_51 : decode cX0_findJoyOfGroups 51 = .ok (.istore 4, 2) := by decide +kernel
theorem dX0_findJoyOfGroups_53 : decode cX0_findJoyOfGroups 53 = .ok (.iconst 0, 1) := by decide +kernel
theorem dX0_findJoyOfGroups_54 : decode cX0_findJoyOfGroups 54 = .ok (.istore 5, 2) := by decide +kernel
theorem dX0_findJoyOfGroups_56 : decode cX0_findJoyOfGroups 56 = .ok (.iload 5, 2) := by decide +kernel
theorem dX0_findJoyOfGroups_58 : decode cX0_findJoyOfGroups 58 = .ok (.iconst 1, 1) := by decide +kernel
theorem dX0_findJoyOfGroups_59 : decode cX0_findJoyOfGroups 59 = .ok (.iload_n 2, 1) := by decide +kernel
theorem dX0_findJoyOfGroups_60 : decode cX0_findJoyOfGroups 60 = .ok (.ishl, 1) := by decide +kernel
theorem dX0_findJoyOfGroups_61 : decode cX0_findJoyOfGroups 61 = .ok (.if_icmp .ge 83, 3) := by decide +kernel
theorem dX0_findJoyOfGroups_64 : decode cX0_findJoyOfGroups 64 = .ok (.iload 4, 2) := by decide +kernel
theorem dX0_findJoyOfGroups_66 : decode cX0_findJoyOfGroups 66 = .ok (.ifCond .eq 35, 3) := by decide +kernel
theorem dX0_findJoyOfGroups_69 : decode cX0_findJoyOfGroups 69 = .ok (.aload_n 0, 1) := by decide +kernel
theorem dX0_findJoyOfGroups_70 : decode cX0_findJoyOfGroups 70 = .ok (.getfield 15, 3) := by decide +kernel
theorem dX0_findJoyOfGroups_73 : decode cX0_findJoyOfGroups 73 = .ok (.iload 5, 2) := by decide +kernel
theorem dX0_findJoyOfGroups_75 : decode cX0_findJoyOfGroups 75 = .ok (.iaload, 1) := by decide +kernel
theorem dX0_findJoyOfGroups_76 : decode cX0_findJoyOfGroups 76 = .ok (.iconst (-1), 1) := by decide +kernel
theorem dX0_findJoyOfGroups_77 : decode cX0_findJoyOfGroups 77 = .ok (.if_icmp .eq 24, 3) := by decide +kernel
theorem dX0_findJoyOfGroups_80 : decode cX0_findJoyOfGroups 80 = .ok (.iload 5, 2) := by decide +kernel
theorem dX0_findJoyOfGroups_82 : decode cX0_findJoyOfGroups 82 = .ok (.invokestatic 146, 3) := by decide +kernel
theorem dX0_findJoyOfGroups_85 : decode cX0_findJoyOfGroups 85 = .ok (.aload_n 0, 1) := by decide +kernel
theorem dX0_findJoyOfGroups_86 : decode cX0_findJoyOfGroups 86 = .ok (.getfield 23, 3) := by decide +kernel
theorem dX0_findJoyOfGroups_89 : decode cX0_findJoyOfGroups 89 = .ok (.getfield 151, 3) := by decide +kernel
theorem dX0_findJoyOfGroups_92 : decode cX0_findJoyOfGroups 92 = .ok (.iload_n 1, 1) := by decide +kernel
theorem dX0_findJoyOfGroups_93 : decode cX0_findJoyOfGroups 93 = .ok (.iaload, 1) := by decide +kernel
theorem dX0_findJoyOfGroups_94 : decode cX0_findJoyOfGroups 94 = .ok (.if_icmp .ge 7, 3) := by decide +kernel
theorem dX0_findJoyOfGroups_97 : decode cX0_findJoyOfGroups 97 = .ok (.iconst 1, 1) := by decide +kernel
theorem dX0_findJoyOfGroups_98 : decode cX0_findJoyOfGroups 98 = .ok (.goto 4, 3) := by decide +kernel
theorem dX0_findJoyOfGroups_101 : decode cX0_findJoyOfGroups 101 = .ok (.iconst 0, 1) := by decide +kernel
theorem dX0_findJoyOfGroups_102 : decode cX0_findJoyOfGroups 102 = .ok (.istore 6, 2) := by decide +kernel
theorem dX0_findJoyOfGroups_104 : decode cX0_findJoyOfGroups 104 = .ok (.aload_n 0, 1) := by decide +kernel
theorem dX0_findJoyOfGroups_105 : decode cX0_findJoyOfGroups 105 = .ok (.getfield 15, 3) := by decide +kernel
theorem dX0_findJoyOfGroups_108 : decode cX0_findJoyOfGroups 108 = .ok (.iload 5, 2) := by decide +kernel
theorem dX0_findJoyOfGroups_110 : decode cX0_findJoyOfGroups 110 = .ok (.iconst 1, 1) := by decide +kernel
theorem dX0_findJoyOfGroups_111 : decode cX0_findJoyOfGroups 111 = .ok (.iload_n 2, 1) := by decide +kernel
theorem dX0_findJoyOfGroups_112 : decode cX0_findJoyOfGroups 112 = .ok (.ishl, 1) := by decide +kernel
theorem dX0_findJoyOfGroups_113 : decode cX0_findJoyOfGroups 113 = .ok (.ior, 1) := by decide +kernel
theorem dX0_findJoyOfGroups_114 : decode cX0_findJoyOfGroups 114 = .ok (.iload 6, 2) := by decide +kernel
theorem dX0_findJoyOfGroups_116 : decode cX0_findJoyOfGroups 116 = .ok (.ifCond .eq 20, 3) := by decide +kernel
theorem dX0_findJoyOfGroups_119 : decode cX0_findJoyOfGroups 119 = .ok (.aload_n 0, 1) := by decide +kernel
theorem dX0_findJoyOfGroups_120 : decode cX0_findJoyOfGroups 120 = .ok (.getfield 15, 3) := by decide +kernel
theorem dX0_findJoyOfGroups_123 : decode cX0_findJoyOfGroups 123 = .ok (.iload 5, 2) := by decide +kernel
theorem dX0_findJoyOfGroups_125 : decode cX0_findJoyOfGroups 125 = .ok (.iaload, 1) := by decide +kernel
theorem dX0_findJoyOfGroups_126 : decode cX0_findJoyOfGroups 126 = .ok (.aload_n 3, 1) := by decide +kernel
theorem dX0_findJoyOfGroups_127 : decode cX0_findJoyOfGroups 127 = .ok (.getfield 154, 3) := by decide +kernel
theorem dX0_findJoyOfGroups_130 : decode cX0_findJoyOfGroups 130 = .ok (.iload_n 1, 1) := by decide +kernel
theorem dX0_findJoyOfGroups_131 : decode cX0_findJoyOfGroups 131 = .ok (.iaload, 1) := by decide +kernel
theorem dX0_findJoyOfGroups_132 : decode cX0_findJoyOfGroups 132 = .ok (.iadd, 1) := by decide +kernel
theorem dX0_findJoyOfGroups_133 : decode cX0_findJoyOfGroups 133 = .ok (.goto 4, 3) := by decide +kernel
theorem dX0_findJoyOfGroups_136 : decode cX0_findJoyOfGroups 136 = .ok (.iconst (-1), 1) := by decide +kernel
theorem dX0_findJoyOfGroups_137 : decode cX0_findJoyOfGroups 137 = .ok (.iastore, 1) := by decide +kernel
theorem dX0_findJoyOfGroups_138 : decode cX0_findJoyOfGroups 138 = .ok (.iinc 5 1, 3) := by decide +kernel
theorem dX0_findJoyOfGroups_141 : decode cX0_findJoyOfGroups 141 = .ok (.goto (-85), 3) := by decide +kernel
theorem dX0_findJoyOfGroups_144 : decode cX0_findJoyOfGroups 144 = .ok (.iinc 2 1, 3) := by decide +kernel
theorem dX0_findJoyOfGroups_147 : decode cX0_findJoyOfGroups 147 = .ok (.goto (-138), 3) := by decide +kernel
theorem dX0_findJoyOfGroups_150 : decode cX0_findJoyOfGroups 150 = .ok (.return_, 1) := by decide +kernel
theorem dX0_fewestBits_0 : decode cX0_fewestBits 0 = .ok (.iconst (-1), 1) := by decide +kernel
theorem dX0_fewestBits_1 : decode cX0_fewestBits 1 = .ok (.istore_n 1, 1) := by decide +kernel
theorem dX0_fewestBits_2 : decode cX0_fewestBits 2 = .ok (.iconst 0, 1) := by decide +kernel
theorem dX0_fewestBits_3 : decode cX0_fewestBits 3 = .ok (.istore_n 2, 1) := by decide +kernel
theorem dX0_fewestBits_4 : decode cX0_fewestBits 4 = .ok (.iload_n 2, 1) := by decide +kernel
theorem dX0_fewestBits_5 : decode cX0_fewestBits 5 = .ok (.iconst 1, 1) := by decide +kernel
theorem dX0_fewestBits_6 : decode cX0_fewestBits 6 = .ok (.aload_n 0, 1) := by decide +kernel
theorem dX0_fewestBits_7 : decode cX0_fewestBits 7 = .ok (.getfield 23, 3) := by decide +kernel
theorem dX0_fewestBits_10 : decode cX0_fewestBits 10 = .ok (.getfield 117, 3) := by decide +kernel
theorem dX0_fewestBits_13 : decode cX0_fewestBits 13 = .ok (.ishl, 1) := by decide +kernel
theorem dX0_fewestBits_14 : decode cX0_fewestBits 14 = .ok (.if_icmp .ge 45, 3) := by decide +kernel
theorem dX0_fewestBits_17 : decode cX0_fewestBits 17 = .ok (.iload_n 1, 1) := by decide +kernel
theorem dX0_fewestBits_18 : decode cX0_fewestBits 18 = .ok (.iconst (-1), 1) := by decide +kernel
theorem dX0_fewestBits_19 : decode cX0_fewestBits 19 = .ok (.if_icmp .eq 14, 3) := by decide +kernel
theorem dX0_fewestBits_22 : decode cX0_fewestBits 22 = .ok (.iload_n 2, 1) := by decide +kernel
theorem dX0_fewestBits_23 : decode cX0_fewestBits 23 = .ok (.invokestatic 146, 3) := by decide +kernel
theorem dX0_fewestBits_26 : decode cX0_fewestBits 26 = .ok (.iload_n 1, 1) := by decide +kernel
theorem dX0_fewestBits_27 : decode cX0_fewestBits 27 = .ok (.invokestatic 146, 3) := by decide +kernel
theorem dX0_fewestBits_30 : decode cX0_fewestBits 30 = .ok (.if_icmp .ge 7, 3) := by decide +kernel
theorem dX0_fewestBits_33 : decode cX0_fewestBits 33 = .ok (.iconst 1, 1) := by decide +kernel
theorem dX0_fewestBits_34 : decode cX0_fewestBits 34 = .ok (.goto 4, 3) := by decide +kernel
theorem dX0_fewestBits_37 : decode cX0_fewestBits 37 = .ok (.iconst 0, 1) := by decide +kernel
theorem dX0_fewestBits_38 : decode cX0_fewestBits 38 = .ok (.istore_n 3, 1) := by decide +kernel
theorem dX0_fewestBits_39 : decode cX0_fewestBits 39 = .ok (.iload_n 3, 1) := by decide +kernel
theorem dX0_fewestBits_40 : decode cX0_fewestBits 40 = .ok (.ifCond .eq 13, 3) := by decide +kernel
theorem dX0_fewestBits_43 : decode cX0_fewestBits 43 = .ok (.aload_n 0, 1) := by decide +kernel
theorem dX0_fewestBits_44 : decode cX0_fewestBits 44 = .ok (.iload_n 2, 1) := by decide +kernel
theorem dX0_fewestBits_45 : decode cX0_fewestBits 45 = .ok (.invokevirtual 157, 3) := by decide +kernel
theorem dX0_fewestBits_48 : decode cX0_fewestBits 48 = .ok (.ifCond .eq 5, 3) := by decide +kernel
theorem dX0_fewestBits_51 : decode cX0_fewestBits 51 = .ok (.iload_n 2, 1) := by decide +kernel
theorem dX0_fewestBits_52 : decode cX0_fewestBits 52 = .ok (.istore_n 1, 1) := by decide +kernel
theorem dX0_fewestBits_53 : decode cX0_fewestBits 53 = .ok (.iinc 2 1, 3) := by decide +kernel
theorem dX0_fewestBits_56 : decode cX0_fewestBits 56 = .ok (.goto (-52), 3) := by decide +kernel
theorem dX0_fewestBits_59 : decode cX0_fewestBits 59 = .ok (.iload_n 1, 1) := by decide +kernel
theorem dX0_fewestBits_60 : decode cX0_fewestBits 60 = .ok (.ireturn, 1) := by decide +kernel
theorem dX0_pleasesAll_0 : decode cX0_pleasesAll 0 = .ok (.iconst 0, 1) := by decide +kernel
theorem dX0_pleasesAll_1 : decode cX0_pleasesAll 1 = .ok (.istore_n 2, 1) := by decide +kernel
theorem dX0_pleasesAll_2 : decode cX0_pleasesAll 2 = .ok (.iload_n 2, 1) := by decide +kernel
theorem dX0_pleasesAll_3 : decode cX0_pleasesAll 3 = .ok (.aload_n 0, 1) := by decide +kernel
theorem dX0_pleasesAll_4 : decode cX0_pleasesAll 4 = .ok (.getfield 27, 3) := by decide +kernel
theorem dX0_pleasesAll_7 : decode cX0_pleasesAll 7 = .ok (.getfield 63, 3) := by decide +kernel
theorem dX0_pleasesAll_10 : decode cX0_pleasesAll 10 = .ok (.if_icmp .ge 69, 3) := by decide +kernel
theorem dX0_pleasesAll_13 : decode cX0_pleasesAll 13 = .ok (.iconst 0, 1) := by decide +kernel
theorem dX0_pleasesAll_14 : decode cX0_pleasesAll 14 = .ok (.istore_n 3, 1) := by decide +kernel
theorem dX0_pleasesAll_15 : decode cX0_pleasesAll 15 = .ok (.iconst 0, 1) := by decide +kernel
theorem dX0_pleasesAll_16 : decode cX0_pleasesAll 16 = .ok (.istore 4, 2) := by decide +kernel
theorem dX0_pleasesAll_18 : decode cX0_pleasesAll 18 = .ok (.iload 4, 2) := by decide +kernel
theorem dX0_pleasesAll_20 : decode cX0_pleasesAll 20 = .ok (.aload_n 0, 1) := by decide +kernel
theorem dX0_pleasesAll_21 : decode cX0_pleasesAll 21 = .ok (.getfield 23, 3) := by decide +kernel
theorem dX0_pleasesAll_24 : decode cX0_pleasesAll 24 = .ok (.getfield 117, 3) := by decide +kernel
theorem dX0_pleasesAll_27 : decode cX0_pleasesAll 27 = .ok (.if_icmp .ge 40, 3) := by decide +kernel
theorem dX0_pleasesAll_30 : decode cX0_pleasesAll 30 = .ok (.iload_n 1, 1) := by decide +kernel
theorem dX0_pleasesAll_31 : decode cX0_pleasesAll 31 = .ok (.iload 4, 2) := by decide +kernel
theorem dX0_pleasesAll_33 : decode cX0_pleasesAll 33 = .ok (.ishr, 1) := by decide +kernel
theorem dX0_pleasesAll_34 : decode cX0_pleasesAll 34 = .ok (.iconst 1, 1) := by decide +kernel
theorem dX0_pleasesAll_35 : decode cX0_pleasesAll 35 = .ok (.iand, 1) := by decide +kernel
theorem dX0_pleasesAll_36 : decode cX0_pleasesAll 36 = .ok (.iconst 1, 1) := by decide +kernel
theorem dX0_pleasesAll_37 : decode cX0_pleasesAll 37 = .ok (.if_icmp .ne 24, 3) := by decide +kernel
theorem dX0_pleasesAll_40 : decode cX0_pleasesAll 40 = .ok (.aload_n 0, 1) := by decide +kernel
theorem dX0_pleasesAll_41 : decode cX0_pleasesAll 41 = .ok (.getfield 27, 3) := by decide +kernel
theorem dX0_pleasesAll_44 : decode cX0_pleasesAll 44 = .ok (.getfield 134, 3) := by decide +kernel
theorem dX0_pleasesAll_47 : decode cX0_pleasesAll 47 = .ok (.iload_n 2, 1) := by decide +kernel
theorem dX0_pleasesAll_48 : decode cX0_pleasesAll 48 = .ok (.aaload, 1) := by decide +kernel
theorem dX0_pleasesAll_49 : decode cX0_pleasesAll 49 = .ok (.getfield 154, 3) := by decide +kernel
theorem dX0_pleasesAll_52 : decode cX0_pleasesAll 52 = .ok (.iload 4, 2) := by decide +kernel
theorem dX0_pleasesAll_54 : decode cX0_pleasesAll 54 = .ok (.iaload, 1) := by decide +kernel
theorem dX0_pleasesAll_55 : decode cX0_pleasesAll 55 = .ok (.iconst 5, 1) := by decide +kernel
theorem dX0_pleasesAll_56 : decode cX0_pleasesAll 56 = .ok (.if_icmp .lt 5, 3) := by decide +kernel
theorem dX0_pleasesAll_59 : decode cX0_pleasesAll 59 = .ok (.iconst 1, 1) := by decide +kernel
theorem dX0_pleasesAll_60 : decode cX0_pleasesAll 60 = .ok (.istore_n 3, 1) := by decide +kernel
theorem dX0_pleasesAll_61 : decode cX0_pleasesAll 61 = .ok (.iinc 4 1, 3) := by decide +kernel
theorem dX0_pleasesAll_64 : decode cX0_pleasesAll 64 = .ok (.goto (-46), 3) := by decide +kernel
theorem dX0_pleasesAll_67 : decode cX0_pleasesAll 67 = .ok (.iload_n 3, 1) := by decide +kernel
theorem dX0_pleasesAll_68 : decode cX0_pleasesAll 68 = .ok (.ifCond .ne 5, 3) := by decide +kernel
theorem dX0_pleasesAll_71 : decode cX0_pleasesAll 71 = .ok (.iconst 0, 1) := by decide +kernel
theorem dX0_pleasesAll_72 : decode cX0_pleasesAll 72 = .ok (.ireturn, 1) := by decide +kernel
theorem dX0_pleasesAll_73 : decode cX0_pleasesAll 73 = .ok (.iinc 2 1, 3) := by decide +kernel
theorem dX0_pleasesAll_76 : decode cX0_pleasesAll 76 = .ok (.goto (-74), 3) := by decide +kernel
theorem dX0_pleasesAll_79 : decode cX0_pleasesAll 79 = .ok (.iconst 1, 1) := by decide +kernel
theorem dX0_pleasesAll_80 : decode cX0_pleasesAll 80 = .ok (.ireturn, 1) := by decide +kernel
theorem dX0_leastUrge_0 : decode cX0_leastUrge 0 = .ok (.iconst 0, 1) := by decide +kernel
theorem dX0_leastUrge_1 : decode cX0_leastUrge 1 = .ok (.istore 4, 2) := by decide +kernel
theorem dX0_leastUrge_3 : decode cX0_leastUrge 3 = .ok (.iload 4, 2) := by decide +kernel
theorem dX0_leastUrge_5 : decode cX0_leastUrge 5 = .ok (.bipush 20, 2) := by decide +kernel
theorem dX0_leastUrge_7 : decode cX0_leastUrge 7 = .ok (.if_icmp .gt 44, 3) := by decide +kernel
theorem dX0_leastUrge_10 : decode cX0_leastUrge 10 = .ok (.aload_n 0, 1) := by decide +kernel
theorem dX0_leastUrge_11 : decode cX0_leastUrge 11 = .ok (.invokevirtual 79, 3) := by decide +kernel
theorem dX0_leastUrge_14 : decode cX0_leastUrge 14 = .ok (.aload_n 0, 1) := by decide +kernel
theorem dX0_leastUrge_15 : decode cX0_leastUrge 15 = .ok (.getfield 40, 3) := by decide +kernel
theorem dX0_leastUrge_18 : decode cX0_leastUrge 18 = .ok (.iload_n 1, 1) := by decide +kernel
theorem dX0_leastUrge_19 : decode cX0_leastUrge 19 = .ok (.iload 4, 2) := by decide +kernel
theorem dX0_leastUrge_21 : decode cX0_leastUrge 21 = .ok (.invokevirtual 59, 3) := by decide +kernel
theorem dX0_leastUrge_24 : decode cX0_leastUrge 24 = .ok (.aload_n 0, 1) := by decide +kernel
theorem dX0_leastUrge_25 : decode cX0_leastUrge 25 = .ok (.iload_n 2, 1) := by decide +kernel
theorem dX0_leastUrge_26 : decode cX0_leastUrge 26 = .ok (.invokevirtual 82, 3) := by decide +kernel
theorem dX0_leastUrge_29 : decode cX0_leastUrge 29 = .ok (.aload_n 0, 1) := by decide +kernel
theorem dX0_leastUrge_30 : decode cX0_leastUrge 30 = .ok (.getfield 40, 3) := by decide +kernel
theorem dX0_leastUrge_33 : decode cX0_leastUrge 33 = .ok (.getfield 160, 3) := by decide +kernel
theorem dX0_leastUrge_36 : decode cX0_leastUrge 36 = .ok (.iload_n 1, 1) := by decide +kernel
theorem dX0_leastUrge_37 : decode cX0_leastUrge 37 = .ok (.iaload, 1) := by decide +kernel
theorem dX0_leastUrge_38 : decode cX0_leastUrge 38 = .ok (.iload_n 3, 1) := by decide +kernel
theorem dX0_leastUrge_39 : decode cX0_leastUrge 39 = .ok (.if_icmp .lt 6, 3) := by decide +kernel
theorem dX0_leastUrge_42 : decode cX0_leastUrge 42 = .ok (.iload 4, 2) := by decide +kernel
theorem dX0_leastUrge_44 : decode cX0_leastUrge 44 = .ok (.ireturn, 1) := by decide +kernel
theorem dX0_leastUrge_45 : decode cX0_leastUrge 45 = .ok (.iinc 4 1, 3) := by decide +kernel
theorem dX0_leastUrge_48 : decode cX0_leastUrge 48 = .ok (.goto (-45), 3) := by decide +kernel
theorem dX0_leastUrge_51 : decode cX0_leastUrge 51 = .ok (.iconst (-1), 1) := by decide +kernel
theorem dX0_leastUrge_52 : decode cX0_leastUrge 52 = .ok (.ireturn, 1) := by decide +kernel
theorem dX0_fittingLoaths_0 : decode cX0_fittingLoaths 0 = .ok (.iconst 0, 1) := by decide +kernel
theorem dX0_fittingLoaths_1 : decode cX0_fittingLoaths 1 = .ok (.istore_n 2, 1) := by decide +kernel
theorem dX0_fittingLoaths_2 : decode cX0_fittingLoaths 2 = .ok (.iconst 0, 1) := by decide +kernel
theorem dX0_fittingLoaths_3 : decode cX0_fittingLoaths 3 = .ok (.istore_n 3, 1) := by decide +kernel
theorem dX0_fittingLoaths_4 : decode cX0_fittingLoaths 4 = .ok (.iload_n 3, 1) := by decide +kernel
theorem dX0_fittingLoaths_5 : decode cX0_fittingLoaths 5 = .ok (.bipush 10, 2) := by decide +kernel
theorem dX0_fittingLoaths_7 : decode cX0_fittingLoaths 7 = .ok (.if_icmp .ge 24, 3) := by decide +kernel
theorem dX0_fittingLoaths_10 : decode cX0_fittingLoaths 10 = .ok (.aload_n 0, 1) := by decide +kernel
theorem dX0_fittingLoaths_11 : decode cX0_fittingLoaths 11 = .ok (.aload_n 1, 1) := by decide +kernel
theorem dX0_fittingLoaths_12 : decode cX0_fittingLoaths 12 = .ok (.iload_n 3, 1) := by decide +kernel
theorem dX0_fittingLoaths_13 : decode cX0_fittingLoaths 13 = .ok (.invokevirtual 163, 3) := by decide +kernel
theorem dX0_fittingLoaths_16 : decode cX0_fittingLoaths 16 = .ok (.ifCond .eq 9, 3) := by decide +kernel
theorem dX0_fittingLoaths_19 : decode cX0_fittingLoaths 19 = .ok (.iload_n 2, 1) := by decide +kernel
theorem dX0_fittingLoaths_20 : decode cX0_fittingLoaths 20 = .ok (.iconst 1, 1) := by decide +kernel
theorem dX0_fittingLoaths_21 : decode cX0_fittingLoaths 21 = .ok (.iload_n 3, 1) := by decide +kernel
theorem dX0_fittingLoaths_22 : decode cX0_fittingLoaths 22 = .ok (.ishl, 1) := by decide +kernel
theorem dX0_fittingLoaths_23 : decode cX0_fittingLoaths 23 = .ok (.ior, 1) := by decide +kernel
theorem dX0_fittingLoaths_24 : decode cX0_fittingLoaths 24 = .ok (.istore_n 2, 1) := by decide +kernel
theorem dX0_fittingLoaths_25 : decode cX0_fittingLoaths 25 = .ok (.iinc 3 1, 3) := by decide +kernel
theorem dX0_fittingLoaths_28 : decode cX0_fittingLoaths 28 = .ok (.goto (-24), 3) := by decide +kernel
theorem dX0_fittingLoaths_31 : decode cX0_fittingLoaths 31 = .ok (.iload_n 2, 1) := by decide +kernel
theorem dX0_fittingLoaths_32 : decode cX0_fittingLoaths 32 = .ok (.ireturn, 1) := by decide +kernel
theorem dX0_wouldFit_0 : decode cX0_wouldFit 0 = .ok (.iconst 0, 1) := by decide +kernel
theorem dX0_wouldFit_1 : decode cX0_wouldFit 1 = .ok (.istore_n 3, 1) := by decide +kernel
theorem dX0_wouldFit_2 : decode cX0_wouldFit 2 = .ok (.iload_n 3, 1) := by decide +kernel
theorem dX0_wouldFit_3 : decode cX0_wouldFit 3 = .ok (.aload_n 1, 1) := by decide +kernel
theorem dX0_wouldFit_4 : decode cX0_wouldFit 4 = .ok (.getfield 167, 3) := by decide +kernel
theorem dX0_wouldFit_7 : decode cX0_wouldFit 7 = .ok (.if_icmp .ge 56, 3) := by decide +kernel
theorem dX0_wouldFit_10 : decode cX0_wouldFit 10 = .ok (.aload_n 0, 1) := by decide +kernel
theorem dX0_wouldFit_11 : decode cX0_wouldFit 11 = .ok (.invokevirtual 79, 3) := by decide +kernel
theorem dX0_wouldFit_14 : decode cX0_wouldFit 14 = .ok (.aload_n 0, 1) := by decide +kernel
theorem dX0_wouldFit_15 : decode cX0_wouldFit 15 = .ok (.getfield 40, 3) := by decide +kernel
theorem dX0_wouldFit_18 : decode cX0_wouldFit 18 = .ok (.iload_n 2, 1) := by decide +kernel
theorem dX0_wouldFit_19 : decode cX0_wouldFit 19 = .ok (.putfield 52, 3) := by decide +kernel
theorem dX0_wouldFit_22 : decode cX0_wouldFit 22 = .ok (.aload_n 0, 1) := by decide +kernel
theorem dX0_wouldFit_23 : decode cX0_wouldFit 23 = .ok (.aload_n 1, 1) := by decide +kernel
theorem dX0_wouldFit_24 : decode cX0_wouldFit 24 = .ok (.getfield 170, 3) := by decide +kernel
theorem dX0_wouldFit_27 : decode cX0_wouldFit 27 = .ok (.iload_n 3, 1) := by decide +kernel
theorem dX0_wouldFit_28 : decode cX0_wouldFit 28 = .ok (.iaload, 1) := by decide +kernel
theorem dX0_wouldFit_29 : decode cX0_wouldFit 29 = .ok (.invokevirtual 82, 3) := by decide +kernel
theorem dX0_wouldFit_32 : decode cX0_wouldFit 32 = .ok (.aload_n 0, 1) := by decide +kernel
theorem dX0_wouldFit_33 : decode cX0_wouldFit 33 = .ok (.getfield 40, 3) := by decide +kernel
theorem dX0_wouldFit_36 : decode cX0_wouldFit 36 = .ok (.getfield 86, 3) := by decide +kernel
theorem dX0_wouldFit_39 : decode cX0_wouldFit 39 = .ok (.aload_n 1, 1) := by decide +kernel
theorem dX0_wouldFit_40 : decode cX0_wouldFit 40 = .ok (.getfield 173, 3) := by decide +kernel
theorem dX0_wouldFit_43 : decode cX0_wouldFit 43 = .ok (.iload_n 3, 1) := by decide +kernel
theorem dX0_wouldFit_44 : decode cX0_wouldFit 44 = .ok (.iaload, 1) := by decide +kernel
theorem dX0_wouldFit_45 : decode cX0_wouldFit 45 = .ok (.iaload, 1) := by decide +kernel
theorem dX0_wouldFit_46 : decode cX0_wouldFit 46 = .ok (.aload_n 1, 1) := by decide +kernel
theorem dX0_wouldFit_47 : decode cX0_wouldFit 47 = .ok (.getfield 176, 3) := by decide +kernel
theorem dX0_wouldFit_50 : decode cX0_wouldFit 50 = .ok (.iload_n 3, 1) := by decide +kernel
theorem dX0_wouldFit_51 : decode cX0_wouldFit 51 = .ok (.iaload, 1) := by decide +kernel
theorem dX0_wouldFit_52 : decode cX0_wouldFit 52 = .ok (.if_icmp .eq 5, 3) := by decide +kernel
theorem dX0_wouldFit_55 : decode cX0_wouldFit 55 = .ok (.iconst 0, 1) := by decide +kernel
theorem dX0_wouldFit_56 : decode cX0_wouldFit 56 = .ok (.ireturn, 1) := by decide +kernel
theorem dX0_wouldFit_57 : decode cX0_wouldFit 57 = .ok (.iinc 3 1, 3) := by decide +kernel
theorem dX0_wouldFit_60 : decode cX0_wouldFit 60 = .ok (.goto (-58), 3) := by decide +kernel
theorem dX0_wouldFit_63 : decode cX0_wouldFit 63 = .ok (.iconst 1, 1) := by decide +kernel
theorem dX0_wouldFit_64 : decode cX0_wouldFit 64 = .ok (.ireturn, 1) := by decide +kernel
theorem dX0_joyOfEvenings_0 : decode cX0_joyOfEvenings 0 = .ok (.aload_n 0, 1) := by decide +kernel
theorem dX0_joyOfEvenings_1 : decode cX0_joyOfEvenings 1 = .ok (.iload_n 2, 1) := by decide +kernel
theorem dX0_joyOfEvenings_2 : decode cX0_joyOfEvenings 2 = .ok (.i2l, 1) := by decide +kernel
theorem dX0_joyOfEvenings_3 : decode cX0_joyOfEvenings 3 = .ok (.putfield 179, 3) := by decide +kernel
theorem dX0_joyOfEvenings_6 : decode cX0_joyOfEvenings 6 = .ok (.aload_n 0, 1) := by decide +kernel
theorem dX0_joyOfEvenings_7 : decode cX0_joyOfEvenings 7 = .ok (.getfield 27, 3) := by decide +kernel
theorem dX0_joyOfEvenings_10 : decode cX0_joyOfEvenings 10 = .ok (.aload_n 0, 1) := by decide +kernel
theorem dX0_joyOfEvenings_11 : decode cX0_joyOfEvenings 11 = .ok (.getfield 20, 3) := by decide +kernel
theorem dX0_joyOfEvenings_14 : decode cX0_joyOfEvenings 14 = .ok (.invokevirtual 183, 3) := by decide +kernel
theorem dX0_joyOfEvenings_17 : decode cX0_joyOfEvenings 17 = .ok (.iconst 0, 1) := by decide +kernel
theorem dX0_joyOfEvenings_18 : decode cX0_joyOfEvenings 18 = .ok (.istore_n 3, 1) := by decide +kernel
theorem dX0_joyOfEvenings_19 : decode cX0_joyOfEvenings 19 = .ok (.iconst 0, 1) := by decide +kernel
theorem dX0_joyOfEvenings_20 : decode cX0_joyOfEvenings 20 = .ok (.istore 4, 2) := by decide +kernel
theorem dX0_joyOfEvenings_22 : decode cX0_joyOfEvenings 22 = .ok (.iload 4, 2) := by decide +kernel
theorem dX0_joyOfEvenings_24 : decode cX0_joyOfEvenings 24 = .ok (.iload_n 1, 1) := by decide +kernel
theorem dX0_joyOfEvenings_25 : decode cX0_joyOfEvenings 25 = .ok (.if_icmp .ge 80, 3) := by decide +kernel
theorem dX0_joyOfEvenings_28 : decode cX0_joyOfEvenings 28 = .ok (.aload_n 0, 1) := by decide +kernel
theorem dX0_joyOfEvenings_29 : decode cX0_joyOfEvenings 29 = .ok (.aload_n 0, 1) := by decide +kernel
theorem dX0_joyOfEvenings_30 : decode cX0_joyOfEvenings 30 = .ok (.getfield 27, 3) := by decide +kernel
theorem dX0_joyOfEvenings_33 : decode cX0_joyOfEvenings 33 = .ok (.getfield 63, 3) := by decide +kernel
theorem dX0_joyOfEvenings_36 : decode cX0_joyOfEvenings 36 = .ok (.invokevirtual 187, 3) := by decide +kernel
theorem dX0_joyOfEvenings_39 : decode cX0_joyOfEvenings 39 = .ok (.istore 5, 2) := by decide +kernel
theorem dX0_joyOfEvenings_41 : decode cX0_joyOfEvenings 41 = .ok (.aload_n 0, 1) := by decide +kernel
theorem dX0_joyOfEvenings_42 : decode cX0_joyOfEvenings 42 = .ok (.aload_n 0, 1) := by decide +kernel
theorem dX0_joyOfEvenings_43 : decode cX0_joyOfEvenings 43 = .ok (.getfield 23, 3) := by decide +kernel
theorem dX0_joyOfEvenings_46 : decode cX0_joyOfEvenings 46 = .ok (.getfield 117, 3) := by decide +kernel
theorem dX0_joyOfEvenings_49 : decode cX0_joyOfEvenings 49 = .ok (.invokevirtual 187, 3) := by decide +kernel
theorem dX0_joyOfEvenings_52 : decode cX0_joyOfEvenings 52 = .ok (.istore 6, 2) := by decide +kernel
theorem dX0_joyOfEvenings_54 : decode cX0_joyOfEvenings 54 = .ok (.aload_n 0, 1) := by decide +kernel
theorem dX0_joyOfEvenings_55 : decode cX0_joyOfEvenings 55 = .ok (.aload_n 0, 1) := by decide +kernel
theorem dX0_joyOfEvenings_56 : decode cX0_joyOfEvenings 56 = .ok (.getfield 27, 3) := by decide +kernel
theorem dX0_joyOfEvenings_59 : decode cX0_joyOfEvenings 59 = .ok (.getfield 63, 3) := by decide +kernel
theorem dX0_joyOfEvenings_62 : decode cX0_joyOfEvenings 62 = .ok (.invokevirtual 187, 3) := by decide +kernel
theorem dX0_joyOfEvenings_65 : decode cX0_joyOfEvenings 65 = .ok (.istore 7, 2) := by decide +kernel
theorem dX0_joyOfEvenings_67 : decode cX0_joyOfEvenings 67 = .ok (.aload_n 0, 1) := by decide +kernel
theorem dX0_joyOfEvenings_68 : decode cX0_joyOfEvenings 68 = .ok (.getfield 27, 3) := by decide +kernel
theorem dX0_joyOfEvenings_71 : decode cX0_joyOfEvenings 71 = .ok (.getfield 134, 3) := by decide +kernel
theorem dX0_joyOfEvenings_74 : decode cX0_joyOfEvenings 74 = .ok (.iload 7, 2) := by decide +kernel
theorem dX0_joyOfEvenings_76 : decode cX0_joyOfEvenings 76 = .ok (.aaload, 1) := by decide +kernel
theorem dX0_joyOfEvenings_77 : decode cX0_joyOfEvenings 77 = .ok (.getfield 154, 3) := by decide +kernel
theorem dX0_joyOfEvenings_80 : decode cX0_joyOfEvenings 80 = .ok (.iload 6, 2) := by decide +kernel
theorem dX0_joyOfEvenings_82 : decode cX0_joyOfEvenings 82 = .ok (.aload_n 0, 1) := by decide +kernel
theorem dX0_joyOfEvenings_83 : decode cX0_joyOfEvenings 83 = .ok (.bipush 10, 2) := by decide +kernel
theorem dX0_joyOfEvenings_85 : decode cX0_joyOfEvenings 85 = .ok (.invokevirtual 187, 3) := by decide +kernel
theorem dX0_joyOfEvenings_88 : decode cX0_joyOfEvenings 88 = .ok (.iastore, 1) := by decide +kernel
theorem dX0_joyOfEvenings_89 : decode cX0_joyOfEvenings 89 = .ok (.iload_n 3, 1) := by decide +kernel
theorem dX0_joyOfEvenings_90 : decode cX0_joyOfEvenings 90 = .ok (.aload_n 0, 1) := by decide +kernel
theorem dX0_joyOfEvenings_91 : decode cX0_joyOfEvenings 91 = .ok (.iload 5, 2) := by decide +kernel
theorem dX0_joyOfEvenings_93 : decode cX0_joyOfEvenings 93 = .ok (.iconst (-1), 1) := by decide +kernel
theorem dX0_joyOfEvenings_94 : decode cX0_joyOfEvenings 94 = .ok (.invokevirtual 96, 3) := by decide +kernel
theorem dX0_joyOfEvenings_97 : decode cX0_joyOfEvenings 97 = .ok (.iadd, 1) := by decide +kernel
theorem dX0_joyOfEvenings_98 : decode cX0_joyOfEvenings 98 = .ok (.istore_n 3, 1) := by decide +kernel
theorem dX0_joyOfEvenings_99 : decode cX0_joyOfEvenings 99 = .ok (.iinc 4 1, 3) := by decide +kernel
theorem dX0_joyOfEvenings_102 : decode cX0_joyOfEvenings 102 = .ok (.goto (-80), 3) := by decide +kernel
theorem dX0_joyOfEvenings_105 : decode cX0_joyOfEvenings 105 = .ok (.aload_n 0, 1) := by decide +kernel
theorem dX0_joyOfEvenings_106 : decode cX0_joyOfEvenings 106 = .ok (.getfield 27, 3) := by decide +kernel
theorem dX0_joyOfEvenings_109 : decode cX0_joyOfEvenings 109 = .ok (.aload_n 0, 1) := by decide +kernel
theorem dX0_joyOfEvenings_110 : decode cX0_joyOfEvenings 110 = .ok (.getfield 20, 3) := by decide +kernel
theorem dX0_joyOfEvenings_113 : decode cX0_joyOfEvenings 113 = .ok (.invokevirtual 190, 3) := by decide +kernel
theorem dX0_joyOfEvenings_116 : decode cX0_joyOfEvenings 116 = .ok (.iload_n 3, 1) := by decide +kernel
theorem dX0_joyOfEvenings_117 : decode cX0_joyOfEvenings 117 = .ok (.ireturn, 1) := by decide +kernel
theorem dX0_draw_0 : decode cX0_draw 0 = .ok (.aload_n 0, 1) := by decide +kernel
theorem dX0_draw_1 : decode cX0_draw 1 = .ok (.ldc2_w 193, 3) := by decide +kernel
theorem dX0_draw_4 : decode cX0_draw 4 = .ok (.aload_n 0, 1) := by decide +kernel
theorem dX0_draw_5 : decode cX0_draw 5 = .ok (.getfield 179, 3) := by decide +kernel
theorem dX0_draw_8 : decode cX0_draw 8 = .ok (.lmul, 1) := by decide +kernel
theorem dX0_draw_9 : decode cX0_draw 9 = .ok (.ldc2_w 195, 3) := by decide +kernel
theorem dX0_draw_12 : decode cX0_draw 12 = .ok (.ladd, 1) := by decide +kernel
theorem dX0_draw_13 : decode cX0_draw 13 = .ok (.ldc2_w 197, 3) := by decide +kernel
theorem dX0_draw_16 : decode cX0_draw 16 = .ok (.lrem, 1) := by decide +kernel
theorem dX0_draw_17 : decode cX0_draw 17 = .ok (.putfield 179, 3) := by decide +kernel
theorem dX0_draw_20 : decode cX0_draw 20 = .ok (.iload_n 1, 1) := by decide +kernel
theorem dX0_draw_21 : decode cX0_draw 21 = .ok (.iconst 1, 1) := by decide +kernel
theorem dX0_draw_22 : decode cX0_draw 22 = .ok (.if_icmp .ge 7, 3) := by decide +kernel
theorem dX0_draw_25 : decode cX0_draw 25 = .ok (.iconst 0, 1) := by decide +kernel
theorem dX0_draw_26 : decode cX0_draw 26 = .ok (.goto 15, 3) := by decide +kernel
theorem dX0_draw_29 : decode cX0_draw 29 = .ok (.aload_n 0, 1) := by decide +kernel
theorem dX0_draw_30 : decode cX0_draw 30 = .ok (.getfield 179, 3) := by decide +kernel
theorem dX0_draw_33 : decode cX0_draw 33 = .ok (.ldc2_w 199, 3) := by decide +kernel
theorem dX0_draw_36 : decode cX0_draw 36 = .ok (.ldiv, 1) := by decide +kernel
theorem dX0_draw_37 : decode cX0_draw 37 = .ok (.iload_n 1, 1) := by decide +kernel
theorem dX0_draw_38 : decode cX0_draw 38 = .ok (.i2l, 1) := by decide +kernel
theorem dX0_draw_39 : decode cX0_draw 39 = .ok (.lrem, 1) := by decide +kernel
theorem dX0_draw_40 : decode cX0_draw 40 = .ok (.l2i, 1) := by decide +kernel
theorem dX0_draw_41 : decode cX0_draw 41 = .ok (.ireturn, 1) := by decide +kernel
theorem dX1_init_0 : decode cX1_init 0 = .ok (.aload_n 0, 1) := by decide +kernel
theorem dX1_init_1 : decode cX1_init 1 = .ok (.invokespecial 3, 3) := by decide +kernel
theorem dX1_init_4 : decode cX1_init 4 = .ok (.aload_n 0, 1) := by decide +kernel
theorem dX1_init_5 : decode cX1_init 5 = .ok (.bipush 6, 2) := by decide +kernel
theorem dX1_init_7 : decode cX1_init 7 = .ok (.newarray .int, 2) := by decide +kernel
theorem dX1_init_9 : decode cX1_init 9 = .ok (.putfield 9, 3) := by decide +kernel
theorem dX1_init_12 : decode cX1_init 12 = .ok (.return_, 1) := by decide +kernel
theorem dX1_sitDown_0 : decode cX1_sitDown 0 = .ok (.aload_n 0, 1) := by decide +kernel
theorem dX1_sitDown_1 : decode cX1_sitDown 1 = .ok (.iload_n 1, 1) := by decide +kernel
theorem dX1_sitDown_2 : decode cX1_sitDown 2 = .ok (.putfield 15, 3) := by decide +kernel
theorem dX1_sitDown_5 : decode cX1_sitDown 5 = .ok (.aload_n 0, 1) := by decide +kernel
theorem dX1_sitDown_6 : decode cX1_sitDown 6 = .ok (.iload_n 2, 1) := by decide +kernel
theorem dX1_sitDown_7 : decode cX1_sitDown 7 = .ok (.putfield 19, 3) := by decide +kernel
theorem dX1_sitDown_10 : decode cX1_sitDown 10 = .ok (.aload_n 0, 1) := by decide +kernel
theorem dX1_sitDown_11 : decode cX1_sitDown 11 = .ok (.getstatic 22, 3) := by decide +kernel
theorem dX1_sitDown_14 : decode cX1_sitDown 14 = .ok (.iload_n 1, 1) := by decide +kernel
theorem dX1_sitDown_15 : decode cX1_sitDown 15 = .ok (.iaload, 1) := by decide +kernel
theorem dX1_sitDown_16 : decode cX1_sitDown 16 = .ok (.putfield 25, 3) := by decide +kernel
theorem dX1_sitDown_19 : decode cX1_sitDown 19 = .ok (.iconst 0, 1) := by decide +kernel
theorem dX1_sitDown_20 : decode cX1_sitDown 20 = .ok (.istore_n 3, 1) := by decide +kernel
theorem dX1_sitDown_21 : decode cX1_sitDown 21 = .ok (.iload_n 3, 1) := by decide +kernel
theorem dX1_sitDown_22 : decode cX1_sitDown 22 = .ok (.bipush 6, 2) := by decide +kernel
theorem dX1_sitDown_24 : decode cX1_sitDown 24 = .ok (.if_icmp .ge 16, 3) := by decide +kernel
theorem dX1_sitDown_27 : decode cX1_sitDown 27 = .ok (.aload_n 0, 1) := by decide +kernel
theorem dX1_sitDown_28 : decode cX1_sitDown 28 = .ok (.getfield 9, 3) := by decide +kernel
theorem dX1_sitDown_31 : decode cX1_sitDown 31 = .ok (.iload_n 3, 1) := by decide +kernel
theorem dX1_sitDown_32 : decode cX1_sitDown 32 = .ok (.iconst 0, 1) := by decide +kernel
theorem dX1_sitDown_33 : decode cX1_sitDown 33 = .ok (.iastore, 1) := by decide +kernel
theorem dX1_sitDown_34 : decode cX1_sitDown 34 = .ok (.iinc 3 1, 3) := by decide +kernel
theorem dX1_sitDown_37 : decode cX1_sitDown 37 = .ok (.goto (-16), 3) := by decide +kernel
theorem dX1_sitDown_40 : decode cX1_sitDown 40 = .ok (.return_, 1) := by decide +kernel
theorem dX1_isOfKind_0 : decode cX1_isOfKind 0 = .ok (.iload_n 1, 1) := by decide +kernel
theorem dX1_isOfKind_1 : decode cX1_isOfKind 1 = .ok (.ifCond .eq 24, 3) := by decide +kernel
theorem dX1_isOfKind_4 : decode cX1_isOfKind 4 = .ok (.iload_n 1, 1) := by decide +kernel
theorem dX1_isOfKind_5 : decode cX1_isOfKind 5 = .ok (.aload_n 0, 1) := by decide +kernel
theorem dX1_isOfKind_6 : decode cX1_isOfKind 6 = .ok (.getfield 15, 3) := by decide +kernel
theorem dX1_isOfKind_9 : decode cX1_isOfKind 9 = .ok (.if_icmp .eq 16, 3) := by decide +kernel
theorem dX1_isOfKind_12 : decode cX1_isOfKind 12 = .ok (.iload_n 1, 1) := by decide +kernel
theorem dX1_isOfKind_13 : decode cX1_isOfKind 13 = .ok (.iconst 3, 1) := by decide +kernel
theorem dX1_isOfKind_14 : decode cX1_isOfKind 14 = .ok (.if_icmp .ne 15, 3) := by decide +kernel
theorem dX1_isOfKind_17 : decode cX1_isOfKind 17 = .ok (.aload_n 0, 1) := by decide +kernel
theorem dX1_isOfKind_18 : decode cX1_isOfKind 18 = .ok (.getfield 15, 3) := by decide +kernel
theorem dX1_isOfKind_21 : decode cX1_isOfKind 21 = .ok (.iconst 4, 1) := by decide +kernel
theorem dX1_isOfKind_22 : decode cX1_isOfKind 22 = .ok (.if_icmp .ne 7, 3) := by decide +kernel
theorem dX1_isOfKind_25 : decode cX1_isOfKind 25 = .ok (.iconst 1, 1) := by decide +kernel
theorem dX1_isOfKind_26 : decode cX1_isOfKind 26 = .ok (.goto 4, 3) := by decide +kernel
theorem dX1_isOfKind_29 : decode cX1_isOfKind 29 = .ok (.iconst 0, 1) := by decide +kernel
theorem dX1_isOfKind_30 : decode cX1_isOfKind 30 = .ok (.ireturn, 1) := by decide +kernel
theorem dX2_init_0 : decode cX2_init 0 = .ok (.aload_n 0, 1) := by decide +kernel
theorem dX2_init_1 : decode cX2_init 1 = .ok (.invokespecial 3, 3) := by decide +kernel
theorem dX2_init_4 : decode cX2_init 4 = .ok (.aload_n 0, 1) := by decide +kernel
theorem dX2_init_5 : decode cX2_init 5 = .ok (.iconst 5, 1) := by decide +kernel
theorem dX2_init_6 : decode cX2_init 6 = .ok (.bipush 6, 2) := by decide +kernel
theorem dX2_init_8 : decode cX2_init 8 = .ok (.multianewarray 9 2, 4) := by decide +kernel
theorem dX2_init_12 : decode cX2_init 12 = .ok (.putfield 11, 3) := by decide +kernel
theorem dX2_init_15 : decode cX2_init 15 = .ok (.aload_n 0, 1) := by decide +kernel
theorem dX2_init_16 : decode cX2_init 16 = .ok (.iconst 5, 1) := by decide +kernel
theorem dX2_init_17 : decode cX2_init 17 = .ok (.newarray .int, 2) := by decide +kernel
theorem dX2_init_19 : decode cX2_init 19 = .ok (.putfield 16, 3) := by decide +kernel
theorem dX2_init_22 : decode cX2_init 22 = .ok (.aload_n 0, 1) := by decide +kernel
theorem dX2_init_23 : decode cX2_init 23 = .ok (.new 20, 3) := by decide +kernel
theorem dX2_init_26 : decode cX2_init 26 = .ok (.dup, 1) := by decide +kernel
theorem dX2_init_27 : decode cX2_init 27 = .ok (.aload_n 1, 1) := by decide +kernel
theorem dX2_init_28 : decode cX2_init 28 = .ok (.aload_n 2, 1) := by decide +kernel
theorem dX2_init_29 : decode cX2_init 29 = .ok (.invokespecial 22, 3) := by decide +kernel
theorem dX2_init_32 : decode cX2_init 32 = .ok (.putfield 25, 3) := by decide +kernel
theorem dX2_init_35 : decode cX2_init 35 = .ok (.aload_n 0, 1) := by decide +kernel
theorem dX2_init_36 : decode cX2_init 36 = .ok (.new 29, 3) := by decide +kernel
theorem dX2_init_39 : decode cX2_init 39 = .ok (.dup, 1) := by decide +kernel
theorem dX2_init_40 : decode cX2_init 40 = .ok (.invokespecial 31, 3) := by decide +kernel
theorem dX2_init_43 : decode cX2_init 43 = .ok (.putfield 32, 3) := by decide +kernel
theorem dX2_init_46 : decode cX2_init 46 = .ok (.return_, 1) := by decide +kernel
theorem dX2_take_0 : decode cX2_take 0 = .ok (.aload_n 0, 1) := by decide +kernel
theorem dX2_take_1 : decode cX2_take 1 = .ok (.getfield 25, 3) := by decide +kernel
theorem dX2_take_4 : decode cX2_take 4 = .ok (.aload_n 2, 1) := by decide +kernel
theorem dX2_take_5 : decode cX2_take 5 = .ok (.invokevirtual 36, 3) := by decide +kernel
theorem dX2_take_8 : decode cX2_take 8 = .ok (.aload_n 0, 1) := by decide +kernel
theorem dX2_take_9 : decode cX2_take 9 = .ok (.getfield 32, 3) := by decide +kernel
theorem dX2_take_12 : decode cX2_take 12 = .ok (.aload_n 3, 1) := by decide +kernel
theorem dX2_take_13 : decode cX2_take 13 = .ok (.invokevirtual 40, 3) := by decide +kernel
theorem dX2_take_16 : decode cX2_take 16 = .ok (.aload_n 0, 1) := by decide +kernel
theorem dX2_take_17 : decode cX2_take 17 = .ok (.aload_n 1, 1) := by decide +kernel
theorem dX2_take_18 : decode cX2_take 18 = .ok (.getfield 43, 3) := by decide +kernel
theorem dX2_take_21 : decode cX2_take 21 = .ok (.putfield 49, 3) := by decide +kernel
theorem dX2_take_24 : decode cX2_take 24 = .ok (.aload_n 1, 1) := by decide +kernel
theorem dX2_take_25 : decode cX2_take 25 = .ok (.aload_n 0, 1) := by decide +kernel
theorem dX2_take_26 : decode cX2_take 26 = .ok (.getfield 11, 3) := by decide +kernel
theorem dX2_take_29 : decode cX2_take 29 = .ok (.invokevirtual 52, 3) := by decide +kernel
theorem dX2_take_32 : decode cX2_take 32 = .ok (.iconst 0, 1) := by decide +kernel
theorem dX2_take_33 : decode cX2_take 33 = .ok (.istore 4, 2) := by decide +kernel
theorem dX2_take_35 : decode cX2_take 35 = .ok (.iload 4, 2) := by decide +kernel
theorem dX2_take_37 : decode cX2_take 37 = .ok (.iconst 5, 1) := by decide +kernel
theorem dX2_take_38 : decode cX2_take 38 = .ok (.if_icmp .ge 26, 3) := by decide +kernel
theorem dX2_take_41 : decode cX2_take 41 = .ok (.aload_n 0, 1) := by decide +kernel
theorem dX2_take_42 : decode cX2_take 42 = .ok (.getfield 16, 3) := by decide +kernel
theorem dX2_take_45 : decode cX2_take 45 = .ok (.iload 4, 2) := by decide +kernel
theorem dX2_take_47 : decode cX2_take 47 = .ok (.aload_n 1, 1) := by decide +kernel
theorem dX2_take_48 : decode cX2_take 48 = .ok (.getfield 56, 3) := by decide +kernel
theorem dX2_take_51 : decode cX2_take 51 = .ok (.iload 4, 2) := by decide +kernel
theorem dX2_take_53 : decode cX2_take 53 = .ok (.aaload, 1) := by decide +kernel
theorem dX2_take_54 : decode cX2_take 54 = .ok (.getfield 60, 3) := by decide +kernel
theorem dX2_take_57 : decode cX2_take 57 = .ok (.iastore, 1) := by decide +kernel
theorem dX2_take_58 : decode cX2_take 58 = .ok (.iinc 4 1, 3) := by decide +kernel
theorem dX2_take_61 : decode cX2_take 61 = .ok (.goto (-26), 3) := by decide +kernel
theorem dX2_take_64 : decode cX2_take 64 = .ok (.return_, 1) := by decide +kernel
theorem dX2_putBack_0 : decode cX2_putBack 0 = .ok (.aload_n 2, 1) := by decide +kernel
theorem dX2_putBack_1 : decode cX2_putBack 1 = .ok (.aload_n 0, 1) := by decide +kernel
theorem dX2_putBack_2 : decode cX2_putBack 2 = .ok (.getfield 25, 3) := by decide +kernel
theorem dX2_putBack_5 : decode cX2_putBack 5 = .ok (.invokevirtual 36, 3) := by decide +kernel
theorem dX2_putBack_8 : decode cX2_putBack 8 = .ok (.aload_n 3, 1) := by decide +kernel
theorem dX2_putBack_9 : decode cX2_putBack 9 = .ok (.aload_n 0, 1) := by decide +kernel
theorem dX2_putBack_10 : decode cX2_putBack 10 = .ok (.getfield 32, 3) := by decide +kernel
theorem dX2_putBack_13 : decode cX2_putBack 13 = .ok (.invokevirtual 40, 3) := by decide +kernel
theorem dX2_putBack_16 : decode cX2_putBack 16 = .ok (.aload_n 1, 1) := by decide +kernel
theorem dX2_putBack_17 : decode cX2_putBack 17 = .ok (.aload_n 0, 1) := by decide +kernel
theorem dX2_putBack_18 : decode cX2_putBack 18 = .ok (.getfield 11, 3) := by decide +kernel
theorem dX2_putBack_21 : decode cX2_putBack 21 = .ok (.invokevirtual 65, 3) := by decide +kernel
theorem dX2_putBack_24 : decode cX2_putBack 24 = .ok (.iconst 0, 1) := by decide +kernel
theorem dX2_putBack_25 : decode cX2_putBack 25 = .ok (.istore 4, 2) := by decide +kernel
theorem dX2_putBack_27 : decode cX2_putBack 27 = .ok (.iload 4, 2) := by decide +kernel
theorem dX2_putBack_29 : decode cX2_putBack 29 = .ok (.iconst 5, 1) := by decide +kernel
theorem dX2_putBack_30 : decode cX2_putBack 30 = .ok (.if_icmp .ge 26, 3) := by decide +kernel
theorem dX2_putBack_33 : decode cX2_putBack 33 = .ok (.aload_n 1, 1) := by decide +kernel
theorem dX2_putBack_34 : decode cX2_putBack 34 = .ok (.getfield 56, 3) := by decide +kernel
theorem dX2_putBack_37 : decode cX2_putBack 37 = .ok (.iload 4, 2) := by decide +kernel
theorem dX2_putBack_39 : decode cX2_putBack 39 = .ok (.aaload, 1) := by decide +kernel
theorem dX2_putBack_40 : decode cX2_putBack 40 = .ok (.aload_n 0, 1) := by decide +kernel
theorem dX2_putBack_41 : decode cX2_putBack 41 = .ok (.getfield 16, 3) := by decide +kernel
theorem dX2_putBack_44 : decode cX2_putBack 44 = .ok (.iload 4, 2) := by decide +kernel
theorem dX2_putBack_46 : decode cX2_putBack 46 = .ok (.iaload, 1) := by decide +kernel
theorem dX2_putBack_47 : decode cX2_putBack 47 = .ok (.putfield 60, 3) := by decide +kernel
theorem dX2_putBack_50 : decode cX2_putBack 50 = .ok (.iinc 4 1, 3) := by decide +kernel
theorem dX2_putBack_53 : decode cX2_putBack 53 = .ok (.goto (-26), 3) := by decide +kernel
theorem dX2_putBack_56 : decode cX2_putBack 56 = .ok (.return_, 1) := by decide +kernel
theorem dX3_init_0 : decode cX3_init 0 = .ok (.aload_n 0, 1) := by decide +kernel
theorem dX3_init_1 : decode cX3_init 1 = .ok (.invokespecial 3, 3) := by decide +kernel
theorem dX3_init_4 : decode cX3_init 4 = .ok (.aload_n 0, 1) := by decide +kernel
theorem dX3_init_5 : decode cX3_init 5 = .ok (.iconst 4, 1) := by decide +kernel
theorem dX3_init_6 : decode cX3_init 6 = .ok (.newarray .int, 2) := by decide +kernel
theorem dX3_init_8 : decode cX3_init 8 = .ok (.putfield 9, 3) := by decide +kernel
theorem dX3_init_11 : decode cX3_init 11 = .ok (.aload_n 0, 1) := by decide +kernel
theorem dX3_init_12 : decode cX3_init 12 = .ok (.iconst 4, 1) := by decide +kernel
theorem dX3_init_13 : decode cX3_init 13 = .ok (.newarray .int, 2) := by decide +kernel
theorem dX3_init_15 : decode cX3_init 15 = .ok (.putfield 15, 3) := by decide +kernel
theorem dX3_init_18 : decode cX3_init 18 = .ok (.aload_n 0, 1) := by decide +kernel
theorem dX3_init_19 : decode cX3_init 19 = .ok (.iconst 4, 1) := by decide +kernel
theorem dX3_init_20 : decode cX3_init 20 = .ok (.newarray .int, 2) := by decide +kernel
theorem dX3_init_22 : decode cX3_init 22 = .ok (.putfield 18, 3) := by decide +kernel
theorem dX3_init_25 : decode cX3_init 25 = .ok (.return_, 1) := by decide +kernel
theorem dX3_add_0 : decode cX3_add 0 = .ok (.aload_n 0, 1) := by decide +kernel
theorem dX3_add_1 : decode cX3_add 1 = .ok (.getfield 9, 3) := by decide +kernel
theorem dX3_add_4 : decode cX3_add 4 = .ok (.aload_n 0, 1) := by decide +kernel
theorem dX3_add_5 : decode cX3_add 5 = .ok (.getfield 21, 3) := by decide +kernel
theorem dX3_add_8 : decode cX3_add 8 = .ok (.iload_n 1, 1) := by decide +kernel
theorem dX3_add_9 : decode cX3_add 9 = .ok (.iastore, 1) := by decide +kernel
theorem dX3_add_10 : decode cX3_add 10 = .ok (.aload_n 0, 1) := by decide +kernel
theorem dX3_add_11 : decode cX3_add 11 = .ok (.getfield 15, 3) := by decide +kernel
theorem dX3_add_14 : decode cX3_add 14 = .ok (.aload_n 0, 1) := by decide +kernel
theorem dX3_add_15 : decode cX3_add 15 = .ok (.getfield 21, 3) := by decide +kernel
theorem dX3_add_18 : decode cX3_add 18 = .ok (.iload_n 2, 1) := by decide +kernel
theorem dX3_add_19 : decode cX3_add 19 = .ok (.iastore, 1) := by decide +kernel
theorem dX3_add_20 : decode cX3_add 20 = .ok (.aload_n 0, 1) := by decide +kernel
theorem dX3_add_21 : decode cX3_add 21 = .ok (.getfield 18, 3) := by decide +kernel
theorem dX3_add_24 : decode cX3_add 24 = .ok (.aload_n 0, 1) := by decide +kernel
theorem dX3_add_25 : decode cX3_add 25 = .ok (.getfield 21, 3) := by decide +kernel
theorem dX3_add_28 : decode cX3_add 28 = .ok (.iload_n 3, 1) := by decide +kernel
theorem dX3_add_29 : decode cX3_add 29 = .ok (.iastore, 1) := by decide +kernel
theorem dX3_add_30 : decode cX3_add 30 = .ok (.aload_n 0, 1) := by decide +kernel
theorem dX3_add_31 : decode cX3_add 31 = .ok (.dup, 1) := by decide +kernel
theorem dX3_add_32 : decode cX3_add 32 = .ok (.getfield 21, 3) := by decide +kernel
theorem dX3_add_35 : decode cX3_add 35 = .ok (.iconst 1, 1) := by decide +kernel
theorem dX3_add_36 : decode cX3_add 36 = .ok (.iadd, 1) := by decide +kernel
theorem dX3_add_37 : decode cX3_add 37 = .ok (.putfield 21, 3) := by decide +kernel
theorem dX3_add_40 : decode cX3_add 40 = .ok (.return_, 1) := by decide +kernel
theorem dX3_copyFrom_0 : decode cX3_copyFrom 0 = .ok (.aload_n 1, 1) := by decide +kernel
theorem dX3_copyFrom_1 : decode cX3_copyFrom 1 = .ok (.getfield 9, 3) := by decide +kernel
theorem dX3_copyFrom_4 : decode cX3_copyFrom 4 = .ok (.iconst 0, 1) := by decide +kernel
theorem dX3_copyFrom_5 : decode cX3_copyFrom 5 = .ok (.aload_n 0, 1) := by decide +kernel
theorem dX3_copyFrom_6 : decode cX3_copyFrom 6 = .ok (.getfield 9, 3) := by decide +kernel
theorem dX3_copyFrom_9 : decode cX3_copyFrom 9 = .ok (.iconst 0, 1) := by decide +kernel
theorem dX3_copyFrom_10 : decode cX3_copyFrom 10 = .ok (.iconst 4, 1) := by decide +kernel
theorem dX3_copyFrom_11 : decode cX3_copyFrom 11 = .ok (.invokestatic 25, 3) := by decide +kernel
theorem dX3_copyFrom_14 : decode cX3_copyFrom 14 = .ok (.aload_n 1, 1) := by decide +kernel
theorem dX3_copyFrom_15 : decode cX3_copyFrom 15 = .ok (.getfield 15, 3) := by decide +kernel
theorem dX3_copyFrom_18 : decode cX3_copyFrom 18 = .ok (.iconst 0, 1) := by decide +kernel
theorem dX3_copyFrom_19 : decode cX3_copyFrom 19 = .ok (.aload_n 0, 1) := by decide +kernel
theorem dX3_copyFrom_20 : decode cX3_copyFrom 20 = .ok (.getfield 15, 3) := by decide +kernel
theorem dX3_copyFrom_23 : decode cX3_copyFrom 23 = .ok (.iconst 0, 1) := by decide +kernel
theorem dX3_copyFrom_24 : decode cX3_copyFrom 24 = .ok (.iconst 4, 1) := by decide +kernel
theorem dX3_copyFrom_25 : decode cX3_copyFrom 25 = .ok (.invokestatic 25, 3) := by decide +kernel
theorem dX3_copyFrom_28 : decode cX3_copyFrom 28 = .ok (.aload_n 1, 1) := by decide +kernel
theorem dX3_copyFrom_29 : decode cX3_copyFrom 29 = .ok (.getfield 18, 3) := by decide +kernel
theorem dX3_copyFrom_32 : decode cX3_copyFrom 32 = .ok (.iconst 0, 1) := by decide +kernel
theorem dX3_copyFrom_33 : decode cX3_copyFrom 33 = .ok (.aload_n 0, 1) := by decide +kernel
theorem dX3_copyFrom_34 : decode cX3_copyFrom 34 = .ok (.getfield 18, 3) := by decide +kernel
theorem dX3_copyFrom_37 : decode cX3_copyFrom 37 = .ok (.iconst 0, 1) := by decide +kernel
theorem dX3_copyFrom_38 : decode cX3_copyFrom 38 = .ok (.iconst 4, 1) := by decide +kernel
theorem dX3_copyFrom_39 : decode cX3_copyFrom 39 = .ok (.invokestatic 25, 3) := by decide +kernel
theorem dX3_copyFrom_42 : decode cX3_copyFrom 42 = .ok (.aload_n 0, 1) := by decide +kernel
theorem dX3_copyFrom_43 : decode cX3_copyFrom 43 = .ok (.aload_n 1, 1) := by decide +kernel
theorem dX3_copyFrom_44 : decode cX3_copyFrom 44 = .ok (.getfield 21, 3) := by decide +kernel
theorem dX3_copyFrom_47 : decode cX3_copyFrom 47 = .ok (.putfield 21, 3) := by decide +kernel
theorem dX3_copyFrom_50 : decode cX3_copyFrom 50 = .ok (.return_, 1) := by decide +kernel
theorem dX4_init_0 : decode cX4_init 0 = .ok (.aload_n 0, 1) := by decide +kernel
theorem dX4_init_1 : decode cX4_init 1 = .ok (.invokespecial 3, 3) := by decide +kernel
theorem dX4_init_4 : decode cX4_init 4 = .ok (.aload_n 0, 1) := by decide +kernel
theorem dX4_init_5 : decode cX4_init 5 = .ok (.bipush 6, 2) := by decide +kernel
theorem dX4_init_7 : decode cX4_init 7 = .ok (.newarray .int, 2) := by decide +kernel
theorem dX4_init_9 : decode cX4_init 9 = .ok (.putfield 9, 3) := by decide +kernel
theorem dX4_init_12 : decode cX4_init 12 = .ok (.aload_n 0, 1) := by decide +kernel
theorem dX4_init_13 : decode cX4_init 13 = .ok (.bipush 6, 2) := by decide +kernel
theorem dX4_init_15 : decode cX4_init 15 = .ok (.newarray .int, 2) := by decide +kernel
theorem dX4_init_17 : decode cX4_init 17 = .ok (.putfield 15, 3) := by decide +kernel
theorem dX4_init_20 : decode cX4_init 20 = .ok (.return_, 1) := by decide +kernel
theorem dX4_read_0 : decode cX4_read 0 = .ok (.aload_n 0, 1) := by decide +kernel
theorem dX4_read_1 : decode cX4_read 1 = .ok (.aload_n 1, 1) := by decide +kernel
theorem dX4_read_2 : decode cX4_read 2 = .ok (.getfield 18, 3) := by decide +kernel
theorem dX4_read_5 : decode cX4_read 5 = .ok (.iconst 3, 1) := by decide +kernel
theorem dX4_read_6 : decode cX4_read 6 = .ok (.idiv, 1) := by decide +kernel
theorem dX4_read_7 : decode cX4_read 7 = .ok (.bipush 6, 2) := by decide +kernel
theorem dX4_read_9 : decode cX4_read 9 = .ok (.invokestatic 24, 3) := by decide +kernel
theorem dX4_read_12 : decode cX4_read 12 = .ok (.putfield 30, 3) := by decide +kernel
theorem dX4_read_15 : decode cX4_read 15 = .ok (.iconst 0, 1) := by decide +kernel
theorem dX4_read_16 : decode cX4_read 16 = .ok (.istore_n 2, 1) := by decide +kernel
theorem dX4_read_17 : decode cX4_read 17 = .ok (.iload_n 2, 1) := by decide +kernel
theorem dX4_read_18 : decode cX4_read 18 = .ok (.aload_n 0, 1) := by decide +kernel
theorem dX4_read_19 : decode cX4_read 19 = .ok (.getfield 30, 3) := by decide +kernel
theorem dX4_read_22 : decode cX4_read 22 = .ok (.if_icmp .ge 45, 3) := by decide +kernel
theorem dX4_read_25 : decode cX4_read 25 = .ok (.aload_n 0, 1) := by decide +kernel
theorem dX4_read_26 : decode cX4_read 26 = .ok (.getfield 9, 3) := by decide +kernel
theorem dX4_read_29 : decode cX4_read 29 = .ok (.iload_n 2, 1) := by decide +kernel
theorem dX4_read_30 : decode cX4_read 30 = .ok (.aload_n 1, 1) := by decide +kernel
theorem dX4_read_31 : decode cX4_read 31 = .ok (.getfield 33, 3) := by decide +kernel
theorem dX4_read_34 : decode cX4_read 34 = .ok (.iconst 3, 1) := by decide +kernel
theorem dX4_read_35 : decode cX4_read 35 = .ok (.iload_n 2, 1) := by decide +kernel
theorem dX4_read_36 : decode cX4_read 36 = .ok (.imul, 1) := by decide +kernel
theorem dX4_read_37 : decode cX4_read 37 = .ok (.iaload, 1) := by decide +kernel
theorem dX4_read_38 : decode cX4_read 38 = .ok (.bipush 48, 2) := by decide +kernel
theorem dX4_read_40 : decode cX4_read 40 = .ok (.isub, 1) := by decide +kernel
theorem dX4_read_41 : decode cX4_read 41 = .ok (.iastore, 1) := by decide +kernel
theorem dX4_read_42 : decode cX4_read 42 = .ok (.aload_n 0, 1) := by decide +kernel
theorem dX4_read_43 : decode cX4_read 43 = .ok (.getfield 15, 3) := by decide +kernel
theorem dX4_read_46 : decode cX4_read 46 = .ok (.iload_n 2, 1) := by decide +kernel
theorem dX4_read_47 : decode cX4_read 47 = .ok (.aload_n 1, 1) := by decide +kernel
theorem dX4_read_48 : decode cX4_read 48 = .ok (.getfield 33, 3) := by decide +kernel
theorem dX4_read_51 : decode cX4_read 51 = .ok (.iconst 3, 1) := by decide +kernel
theorem dX4_read_52 : decode cX4_read 52 = .ok (.iload_n 2, 1) := by decide +kernel
theorem dX4_read_53 : decode cX4_read 53 = .ok (.imul, 1) := by decide +kernel
theorem dX4_read_54 : decode cX4_read 54 = .ok (.iconst 1, 1) := by decide +kernel
theorem dX4_read_55 : decode cX4_read 55 = .ok (.iadd, 1) := by decide +kernel
theorem dX4_read_56 : decode cX4_read 56 = .ok (.iaload, 1) := by decide +kernel
theorem dX4_read_57 : decode cX4_read 57 = .ok (.bipush 48, 2) := by decide +kernel
theorem dX4_read_59 : decode cX4_read 59 = .ok (.isub, 1) := by decide +kernel
theorem dX4_read_60 : decode cX4_read 60 = .ok (.iastore, 1) := by decide +kernel
theorem dX4_read_61 : decode cX4_read 61 = .ok (.iinc 2 1, 3) := by decide +kernel
theorem dX4_read_64 : decode cX4_read 64 = .ok (.goto (-47), 3) := by decide +kernel
theorem dX4_read_67 : decode cX4_read 67 = .ok (.aload_n 0, 1) := by decide +kernel
theorem dX4_read_68 : decode cX4_read 68 = .ok (.aload_n 1, 1) := by decide +kernel
theorem dX4_read_69 : decode cX4_read 69 = .ok (.getfield 33, 3) := by decide +kernel
theorem dX4_read_72 : decode cX4_read 72 = .ok (.iconst 3, 1) := by decide +kernel
theorem dX4_read_73 : decode cX4_read 73 = .ok (.aload_n 0, 1) := by decide +kernel
theorem dX4_read_74 : decode cX4_read 74 = .ok (.getfield 30, 3) := by decide +kernel
theorem dX4_read_77 : decode cX4_read 77 = .ok (.imul, 1) := by decide +kernel
theorem dX4_read_78 : decode cX4_read 78 = .ok (.iaload, 1) := by decide +kernel
theorem dX4_read_79 : decode cX4_read 79 = .ok (.bipush 48, 2) := by decide +kernel
theorem dX4_read_81 : decode cX4_read 81 = .ok (.isub, 1) := by decide +kernel
theorem dX4_read_82 : decode cX4_read 82 = .ok (.putfield 36, 3) := by decide +kernel
theorem dX4_read_85 : decode cX4_read 85 = .ok (.return_, 1) := by decide +kernel
theorem dX5_init_0 : decode cX5_init 0 = .ok (.aload_n 0, 1) := by decide +kernel
theorem dX5_init_1 : decode cX5_init 1 = .ok (.invokespecial 3, 3) := by decide +kernel
theorem dX5_init_4 : decode cX5_init 4 = .ok (.aload_n 0, 1) := by decide +kernel
theorem dX5_init_5 : decode cX5_init 5 = .ok (.bipush 22, 2) := by decide +kernel
theorem dX5_init_7 : decode cX5_init 7 = .ok (.newarray .int, 2) := by decide +kernel
theorem dX5_init_9 : decode cX5_init 9 = .ok (.putfield 9, 3) := by decide +kernel
theorem dX5_init_12 : decode cX5_init 12 = .ok (.return_, 1) := by decide +kernel
theorem dX5_firstFault_0 : decode cX5_firstFault 0 = .ok (.iconst 0, 1) := by decide +kernel
theorem dX5_firstFault_1 : decode cX5_firstFault 1 = .ok (.istore_n 1, 1) := by decide +kernel
theorem dX5_firstFault_2 : decode cX5_firstFault 2 = .ok (.iload_n 1, 1) := by decide +kernel
theorem dX5_firstFault_3 : decode cX5_firstFault 3 = .ok (.aload_n 0, 1) := by decide +kernel
theorem dX5_firstFault_4 : decode cX5_firstFault 4 = .ok (.getfield 15, 3) := by decide +kernel
theorem dX5_firstFault_7 : decode cX5_firstFault 7 = .ok (.if_icmp .ge 19, 3) := by decide +kernel
theorem dX5_firstFault_10 : decode cX5_firstFault 10 = .ok (.aload_n 0, 1) := by decide +kernel
theorem dX5_firstFault_11 : decode cX5_firstFault 11 = .ok (.iload_n 1, 1) := by decide +kernel
theorem dX5_firstFault_12 : decode cX5_firstFault 12 = .ok (.invokevirtual 19, 3) := by decide +kernel
theorem dX5_firstFault_15 : decode cX5_firstFault 15 = .ok (.ifCond .ne 5, 3) := by decide +kernel
theorem dX5_firstFault_18 : decode cX5_firstFault 18 = .ok (.iload_n 1, 1) := by decide +kernel
theorem dX5_firstFault_19 : decode cX5_firstFault 19 = .ok (.ireturn, 1) := by decide +kernel
theorem dX5_firstFault_20 : decode cX5_firstFault 20 = .ok (.iinc 1 1, 3) := by decide +kernel
theorem dX5_firstFault_23 : decode cX5_firstFault 23 = .ok (.goto (-21), 3) := by decide +kernel
theorem dX5_firstFault_26 : decode cX5_firstFault 26 = .ok (.aload_n 0, 1) := by decide +kernel
theorem dX5_firstFault_27 : decode cX5_firstFault 27 = .ok (.getfield 15, 3) := by decide +kernel
theorem dX5_firstFault_30 : decode cX5_firstFault 30 = .ok (.ireturn, 1) := by decide +kernel
theorem dX5_isCard_0 : decode cX5_isCard 0 = .ok (.aload_n 0, 1) := by decide +kernel
theorem dX5_isCard_1 : decode cX5_isCard 1 = .ok (.getfield 15, 3) := by decide +kernel
theorem dX5_isCard_4 : decode cX5_isCard 4 = .ok (.iconst 2, 1) := by decide +kernel
theorem dX5_isCard_5 : decode cX5_isCard 5 = .ok (.if_icmp .lt 34, 3) := by decide +kernel
theorem dX5_isCard_8 : decode cX5_isCard 8 = .ok (.aload_n 0, 1) := by decide +kernel
theorem dX5_isCard_9 : decode cX5_isCard 9 = .ok (.getfield 9, 3) := by decide +kernel
theorem dX5_isCard_12 : decode cX5_isCard 12 = .ok (.aload_n 0, 1) := by decide +kernel
theorem dX5_isCard_13 : decode cX5_isCard 13 = .ok (.getfield 15, 3) := by decide +kernel
theorem dX5_isCard_16 : decode cX5_isCard 16 = .ok (.iconst 2, 1) := by decide +kernel
theorem dX5_isCard_17 : decode cX5_isCard 17 = .ok (.isub, 1) := by decide +kernel
theorem dX5_isCard_18 : decode cX5_isCard 18 = .ok (.iaload, 1) := by decide +kernel
theorem dX5_isCard_19 : decode cX5_isCard 19 = .ok (.bipush 59, 2) := by decide +kernel
theorem dX5_isCard_21 : decode cX5_isCard 21 = .ok (.if_icmp .ne 18, 3) := by decide +kernel
theorem dX5_isCard_24 : decode cX5_isCard 24 = .ok (.aload_n 0, 1) := by decide +kernel
theorem dX5_isCard_25 : decode cX5_isCard 25 = .ok (.invokevirtual 23, 3) := by decide +kernel
theorem dX5_isCard_28 : decode cX5_isCard 28 = .ok (.aload_n 0, 1) := by decide +kernel
theorem dX5_isCard_29 : decode cX5_isCard 29 = .ok (.getfield 15, 3) := by decide +kernel
theorem dX5_isCard_32 : decode cX5_isCard 32 = .ok (.if_icmp .ne 7, 3) := by decide +kernel
theorem dX5_isCard_35 : decode cX5_isCard 35 = .ok (.iconst 1, 1) := by decide +kernel
theorem dX5_isCard_36 : decode cX5_isCard 36 = .ok (.goto 4, 3) := by decide +kernel
theorem dX5_isCard_39 : decode cX5_isCard 39 = .ok (.iconst 0, 1) := by decide +kernel
theorem dX5_isCard_40 : decode cX5_isCard 40 = .ok (.ireturn, 1) := by decide +kernel
theorem dX5_isGood_0 : decode cX5_isGood 0 = .ok (.aload_n 0, 1) := by decide +kernel
theorem dX5_isGood_1 : decode cX5_isGood 1 = .ok (.getfield 9, 3) := by decide +kernel
theorem dX5_isGood_4 : decode cX5_isGood 4 = .ok (.iload_n 1, 1) := by decide +kernel
theorem dX5_isGood_5 : decode cX5_isGood 5 = .ok (.iaload, 1) := by decide +kernel
theorem dX5_isGood_6 : decode cX5_isGood 6 = .ok (.istore_n 2, 1) := by decide +kernel
theorem dX5_isGood_7 : decode cX5_isGood 7 = .ok (.iload_n 1, 1) := by decide +kernel
theorem dX5_isGood_8 : decode cX5_isGood 8 = .ok (.ifCond .le 34, 3) := by decide +kernel
theorem dX5_isGood_11 : decode cX5_isGood 11 = .ok (.aload_n 0, 1) := by decide +kernel
theorem dX5_isGood_12 : decode cX5_isGood 12 = .ok (.getfield 9, 3) := by decide +kernel
theorem dX5_isGood_15 : decode cX5_isGood 15 = .ok (.iload_n 1, 1) := by decide +kernel
theorem dX5_isGood_16 : decode cX5_isGood 16 = .ok (.iconst 1, 1) := by decide +kernel
theorem dX5_isGood_17 : decode cX5_isGood 17 = .ok (.isub, 1) := by decide +kernel
theorem dX5_isGood_18 : decode cX5_isGood 18 = .ok (.iaload, 1) := by decide +kernel
theorem dX5_isGood_19 : decode cX5_isGood 19 = .ok (.bipush 59, 2) := by decide +kernel
theorem dX5_isGood_21 : decode cX5_isGood 21 = .ok (.if_icmp .ne 21, 3) := by decide +kernel
theorem dX5_isGood_24 : decode cX5_isGood 24 = .ok (.iload_n 2, 1) := by decide +kernel
theorem dX5_isGood_25 : decode cX5_isGood 25 = .ok (.bipush 48, 2) := by decide +kernel
theorem dX5_isGood_27 : decode cX5_isGood 27 = .ok (.if_icmp .lt 13, 3) := by decide +kernel
theorem dX5_isGood_30 : decode cX5_isGood 30 = .ok (.iload_n 2, 1) := by decide +kernel
theorem dX5_isGood_31 : decode cX5_isGood 31 = .ok (.bipush 57, 2) := by decide +kernel
theorem dX5_isGood_33 : decode cX5_isGood 33 = .ok (.if_icmp .gt 7, 3) := by decide +kernel
theorem dX5_isGood_36 : decode cX5_isGood 36 = .ok (.iconst 1, 1) := by decide +kernel
theorem dX5_isGood_37 : decode cX5_isGood 37 = .ok (.goto 4, 3) := by decide +kernel
theorem dX5_isGood_40 : decode cX5_isGood 40 = .ok (.iconst 0, 1) := by decide +kernel
theorem dX5_isGood_41 : decode cX5_isGood 41 = .ok (.ireturn, 1) := by decide +kernel
theorem dX5_isGood_42 : decode cX5_isGood 42 = .ok (.iload_n 1, 1) := by decide +kernel
theorem dX5_isGood_43 : decode cX5_isGood 43 = .ok (.iconst 1, 1) := by decide +kernel
theorem dX5_isGood_44 : decode cX5_isGood 44 = .ok (.if_icmp .le 18, 3) := by decide +kernel
theorem dX5_isGood_47 : decode cX5_isGood 47 = .ok (.aload_n 0, 1) := by decide +kernel
theorem dX5_isGood_48 : decode cX5_isGood 48 = .ok (.getfield 9, 3) := by decide +kernel
theorem dX5_isGood_51 : decode cX5_isGood 51 = .ok (.iload_n 1, 1) := by decide +kernel
theorem dX5_isGood_52 : decode cX5_isGood 52 = .ok (.iconst 2, 1) := by decide +kernel
theorem dX5_isGood_53 : decode cX5_isGood 53 = .ok (.isub, 1) := by decide +kernel
theorem dX5_isGood_54 : decode cX5_isGood 54 = .ok (.iaload, 1) := by decide +kernel
theorem dX5_isGood_55 : decode cX5_isGood 55 = .ok (.bipush 59, 2) := by decide +kernel
theorem dX5_isGood_57 : decode cX5_isGood 57 = .ok (.if_icmp .ne 5, 3) := by decide +kernel
theorem dX5_isGood_60 : decode cX5_isGood 60 = .ok (.iconst 0, 1) := by decide +kernel
theorem dX5_isGood_61 : decode cX5_isGood 61 = .ok (.ireturn, 1) := by decide +kernel
theorem dX5_isGood_62 : decode cX5_isGood 62 = .ok (.iload_n 1, 1) := by decide +kernel
theorem dX5_isGood_63 : decode cX5_isGood 63 = .ok (.iconst 3, 1) := by decide +kernel
theorem dX5_isGood_64 : decode cX5_isGood 64 = .ok (.irem, 1) := by decide +kernel
theorem dX5_isGood_65 : decode cX5_isGood 65 = .ok (.iconst 2, 1) := by decide +kernel
theorem dX5_isGood_66 : decode cX5_isGood 66 = .ok (.if_icmp .ge 21, 3) := by decide +kernel
theorem dX5_isGood_69 : decode cX5_isGood 69 = .ok (.iload_n 2, 1) := by decide +kernel
theorem dX5_isGood_70 : decode cX5_isGood 70 = .ok (.bipush 49, 2) := by decide +kernel
theorem dX5_isGood_72 : decode cX5_isGood 72 = .ok (.if_icmp .lt 13, 3) := by decide +kernel
theorem dX5_isGood_75 : decode cX5_isGood 75 = .ok (.iload_n 2, 1) := by decide +kernel
theorem dX5_isGood_76 : decode cX5_isGood 76 = .ok (.bipush 57, 2) := by decide +kernel
theorem dX5_isGood_78 : decode cX5_isGood 78 = .ok (.if_icmp .gt 7, 3) := by decide +kernel
theorem dX5_isGood_81 : decode cX5_isGood 81 = .ok (.iconst 1, 1) := by decide +kernel
theorem dX5_isGood_82 : decode cX5_isGood 82 = .ok (.goto 4, 3) := by decide +kernel
theorem dX5_isGood_85 : decode cX5_isGood 85 = .ok (.iconst 0, 1) := by decide +kernel
theorem dX5_isGood_86 : decode cX5_isGood 86 = .ok (.ireturn, 1) := by decide +kernel
theorem dX5_isGood_87 : decode cX5_isGood 87 = .ok (.iload_n 1, 1) := by decide +kernel
theorem dX5_isGood_88 : decode cX5_isGood 88 = .ok (.iconst 3, 1) := by decide +kernel
theorem dX5_isGood_89 : decode cX5_isGood 89 = .ok (.idiv, 1) := by decide +kernel
theorem dX5_isGood_90 : decode cX5_isGood 90 = .ok (.iconst 1, 1) := by decide +kernel
theorem dX5_isGood_91 : decode cX5_isGood 91 = .ok (.iadd, 1) := by decide +kernel
theorem dX5_isGood_92 : decode cX5_isGood 92 = .ok (.istore_n 3, 1) := by decide +kernel
theorem dX5_isGood_93 : decode cX5_isGood 93 = .ok (.iload_n 2, 1) := by decide +kernel
theorem dX5_isGood_94 : decode cX5_isGood 94 = .ok (.bipush 44, 2) := by decide +kernel
theorem dX5_isGood_96 : decode cX5_isGood 96 = .ok (.if_icmp .ne 17, 3) := by decide +kernel
theorem dX5_isGood_99 : decode cX5_isGood 99 = .ok (.iload_n 3, 1) := by decide +kernel
theorem dX5_isGood_100 : decode cX5_isGood 100 = .ok (.bipush 6, 2) := by decide +kernel
theorem dX5_isGood_102 : decode cX5_isGood 102 = .ok (.if_icmp .ge 7, 3) := by decide +kernel
theorem dX5_isGood_105 : decode cX5_isGood 105 = .ok (.iconst 1, 1) := by decide +kernel
theorem dX5_isGood_106 : decode cX5_isGood 106 = .ok (.goto 23, 3) := by decide +kernel
theorem dX5_isGood_109 : decode cX5_isGood 109 = .ok (.iconst 0, 1) := by decide +kernel
theorem dX5_isGood_110 : decode cX5_isGood 110 = .ok (.goto 19, 3) := by decide +kernel
theorem dX5_isGood_113 : decode cX5_isGood 113 = .ok (.iload_n 2, 1) := by decide +kernel
theorem dX5_isGood_114 : decode cX5_isGood 114 = .ok (.bipush 59, 2) := by decide +kernel
theorem dX5_isGood_116 : decode cX5_isGood 116 = .ok (.if_icmp .ne 12, 3) := by decide +kernel
theorem dX5_isGood_119 : decode cX5_isGood 119 = .ok (.iload_n 3, 1) := by decide +kernel
theorem dX5_isGood_120 : decode cX5_isGood 120 = .ok (.iconst 2, 1) := by decide +kernel
theorem dX5_isGood_121 : decode cX5_isGood 121 = .ok (.if_icmp .lt 7, 3) := by decide +kernel
theorem dX5_isGood_124 : decode cX5_isGood 124 = .ok (.iconst 1, 1) := by decide +kernel
theorem dX5_isGood_125 : decode cX5_isGood 125 = .ok (.goto 4, 3) := by decide +kernel
theorem dX5_isGood_128 : decode cX5_isGood 128 = .ok (.iconst 0, 1) := by decide +kernel
theorem dX5_isGood_129 : decode cX5_isGood 129 = .ok (.ireturn, 1) := by decide +kernel
theorem dX6_init_0 : decode cX6_init 0 = .ok (.aload_n 0, 1) := by decide +kernel
theorem dX6_init_1 : decode cX6_init 1 = .ok (.invokespecial 3, 3) := by decide +kernel
theorem dX6_init_4 : decode cX6_init 4 = .ok (.aload_n 0, 1) := by decide +kernel
theorem dX6_init_5 : decode cX6_init 5 = .ok (.iconst 5, 1) := by decide +kernel
theorem dX6_init_6 : decode cX6_init 6 = .ok (.anewarray 9, 3) := by decide +kernel
theorem dX6_init_9 : decode cX6_init 9 = .ok (.putfield 11, 3) := by decide +kernel
theorem dX6_init_12 : decode cX6_init 12 = .ok (.iconst 0, 1) := by decide +kernel
theorem dX6_init_13 : decode cX6_init 13 = .ok (.istore_n 1, 1) := by decide +kernel
theorem dX6_init_14 : decode cX6_init 14 = .ok (.iload_n 1, 1) := by decide +kernel
theorem dX6_init_15 : decode cX6_init 15 = .ok (.iconst 5, 1) := by decide +kernel
theorem dX6_init_16 : decode cX6_init 16 = .ok (.if_icmp .ge 22, 3) := by decide +kernel
theorem dX6_init_19 : decode cX6_init 19 = .ok (.aload_n 0, 1) := by decide +kernel
theorem dX6_init_20 : decode cX6_init 20 = .ok (.getfield 11, 3) := by decide +kernel
theorem dX6_init_23 : decode cX6_init 23 = .ok (.iload_n 1, 1) := by decide +kernel
theorem dX6_init_24 : decode cX6_init 24 = .ok (.new 9, 3) := by decide +kernel
theorem dX6_init_27 : decode cX6_init 27 = .ok (.dup, 1) := by decide +kernel
theorem dX6_init_28 : decode cX6_init 28 = .ok (.invokespecial 17, 3) := by decide +kernel
theorem dX6_init_31 : decode cX6_init 31 = .ok (.aastore, 1) := by decide +kernel
theorem dX6_init_32 : decode cX6_init 32 = .ok (.iinc 1 1, 3) := by decide +kernel
theorem dX6_init_35 : decode cX6_init 35 = .ok (.goto (-21), 3) := by decide +kernel
theorem dX6_init_38 : decode cX6_init 38 = .ok (.return_, 1) := by decide +kernel
theorem dX6_behind_0 : decode cX6_behind 0 = .ok (.iload_n 1, 1) := by decide +kernel
theorem dX6_behind_1 : decode cX6_behind 1 = .ok (.iload_n 2, 1) := by decide +kernel
theorem dX6_behind_2 : decode cX6_behind 2 = .ok (.iadd, 1) := by decide +kernel
theorem dX6_behind_3 : decode cX6_behind 3 = .ok (.istore_n 3, 1) := by decide +kernel
theorem dX6_behind_4 : decode cX6_behind 4 = .ok (.iload_n 3, 1) := by decide +kernel
theorem dX6_behind_5 : decode cX6_behind 5 = .ok (.aload_n 0, 1) := by decide +kernel
theorem dX6_behind_6 : decode cX6_behind 6 = .ok (.getfield 18, 3) := by decide +kernel
theorem dX6_behind_9 : decode cX6_behind 9 = .ok (.if_icmp .ge 7, 3) := by decide +kernel
theorem dX6_behind_12 : decode cX6_behind 12 = .ok (.iload_n 3, 1) := by decide +kernel
theorem dX6_behind_13 : decode cX6_behind 13 = .ok (.goto 9, 3) := by decide +kernel
theorem dX6_behind_16 : decode cX6_behind 16 = .ok (.iload_n 3, 1) := by decide +kernel
theorem dX6_behind_17 : decode cX6_behind 17 = .ok (.aload_n 0, 1) := by decide +kernel
theorem dX6_behind_18 : decode cX6_behind 18 = .ok (.getfield 18, 3) := by decide +kernel
theorem dX6_behind_21 : decode cX6_behind 21 = .ok (.isub, 1) := by decide +kernel
theorem dX6_behind_22 : decode cX6_behind 22 = .ok (.ireturn, 1) := by decide +kernel
theorem dX6_saveWants_0 : decode cX6_saveWants 0 = .ok (.iconst 0, 1) := by decide +kernel
theorem dX6_saveWants_1 : decode cX6_saveWants 1 = .ok (.istore_n 2, 1) := by decide +kernel
theorem dX6_saveWants_2 : decode cX6_saveWants 2 = .ok (.iload_n 2, 1) := by decide +kernel
theorem dX6_saveWants_3 : decode cX6_saveWants 3 = .ok (.iconst 5, 1) := by decide +kernel
theorem dX6_saveWants_4 : decode cX6_saveWants 4 = .ok (.if_icmp .ge 28, 3) := by decide +kernel
theorem dX6_saveWants_7 : decode cX6_saveWants 7 = .ok (.aload_n 0, 1) := by decide +kernel
theorem dX6_saveWants_8 : decode cX6_saveWants 8 = .ok (.getfield 11, 3) := by decide +kernel
theorem dX6_saveWants_11 : decode cX6_saveWants 11 = .ok (.iload_n 2, 1) := by decide +kernel
theorem dX6_saveWants_12 : decode cX6_saveWants 12 = .ok (.aaload, 1) := by decide +kernel
theorem dX6_saveWants_13 : decode cX6_saveWants 13 = .ok (.getfield 22, 3) := by decide +kernel
theorem dX6_saveWants_16 : decode cX6_saveWants 16 = .ok (.iconst 0, 1) := by decide +kernel
theorem dX6_saveWants_17 : decode cX6_saveWants 17 = .ok (.aload_n 1, 1) := by decide +kernel
theorem dX6_saveWants_18 : decode cX6_saveWants 18 = .ok (.iload_n 2, 1) := by decide +kernel
theorem dX6_saveWants_19 : decode cX6_saveWants 19 = .ok (.aaload, 1) := by decide +kernel
theorem dX6_saveWants_20 : decode cX6_saveWants 20 = .ok (.iconst 0, 1) := by decide +kernel
theorem dX6_saveWants_21 : decode cX6_saveWants 21 = .ok (.bipush 6, 2) := by decide +kernel
theorem dX6_saveWants_23 : decode cX6_saveWants 23 = .ok (.invokestatic 26, 3) := by decide +kernel
theorem dX6_saveWants_26 : decode cX6_saveWants 26 = .ok (.iinc 2 1, 3) := by decide +kernel
theorem dX6_saveWants_29 : decode cX6_saveWants 29 = .ok (.goto (-27), 3) := by decide +kernel
theorem dX6_saveWants_32 : decode cX6_saveWants 32 = .ok (.return_, 1) := by decide +kernel
theorem dX6_loadWants_0 : decode cX6_loadWants 0 = .ok (.iconst 0, 1) := by decide +kernel
theorem dX6_loadWants_1 : decode cX6_loadWants 1 = .ok (.istore_n 2, 1) := by decide +kernel
theorem dX6_loadWants_2 : decode cX6_loadWants 2 = .ok (.iload_n 2, 1) := by decide +kernel
theorem dX6_loadWants_3 : decode cX6_loadWants 3 = .ok (.iconst 5, 1) := by decide +kernel
theorem dX6_loadWants_4 : decode cX6_loadWants 4 = .ok (.if_icmp .ge 28, 3) := by decide +kernel
theorem dX6_loadWants_7 : decode cX6_loadWants 7 = .ok (.aload_n 1, 1) := by decide +kernel
theorem dX6_loadWants_8 : decode cX6_loadWants 8 = .ok (.iload_n 2, 1) := by decide +kernel
theorem dX6_loadWants_9 : decode cX6_loadWants 9 = .ok (.aaload, 1) := by decide +kernel
theorem dX6_loadWants_10 : decode cX6_loadWants 10 = .ok (.iconst 0, 1) := by decide +kernel
theorem dX6_loadWants_11 : decode cX6_loadWants 11 = .ok (.aload_n 0, 1) := by decide +kernel
theorem dX6_loadWants_12 : decode cX6_loadWants 12 = .ok (.getfield 11, 3) := by decide +kernel
theorem dX6_loadWants_15 : decode cX6_loadWants 15 = .ok (.iload_n 2, 1) := by decide +kernel
theorem dX6_loadWants_16 : decode cX6_loadWants 16 = .ok (.aaload, 1) := by decide +kernel
theorem dX6_loadWants_17 : decode cX6_loadWants 17 = .ok (.getfield 22, 3) := by decide +kernel
theorem dX6_loadWants_20 : decode cX6_loadWants 20 = .ok (.iconst 0, 1) := by decide +kernel
theorem dX6_loadWants_21 : decode cX6_loadWants 21 = .ok (.bipush 6, 2) := by decide +kernel
theorem dX6_loadWants_23 : decode cX6_loadWants 23 = .ok (.invokestatic 26, 3) := by decide +kernel
theorem dX6_loadWants_26 : decode cX6_loadWants 26 = .ok (.iinc 2 1, 3) := by decide +kernel
theorem dX6_loadWants_29 : decode cX6_loadWants 29 = .ok (.goto (-27), 3) := by decide +kernel
theorem dX6_loadWants_32 : decode cX6_loadWants 32 = .ok (.return_, 1) := by decide +kernel
theorem dX7_init_0 : decode cX7_init 0 = .ok (.aload_n 0, 1) := by decide +kernel
theorem dX7_init_1 : decode cX7_init 1 = .ok (.invokespecial 3, 3) := by decide +kernel
theorem dX7_init_4 : decode cX7_init 4 = .ok (.aload_n 0, 1) := by decide +kernel
theorem dX7_init_5 : decode cX7_init 5 = .ok (.bipush 6, 2) := by decide +kernel
theorem dX7_init_7 : decode cX7_init 7 = .ok (.newarray .int, 2) := by decide +kernel
theorem dX7_init_9 : decode cX7_init 9 = .ok (.putfield 9, 3) := by decide +kernel
theorem dX7_init_12 : decode cX7_init 12 = .ok (.aload_n 0, 1) := by decide +kernel
theorem dX7_init_13 : decode cX7_init 13 = .ok (.bipush 6, 2) := by decide +kernel
theorem dX7_init_15 : decode cX7_init 15 = .ok (.newarray .int, 2) := by decide +kernel
theorem dX7_init_17 : decode cX7_init 17 = .ok (.putfield 15, 3) := by decide +kernel
theorem dX7_init_20 : decode cX7_init 20 = .ok (.aload_n 0, 1) := by decide +kernel
theorem dX7_init_21 : decode cX7_init 21 = .ok (.iconst 5, 1) := by decide +kernel
theorem dX7_init_22 : decode cX7_init 22 = .ok (.newarray .int, 2) := by decide +kernel
theorem dX7_init_24 : decode cX7_init 24 = .ok (.putfield 18, 3) := by decide +kernel
theorem dX7_init_27 : decode cX7_init 27 = .ok (.aload_n 0, 1) := by decide +kernel
theorem dX7_init_28 : decode cX7_init 28 = .ok (.iconst 5, 1) := by decide +kernel
theorem dX7_init_29 : decode cX7_init 29 = .ok (.newarray .int, 2) := by decide +kernel
theorem dX7_init_31 : decode cX7_init 31 = .ok (.putfield 21, 3) := by decide +kernel
theorem dX7_init_34 : decode cX7_init 34 = .ok (.aload_n 0, 1) := by decide +kernel
theorem dX7_init_35 : decode cX7_init 35 = .ok (.iconst (-1), 1) := by decide +kernel
theorem dX7_init_36 : decode cX7_init 36 = .ok (.putfield 24, 3) := by decide +kernel
theorem dX7_init_39 : decode cX7_init 39 = .ok (.aload_n 0, 1) := by decide +kernel
theorem dX7_init_40 : decode cX7_init 40 = .ok (.aload_n 1, 1) := by decide +kernel
theorem dX7_init_41 : decode cX7_init 41 = .ok (.putfield 28, 3) := by decide +kernel
theorem dX7_init_44 : decode cX7_init 44 = .ok (.aload_n 0, 1) := by decide +kernel
theorem dX7_init_45 : decode cX7_init 45 = .ok (.aload_n 2, 1) := by decide +kernel
theorem dX7_init_46 : decode cX7_init 46 = .ok (.putfield 32, 3) := by decide +kernel
theorem dX7_init_49 : decode cX7_init 49 = .ok (.return_, 1) := by decide +kernel
theorem dX7_wipe_0 : decode cX7_wipe 0 = .ok (.iconst 0, 1) := by decide +kernel
theorem dX7_wipe_1 : decode cX7_wipe 1 = .ok (.istore_n 1, 1) := by decide +kernel
theorem dX7_wipe_2 : decode cX7_wipe 2 = .ok (.iload_n 1, 1) := by decide +kernel
theorem dX7_wipe_3 : decode cX7_wipe 3 = .ok (.bipush 6, 2) := by decide +kernel
theorem dX7_wipe_5 : decode cX7_wipe 5 = .ok (.if_icmp .ge 31, 3) := by decide +kernel
theorem dX7_wipe_8 : decode cX7_wipe 8 = .ok (.aload_n 0, 1) := by decide +kernel
theorem dX7_wipe_9 : decode cX7_wipe 9 = .ok (.getfield 9, 3) := by decide +kernel
theorem dX7_wipe_12 : decode cX7_wipe 12 = .ok (.iload_n 1, 1) := by decide +kernel
theorem dX7_wipe_13 : decode cX7_wipe 13 = .ok (.aload_n 0, 1) := by decide +kernel
theorem dX7_wipe_14 : decode cX7_wipe 14 = .ok (.getfield 28, 3) := by decide +kernel
theorem dX7_wipe_17 : decode cX7_wipe 17 = .ok (.getfield 36, 3) := by decide +kernel
theorem dX7_wipe_20 : decode cX7_wipe 20 = .ok (.iload_n 1, 1) := by decide +kernel
theorem dX7_wipe_21 : decode cX7_wipe 21 = .ok (.iaload, 1) := by decide +kernel
theorem dX7_wipe_22 : decode cX7_wipe 22 = .ok (.iastore, 1) := by decide +kernel
theorem dX7_wipe_23 : decode cX7_wipe 23 = .ok (.aload_n 0, 1) := by decide +kernel
theorem dX7_wipe_24 : decode cX7_wipe 24 = .ok (.getfield 15, 3) := by decide +kernel
theorem dX7_wipe_27 : decode cX7_wipe 27 = .ok (.iload_n 1, 1) := by decide +kernel
theorem dX7_wipe_28 : decode cX7_wipe 28 = .ok (.iconst 0, 1) := by decide +kernel
theorem dX7_wipe_29 : decode cX7_wipe 29 = .ok (.iastore, 1) := by decide +kernel
theorem dX7_wipe_30 : decode cX7_wipe 30 = .ok (.iinc 1 1, 3) := by decide +kernel
theorem dX7_wipe_33 : decode cX7_wipe 33 = .ok (.goto (-31), 3) := by decide +kernel
theorem dX7_wipe_36 : decode cX7_wipe 36 = .ok (.iconst 0, 1) := by decide +kernel
theorem dX7_wipe_37 : decode cX7_wipe 37 = .ok (.istore_n 1, 1) := by decide +kernel
theorem dX7_wipe_38 : decode cX7_wipe 38 = .ok (.iload_n 1, 1) := by decide +kernel
theorem dX7_wipe_39 : decode cX7_wipe 39 = .ok (.iconst 5, 1) := by decide +kernel
theorem dX7_wipe_40 : decode cX7_wipe 40 = .ok (.if_icmp .ge 23, 3) := by decide +kernel
theorem dX7_wipe_43 : decode cX7_wipe 43 = .ok (.aload_n 0, 1) := by decide +kernel
theorem dX7_wipe_44 : decode cX7_wipe 44 = .ok (.getfield 18, 3) := by decide +kernel
theorem dX7_wipe_47 : decode cX7_wipe 47 = .ok (.iload_n 1, 1) := by decide +kernel
theorem dX7_wipe_48 : decode cX7_wipe 48 = .ok (.iconst (-1), 1) := by decide +kernel
theorem dX7_wipe_49 : decode cX7_wipe 49 = .ok (.iastore, 1) := by decide +kernel
theorem dX7_wipe_50 : decode cX7_wipe 50 = .ok (.aload_n 0, 1) := by decide +kernel
theorem dX7_wipe_51 : decode cX7_wipe 51 = .ok (.getfield 21, 3) := by decide +kernel
theorem dX7_wipe_54 : decode cX7_wipe 54 = .ok (.iload_n 1, 1) := by decide +kernel
theorem dX7_wipe_55 : decode cX7_wipe 55 = .ok (.iconst 0, 1) := by decide +kernel
theorem dX7_wipe_56 : decode cX7_wipe 56 = .ok (.iastore, 1) := by decide +kernel
theorem dX7_wipe_57 : decode cX7_wipe 57 = .ok (.iinc 1 1, 3) := by decide +kernel
theorem dX7_wipe_60 : decode cX7_wipe 60 = .ok (.goto (-22), 3) := by decide +kernel
theorem dX7_wipe_63 : decode cX7_wipe 63 = .ok (.return_, 1) := by decide +kernel
theorem dX7_press_0 : decode cX7_press 0 = .ok (.aload_n 0, 1) := by decide +kernel
theorem dX7_press_1 : decode cX7_press 1 = .ok (.iload_n 2, 1) := by decide +kernel
theorem dX7_press_2 : decode cX7_press 2 = .ok (.ifCond .ne 7, 3) := by decide +kernel
theorem dX7_press_5 : decode cX7_press 5 = .ok (.iconst (-1), 1) := by decide +kernel
theorem dX7_press_6 : decode cX7_press 6 = .ok (.goto 4, 3) := by decide +kernel
theorem dX7_press_9 : decode cX7_press 9 = .ok (.iload_n 1, 1) := by decide +kernel
theorem dX7_press_10 : decode cX7_press 10 = .ok (.putfield 24, 3) := by decide +kernel
theorem dX7_press_13 : decode cX7_press 13 = .ok (.aload_n 0, 1) := by decide +kernel
theorem dX7_press_14 : decode cX7_press 14 = .ok (.iload_n 2, 1) := by decide +kernel
theorem dX7_press_15 : decode cX7_press 15 = .ok (.putfield 41, 3) := by decide +kernel
theorem dX7_press_18 : decode cX7_press 18 = .ok (.return_, 1) := by decide +kernel
theorem dX7_canHave_0 : decode cX7_canHave 0 = .ok (.aload_n 0, 1) := by decide +kernel
theorem dX7_canHave_1 : decode cX7_canHave 1 = .ok (.getfield 9, 3) := by decide +kernel
theorem dX7_canHave_4 : decode cX7_canHave 4 = .ok (.iload_n 2, 1) := by decide +kernel
theorem dX7_canHave_5 : decode cX7_canHave 5 = .ok (.iaload, 1) := by decide +kernel
theorem dX7_canHave_6 : decode cX7_canHave 6 = .ok (.ifCond .le 31, 3) := by decide +kernel
theorem dX7_canHave_9 : decode cX7_canHave 9 = .ok (.aload_n 0, 1) := by decide +kernel
theorem dX7_canHave_10 : decode cX7_canHave 10 = .ok (.getfield 28, 3) := by decide +kernel
theorem dX7_canHave_13 : decode cX7_canHave 13 = .ok (.getfield 44, 3) := by decide +kernel
theorem dX7_canHave_16 : decode cX7_canHave 16 = .ok (.iload_n 2, 1) := by decide +kernel
theorem dX7_canHave_17 : decode cX7_canHave 17 = .ok (.iaload, 1) := by decide +kernel
theorem dX7_canHave_18 : decode cX7_canHave 18 = .ok (.aload_n 0, 1) := by decide +kernel
theorem dX7_canHave_19 : decode cX7_canHave 19 = .ok (.getfield 32, 3) := by decide +kernel
theorem dX7_canHave_22 : decode cX7_canHave 22 = .ok (.getfield 47, 3) := by decide +kernel
theorem dX7_canHave_25 : decode cX7_canHave 25 = .ok (.iload_n 1, 1) := by decide +kernel
theorem dX7_canHave_26 : decode cX7_canHave 26 = .ok (.aaload, 1) := by decide +kernel
theorem dX7_canHave_27 : decode cX7_canHave 27 = .ok (.getfield 53, 3) := by decide +kernel
theorem dX7_canHave_30 : decode cX7_canHave 30 = .ok (.if_icmp .gt 7, 3) := by decide +kernel
theorem dX7_canHave_33 : decode cX7_canHave 33 = .ok (.iconst 1, 1) := by decide +kernel
theorem dX7_canHave_34 : decode cX7_canHave 34 = .ok (.goto 4, 3) := by decide +kernel
theorem dX7_canHave_37 : decode cX7_canHave 37 = .ok (.iconst 0, 1) := by decide +kernel
theorem dX7_canHave_38 : decode cX7_canHave 38 = .ok (.ireturn, 1) := by decide +kernel
theorem dX7_value_0 : decode cX7_value 0 = .ok (.aload_n 0, 1) := by decide +kernel
theorem dX7_value_1 : decode cX7_value 1 = .ok (.getfield 32, 3) := by decide +kernel
theorem dX7_value_4 : decode cX7_value 4 = .ok (.getfield 47, 3) := by decide +kernel
theorem dX7_value_7 : decode cX7_value 7 = .ok (.iload_n 1, 1) := by decide +kernel
theorem dX7_value_8 : decode cX7_value 8 = .ok (.aaload, 1) := by decide +kernel
theorem dX7_value_9 : decode cX7_value 9 = .ok (.astore_n 3, 1) := by decide +kernel
theorem dX7_value_10 : decode cX7_value 10 = .ok (.aload_n 0, 1) := by decide +kernel
theorem dX7_value_11 : decode cX7_value 11 = .ok (.getfield 18, 3) := by decide +kernel
theorem dX7_value_14 : decode cX7_value 14 = .ok (.iload_n 1, 1) := by decide +kernel
theorem dX7_value_15 : decode cX7_value 15 = .ok (.iaload, 1) := by decide +kernel
theorem dX7_value_16 : decode cX7_value 16 = .ok (.iload_n 2, 1) := by decide +kernel
theorem dX7_value_17 : decode cX7_value 17 = .ok (.if_icmp .ne 14, 3) := by decide +kernel
theorem dX7_value_20 : decode cX7_value 20 = .ok (.aload_n 0, 1) := by decide +kernel
theorem dX7_value_21 : decode cX7_value 21 = .ok (.getfield 15, 3) := by decide +kernel
theorem dX7_value_24 : decode cX7_value 24 = .ok (.iload_n 2, 1) := by decide +kernel
theorem dX7_value_25 : decode cX7_value 25 = .ok (.iaload, 1) := by decide +kernel
theorem dX7_value_26 : decode cX7_value 26 = .ok (.iconst 1, 1) := by decide +kernel
theorem dX7_value_27 : decode cX7_value 27 = .ok (.isub, 1) := by decide +kernel
theorem dX7_value_28 : decode cX7_value 28 = .ok (.goto 9, 3) := by decide +kernel
theorem dX7_value_31 : decode cX7_value 31 = .ok (.aload_n 0, 1) := by decide +kernel
theorem dX7_value_32 : decode cX7_value 32 = .ok (.getfield 15, 3) := by decide +kernel
theorem dX7_value_35 : decode cX7_value 35 = .ok (.iload_n 2, 1) := by decide +kernel
theorem dX7_value_36 : decode cX7_value 36 = .ok (.iaload, 1) := by decide +kernel
theorem dX7_value_37 : decode cX7_value 37 = .ok (.istore 4, 2) := by decide +kernel
theorem dX7_value_39 : decode cX7_value 39 = .ok (.iload_n 2, 1) := by decide +kernel
theorem dX7_value_40 : decode cX7_value 40 = .ok (.aload_n 0, 1) := by decide +kernel
theorem dX7_value_41 : decode cX7_value 41 = .ok (.getfield 24, 3) := by decide +kernel
theorem dX7_value_44 : decode cX7_value 44 = .ok (.if_icmp .ne 10, 3) := by decide +kernel
theorem dX7_value_47 : decode cX7_value 47 = .ok (.aload_n 0, 1) := by decide +kernel
theorem dX7_value_48 : decode cX7_value 48 = .ok (.getfield 41, 3) := by decide +kernel
theorem dX7_value_51 : decode cX7_value 51 = .ok (.goto 4, 3) := by decide +kernel
theorem dX7_value_54 : decode cX7_value 54 = .ok (.iconst 0, 1) := by decide +kernel
theorem dX7_value_55 : decode cX7_value 55 = .ok (.istore 5, 2) := by decide +kernel
theorem dX7_value_57 : decode cX7_value 57 = .ok (.aload_n 3, 1) := by decide +kernel
theorem dX7_value_58 : decode cX7_value 58 = .ok (.getfield 58, 3) := by decide +kernel
theorem dX7_value_61 : decode cX7_value 61 = .ok (.iload_n 2, 1) := by decide +kernel
theorem dX7_value_62 : decode cX7_value 62 = .ok (.iaload, 1) := by decide +kernel
theorem dX7_value_63 : decode cX7_value 63 = .ok (.aload_n 3, 1) := by decide +kernel
theorem dX7_value_64 : decode cX7_value 64 = .ok (.getfield 61, 3) := by decide +kernel
theorem dX7_value_67 : decode cX7_value 67 = .ok (.aload_n 0, 1) := by decide +kernel
theorem dX7_value_68 : decode cX7_value 68 = .ok (.getfield 64, 3) := by decide +kernel
theorem dX7_value_71 : decode cX7_value 71 = .ok (.imul, 1) := by decide +kernel
theorem dX7_value_72 : decode cX7_value 72 = .ok (.iload 4, 2) := by decide +kernel
theorem dX7_value_74 : decode cX7_value 74 = .ok (.imul, 1) := by decide +kernel
theorem dX7_value_75 : decode cX7_value 75 = .ok (.iadd, 1) := by decide +kernel
theorem dX7_value_76 : decode cX7_value 76 = .ok (.iload 5, 2) := by decide +kernel
theorem dX7_value_78 : decode cX7_value 78 = .ok (.iadd, 1) := by decide +kernel
theorem dX7_value_79 : decode cX7_value 79 = .ok (.ireturn, 1) := by decide +kernel
theorem dX7_choice_0 : decode cX7_choice 0 = .ok (.iconst (-1), 1) := by decide +kernel
theorem dX7_choice_1 : decode cX7_choice 1 = .ok (.istore_n 2, 1) := by decide +kernel
theorem dX7_choice_2 : decode cX7_choice 2 = .ok (.iconst 0, 1) := by decide +kernel
theorem dX7_choice_3 : decode cX7_choice 3 = .ok (.istore_n 3, 1) := by decide +kernel
theorem dX7_choice_4 : decode cX7_choice 4 = .ok (.iconst 0, 1) := by decide +kernel
theorem dX7_choice_5 : decode cX7_choice 5 = .ok (.istore 4, 2) := by decide +kernel
theorem dX7_choice_7 : decode cX7_choice 7 = .ok (.iload 4, 2) := by decide +kernel
theorem dX7_choice_9 : decode cX7_choice 9 = .ok (.aload_n 0, 1) := by decide +kernel
theorem dX7_choice_10 : decode cX7_choice 10 = .ok (.getfield 28, 3) := by decide +kernel
theorem dX7_choice_13 : decode cX7_choice 13 = .ok (.getfield 67, 3) := by decide +kernel
theorem dX7_choice_16 : decode cX7_choice 16 = .ok (.if_icmp .ge 45, 3) := by decide +kernel
theorem dX7_choice_19 : decode cX7_choice 19 = .ok (.aload_n 0, 1) := by decide +kernel
theorem dX7_choice_20 : decode cX7_choice 20 = .ok (.iload_n 1, 1) := by decide +kernel
theorem dX7_choice_21 : decode cX7_choice 21 = .ok (.iload 4, 2) := by decide +kernel
theorem dX7_choice_23 : decode cX7_choice 23 = .ok (.invokevirtual 70, 3) := by decide +kernel
theorem dX7_choice_26 : decode cX7_choice 26 = .ok (.ifCond .eq 29, 3) := by decide +kernel
theorem dX7_choice_29 : decode cX7_choice 29 = .ok (.aload_n 0, 1) := by decide +kernel
theorem dX7_choice_30 : decode cX7_choice 30 = .ok (.iload_n 1, 1) := by decide +kernel
theorem dX7_choice_31 : decode cX7_choice 31 = .ok (.iload 4, 2) := by decide +kernel
theorem dX7_choice_33 : decode cX7_choice 33 = .ok (.invokevirtual 74, 3) := by decide +kernel
theorem dX7_choice_36 : decode cX7_choice 36 = .ok (.istore 5, 2) := by decide +kernel
theorem dX7_choice_38 : decode cX7_choice 38 = .ok (.iload_n 2, 1) := by decide +kernel
theorem dX7_choice_39 : decode cX7_choice 39 = .ok (.iconst (-1), 1) := by decide +kernel
theorem dX7_choice_40 : decode cX7_choice 40 = .ok (.if_icmp .eq 9, 3) := by decide +kernel
theorem dX7_choice_43 : decode cX7_choice 43 = .ok (.iload 5, 2) := by decide +kernel
theorem dX7_choice_45 : decode cX7_choice 45 = .ok (.iload_n 3, 1) := by decide +kernel
theorem dX7_choice_46 : decode cX7_choice 46 = .ok (.if_icmp .le 9, 3) := by decide +kernel
theorem dX7_choice_49 : decode cX7_choice 49 = .ok (.iload 4, 2) := by decide +kernel
theorem dX7_choice_51 : decode cX7_choice 51 = .ok (.istore_n 2, 1) := by decide +kernel
theorem dX7_choice_52 : decode cX7_choice 52 = .ok (.iload 5, 2) := by decide +kernel
theorem dX7_choice_54 : decode cX7_choice 54 = .ok (.istore_n 3, 1) := by decide +kernel
theorem dX7_choice_55 : decode cX7_choice 55 = .ok (.iinc 4 1, 3) := by decide +kernel
theorem dX7_choice_58 : decode cX7_choice 58 = .ok (.goto (-51), 3) := by decide +kernel
theorem dX7_choice_61 : decode cX7_choice 61 = .ok (.iload_n 2, 1) := by decide +kernel
theorem dX7_choice_62 : decode cX7_choice 62 = .ok (.ireturn, 1) := by decide +kernel
theorem dX7_give_0 : decode cX7_give 0 = .ok (.aload_n 0, 1) := by decide +kernel
theorem dX7_give_1 : decode cX7_give 1 = .ok (.getfield 18, 3) := by decide +kernel
theorem dX7_give_4 : decode cX7_give 4 = .ok (.iload_n 1, 1) := by decide +kernel
theorem dX7_give_5 : decode cX7_give 5 = .ok (.iload_n 2, 1) := by decide +kernel
theorem dX7_give_6 : decode cX7_give 6 = .ok (.iastore, 1) := by decide +kernel
theorem dX7_give_7 : decode cX7_give 7 = .ok (.aload_n 0, 1) := by decide +kernel
theorem dX7_give_8 : decode cX7_give 8 = .ok (.getfield 21, 3) := by decide +kernel
theorem dX7_give_11 : decode cX7_give 11 = .ok (.iload_n 1, 1) := by decide +kernel
theorem dX7_give_12 : decode cX7_give 12 = .ok (.iconst 1, 1) := by decide +kernel
theorem dX7_give_13 : decode cX7_give 13 = .ok (.iastore, 1) := by decide +kernel
theorem dX7_give_14 : decode cX7_give 14 = .ok (.iload_n 2, 1) := by decide +kernel
theorem dX7_give_15 : decode cX7_give 15 = .ok (.iconst (-1), 1) := by decide +kernel
theorem dX7_give_16 : decode cX7_give 16 = .ok (.if_icmp .eq 23, 3) := by decide +kernel
theorem dX7_give_19 : decode cX7_give 19 = .ok (.aload_n 0, 1) := by decide +kernel
theorem dX7_give_20 : decode cX7_give 20 = .ok (.getfield 9, 3) := by decide +kernel
theorem dX7_give_23 : decode cX7_give 23 = .ok (.iload_n 2, 1) := by decide +kernel
theorem dX7_give_24 : decode cX7_give 24 = .ok (.dup2, 1) := by decide +kernel
theorem dX7_give_25 : decode cX7_give 25 = .ok (.iaload, 1) := by decide +kernel
theorem dX7_give_26 : decode cX7_give 26 = .ok (.iconst 1, 1) := by decide +kernel
theorem dX7_give_27 : decode cX7_give 27 = .ok (.isub, 1) := by decide +kernel
theorem dX7_give_28 : decode cX7_give 28 = .ok (.iastore, 1) := by decide +kernel
theorem dX7_give_29 : decode cX7_give 29 = .ok (.aload_n 0, 1) := by decide +kernel
theorem dX7_give_30 : decode cX7_give 30 = .ok (.getfield 15, 3) := by decide +kernel
theorem dX7_give_33 : decode cX7_give 33 = .ok (.iload_n 2, 1) := by decide +kernel
theorem dX7_give_34 : decode cX7_give 34 = .ok (.dup2, 1) := by decide +kernel
theorem dX7_give_35 : decode cX7_give 35 = .ok (.iaload, 1) := by decide +kernel
theorem dX7_give_36 : decode cX7_give 36 = .ok (.iconst 1, 1) := by decide +kernel
theorem dX7_give_37 : decode cX7_give 37 = .ok (.iadd, 1) := by decide +kernel
theorem dX7_give_38 : decode cX7_give 38 = .ok (.iastore, 1) := by decide +kernel
theorem dX7_give_39 : decode cX7_give 39 = .ok (.return_, 1) := by decide +kernel
theorem dX7_giveBack_0 : decode cX7_giveBack 0 = .ok (.aload_n 0, 1) := by decide +kernel
theorem dX7_giveBack_1 : decode cX7_giveBack 1 = .ok (.getfield 18, 3) := by decide +kernel
theorem dX7_giveBack_4 : decode cX7_giveBack 4 = .ok (.iload_n 1, 1) := by decide +kernel
theorem dX7_giveBack_5 : decode cX7_giveBack 5 = .ok (.iaload, 1) := by decide +kernel
theorem dX7_giveBack_6 : decode cX7_giveBack 6 = .ok (.istore_n 2, 1) := by decide +kernel
theorem dX7_giveBack_7 : decode cX7_giveBack 7 = .ok (.aload_n 0, 1) := by decide +kernel
theorem dX7_giveBack_8 : decode cX7_giveBack 8 = .ok (.getfield 18, 3) := by decide +kernel
theorem dX7_giveBack_11 : decode cX7_giveBack 11 = .ok (.iload_n 1, 1) := by decide +kernel
theorem dX7_giveBack_12 : decode cX7_giveBack 12 = .ok (.iconst (-1), 1) := by decide +kernel
theorem dX7_giveBack_13 : decode cX7_giveBack 13 = .ok (.iastore, 1) := by decide +kernel
theorem dX7_giveBack_14 : decode cX7_giveBack 14 = .ok (.aload_n 0, 1) := by decide +kernel
theorem dX7_giveBack_15 : decode cX7_giveBack 15 = .ok (.getfield 21, 3) := by decide +kernel
theorem dX7_giveBack_18 : decode cX7_giveBack 18 = .ok (.iload_n 1, 1) := by decide +kernel
theorem dX7_giveBack_19 : decode cX7_giveBack 19 = .ok (.iconst 0, 1) := by decide +kernel
theorem dX7_giveBack_20 : decode cX7_giveBack 20 = .ok (.iastore, 1) := by decide +kernel
theorem dX7_giveBack_21 : decode cX7_giveBack 21 = .ok (.iload_n 2, 1) := by decide +kernel
theorem dX7_giveBack_22 : decode cX7_giveBack 22 = .ok (.iconst (-1), 1) := by decide +kernel
theorem dX7_giveBack_23 : decode cX7_giveBack 23 = .ok (.if_icmp .eq 23, 3) := by decide +kernel
theorem dX7_giveBack_26 : decode cX7_giveBack 26 = .ok (.aload_n 0, 1) := by decide +kernel
theorem dX7_giveBack_27 : decode cX7_giveBack 27 = .ok (.getfield 9, 3) := by decide +kernel
theorem dX7_giveBack_30 : decode cX7_giveBack 30 = .ok (.iload_n 2, 1) := by decide +kernel
theorem dX7_giveBack_31 : decode cX7_giveBack 31 = .ok (.dup2, 1) := by decide +kernel
theorem dX7_giveBack_32 : decode cX7_giveBack 32 = .ok (.iaload, 1) := by decide +kernel
theorem dX7_giveBack_33 : decode cX7_giveBack 33 = .ok (.iconst 1, 1) := by decide +kernel
theorem dX7_giveBack_34 : decode cX7_giveBack 34 = .ok (.iadd, 1) := by decide +kernel
theorem dX7_giveBack_35 : decode cX7_giveBack 35 = .ok (.iastore, 1) := by decide +kernel
theorem dX7_giveBack_36 : decode cX7_giveBack 36 = .ok (.aload_n 0, 1) := by decide +kernel
theorem dX7_giveBack_37 : decode cX7_giveBack 37 = .ok (.getfield 15, 3) := by decide +kernel
theorem dX7_giveBack_40 : decode cX7_giveBack 40 = .ok (.iload_n 2, 1) := by decide +kernel
theorem dX7_giveBack_41 : decode cX7_giveBack 41 = .ok (.dup2, 1) := by decide +kernel
theorem dX7_giveBack_42 : decode cX7_giveBack 42 = .ok (.iaload, 1) := by decide +kernel
theorem dX7_giveBack_43 : decode cX7_giveBack 43 = .ok (.iconst 1, 1) := by decide +kernel
theorem dX7_giveBack_44 : decode cX7_giveBack 44 = .ok (.isub, 1) := by decide +kernel
theorem dX7_giveBack_45 : decode cX7_giveBack 45 = .ok (.iastore, 1) := by decide +kernel
theorem dX7_giveBack_46 : decode cX7_giveBack 46 = .ok (.return_, 1) := by decide +kernel
theorem dX7_changesMind_0 : decode cX7_changesMind 0 = .ok (.aload_n 0, 1) := by decide +kernel
theorem dX7_changesMind_1 : decode cX7_changesMind 1 = .ok (.getfield 18, 3) := by decide +kernel
theorem dX7_changesMind_4 : decode cX7_changesMind 4 = .ok (.iload_n 1, 1) := by decide +kernel
theorem dX7_changesMind_5 : decode cX7_changesMind 5 = .ok (.iaload, 1) := by decide +kernel
theorem dX7_changesMind_6 : decode cX7_changesMind 6 = .ok (.istore_n 2, 1) := by decide +kernel
theorem dX7_changesMind_7 : decode cX7_changesMind 7 = .ok (.aload_n 0, 1) := by decide +kernel
theorem dX7_changesMind_8 : decode cX7_changesMind 8 = .ok (.iload_n 1, 1) := by decide +kernel
theorem dX7_changesMind_9 : decode cX7_changesMind 9 = .ok (.invokevirtual 78, 3) := by decide +kernel
theorem dX7_changesMind_12 : decode cX7_changesMind 12 = .ok (.aload_n 0, 1) := by decide +kernel
theorem dX7_changesMind_13 : decode cX7_changesMind 13 = .ok (.iload_n 1, 1) := by decide +kernel
theorem dX7_changesMind_14 : decode cX7_changesMind 14 = .ok (.invokevirtual 82, 3) := by decide +kernel
theorem dX7_changesMind_17 : decode cX7_changesMind 17 = .ok (.istore_n 3, 1) := by decide +kernel
theorem dX7_changesMind_18 : decode cX7_changesMind 18 = .ok (.iload_n 2, 1) := by decide +kernel
theorem dX7_changesMind_19 : decode cX7_changesMind 19 = .ok (.iconst (-1), 1) := by decide +kernel
theorem dX7_changesMind_20 : decode cX7_changesMind 20 = .ok (.if_icmp .eq 25, 3) := by decide +kernel
theorem dX7_changesMind_23 : decode cX7_changesMind 23 = .ok (.iload_n 3, 1) := by decide +kernel
theorem dX7_changesMind_24 : decode cX7_changesMind 24 = .ok (.iconst (-1), 1) := by decide +kernel
theorem dX7_changesMind_25 : decode cX7_changesMind 25 = .ok (.if_icmp .eq 20, 3) := by decide +kernel
theorem dX7_changesMind_28 : decode cX7_changesMind 28 = .ok (.aload_n 0, 1) := by decide +kernel
theorem dX7_changesMind_29 : decode cX7_changesMind 29 = .ok (.iload_n 1, 1) := by decide +kernel
theorem dX7_changesMind_30 : decode cX7_changesMind 30 = .ok (.iload_n 2, 1) := by decide +kernel
theorem dX7_changesMind_31 : decode cX7_changesMind 31 = .ok (.invokevirtual 74, 3) := by decide +kernel
theorem dX7_changesMind_34 : decode cX7_changesMind 34 = .ok (.aload_n 0, 1) := by decide +kernel
theorem dX7_changesMind_35 : decode cX7_changesMind 35 = .ok (.iload_n 1, 1) := by decide +kernel
theorem dX7_changesMind_36 : decode cX7_changesMind 36 = .ok (.iload_n 3, 1) := by decide +kernel
theorem dX7_changesMind_37 : decode cX7_changesMind 37 = .ok (.invokevirtual 74, 3) := by decide +kernel
theorem dX7_changesMind_40 : decode cX7_changesMind 40 = .ok (.if_icmp .lt 5, 3) := by decide +kernel
theorem dX7_changesMind_43 : decode cX7_changesMind 43 = .ok (.iload_n 2, 1) := by decide +kernel
theorem dX7_changesMind_44 : decode cX7_changesMind 44 = .ok (.istore_n 3, 1) := by decide +kernel
theorem dX7_changesMind_45 : decode cX7_changesMind 45 = .ok (.aload_n 0, 1) := by decide +kernel
theorem dX7_changesMind_46 : decode cX7_changesMind 46 = .ok (.iload_n 1, 1) := by decide +kernel
theorem dX7_changesMind_47 : decode cX7_changesMind 47 = .ok (.iload_n 3, 1) := by decide +kernel
theorem dX7_changesMind_48 : decode cX7_changesMind 48 = .ok (.invokevirtual 86, 3) := by decide +kernel
theorem dX7_changesMind_51 : decode cX7_changesMind 51 = .ok (.iload_n 3, 1) := by decide +kernel
theorem dX7_changesMind_52 : decode cX7_changesMind 52 = .ok (.iload_n 2, 1) := by decide +kernel
theorem dX7_changesMind_53 : decode cX7_changesMind 53 = .ok (.if_icmp .eq 7, 3) := by decide +kernel
theorem dX7_changesMind_56 : decode cX7_changesMind 56 = .ok (.iconst 1, 1) := by decide +kernel
theorem dX7_changesMind_57 : decode cX7_changesMind 57 = .ok (.goto 4, 3) := by decide +kernel
theorem dX7_changesMind_60 : decode cX7_changesMind 60 = .ok (.iconst 0, 1) := by decide +kernel
theorem dX7_changesMind_61 : decode cX7_changesMind 61 = .ok (.ireturn, 1) := by decide +kernel
theorem dX7_allContent_0 : decode cX7_allContent 0 = .ok (.iconst 0, 1) := by decide +kernel
theorem dX7_allContent_1 : decode cX7_allContent 1 = .ok (.istore_n 1, 1) := by decide +kernel
theorem dX7_allContent_2 : decode cX7_allContent 2 = .ok (.iload_n 1, 1) := by decide +kernel
theorem dX7_allContent_3 : decode cX7_allContent 3 = .ok (.aload_n 0, 1) := by decide +kernel
theorem dX7_allContent_4 : decode cX7_allContent 4 = .ok (.getfield 32, 3) := by decide +kernel
theorem dX7_allContent_7 : decode cX7_allContent 7 = .ok (.getfield 90, 3) := by decide +kernel
theorem dX7_allContent_10 : decode cX7_allContent 10 = .ok (.if_icmp .ge 71, 3) := by decide +kernel
theorem dX7_allContent_13 : decode cX7_allContent 13 = .ok (.aload_n 0, 1) := by decide +kernel
theorem dX7_allContent_14 : decode cX7_allContent 14 = .ok (.iload_n 1, 1) := by decide +kernel
theorem dX7_allContent_15 : decode cX7_allContent 15 = .ok (.aload_n 0, 1) := by decide +kernel
theorem dX7_allContent_16 : decode cX7_allContent 16 = .ok (.getfield 18, 3) := by decide +kernel
theorem dX7_allContent_19 : decode cX7_allContent 19 = .ok (.iload_n 1, 1) := by decide +kernel
theorem dX7_allContent_20 : decode cX7_allContent 20 = .ok (.iaload, 1) := by decide +kernel
theorem dX7_allContent_21 : decode cX7_allContent 21 = .ok (.invokevirtual 74, 3) := by decide +kernel
theorem dX7_allContent_24 : decode cX7_allContent 24 = .ok (.istore_n 2, 1) := by decide +kernel
theorem dX7_allContent_25 : decode cX7_allContent 25 = .ok (.iconst 0, 1) := by decide +kernel
theorem dX7_allContent_26 : decode cX7_allContent 26 = .ok (.istore_n 3, 1) := by decide +kernel
theorem dX7_allContent_27 : decode cX7_allContent 27 = .ok (.iload_n 3, 1) := by decide +kernel
theorem dX7_allContent_28 : decode cX7_allContent 28 = .ok (.aload_n 0, 1) := by decide +kernel
theorem dX7_allContent_29 : decode cX7_allContent 29 = .ok (.getfield 28, 3) := by decide +kernel
theorem dX7_allContent_32 : decode cX7_allContent 32 = .ok (.getfield 67, 3) := by decide +kernel
theorem dX7_allContent_35 : decode cX7_allContent 35 = .ok (.if_icmp .ge 40, 3) := by decide +kernel
theorem dX7_allContent_38 : decode cX7_allContent 38 = .ok (.iload_n 3, 1) := by decide +kernel
theorem dX7_allContent_39 : decode cX7_allContent 39 = .ok (.aload_n 0, 1) := by decide +kernel
theorem dX7_allContent_40 : decode cX7_allContent 40 = .ok (.getfield 18, 3) := by decide +kernel
theorem dX7_allContent_43 : decode cX7_allContent 43 = .ok (.iload_n 1, 1) := by decide +kernel
theorem dX7_allContent_44 : decode cX7_allContent 44 = .ok (.iaload, 1) := by decide +kernel
theorem dX7_allContent_45 : decode cX7_allContent 45 = .ok (.if_icmp .eq 24, 3) := by decide +kernel
theorem dX7_allContent_48 : decode cX7_allContent 48 = .ok (.aload_n 0, 1) := by decide +kernel
theorem dX7_allContent_49 : decode cX7_allContent 49 = .ok (.iload_n 1, 1) := by decide +kernel
theorem dX7_allContent_50 : decode cX7_allContent 50 = .ok (.iload_n 3, 1) := by decide +kernel
theorem dX7_allContent_51 : decode cX7_allContent 51 = .ok (.invokevirtual 70, 3) := by decide +kernel
theorem dX7_allContent_54 : decode cX7_allContent 54 = .ok (.ifCond .eq 15, 3) := by decide +kernel
theorem dX7_allContent_57 : decode cX7_allContent 57 = .ok (.aload_n 0, 1) := by decide +kernel
theorem dX7_allContent_58 : decode cX7_allContent 58 = .ok (.iload_n 1, 1) := by decide +kernel
theorem dX7_allContent_59 : decode cX7_allContent 59 = .ok (.iload_n 3, 1) := by decide +kernel
theorem dX7_allContent_60 : decode cX7_allContent 60 = .ok (.invokevirtual 74, 3) := by decide +kernel
theorem dX7_allContent_63 : decode cX7_allContent 63 = .ok (.iload_n 2, 1) := by decide +kernel
theorem dX7_allContent_64 : decode cX7_allContent 64 = .ok (.if_icmp .le 5, 3) := by decide +kernel
theorem dX7_allContent_67 : decode cX7_allContent 67 = .ok (.iconst 0, 1) := by decide +kernel
theorem dX7_allContent_68 : decode cX7_allContent 68 = .ok (.ireturn, 1) := by decide +kernel
theorem dX7_allContent_69 : decode cX7_allContent 69 = .ok (.iinc 3 1, 3) := by decide +kernel
theorem dX7_allContent_72 : decode cX7_allContent 72 = .ok (.goto (-45), 3) := by decide +kernel
theorem dX7_allContent_75 : decode cX7_allContent 75 = .ok (.iinc 1 1, 3) := by decide +kernel
theorem dX7_allContent_78 : decode cX7_allContent 78 = .ok (.goto (-76), 3) := by decide +kernel
theorem dX7_allContent_81 : decode cX7_allContent 81 = .ok (.iconst 1, 1) := by decide +kernel
theorem dX7_allContent_82 : decode cX7_allContent 82 = .ok (.ireturn, 1) := by decide +kernel
theorem dX7_joyOf_0 : decode cX7_joyOf 0 = .ok (.aload_n 0, 1) := by decide +kernel
theorem dX7_joyOf_1 : decode cX7_joyOf 1 = .ok (.getfield 18, 3) := by decide +kernel
theorem dX7_joyOf_4 : decode cX7_joyOf 4 = .ok (.iload_n 1, 1) := by decide +kernel
theorem dX7_joyOf_5 : decode cX7_joyOf 5 = .ok (.iaload, 1) := by decide +kernel
theorem dX7_joyOf_6 : decode cX7_joyOf 6 = .ok (.iconst (-1), 1) := by decide +kernel
theorem dX7_joyOf_7 : decode cX7_joyOf 7 = .ok (.if_icmp .ne 7, 3) := by decide +kernel
theorem dX7_joyOf_10 : decode cX7_joyOf 10 = .ok (.iconst 0, 1) := by decide +kernel
theorem dX7_joyOf_11 : decode cX7_joyOf 11 = .ok (.goto 22, 3) := by decide +kernel
theorem dX7_joyOf_14 : decode cX7_joyOf 14 = .ok (.aload_n 0, 1) := by decide +kernel
theorem dX7_joyOf_15 : decode cX7_joyOf 15 = .ok (.getfield 32, 3) := by decide +kernel
theorem dX7_joyOf_18 : decode cX7_joyOf 18 = .ok (.getfield 47, 3) := by decide +kernel
theorem dX7_joyOf_21 : decode cX7_joyOf 21 = .ok (.iload_n 1, 1) := by decide +kernel
theorem dX7_joyOf_22 : decode cX7_joyOf 22 = .ok (.aaload, 1) := by decide +kernel
theorem dX7_joyOf_23 : decode cX7_joyOf 23 = .ok (.getfield 58, 3) := by decide +kernel
theorem dX7_joyOf_26 : decode cX7_joyOf 26 = .ok (.aload_n 0, 1) := by decide +kernel
theorem dX7_joyOf_27 : decode cX7_joyOf 27 = .ok (.getfield 18, 3) := by decide +kernel
theorem dX7_joyOf_30 : decode cX7_joyOf 30 = .ok (.iload_n 1, 1) := by decide +kernel
theorem dX7_joyOf_31 : decode cX7_joyOf 31 = .ok (.iaload, 1) := by decide +kernel
theorem dX7_joyOf_32 : decode cX7_joyOf 32 = .ok (.iaload, 1) := by decide +kernel
theorem dX7_joyOf_33 : decode cX7_joyOf 33 = .ok (.ireturn, 1) := by decide +kernel
theorem dX7_joyOfAll_0 : decode cX7_joyOfAll 0 = .ok (.iconst 0, 1) := by decide +kernel
theorem dX7_joyOfAll_1 : decode cX7_joyOfAll 1 = .ok (.istore_n 1, 1) := by decide +kernel
theorem dX7_joyOfAll_2 : decode cX7_joyOfAll 2 = .ok (.iconst 0, 1) := by decide +kernel
theorem dX7_joyOfAll_3 : decode cX7_joyOfAll 3 = .ok (.istore_n 2, 1) := by decide +kernel
theorem dX7_joyOfAll_4 : decode cX7_joyOfAll 4 = .ok (.iload_n 2, 1) := by decide +kernel
theorem dX7_joyOfAll_5 : decode cX7_joyOfAll 5 = .ok (.aload_n 0, 1) := by decide +kernel
theorem dX7_joyOfAll_6 : decode cX7_joyOfAll 6 = .ok (.getfield 32, 3) := by decide +kernel
theorem dX7_joyOfAll_9 : decode cX7_joyOfAll 9 = .ok (.getfield 90, 3) := by decide +kernel
theorem dX7_joyOfAll_12 : decode cX7_joyOfAll 12 = .ok (.if_icmp .ge 17, 3) := by decide +kernel
theorem dX7_joyOfAll_15 : decode cX7_joyOfAll 15 = .ok (.iload_n 1, 1) := by decide +kernel
theorem dX7_joyOfAll_16 : decode cX7_joyOfAll 16 = .ok (.aload_n 0, 1) := by decide +kernel
theorem dX7_joyOfAll_17 : decode cX7_joyOfAll 17 = .ok (.iload_n 2, 1) := by decide +kernel
theorem dX7_joyOfAll_18 : decode cX7_joyOfAll 18 = .ok (.invokevirtual 93, 3) := by decide +kernel
theorem dX7_joyOfAll_21 : decode cX7_joyOfAll 21 = .ok (.iadd, 1) := by decide +kernel
theorem dX7_joyOfAll_22 : decode cX7_joyOfAll 22 = .ok (.istore_n 1, 1) := by decide +kernel
theorem dX7_joyOfAll_23 : decode cX7_joyOfAll 23 = .ok (.iinc 2 1, 3) := by decide +kernel
theorem dX7_joyOfAll_26 : decode cX7_joyOfAll 26 = .ok (.goto (-22), 3) := by decide +kernel
theorem dX7_joyOfAll_29 : decode cX7_joyOfAll 29 = .ok (.iload_n 1, 1) := by decide +kernel
theorem dX7_joyOfAll_30 : decode cX7_joyOfAll 30 = .ok (.ireturn, 1) := by decide +kernel
theorem dX7_howManyOrdered_0 : decode cX7_howManyOrdered 0 = .ok (.iconst 0, 1) := by decide +kernel
theorem dX7_howManyOrdered_1 : decode cX7_howManyOrdered 1 = .ok (.istore_n 1, 1) := by decide +kernel
theorem dX7_howManyOrdered_2 : decode cX7_howManyOrdered 2 = .ok (.iconst 0, 1) := by decide +kernel
theorem dX7_howManyOrdered_3 : decode cX7_howManyOrdered 3 = .ok (.istore_n 2, 1) := by decide +kernel
theorem dX7_howManyOrdered_4 : decode cX7_howManyOrdered 4 = .ok (.iload_n 2, 1) := by decide +kernel
theorem dX7_howManyOrdered_5 : decode cX7_howManyOrdered 5 = .ok (.aload_n 0, 1) := by decide +kernel
theorem dX7_howManyOrdered_6 : decode cX7_howManyOrdered 6 = .ok (.getfield 32, 3) := by decide +kernel
theorem dX7_howManyOrdered_9 : decode cX7_howManyOrdered 9 = .ok (.getfield 90, 3) := by decide +kernel
theorem dX7_howManyOrdered_12 : decode cX7_howManyOrdered 12 = .ok (.if_icmp .ge 18, 3) := by decide +kernel
theorem dX7_howManyOrdered_15 : decode cX7_howManyOrdered 15 = .ok (.iload_n 1, 1) := by decide +kernel
theorem dX7_howManyOrdered_16 : decode cX7_howManyOrdered 16 = .ok (.aload_n 0, 1) := by decide +kernel
theorem dX7_howManyOrdered_17 : decode cX7_howManyOrdered 17 = .ok (.getfield 21, 3) := by decide +kernel
theorem dX7_howManyOrdered_20 : decode cX7_howManyOrdered 20 = .ok (.iload_n 2, 1) := by decide +kernel
theorem dX7_howManyOrdered_21 : decode cX7_howManyOrdered 21 = .ok (.iaload, 1) := by decide +kernel
theorem dX7_howManyOrdered_22 : decode cX7_howManyOrdered 22 = .ok (.iadd, 1) := by decide +kernel
theorem dX7_howManyOrdered_23 : decode cX7_howManyOrdered 23 = .ok (.istore_n 1, 1) := by decide +kernel
theorem dX7_howManyOrdered_24 : decode cX7_howManyOrdered 24 = .ok (.iinc 2 1, 3) := by decide +kernel
theorem dX7_howManyOrdered_27 : decode cX7_howManyOrdered 27 = .ok (.goto (-23), 3) := by decide +kernel
theorem dX7_howManyOrdered_30 : decode cX7_howManyOrdered 30 = .ok (.iload_n 1, 1) := by decide +kernel
theorem dX7_howManyOrdered_31 : decode cX7_howManyOrdered 31 = .ok (.ireturn, 1) := by decide +kernel
theorem dX7_copyFrom_0 : decode cX7_copyFrom 0 = .ok (.aload_n 1, 1) := by decide +kernel
theorem dX7_copyFrom_1 : decode cX7_copyFrom 1 = .ok (.getfield 9, 3) := by decide +kernel
theorem dX7_copyFrom_4 : decode cX7_copyFrom 4 = .ok (.iconst 0, 1) := by decide +kernel
theorem dX7_copyFrom_5 : decode cX7_copyFrom 5 = .ok (.aload_n 0, 1) := by decide +kernel
theorem dX7_copyFrom_6 : decode cX7_copyFrom 6 = .ok (.getfield 9, 3) := by decide +kernel
theorem dX7_copyFrom_9 : decode cX7_copyFrom 9 = .ok (.iconst 0, 1) := by decide +kernel
theorem dX7_copyFrom_10 : decode cX7_copyFrom 10 = .ok (.bipush 6, 2) := by decide +kernel
theorem dX7_copyFrom_12 : decode cX7_copyFrom 12 = .ok (.invokestatic 96, 3) := by decide +kernel
theorem dX7_copyFrom_15 : decode cX7_copyFrom 15 = .ok (.aload_n 1, 1) := by decide +kernel
theorem dX7_copyFrom_16 : decode cX7_copyFrom 16 = .ok (.getfield 15, 3) := by decide +kernel
theorem dX7_copyFrom_19 : decode cX7_copyFrom 19 = .ok (.iconst 0, 1) := by decide +kernel
theorem dX7_copyFrom_20 : decode cX7_copyFrom 20 = .ok (.aload_n 0, 1) := by decide +kernel
theorem dX7_copyFrom_21 : decode cX7_copyFrom 21 = .ok (.getfield 15, 3) := by decide +kernel
theorem dX7_copyFrom_24 : decode cX7_copyFrom 24 = .ok (.iconst 0, 1) := by decide +kernel
theorem dX7_copyFrom_25 : decode cX7_copyFrom 25 = .ok (.bipush 6, 2) := by decide +kernel
theorem dX7_copyFrom_27 : decode cX7_copyFrom 27 = .ok (.invokestatic 96, 3) := by decide +kernel
theorem dX7_copyFrom_30 : decode cX7_copyFrom 30 = .ok (.aload_n 1, 1) := by decide +kernel
theorem dX7_copyFrom_31 : decode cX7_copyFrom 31 = .ok (.getfield 18, 3) := by decide +kernel
theorem dX7_copyFrom_34 : decode cX7_copyFrom 34 = .ok (.iconst 0, 1) := by decide +kernel
theorem dX7_copyFrom_35 : decode cX7_copyFrom 35 = .ok (.aload_n 0, 1) := by decide +kernel
theorem dX7_copyFrom_36 : decode cX7_copyFrom 36 = .ok (.getfield 18, 3) := by decide +kernel
theorem dX7_copyFrom_39 : decode cX7_copyFrom 39 = .ok (.iconst 0, 1) := by decide +kernel
theorem dX7_copyFrom_40 : decode cX7_copyFrom 40 = .ok (.iconst 5, 1) := by decide +kernel
theorem dX7_copyFrom_41 : decode cX7_copyFrom 41 = .ok (.invokestatic 96, 3) := by decide +kernel
theorem dX7_copyFrom_44 : decode cX7_copyFrom 44 = .ok (.aload_n 1, 1) := by decide +kernel
theorem dX7_copyFrom_45 : decode cX7_copyFrom 45 = .ok (.getfield 21, 3) := by decide +kernel
theorem dX7_copyFrom_48 : decode cX7_copyFrom 48 = .ok (.iconst 0, 1) := by decide +kernel
theorem dX7_copyFrom_49 : decode cX7_copyFrom 49 = .ok (.aload_n 0, 1) := by decide +kernel
theorem dX7_copyFrom_50 : decode cX7_copyFrom 50 = .ok (.getfield 21, 3) := by decide +kernel
theorem dX7_copyFrom_53 : decode cX7_copyFrom 53 = .ok (.iconst 0, 1) := by decide +kernel
theorem dX7_copyFrom_54 : decode cX7_copyFrom 54 = .ok (.iconst 5, 1) := by decide +kernel
theorem dX7_copyFrom_55 : decode cX7_copyFrom 55 = .ok (.invokestatic 96, 3) := by decide +kernel
theorem dX7_copyFrom_58 : decode cX7_copyFrom 58 = .ok (.aload_n 0, 1) := by decide +kernel
theorem dX7_copyFrom_59 : decode cX7_copyFrom 59 = .ok (.aload_n 1, 1) := by decide +kernel
theorem dX7_copyFrom_60 : decode cX7_copyFrom 60 = .ok (.getfield 24, 3) := by decide +kernel
theorem dX7_copyFrom_63 : decode cX7_copyFrom 63 = .ok (.putfield 24, 3) := by decide +kernel
theorem dX7_copyFrom_66 : decode cX7_copyFrom 66 = .ok (.aload_n 0, 1) := by decide +kernel
theorem dX7_copyFrom_67 : decode cX7_copyFrom 67 = .ok (.aload_n 1, 1) := by decide +kernel
theorem dX7_copyFrom_68 : decode cX7_copyFrom 68 = .ok (.getfield 41, 3) := by decide +kernel
theorem dX7_copyFrom_71 : decode cX7_copyFrom 71 = .ok (.putfield 41, 3) := by decide +kernel
theorem dX7_copyFrom_74 : decode cX7_copyFrom 74 = .ok (.aload_n 0, 1) := by decide +kernel
theorem dX7_copyFrom_75 : decode cX7_copyFrom 75 = .ok (.aload_n 1, 1) := by decide +kernel
theorem dX7_copyFrom_76 : decode cX7_copyFrom 76 = .ok (.getfield 64, 3) := by decide +kernel
theorem dX7_copyFrom_79 : decode cX7_copyFrom 79 = .ok (.putfield 64, 3) := by decide +kernel
theorem dX7_copyFrom_82 : decode cX7_copyFrom 82 = .ok (.return_, 1) := by decide +kernel
