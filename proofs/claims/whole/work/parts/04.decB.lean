theorem dX8_init_0 : decode cX8_init 0 = .ok (.aload_n 0, 1) := by decide +kernel
theorem dX8_init_1 : decode cX8_init 1 = .ok (.invokespecial 1, 3) := by decide +kernel
theorem dX8_init_4 : decode cX8_init 4 = .ok (.aload_n 0, 1) := by decide +kernel
theorem dX8_init_5 : decode cX8_init 5 = .ok (.new 7, 3) := by decide +kernel
theorem dX8_init_8 : decode cX8_init 8 = .ok (.dup, 1) := by decide +kernel
theorem dX8_init_9 : decode cX8_init 9 = .ok (.invokespecial 9, 3) := by decide +kernel
theorem dX8_init_12 : decode cX8_init 12 = .ok (.putfield 10, 3) := by decide +kernel
theorem dX8_init_15 : decode cX8_init 15 = .ok (.aload_n 0, 1) := by decide +kernel
theorem dX8_init_16 : decode cX8_init 16 = .ok (.new 16, 3) := by decide +kernel
theorem dX8_init_19 : decode cX8_init 19 = .ok (.dup, 1) := by decide +kernel
theorem dX8_init_20 : decode cX8_init 20 = .ok (.invokespecial 18, 3) := by decide +kernel
theorem dX8_init_23 : decode cX8_init 23 = .ok (.putfield 19, 3) := by decide +kernel
theorem dX8_init_26 : decode cX8_init 26 = .ok (.aload_n 0, 1) := by decide +kernel
theorem dX8_init_27 : decode cX8_init 27 = .ok (.new 23, 3) := by decide +kernel
theorem dX8_init_30 : decode cX8_init 30 = .ok (.dup, 1) := by decide +kernel
theorem dX8_init_31 : decode cX8_init 31 = .ok (.invokespecial 25, 3) := by decide +kernel
theorem dX8_init_34 : decode cX8_init 34 = .ok (.putfield 26, 3) := by decide +kernel
theorem dX8_init_37 : decode cX8_init 37 = .ok (.aload_n 0, 1) := by decide +kernel
theorem dX8_init_38 : decode cX8_init 38 = .ok (.new 30, 3) := by decide +kernel
theorem dX8_init_41 : decode cX8_init 41 = .ok (.dup, 1) := by decide +kernel
theorem dX8_init_42 : decode cX8_init 42 = .ok (.aload_n 0, 1) := by decide +kernel
theorem dX8_init_43 : decode cX8_init 43 = .ok (.getfield 19, 3) := by decide +kernel
theorem dX8_init_46 : decode cX8_init 46 = .ok (.aload_n 0, 1) := by decide +kernel
theorem dX8_init_47 : decode cX8_init 47 = .ok (.getfield 26, 3) := by decide +kernel
theorem dX8_init_50 : decode cX8_init 50 = .ok (.invokespecial 32, 3) := by decide +kernel
theorem dX8_init_53 : decode cX8_init 53 = .ok (.putfield 35, 3) := by decide +kernel
theorem dX8_init_56 : decode cX8_init 56 = .ok (.aload_n 0, 1) := by decide +kernel
theorem dX8_init_57 : decode cX8_init 57 = .ok (.new 39, 3) := by decide +kernel
theorem dX8_init_60 : decode cX8_init 60 = .ok (.dup, 1) := by decide +kernel
theorem dX8_init_61 : decode cX8_init 61 = .ok (.invokespecial 41, 3) := by decide +kernel
theorem dX8_init_64 : decode cX8_init 64 = .ok (.putfield 42, 3) := by decide +kernel
theorem dX8_init_67 : decode cX8_init 67 = .ok (.aload_n 0, 1) := by decide +kernel
theorem dX8_init_68 : decode cX8_init 68 = .ok (.new 46, 3) := by decide +kernel
theorem dX8_init_71 : decode cX8_init 71 = .ok (.dup, 1) := by decide +kernel
theorem dX8_init_72 : decode cX8_init 72 = .ok (.aload_n 0, 1) := by decide +kernel
theorem dX8_init_73 : decode cX8_init 73 = .ok (.getfield 19, 3) := by decide +kernel
theorem dX8_init_76 : decode cX8_init 76 = .ok (.aload_n 0, 1) := by decide +kernel
theorem dX8_init_77 : decode cX8_init 77 = .ok (.getfield 26, 3) := by decide +kernel
theorem dX8_init_80 : decode cX8_init 80 = .ok (.aload_n 0, 1) := by decide +kernel
theorem dX8_init_81 : decode cX8_init 81 = .ok (.getfield 35, 3) := by decide +kernel
theorem dX8_init_84 : decode cX8_init 84 = .ok (.invokespecial 48, 3) := by decide +kernel
theorem dX8_init_87 : decode cX8_init 87 = .ok (.putfield 51, 3) := by decide +kernel
theorem dX8_init_90 : decode cX8_init 90 = .ok (.aload_n 0, 1) := by decide +kernel
theorem dX8_init_91 : decode cX8_init 91 = .ok (.new 55, 3) := by decide +kernel
theorem dX8_init_94 : decode cX8_init 94 = .ok (.dup, 1) := by decide +kernel
theorem dX8_init_95 : decode cX8_init 95 = .ok (.aload_n 0, 1) := by decide +kernel
theorem dX8_init_96 : decode cX8_init 96 = .ok (.getfield 19, 3) := by decide +kernel
theorem dX8_init_99 : decode cX8_init 99 = .ok (.aload_n 0, 1) := by decide +kernel
theorem dX8_init_100 : decode cX8_init 100 = .ok (.getfield 26, 3) := by decide +kernel
theorem dX8_init_103 : decode cX8_init 103 = .ok (.invokespecial 57, 3) := by decide +kernel
theorem dX8_init_106 : decode cX8_init 106 = .ok (.putfield 58, 3) := by decide +kernel
theorem dX8_init_109 : decode cX8_init 109 = .ok (.return_, 1) := by decide +kernel
theorem dX8_letter_0 : decode cX8_letter 0 = .ok (.iload_n 1, 1) := by decide +kernel
theorem dX8_letter_1 : decode cX8_letter 1 = .ok (.iconst 1, 1) := by decide +kernel
theorem dX8_letter_2 : decode cX8_letter 2 = .ok (.bipush 126, 2) := by decide +kernel
theorem dX8_letter_4 : decode cX8_letter 4 = .ok (.invokestatic 62, 3) := by decide +kernel
theorem dX8_letter_7 : decode cX8_letter 7 = .ok (.ifCond .eq 6, 3) := by decide +kernel
theorem dX8_letter_10 : decode cX8_letter 10 = .ok (.bipush (-102), 2) := by decide +kernel
theorem dX8_letter_12 : decode cX8_letter 12 = .ok (.ireturn, 1) := by decide +kernel
theorem dX8_letter_13 : decode cX8_letter 13 = .ok (.aload_n 0, 1) := by decide +kernel
theorem dX8_letter_14 : decode cX8_letter 14 = .ok (.getfield 10, 3) := by decide +kernel
theorem dX8_letter_17 : decode cX8_letter 17 = .ok (.getfield 66, 3) := by decide +kernel
theorem dX8_letter_20 : decode cX8_letter 20 = .ok (.bipush 22, 2) := by decide +kernel
theorem dX8_letter_22 : decode cX8_letter 22 = .ok (.if_icmp .lt 6, 3) := by decide +kernel
theorem dX8_letter_25 : decode cX8_letter 25 = .ok (.bipush (-104), 2) := by decide +kernel
theorem dX8_letter_27 : decode cX8_letter 27 = .ok (.ireturn, 1) := by decide +kernel
theorem dX8_letter_28 : decode cX8_letter 28 = .ok (.aload_n 0, 1) := by decide +kernel
theorem dX8_letter_29 : decode cX8_letter 29 = .ok (.getfield 10, 3) := by decide +kernel
theorem dX8_letter_32 : decode cX8_letter 32 = .ok (.getfield 70, 3) := by decide +kernel
theorem dX8_letter_35 : decode cX8_letter 35 = .ok (.aload_n 0, 1) := by decide +kernel
theorem dX8_letter_36 : decode cX8_letter 36 = .ok (.getfield 10, 3) := by decide +kernel
theorem dX8_letter_39 : decode cX8_letter 39 = .ok (.getfield 66, 3) := by decide +kernel
theorem dX8_letter_42 : decode cX8_letter 42 = .ok (.iload_n 1, 1) := by decide +kernel
theorem dX8_letter_43 : decode cX8_letter 43 = .ok (.iastore, 1) := by decide +kernel
theorem dX8_letter_44 : decode cX8_letter 44 = .ok (.aload_n 0, 1) := by decide +kernel
theorem dX8_letter_45 : decode cX8_letter 45 = .ok (.getfield 10, 3) := by decide +kernel
theorem dX8_letter_48 : decode cX8_letter 48 = .ok (.dup, 1) := by decide +kernel
theorem dX8_letter_49 : decode cX8_letter 49 = .ok (.getfield 66, 3) := by decide +kernel
theorem dX8_letter_52 : decode cX8_letter 52 = .ok (.iconst 1, 1) := by decide +kernel
theorem dX8_letter_53 : decode cX8_letter 53 = .ok (.iadd, 1) := by decide +kernel
theorem dX8_letter_54 : decode cX8_letter 54 = .ok (.putfield 66, 3) := by decide +kernel
theorem dX8_letter_57 : decode cX8_letter 57 = .ok (.aload_n 0, 1) := by decide +kernel
theorem dX8_letter_58 : decode cX8_letter 58 = .ok (.getfield 10, 3) := by decide +kernel
theorem dX8_letter_61 : decode cX8_letter 61 = .ok (.getfield 66, 3) := by decide +kernel
theorem dX8_letter_64 : decode cX8_letter 64 = .ok (.ireturn, 1) := by decide +kernel
theorem dX8_blank_0 : decode cX8_blank 0 = .ok (.aload_n 0, 1) := by decide +kernel
theorem dX8_blank_1 : decode cX8_blank 1 = .ok (.getfield 10, 3) := by decide +kernel
theorem dX8_blank_4 : decode cX8_blank 4 = .ok (.getfield 66, 3) := by decide +kernel
theorem dX8_blank_7 : decode cX8_blank 7 = .ok (.istore_n 1, 1) := by decide +kernel
theorem dX8_blank_8 : decode cX8_blank 8 = .ok (.aload_n 0, 1) := by decide +kernel
theorem dX8_blank_9 : decode cX8_blank 9 = .ok (.getfield 10, 3) := by decide +kernel
theorem dX8_blank_12 : decode cX8_blank 12 = .ok (.iconst 0, 1) := by decide +kernel
theorem dX8_blank_13 : decode cX8_blank 13 = .ok (.putfield 66, 3) := by decide +kernel
theorem dX8_blank_16 : decode cX8_blank 16 = .ok (.iload_n 1, 1) := by decide +kernel
theorem dX8_blank_17 : decode cX8_blank 17 = .ok (.ireturn, 1) := by decide +kernel
theorem dX8_fault_0 : decode cX8_fault 0 = .ok (.aload_n 0, 1) := by decide +kernel
theorem dX8_fault_1 : decode cX8_fault 1 = .ok (.getfield 10, 3) := by decide +kernel
theorem dX8_fault_4 : decode cX8_fault 4 = .ok (.invokevirtual 74, 3) := by decide +kernel
theorem dX8_fault_7 : decode cX8_fault 7 = .ok (.ireturn, 1) := by decide +kernel
theorem dX8_card_0 : decode cX8_card 0 = .ok (.aload_n 0, 1) := by decide +kernel
theorem dX8_card_1 : decode cX8_card 1 = .ok (.getfield 10, 3) := by decide +kernel
theorem dX8_card_4 : decode cX8_card 4 = .ok (.invokevirtual 78, 3) := by decide +kernel
theorem dX8_card_7 : decode cX8_card 7 = .ok (.ifCond .ne 6, 3) := by decide +kernel
theorem dX8_card_10 : decode cX8_card 10 = .ok (.bipush (-103), 2) := by decide +kernel
theorem dX8_card_12 : decode cX8_card 12 = .ok (.ireturn, 1) := by decide +kernel
theorem dX8_card_13 : decode cX8_card 13 = .ok (.aload_n 0, 1) := by decide +kernel
theorem dX8_card_14 : decode cX8_card 14 = .ok (.getfield 19, 3) := by decide +kernel
theorem dX8_card_17 : decode cX8_card 17 = .ok (.aload_n 0, 1) := by decide +kernel
theorem dX8_card_18 : decode cX8_card 18 = .ok (.getfield 10, 3) := by decide +kernel
theorem dX8_card_21 : decode cX8_card 21 = .ok (.invokevirtual 82, 3) := by decide +kernel
theorem dX8_card_24 : decode cX8_card 24 = .ok (.aload_n 0, 1) := by decide +kernel
theorem dX8_card_25 : decode cX8_card 25 = .ok (.getfield 10, 3) := by decide +kernel
theorem dX8_card_28 : decode cX8_card 28 = .ok (.iconst 0, 1) := by decide +kernel
theorem dX8_card_29 : decode cX8_card 29 = .ok (.putfield 66, 3) := by decide +kernel
theorem dX8_card_32 : decode cX8_card 32 = .ok (.aload_n 0, 1) := by decide +kernel
theorem dX8_card_33 : decode cX8_card 33 = .ok (.getfield 26, 3) := by decide +kernel
theorem dX8_card_36 : decode cX8_card 36 = .ok (.iconst 0, 1) := by decide +kernel
theorem dX8_card_37 : decode cX8_card 37 = .ok (.putfield 86, 3) := by decide +kernel
theorem dX8_card_40 : decode cX8_card 40 = .ok (.aload_n 0, 1) := by decide +kernel
theorem dX8_card_41 : decode cX8_card 41 = .ok (.getfield 42, 3) := by decide +kernel
theorem dX8_card_44 : decode cX8_card 44 = .ok (.iconst 0, 1) := by decide +kernel
theorem dX8_card_45 : decode cX8_card 45 = .ok (.putfield 87, 3) := by decide +kernel
theorem dX8_card_48 : decode cX8_card 48 = .ok (.aload_n 0, 1) := by decide +kernel
theorem dX8_card_49 : decode cX8_card 49 = .ok (.getfield 35, 3) := by decide +kernel
theorem dX8_card_52 : decode cX8_card 52 = .ok (.aload_n 0, 1) := by decide +kernel
theorem dX8_card_53 : decode cX8_card 53 = .ok (.getfield 19, 3) := by decide +kernel
theorem dX8_card_56 : decode cX8_card 56 = .ok (.getfield 88, 3) := by decide +kernel
theorem dX8_card_59 : decode cX8_card 59 = .ok (.putfield 91, 3) := by decide +kernel
theorem dX8_card_62 : decode cX8_card 62 = .ok (.aload_n 0, 1) := by decide +kernel
theorem dX8_card_63 : decode cX8_card 63 = .ok (.getfield 35, 3) := by decide +kernel
theorem dX8_card_66 : decode cX8_card 66 = .ok (.iconst (-1), 1) := by decide +kernel
theorem dX8_card_67 : decode cX8_card 67 = .ok (.iconst 0, 1) := by decide +kernel
theorem dX8_card_68 : decode cX8_card 68 = .ok (.invokevirtual 92, 3) := by decide +kernel
theorem dX8_card_71 : decode cX8_card 71 = .ok (.aload_n 0, 1) := by decide +kernel
theorem dX8_card_72 : decode cX8_card 72 = .ok (.getfield 35, 3) := by decide +kernel
theorem dX8_card_75 : decode cX8_card 75 = .ok (.invokevirtual 96, 3) := by decide +kernel
theorem dX8_card_78 : decode cX8_card 78 = .ok (.aload_n 0, 1) := by decide +kernel
theorem dX8_card_79 : decode cX8_card 79 = .ok (.dup, 1) := by decide +kernel
theorem dX8_card_80 : decode cX8_card 80 = .ok (.getfield 99, 3) := by decide +kernel
theorem dX8_card_83 : decode cX8_card 83 = .ok (.iconst 1, 1) := by decide +kernel
theorem dX8_card_84 : decode cX8_card 84 = .ok (.iadd, 1) := by decide +kernel
theorem dX8_card_85 : decode cX8_card 85 = .ok (.putfield 99, 3) := by decide +kernel
theorem dX8_card_88 : decode cX8_card 88 = .ok (.aload_n 0, 1) := by decide +kernel
theorem dX8_card_89 : decode cX8_card 89 = .ok (.getfield 19, 3) := by decide +kernel
theorem dX8_card_92 : decode cX8_card 92 = .ok (.getfield 102, 3) := by decide +kernel
theorem dX8_card_95 : decode cX8_card 95 = .ok (.ireturn, 1) := by decide +kernel
theorem dX8_dish_0 : decode cX8_dish 0 = .ok (.aload_n 0, 1) := by decide +kernel
theorem dX8_dish_1 : decode cX8_dish 1 = .ok (.iload_n 1, 1) := by decide +kernel
theorem dX8_dish_2 : decode cX8_dish 2 = .ok (.invokevirtual 105, 3) := by decide +kernel
theorem dX8_dish_5 : decode cX8_dish 5 = .ok (.ifCond .eq 6, 3) := by decide +kernel
theorem dX8_dish_8 : decode cX8_dish 8 = .ok (.bipush (-101), 2) := by decide +kernel
theorem dX8_dish_10 : decode cX8_dish 10 = .ok (.ireturn, 1) := by decide +kernel
theorem dX8_dish_11 : decode cX8_dish 11 = .ok (.iload_n 2, 1) := by decide +kernel
theorem dX8_dish_12 : decode cX8_dish 12 = .ok (.tableswitch 85 0 3 #[32, 42, 52, 62], 32) := by decide +kernel
theorem dX8_dish_44 : decode cX8_dish 44 = .ok (.aload_n 0, 1) := by decide +kernel
theorem dX8_dish_45 : decode cX8_dish 45 = .ok (.getfield 35, 3) := by decide +kernel
theorem dX8_dish_48 : decode cX8_dish 48 = .ok (.getfield 109, 3) := by decide +kernel
theorem dX8_dish_51 : decode cX8_dish 51 = .ok (.iload_n 1, 1) := by decide +kernel
theorem dX8_dish_52 : decode cX8_dish 52 = .ok (.iaload, 1) := by decide +kernel
theorem dX8_dish_53 : decode cX8_dish 53 = .ok (.ireturn, 1) := by decide +kernel
theorem dX8_dish_54 : decode cX8_dish 54 = .ok (.aload_n 0, 1) := by decide +kernel
theorem dX8_dish_55 : decode cX8_dish 55 = .ok (.getfield 19, 3) := by decide +kernel
theorem dX8_dish_58 : decode cX8_dish 58 = .ok (.getfield 112, 3) := by decide +kernel
theorem dX8_dish_61 : decode cX8_dish 61 = .ok (.iload_n 1, 1) := by decide +kernel
theorem dX8_dish_62 : decode cX8_dish 62 = .ok (.iaload, 1) := by decide +kernel
theorem dX8_dish_63 : decode cX8_dish 63 = .ok (.ireturn, 1) := by decide +kernel
theorem dX8_dish_64 : decode cX8_dish 64 = .ok (.aload_n 0, 1) := by decide +kernel
theorem dX8_dish_65 : decode cX8_dish 65 = .ok (.getfield 35, 3) := by decide +kernel
theorem dX8_dish_68 : decode cX8_dish 68 = .ok (.getfield 115, 3) := by decide +kernel
theorem dX8_dish_71 : decode cX8_dish 71 = .ok (.iload_n 1, 1) := by decide +kernel
theorem dX8_dish_72 : decode cX8_dish 72 = .ok (.iaload, 1) := by decide +kernel
theorem dX8_dish_73 : decode cX8_dish 73 = .ok (.ireturn, 1) := by decide +kernel
theorem dX8_dish_74 : decode cX8_dish 74 = .ok (.iload_n 1, 1) := by decide +kernel
theorem dX8_dish_75 : decode cX8_dish 75 = .ok (.aload_n 0, 1) := by decide +kernel
theorem dX8_dish_76 : decode cX8_dish 76 = .ok (.getfield 35, 3) := by decide +kernel
theorem dX8_dish_79 : decode cX8_dish 79 = .ok (.getfield 118, 3) := by decide +kernel
theorem dX8_dish_82 : decode cX8_dish 82 = .ok (.if_icmp .ne 13, 3) := by decide +kernel
theorem dX8_dish_85 : decode cX8_dish 85 = .ok (.aload_n 0, 1) := by decide +kernel
theorem dX8_dish_86 : decode cX8_dish 86 = .ok (.getfield 35, 3) := by decide +kernel
theorem dX8_dish_89 : decode cX8_dish 89 = .ok (.getfield 121, 3) := by decide +kernel
theorem dX8_dish_92 : decode cX8_dish 92 = .ok (.goto 4, 3) := by decide +kernel
theorem dX8_dish_95 : decode cX8_dish 95 = .ok (.iconst 0, 1) := by decide +kernel
theorem dX8_dish_96 : decode cX8_dish 96 = .ok (.ireturn, 1) := by decide +kernel
theorem dX8_dish_97 : decode cX8_dish 97 = .ok (.bipush (-102), 2) := by decide +kernel
theorem dX8_dish_99 : decode cX8_dish 99 = .ok (.ireturn, 1) := by decide +kernel
theorem dX8_guest_0 : decode cX8_guest 0 = .ok (.iload_n 1, 1) := by decide +kernel
theorem dX8_guest_1 : decode cX8_guest 1 = .ok (.iconst 0, 1) := by decide +kernel
theorem dX8_guest_2 : decode cX8_guest 2 = .ok (.iconst 4, 1) := by decide +kernel
theorem dX8_guest_3 : decode cX8_guest 3 = .ok (.invokestatic 62, 3) := by decide +kernel
theorem dX8_guest_6 : decode cX8_guest 6 = .ok (.ifCond .ne 13, 3) := by decide +kernel
theorem dX8_guest_9 : decode cX8_guest 9 = .ok (.iload_n 2, 1) := by decide +kernel
theorem dX8_guest_10 : decode cX8_guest 10 = .ok (.iconst 1, 1) := by decide +kernel
theorem dX8_guest_11 : decode cX8_guest 11 = .ok (.bipush 9, 2) := by decide +kernel
theorem dX8_guest_13 : decode cX8_guest 13 = .ok (.invokestatic 62, 3) := by decide +kernel
theorem dX8_guest_16 : decode cX8_guest 16 = .ok (.ifCond .eq 6, 3) := by decide +kernel
theorem dX8_guest_19 : decode cX8_guest 19 = .ok (.bipush (-102), 2) := by decide +kernel
theorem dX8_guest_21 : decode cX8_guest 21 = .ok (.ireturn, 1) := by decide +kernel
theorem dX8_guest_22 : decode cX8_guest 22 = .ok (.aload_n 0, 1) := by decide +kernel
theorem dX8_guest_23 : decode cX8_guest 23 = .ok (.invokevirtual 124, 3) := by decide +kernel
theorem dX8_guest_26 : decode cX8_guest 26 = .ok (.ifCond .eq 6, 3) := by decide +kernel
theorem dX8_guest_29 : decode cX8_guest 29 = .ok (.bipush (-103), 2) := by decide +kernel
theorem dX8_guest_31 : decode cX8_guest 31 = .ok (.ireturn, 1) := by decide +kernel
theorem dX8_guest_32 : decode cX8_guest 32 = .ok (.aload_n 0, 1) := by decide +kernel
theorem dX8_guest_33 : decode cX8_guest 33 = .ok (.getfield 26, 3) := by decide +kernel
theorem dX8_guest_36 : decode cX8_guest 36 = .ok (.getfield 86, 3) := by decide +kernel
theorem dX8_guest_39 : decode cX8_guest 39 = .ok (.iconst 5, 1) := by decide +kernel
theorem dX8_guest_40 : decode cX8_guest 40 = .ok (.if_icmp .lt 6, 3) := by decide +kernel
theorem dX8_guest_43 : decode cX8_guest 43 = .ok (.bipush (-104), 2) := by decide +kernel
theorem dX8_guest_45 : decode cX8_guest 45 = .ok (.ireturn, 1) := by decide +kernel
theorem dX8_guest_46 : decode cX8_guest 46 = .ok (.aload_n 0, 1) := by decide +kernel
theorem dX8_guest_47 : decode cX8_guest 47 = .ok (.getfield 26, 3) := by decide +kernel
theorem dX8_guest_50 : decode cX8_guest 50 = .ok (.getfield 127, 3) := by decide +kernel
theorem dX8_guest_53 : decode cX8_guest 53 = .ok (.aload_n 0, 1) := by decide +kernel
theorem dX8_guest_54 : decode cX8_guest 54 = .ok (.getfield 26, 3) := by decide +kernel
theorem dX8_guest_57 : decode cX8_guest 57 = .ok (.getfield 86, 3) := by decide +kernel
theorem dX8_guest_60 : decode cX8_guest 60 = .ok (.aaload, 1) := by decide +kernel
theorem dX8_guest_61 : decode cX8_guest 61 = .ok (.iload_n 1, 1) := by decide +kernel
theorem dX8_guest_62 : decode cX8_guest 62 = .ok (.iload_n 2, 1) := by decide +kernel
theorem dX8_guest_63 : decode cX8_guest 63 = .ok (.invokevirtual 131, 3) := by decide +kernel
theorem dX8_guest_66 : decode cX8_guest 66 = .ok (.aload_n 0, 1) := by decide +kernel
theorem dX8_guest_67 : decode cX8_guest 67 = .ok (.getfield 26, 3) := by decide +kernel
theorem dX8_guest_70 : decode cX8_guest 70 = .ok (.dup, 1) := by decide +kernel
theorem dX8_guest_71 : decode cX8_guest 71 = .ok (.getfield 86, 3) := by decide +kernel
theorem dX8_guest_74 : decode cX8_guest 74 = .ok (.iconst 1, 1) := by decide +kernel
theorem dX8_guest_75 : decode cX8_guest 75 = .ok (.iadd, 1) := by decide +kernel
theorem dX8_guest_76 : decode cX8_guest 76 = .ok (.putfield 86, 3) := by decide +kernel
theorem dX8_guest_79 : decode cX8_guest 79 = .ok (.aload_n 0, 1) := by decide +kernel
theorem dX8_guest_80 : decode cX8_guest 80 = .ok (.getfield 26, 3) := by decide +kernel
theorem dX8_guest_83 : decode cX8_guest 83 = .ok (.getfield 86, 3) := by decide +kernel
theorem dX8_guest_86 : decode cX8_guest 86 = .ok (.iconst 1, 1) := by decide +kernel
theorem dX8_guest_87 : decode cX8_guest 87 = .ok (.isub, 1) := by decide +kernel
theorem dX8_guest_88 : decode cX8_guest 88 = .ok (.ireturn, 1) := by decide +kernel
theorem dX8_about_0 : decode cX8_about 0 = .ok (.aload_n 0, 1) := by decide +kernel
theorem dX8_about_1 : decode cX8_about 1 = .ok (.iload_n 1, 1) := by decide +kernel
theorem dX8_about_2 : decode cX8_about 2 = .ok (.invokevirtual 136, 3) := by decide +kernel
theorem dX8_about_5 : decode cX8_about 5 = .ok (.ifCond .eq 6, 3) := by decide +kernel
theorem dX8_about_8 : decode cX8_about 8 = .ok (.bipush (-101), 2) := by decide +kernel
theorem dX8_about_10 : decode cX8_about 10 = .ok (.ireturn, 1) := by decide +kernel
theorem dX8_about_11 : decode cX8_about 11 = .ok (.iload_n 2, 1) := by decide +kernel
theorem dX8_about_12 : decode cX8_about 12 = .ok (.tableswitch 116 0 5 #[40, 53, 66, 76, 86, 107], 40) := by decide +kernel
theorem dX8_about_52 : decode cX8_about 52 = .ok (.aload_n 0, 1) := by decide +kernel
theorem dX8_about_53 : decode cX8_about 53 = .ok (.getfield 26, 3) := by decide +kernel
theorem dX8_about_56 : decode cX8_about 56 = .ok (.getfield 127, 3) := by decide +kernel
theorem dX8_about_59 : decode cX8_about 59 = .ok (.iload_n 1, 1) := by decide +kernel
theorem dX8_about_60 : decode cX8_about 60 = .ok (.aaload, 1) := by decide +kernel
theorem dX8_about_61 : decode cX8_about 61 = .ok (.getfield 139, 3) := by decide +kernel
theorem dX8_about_64 : decode cX8_about 64 = .ok (.ireturn, 1) := by decide +kernel
theorem dX8_about_65 : decode cX8_about 65 = .ok (.aload_n 0, 1) := by decide +kernel
theorem dX8_about_66 : decode cX8_about 66 = .ok (.getfield 26, 3) := by decide +kernel
theorem dX8_about_69 : decode cX8_about 69 = .ok (.getfield 127, 3) := by decide +kernel
theorem dX8_about_72 : decode cX8_about 72 = .ok (.iload_n 1, 1) := by decide +kernel
theorem dX8_about_73 : decode cX8_about 73 = .ok (.aaload, 1) := by decide +kernel
theorem dX8_about_74 : decode cX8_about 74 = .ok (.getfield 142, 3) := by decide +kernel
theorem dX8_about_77 : decode cX8_about 77 = .ok (.ireturn, 1) := by decide +kernel
theorem dX8_about_78 : decode cX8_about 78 = .ok (.aload_n 0, 1) := by decide +kernel
theorem dX8_about_79 : decode cX8_about 79 = .ok (.getfield 35, 3) := by decide +kernel
theorem dX8_about_82 : decode cX8_about 82 = .ok (.getfield 145, 3) := by decide +kernel
theorem dX8_about_85 : decode cX8_about 85 = .ok (.iload_n 1, 1) := by decide +kernel
theorem dX8_about_86 : decode cX8_about 86 = .ok (.iaload, 1) := by decide +kernel
theorem dX8_about_87 : decode cX8_about 87 = .ok (.ireturn, 1) := by decide +kernel
theorem dX8_about_88 : decode cX8_about 88 = .ok (.aload_n 0, 1) := by decide +kernel
theorem dX8_about_89 : decode cX8_about 89 = .ok (.getfield 35, 3) := by decide +kernel
theorem dX8_about_92 : decode cX8_about 92 = .ok (.getfield 148, 3) := by decide +kernel
theorem dX8_about_95 : decode cX8_about 95 = .ok (.iload_n 1, 1) := by decide +kernel
theorem dX8_about_96 : decode cX8_about 96 = .ok (.iaload, 1) := by decide +kernel
theorem dX8_about_97 : decode cX8_about 97 = .ok (.ireturn, 1) := by decide +kernel
theorem dX8_about_98 : decode cX8_about 98 = .ok (.aload_n 0, 1) := by decide +kernel
theorem dX8_about_99 : decode cX8_about 99 = .ok (.getfield 26, 3) := by decide +kernel
theorem dX8_about_102 : decode cX8_about 102 = .ok (.getfield 127, 3) := by decide +kernel
theorem dX8_about_105 : decode cX8_about 105 = .ok (.iload_n 1, 1) := by decide +kernel
theorem dX8_about_106 : decode cX8_about 106 = .ok (.aaload, 1) := by decide +kernel
theorem dX8_about_107 : decode cX8_about 107 = .ok (.getfield 151, 3) := by decide +kernel
theorem dX8_about_110 : decode cX8_about 110 = .ok (.aload_n 0, 1) := by decide +kernel
theorem dX8_about_111 : decode cX8_about 111 = .ok (.getfield 19, 3) := by decide +kernel
theorem dX8_about_114 : decode cX8_about 114 = .ok (.getfield 88, 3) := by decide +kernel
theorem dX8_about_117 : decode cX8_about 117 = .ok (.imul, 1) := by decide +kernel
theorem dX8_about_118 : decode cX8_about 118 = .ok (.ireturn, 1) := by decide +kernel
theorem dX8_about_119 : decode cX8_about 119 = .ok (.aload_n 0, 1) := by decide +kernel
theorem dX8_about_120 : decode cX8_about 120 = .ok (.getfield 35, 3) := by decide +kernel
theorem dX8_about_123 : decode cX8_about 123 = .ok (.iload_n 1, 1) := by decide +kernel
theorem dX8_about_124 : decode cX8_about 124 = .ok (.invokevirtual 154, 3) := by decide +kernel
theorem dX8_about_127 : decode cX8_about 127 = .ok (.ireturn, 1) := by decide +kernel
theorem dX8_about_128 : decode cX8_about 128 = .ok (.bipush (-102), 2) := by decide +kernel
theorem dX8_about_130 : decode cX8_about 130 = .ok (.ireturn, 1) := by decide +kernel
theorem dX8_as_0 : decode cX8_as 0 = .ok (.aload_n 0, 1) := by decide +kernel
theorem dX8_as_1 : decode cX8_as 1 = .ok (.iload_n 1, 1) := by decide +kernel
theorem dX8_as_2 : decode cX8_as 2 = .ok (.invokevirtual 136, 3) := by decide +kernel
theorem dX8_as_5 : decode cX8_as 5 = .ok (.ifCond .eq 6, 3) := by decide +kernel
theorem dX8_as_8 : decode cX8_as 8 = .ok (.bipush (-101), 2) := by decide +kernel
theorem dX8_as_10 : decode cX8_as 10 = .ok (.ireturn, 1) := by decide +kernel
theorem dX8_as_11 : decode cX8_as 11 = .ok (.iload_n 2, 1) := by decide +kernel
theorem dX8_as_12 : decode cX8_as 12 = .ok (.iconst 0, 1) := by decide +kernel
theorem dX8_as_13 : decode cX8_as 13 = .ok (.iconst 4, 1) := by decide +kernel
theorem dX8_as_14 : decode cX8_as 14 = .ok (.invokestatic 62, 3) := by decide +kernel
theorem dX8_as_17 : decode cX8_as 17 = .ok (.ifCond .eq 6, 3) := by decide +kernel
theorem dX8_as_20 : decode cX8_as 20 = .ok (.bipush (-102), 2) := by decide +kernel
theorem dX8_as_22 : decode cX8_as 22 = .ok (.ireturn, 1) := by decide +kernel
theorem dX8_as_23 : decode cX8_as 23 = .ok (.aload_n 0, 1) := by decide +kernel
theorem dX8_as_24 : decode cX8_as 24 = .ok (.getfield 26, 3) := by decide +kernel
theorem dX8_as_27 : decode cX8_as 27 = .ok (.getfield 127, 3) := by decide +kernel
theorem dX8_as_30 : decode cX8_as 30 = .ok (.iload_n 1, 1) := by decide +kernel
theorem dX8_as_31 : decode cX8_as 31 = .ok (.aaload, 1) := by decide +kernel
theorem dX8_as_32 : decode cX8_as 32 = .ok (.iload_n 2, 1) := by decide +kernel
theorem dX8_as_33 : decode cX8_as 33 = .ok (.invokevirtual 158, 3) := by decide +kernel
theorem dX8_as_36 : decode cX8_as 36 = .ok (.ifCond .eq 7, 3) := by decide +kernel
theorem dX8_as_39 : decode cX8_as 39 = .ok (.iload_n 1, 1) := by decide +kernel
theorem dX8_as_40 : decode cX8_as 40 = .ok (.goto 4, 3) := by decide +kernel
theorem dX8_as_43 : decode cX8_as 43 = .ok (.iconst (-1), 1) := by decide +kernel
theorem dX8_as_44 : decode cX8_as 44 = .ok (.ireturn, 1) := by decide +kernel
theorem dX8_want_0 : decode cX8_want 0 = .ok (.aload_n 0, 1) := by decide +kernel
theorem dX8_want_1 : decode cX8_want 1 = .ok (.iload_n 1, 1) := by decide +kernel
theorem dX8_want_2 : decode cX8_want 2 = .ok (.invokevirtual 136, 3) := by decide +kernel
theorem dX8_want_5 : decode cX8_want 5 = .ok (.ifCond .ne 11, 3) := by decide +kernel
theorem dX8_want_8 : decode cX8_want 8 = .ok (.aload_n 0, 1) := by decide +kernel
theorem dX8_want_9 : decode cX8_want 9 = .ok (.iload_n 2, 1) := by decide +kernel
theorem dX8_want_10 : decode cX8_want 10 = .ok (.invokevirtual 105, 3) := by decide +kernel
theorem dX8_want_13 : decode cX8_want 13 = .ok (.ifCond .eq 6, 3) := by decide +kernel
theorem dX8_want_16 : decode cX8_want 16 = .ok (.bipush (-101), 2) := by decide +kernel
theorem dX8_want_18 : decode cX8_want 18 = .ok (.ireturn, 1) := by decide +kernel
theorem dX8_want_19 : decode cX8_want 19 = .ok (.iload_n 3, 1) := by decide +kernel
theorem dX8_want_20 : decode cX8_want 20 = .ok (.iconst 0, 1) := by decide +kernel
theorem dX8_want_21 : decode cX8_want 21 = .ok (.bipush 9, 2) := by decide +kernel
theorem dX8_want_23 : decode cX8_want 23 = .ok (.invokestatic 62, 3) := by decide +kernel
theorem dX8_want_26 : decode cX8_want 26 = .ok (.ifCond .eq 6, 3) := by decide +kernel
theorem dX8_want_29 : decode cX8_want 29 = .ok (.bipush (-102), 2) := by decide +kernel
theorem dX8_want_31 : decode cX8_want 31 = .ok (.ireturn, 1) := by decide +kernel
theorem dX8_want_32 : decode cX8_want 32 = .ok (.aload_n 0, 1) := by decide +kernel
theorem dX8_want_33 : decode cX8_want 33 = .ok (.getfield 26, 3) := by decide +kernel
theorem dX8_want_36 : decode cX8_want 36 = .ok (.getfield 127, 3) := by decide +kernel
theorem dX8_want_39 : decode cX8_want 39 = .ok (.iload_n 1, 1) := by decide +kernel
theorem dX8_want_40 : decode cX8_want 40 = .ok (.aaload, 1) := by decide +kernel
theorem dX8_want_41 : decode cX8_want 41 = .ok (.getfield 161, 3) := by decide +kernel
theorem dX8_want_44 : decode cX8_want 44 = .ok (.iload_n 2, 1) := by decide +kernel
theorem dX8_want_45 : decode cX8_want 45 = .ok (.iaload, 1) := by decide +kernel
theorem dX8_want_46 : decode cX8_want 46 = .ok (.istore 4, 2) := by decide +kernel
theorem dX8_want_48 : decode cX8_want 48 = .ok (.aload_n 0, 1) := by decide +kernel
theorem dX8_want_49 : decode cX8_want 49 = .ok (.getfield 26, 3) := by decide +kernel
theorem dX8_want_52 : decode cX8_want 52 = .ok (.getfield 127, 3) := by decide +kernel
theorem dX8_want_55 : decode cX8_want 55 = .ok (.iload_n 1, 1) := by decide +kernel
theorem dX8_want_56 : decode cX8_want 56 = .ok (.aaload, 1) := by decide +kernel
theorem dX8_want_57 : decode cX8_want 57 = .ok (.getfield 161, 3) := by decide +kernel
theorem dX8_want_60 : decode cX8_want 60 = .ok (.iload_n 2, 1) := by decide +kernel
theorem dX8_want_61 : decode cX8_want 61 = .ok (.iload_n 3, 1) := by decide +kernel
theorem dX8_want_62 : decode cX8_want 62 = .ok (.iastore, 1) := by decide +kernel
theorem dX8_want_63 : decode cX8_want 63 = .ok (.iload 4, 2) := by decide +kernel
theorem dX8_want_65 : decode cX8_want 65 = .ok (.ireturn, 1) := by decide +kernel
theorem dX8_purse_0 : decode cX8_purse 0 = .ok (.aload_n 0, 1) := by decide +kernel
theorem dX8_purse_1 : decode cX8_purse 1 = .ok (.iload_n 1, 1) := by decide +kernel
theorem dX8_purse_2 : decode cX8_purse 2 = .ok (.invokevirtual 136, 3) := by decide +kernel
theorem dX8_purse_5 : decode cX8_purse 5 = .ok (.ifCond .eq 6, 3) := by decide +kernel
theorem dX8_purse_8 : decode cX8_purse 8 = .ok (.bipush (-101), 2) := by decide +kernel
theorem dX8_purse_10 : decode cX8_purse 10 = .ok (.ireturn, 1) := by decide +kernel
theorem dX8_purse_11 : decode cX8_purse 11 = .ok (.iload_n 2, 1) := by decide +kernel
theorem dX8_purse_12 : decode cX8_purse 12 = .ok (.iconst 1, 1) := by decide +kernel
theorem dX8_purse_13 : decode cX8_purse 13 = .ok (.bipush 9, 2) := by decide +kernel
theorem dX8_purse_15 : decode cX8_purse 15 = .ok (.invokestatic 62, 3) := by decide +kernel
theorem dX8_purse_18 : decode cX8_purse 18 = .ok (.ifCond .eq 6, 3) := by decide +kernel
theorem dX8_purse_21 : decode cX8_purse 21 = .ok (.bipush (-102), 2) := by decide +kernel
theorem dX8_purse_23 : decode cX8_purse 23 = .ok (.ireturn, 1) := by decide +kernel
theorem dX8_purse_24 : decode cX8_purse 24 = .ok (.aload_n 0, 1) := by decide +kernel
theorem dX8_purse_25 : decode cX8_purse 25 = .ok (.getfield 26, 3) := by decide +kernel
theorem dX8_purse_28 : decode cX8_purse 28 = .ok (.getfield 127, 3) := by decide +kernel
theorem dX8_purse_31 : decode cX8_purse 31 = .ok (.iload_n 1, 1) := by decide +kernel
theorem dX8_purse_32 : decode cX8_purse 32 = .ok (.aaload, 1) := by decide +kernel
theorem dX8_purse_33 : decode cX8_purse 33 = .ok (.getfield 142, 3) := by decide +kernel
theorem dX8_purse_36 : decode cX8_purse 36 = .ok (.istore_n 3, 1) := by decide +kernel
theorem dX8_purse_37 : decode cX8_purse 37 = .ok (.aload_n 0, 1) := by decide +kernel
theorem dX8_purse_38 : decode cX8_purse 38 = .ok (.getfield 26, 3) := by decide +kernel
theorem dX8_purse_41 : decode cX8_purse 41 = .ok (.getfield 127, 3) := by decide +kernel
theorem dX8_purse_44 : decode cX8_purse 44 = .ok (.iload_n 1, 1) := by decide +kernel
theorem dX8_purse_45 : decode cX8_purse 45 = .ok (.aaload, 1) := by decide +kernel
theorem dX8_purse_46 : decode cX8_purse 46 = .ok (.iload_n 2, 1) := by decide +kernel
theorem dX8_purse_47 : decode cX8_purse 47 = .ok (.putfield 142, 3) := by decide +kernel
theorem dX8_purse_50 : decode cX8_purse 50 = .ok (.iload_n 3, 1) := by decide +kernel
theorem dX8_purse_51 : decode cX8_purse 51 = .ok (.ireturn, 1) := by decide +kernel
theorem dX8_urge_0 : decode cX8_urge 0 = .ok (.aload_n 0, 1) := by decide +kernel
theorem dX8_urge_1 : decode cX8_urge 1 = .ok (.iload_n 1, 1) := by decide +kernel
theorem dX8_urge_2 : decode cX8_urge 2 = .ok (.invokevirtual 105, 3) := by decide +kernel
theorem dX8_urge_5 : decode cX8_urge 5 = .ok (.ifCond .eq 6, 3) := by decide +kernel
theorem dX8_urge_8 : decode cX8_urge 8 = .ok (.bipush (-101), 2) := by decide +kernel
theorem dX8_urge_10 : decode cX8_urge 10 = .ok (.ireturn, 1) := by decide +kernel
theorem dX8_urge_11 : decode cX8_urge 11 = .ok (.iload_n 2, 1) := by decide +kernel
theorem dX8_urge_12 : decode cX8_urge 12 = .ok (.iconst 0, 1) := by decide +kernel
theorem dX8_urge_13 : decode cX8_urge 13 = .ok (.bipush 20, 2) := by decide +kernel
theorem dX8_urge_15 : decode cX8_urge 15 = .ok (.invokestatic 62, 3) := by decide +kernel
theorem dX8_urge_18 : decode cX8_urge 18 = .ok (.ifCond .eq 6, 3) := by decide +kernel
theorem dX8_urge_21 : decode cX8_urge 21 = .ok (.bipush (-102), 2) := by decide +kernel
theorem dX8_urge_23 : decode cX8_urge 23 = .ok (.ireturn, 1) := by decide +kernel
theorem dX8_urge_24 : decode cX8_urge 24 = .ok (.aload_n 0, 1) := by decide +kernel
theorem dX8_urge_25 : decode cX8_urge 25 = .ok (.getfield 35, 3) := by decide +kernel
theorem dX8_urge_28 : decode cX8_urge 28 = .ok (.getfield 118, 3) := by decide +kernel
theorem dX8_urge_31 : decode cX8_urge 31 = .ok (.istore_n 3, 1) := by decide +kernel
theorem dX8_urge_32 : decode cX8_urge 32 = .ok (.aload_n 0, 1) := by decide +kernel
theorem dX8_urge_33 : decode cX8_urge 33 = .ok (.getfield 35, 3) := by decide +kernel
theorem dX8_urge_36 : decode cX8_urge 36 = .ok (.iload_n 1, 1) := by decide +kernel
theorem dX8_urge_37 : decode cX8_urge 37 = .ok (.iload_n 2, 1) := by decide +kernel
theorem dX8_urge_38 : decode cX8_urge 38 = .ok (.invokevirtual 92, 3) := by decide +kernel
theorem dX8_urge_41 : decode cX8_urge 41 = .ok (.iload_n 3, 1) := by decide +kernel
theorem dX8_urge_42 : decode cX8_urge 42 = .ok (.ireturn, 1) := by decide +kernel
theorem dX8_takes_0 : decode cX8_takes 0 = .ok (.aload_n 0, 1) := by decide +kernel
theorem dX8_takes_1 : decode cX8_takes 1 = .ok (.iload_n 1, 1) := by decide +kernel
theorem dX8_takes_2 : decode cX8_takes 2 = .ok (.invokevirtual 136, 3) := by decide +kernel
theorem dX8_takes_5 : decode cX8_takes 5 = .ok (.ifCond .eq 6, 3) := by decide +kernel
theorem dX8_takes_8 : decode cX8_takes 8 = .ok (.bipush (-101), 2) := by decide +kernel
theorem dX8_takes_10 : decode cX8_takes 10 = .ok (.ireturn, 1) := by decide +kernel
theorem dX8_takes_11 : decode cX8_takes 11 = .ok (.aload_n 0, 1) := by decide +kernel
theorem dX8_takes_12 : decode cX8_takes 12 = .ok (.getfield 35, 3) := by decide +kernel
theorem dX8_takes_15 : decode cX8_takes 15 = .ok (.getfield 148, 3) := by decide +kernel
theorem dX8_takes_18 : decode cX8_takes 18 = .ok (.iload_n 1, 1) := by decide +kernel
theorem dX8_takes_19 : decode cX8_takes 19 = .ok (.iaload, 1) := by decide +kernel
theorem dX8_takes_20 : decode cX8_takes 20 = .ok (.iconst 1, 1) := by decide +kernel
theorem dX8_takes_21 : decode cX8_takes 21 = .ok (.if_icmp .ne 6, 3) := by decide +kernel
theorem dX8_takes_24 : decode cX8_takes 24 = .ok (.bipush (-103), 2) := by decide +kernel
theorem dX8_takes_26 : decode cX8_takes 26 = .ok (.ireturn, 1) := by decide +kernel
theorem dX8_takes_27 : decode cX8_takes 27 = .ok (.aload_n 0, 1) := by decide +kernel
theorem dX8_takes_28 : decode cX8_takes 28 = .ok (.getfield 35, 3) := by decide +kernel
theorem dX8_takes_31 : decode cX8_takes 31 = .ok (.iload_n 1, 1) := by decide +kernel
theorem dX8_takes_32 : decode cX8_takes 32 = .ok (.invokevirtual 164, 3) := by decide +kernel
theorem dX8_takes_35 : decode cX8_takes 35 = .ok (.ireturn, 1) := by decide +kernel
theorem dX8_order_0 : decode cX8_order 0 = .ok (.aload_n 0, 1) := by decide +kernel
theorem dX8_order_1 : decode cX8_order 1 = .ok (.iload_n 1, 1) := by decide +kernel
theorem dX8_order_2 : decode cX8_order 2 = .ok (.invokevirtual 167, 3) := by decide +kernel
theorem dX8_order_5 : decode cX8_order 5 = .ok (.istore_n 2, 1) := by decide +kernel
theorem dX8_order_6 : decode cX8_order 6 = .ok (.iload_n 2, 1) := by decide +kernel
theorem dX8_order_7 : decode cX8_order 7 = .ok (.iconst (-1), 1) := by decide +kernel
theorem dX8_order_8 : decode cX8_order 8 = .ok (.if_icmp .lt 12, 3) := by decide +kernel
theorem dX8_order_11 : decode cX8_order 11 = .ok (.aload_n 0, 1) := by decide +kernel
theorem dX8_order_12 : decode cX8_order 12 = .ok (.getfield 35, 3) := by decide +kernel
theorem dX8_order_15 : decode cX8_order 15 = .ok (.iload_n 1, 1) := by decide +kernel
theorem dX8_order_16 : decode cX8_order 16 = .ok (.iload_n 2, 1) := by decide +kernel
theorem dX8_order_17 : decode cX8_order 17 = .ok (.invokevirtual 170, 3) := by decide +kernel
theorem dX8_order_20 : decode cX8_order 20 = .ok (.iload_n 2, 1) := by decide +kernel
theorem dX8_order_21 : decode cX8_order 21 = .ok (.ireturn, 1) := by decide +kernel
theorem dX8_clear_0 : decode cX8_clear 0 = .ok (.aload_n 0, 1) := by decide +kernel
theorem dX8_clear_1 : decode cX8_clear 1 = .ok (.getfield 35, 3) := by decide +kernel
theorem dX8_clear_4 : decode cX8_clear 4 = .ok (.invokevirtual 173, 3) := by decide +kernel
theorem dX8_clear_7 : decode cX8_clear 7 = .ok (.istore_n 1, 1) := by decide +kernel
theorem dX8_clear_8 : decode cX8_clear 8 = .ok (.aload_n 0, 1) := by decide +kernel
theorem dX8_clear_9 : decode cX8_clear 9 = .ok (.getfield 35, 3) := by decide +kernel
theorem dX8_clear_12 : decode cX8_clear 12 = .ok (.invokevirtual 96, 3) := by decide +kernel
theorem dX8_clear_15 : decode cX8_clear 15 = .ok (.iload_n 1, 1) := by decide +kernel
theorem dX8_clear_16 : decode cX8_clear 16 = .ok (.ireturn, 1) := by decide +kernel
theorem dX8_inTurn_0 : decode cX8_inTurn 0 = .ok (.aload_n 0, 1) := by decide +kernel
theorem dX8_inTurn_1 : decode cX8_inTurn 1 = .ok (.iload_n 1, 1) := by decide +kernel
theorem dX8_inTurn_2 : decode cX8_inTurn 2 = .ok (.invokevirtual 136, 3) := by decide +kernel
theorem dX8_inTurn_5 : decode cX8_inTurn 5 = .ok (.ifCond .ne 11, 3) := by decide +kernel
theorem dX8_inTurn_8 : decode cX8_inTurn 8 = .ok (.aload_n 0, 1) := by decide +kernel
theorem dX8_inTurn_9 : decode cX8_inTurn 9 = .ok (.iload_n 2, 1) := by decide +kernel
theorem dX8_inTurn_10 : decode cX8_inTurn 10 = .ok (.invokevirtual 136, 3) := by decide +kernel
theorem dX8_inTurn_13 : decode cX8_inTurn 13 = .ok (.ifCond .eq 6, 3) := by decide +kernel
theorem dX8_inTurn_16 : decode cX8_inTurn 16 = .ok (.bipush (-101), 2) := by decide +kernel
theorem dX8_inTurn_18 : decode cX8_inTurn 18 = .ok (.ireturn, 1) := by decide +kernel
theorem dX8_inTurn_19 : decode cX8_inTurn 19 = .ok (.aload_n 0, 1) := by decide +kernel
theorem dX8_inTurn_20 : decode cX8_inTurn 20 = .ok (.getfield 51, 3) := by decide +kernel
theorem dX8_inTurn_23 : decode cX8_inTurn 23 = .ok (.iload_n 1, 1) := by decide +kernel
theorem dX8_inTurn_24 : decode cX8_inTurn 24 = .ok (.iload_n 2, 1) := by decide +kernel
theorem dX8_inTurn_25 : decode cX8_inTurn 25 = .ok (.invokevirtual 176, 3) := by decide +kernel
theorem dX8_inTurn_28 : decode cX8_inTurn 28 = .ok (.ireturn, 1) := by decide +kernel
theorem dX8_begin_0 : decode cX8_begin 0 = .ok (.iload_n 1, 1) := by decide +kernel
theorem dX8_begin_1 : decode cX8_begin 1 = .ok (.iconst (-1), 1) := by decide +kernel
theorem dX8_begin_2 : decode cX8_begin 2 = .ok (.if_icmp .eq 14, 3) := by decide +kernel
theorem dX8_begin_5 : decode cX8_begin 5 = .ok (.aload_n 0, 1) := by decide +kernel
theorem dX8_begin_6 : decode cX8_begin 6 = .ok (.iload_n 1, 1) := by decide +kernel
theorem dX8_begin_7 : decode cX8_begin 7 = .ok (.invokevirtual 136, 3) := by decide +kernel
theorem dX8_begin_10 : decode cX8_begin 10 = .ok (.ifCond .eq 6, 3) := by decide +kernel
theorem dX8_begin_13 : decode cX8_begin 13 = .ok (.bipush (-101), 2) := by decide +kernel
theorem dX8_begin_15 : decode cX8_begin 15 = .ok (.ireturn, 1) := by decide +kernel
theorem dX8_begin_16 : decode cX8_begin 16 = .ok (.iload_n 2, 1) := by decide +kernel
theorem dX8_begin_17 : decode cX8_begin 17 = .ok (.iconst 0, 1) := by decide +kernel
theorem dX8_begin_18 : decode cX8_begin 18 = .ok (.iconst 1, 1) := by decide +kernel
theorem dX8_begin_19 : decode cX8_begin 19 = .ok (.invokestatic 62, 3) := by decide +kernel
theorem dX8_begin_22 : decode cX8_begin 22 = .ok (.ifCond .eq 6, 3) := by decide +kernel
theorem dX8_begin_25 : decode cX8_begin 25 = .ok (.bipush (-102), 2) := by decide +kernel
theorem dX8_begin_27 : decode cX8_begin 27 = .ok (.ireturn, 1) := by decide +kernel
theorem dX8_begin_28 : decode cX8_begin 28 = .ok (.aload_n 0, 1) := by decide +kernel
theorem dX8_begin_29 : decode cX8_begin 29 = .ok (.getfield 26, 3) := by decide +kernel
theorem dX8_begin_32 : decode cX8_begin 32 = .ok (.getfield 86, 3) := by decide +kernel
theorem dX8_begin_35 : decode cX8_begin 35 = .ok (.ifCond .ne 6, 3) := by decide +kernel
theorem dX8_begin_38 : decode cX8_begin 38 = .ok (.bipush (-103), 2) := by decide +kernel
theorem dX8_begin_40 : decode cX8_begin 40 = .ok (.ireturn, 1) := by decide +kernel
theorem dX8_begin_41 : decode cX8_begin 41 = .ok (.aload_n 0, 1) := by decide +kernel
theorem dX8_begin_42 : decode cX8_begin 42 = .ok (.getfield 51, 3) := by decide +kernel
theorem dX8_begin_45 : decode cX8_begin 45 = .ok (.iload_n 1, 1) := by decide +kernel
theorem dX8_begin_46 : decode cX8_begin 46 = .ok (.invokevirtual 180, 3) := by decide +kernel
theorem dX8_begin_49 : decode cX8_begin 49 = .ok (.istore_n 3, 1) := by decide +kernel
theorem dX8_begin_50 : decode cX8_begin 50 = .ok (.iload_n 2, 1) := by decide +kernel
theorem dX8_begin_51 : decode cX8_begin 51 = .ok (.ifCond .ne 7, 3) := by decide +kernel
theorem dX8_begin_54 : decode cX8_begin 54 = .ok (.iload_n 3, 1) := by decide +kernel
theorem dX8_begin_55 : decode cX8_begin 55 = .ok (.goto 12, 3) := by decide +kernel
theorem dX8_begin_58 : decode cX8_begin 58 = .ok (.aload_n 0, 1) := by decide +kernel
theorem dX8_begin_59 : decode cX8_begin 59 = .ok (.getfield 51, 3) := by decide +kernel
theorem dX8_begin_62 : decode cX8_begin 62 = .ok (.iload_n 3, 1) := by decide +kernel
theorem dX8_begin_63 : decode cX8_begin 63 = .ok (.iload_n 1, 1) := by decide +kernel
theorem dX8_begin_64 : decode cX8_begin 64 = .ok (.invokevirtual 183, 3) := by decide +kernel
theorem dX8_begin_67 : decode cX8_begin 67 = .ok (.ireturn, 1) := by decide +kernel
theorem dX8_atOnce_0 : decode cX8_atOnce 0 = .ok (.iload_n 1, 1) := by decide +kernel
theorem dX8_atOnce_1 : decode cX8_atOnce 1 = .ok (.iconst 0, 1) := by decide +kernel
theorem dX8_atOnce_2 : decode cX8_atOnce 2 = .ok (.iconst 1, 1) := by decide +kernel
theorem dX8_atOnce_3 : decode cX8_atOnce 3 = .ok (.invokestatic 62, 3) := by decide +kernel
theorem dX8_atOnce_6 : decode cX8_atOnce 6 = .ok (.ifCond .eq 6, 3) := by decide +kernel
theorem dX8_atOnce_9 : decode cX8_atOnce 9 = .ok (.bipush (-102), 2) := by decide +kernel
theorem dX8_atOnce_11 : decode cX8_atOnce 11 = .ok (.ireturn, 1) := by decide +kernel
theorem dX8_atOnce_12 : decode cX8_atOnce 12 = .ok (.aload_n 0, 1) := by decide +kernel
theorem dX8_atOnce_13 : decode cX8_atOnce 13 = .ok (.invokevirtual 124, 3) := by decide +kernel
theorem dX8_atOnce_16 : decode cX8_atOnce 16 = .ok (.ifCond .ne 12, 3) := by decide +kernel
theorem dX8_atOnce_19 : decode cX8_atOnce 19 = .ok (.aload_n 0, 1) := by decide +kernel
theorem dX8_atOnce_20 : decode cX8_atOnce 20 = .ok (.getfield 186, 3) := by decide +kernel
theorem dX8_atOnce_23 : decode cX8_atOnce 23 = .ok (.bipush 20, 2) := by decide +kernel
theorem dX8_atOnce_25 : decode cX8_atOnce 25 = .ok (.if_icmp .lt 6, 3) := by decide +kernel
theorem dX8_atOnce_28 : decode cX8_atOnce 28 = .ok (.bipush (-103), 2) := by decide +kernel
theorem dX8_atOnce_30 : decode cX8_atOnce 30 = .ok (.ireturn, 1) := by decide +kernel
theorem dX8_atOnce_31 : decode cX8_atOnce 31 = .ok (.aload_n 0, 1) := by decide +kernel
theorem dX8_atOnce_32 : decode cX8_atOnce 32 = .ok (.dup, 1) := by decide +kernel
theorem dX8_atOnce_33 : decode cX8_atOnce 33 = .ok (.getfield 186, 3) := by decide +kernel
theorem dX8_atOnce_36 : decode cX8_atOnce 36 = .ok (.iconst 1, 1) := by decide +kernel
theorem dX8_atOnce_37 : decode cX8_atOnce 37 = .ok (.iadd, 1) := by decide +kernel
theorem dX8_atOnce_38 : decode cX8_atOnce 38 = .ok (.putfield 186, 3) := by decide +kernel
theorem dX8_atOnce_41 : decode cX8_atOnce 41 = .ok (.aload_n 0, 1) := by decide +kernel
theorem dX8_atOnce_42 : decode cX8_atOnce 42 = .ok (.getfield 51, 3) := by decide +kernel
theorem dX8_atOnce_45 : decode cX8_atOnce 45 = .ok (.invokevirtual 189, 3) := by decide +kernel
theorem dX8_atOnce_48 : decode cX8_atOnce 48 = .ok (.iload_n 1, 1) := by decide +kernel
theorem dX8_atOnce_49 : decode cX8_atOnce 49 = .ok (.ifCond .ne 13, 3) := by decide +kernel
theorem dX8_atOnce_52 : decode cX8_atOnce 52 = .ok (.aload_n 0, 1) := by decide +kernel
theorem dX8_atOnce_53 : decode cX8_atOnce 53 = .ok (.getfield 51, 3) := by decide +kernel
theorem dX8_atOnce_56 : decode cX8_atOnce 56 = .ok (.getfield 192, 3) := by decide +kernel
theorem dX8_atOnce_59 : decode cX8_atOnce 59 = .ok (.goto 10, 3) := by decide +kernel
theorem dX8_atOnce_62 : decode cX8_atOnce 62 = .ok (.aload_n 0, 1) := by decide +kernel
theorem dX8_atOnce_63 : decode cX8_atOnce 63 = .ok (.getfield 51, 3) := by decide +kernel
theorem dX8_atOnce_66 : decode cX8_atOnce 66 = .ok (.getfield 195, 3) := by decide +kernel
theorem dX8_atOnce_69 : decode cX8_atOnce 69 = .ok (.ireturn, 1) := by decide +kernel
theorem dX8_minds_0 : decode cX8_minds 0 = .ok (.aload_n 0, 1) := by decide +kernel
theorem dX8_minds_1 : decode cX8_minds 1 = .ok (.iload_n 1, 1) := by decide +kernel
theorem dX8_minds_2 : decode cX8_minds 2 = .ok (.invokevirtual 136, 3) := by decide +kernel
theorem dX8_minds_5 : decode cX8_minds 5 = .ok (.ifCond .eq 6, 3) := by decide +kernel
theorem dX8_minds_8 : decode cX8_minds 8 = .ok (.bipush (-101), 2) := by decide +kernel
theorem dX8_minds_10 : decode cX8_minds 10 = .ok (.ireturn, 1) := by decide +kernel
theorem dX8_minds_11 : decode cX8_minds 11 = .ok (.aload_n 0, 1) := by decide +kernel
theorem dX8_minds_12 : decode cX8_minds 12 = .ok (.getfield 51, 3) := by decide +kernel
theorem dX8_minds_15 : decode cX8_minds 15 = .ok (.iload_n 1, 1) := by decide +kernel
theorem dX8_minds_16 : decode cX8_minds 16 = .ok (.invokevirtual 198, 3) := by decide +kernel
theorem dX8_minds_19 : decode cX8_minds 19 = .ok (.ireturn, 1) := by decide +kernel
theorem dX8_host_0 : decode cX8_host 0 = .ok (.aload_n 0, 1) := by decide +kernel
theorem dX8_host_1 : decode cX8_host 1 = .ok (.invokevirtual 124, 3) := by decide +kernel
theorem dX8_host_4 : decode cX8_host 4 = .ok (.ifCond .eq 6, 3) := by decide +kernel
theorem dX8_host_7 : decode cX8_host 7 = .ok (.bipush (-103), 2) := by decide +kernel
theorem dX8_host_9 : decode cX8_host 9 = .ok (.ireturn, 1) := by decide +kernel
theorem dX8_host_10 : decode cX8_host 10 = .ok (.aload_n 0, 1) := by decide +kernel
theorem dX8_host_11 : decode cX8_host 11 = .ok (.getfield 51, 3) := by decide +kernel
theorem dX8_host_14 : decode cX8_host 14 = .ok (.invokevirtual 201, 3) := by decide +kernel
theorem dX8_host_17 : decode cX8_host 17 = .ok (.ireturn, 1) := by decide +kernel
theorem dX8_fewest_0 : decode cX8_fewest 0 = .ok (.iload_n 1, 1) := by decide +kernel
theorem dX8_fewest_1 : decode cX8_fewest 1 = .ok (.iconst 0, 1) := by decide +kernel
theorem dX8_fewest_2 : decode cX8_fewest 2 = .ok (.iconst 1, 1) := by decide +kernel
theorem dX8_fewest_3 : decode cX8_fewest 3 = .ok (.invokestatic 62, 3) := by decide +kernel
theorem dX8_fewest_6 : decode cX8_fewest 6 = .ok (.ifCond .eq 6, 3) := by decide +kernel
theorem dX8_fewest_9 : decode cX8_fewest 9 = .ok (.bipush (-102), 2) := by decide +kernel
theorem dX8_fewest_11 : decode cX8_fewest 11 = .ok (.ireturn, 1) := by decide +kernel
theorem dX8_fewest_12 : decode cX8_fewest 12 = .ok (.aload_n 0, 1) := by decide +kernel
theorem dX8_fewest_13 : decode cX8_fewest 13 = .ok (.invokevirtual 124, 3) := by decide +kernel
theorem dX8_fewest_16 : decode cX8_fewest 16 = .ok (.ifCond .eq 6, 3) := by decide +kernel
theorem dX8_fewest_19 : decode cX8_fewest 19 = .ok (.bipush (-103), 2) := by decide +kernel
theorem dX8_fewest_21 : decode cX8_fewest 21 = .ok (.ireturn, 1) := by decide +kernel
theorem dX8_fewest_22 : decode cX8_fewest 22 = .ok (.aload_n 0, 1) := by decide +kernel
theorem dX8_fewest_23 : decode cX8_fewest 23 = .ok (.getfield 51, 3) := by decide +kernel
theorem dX8_fewest_26 : decode cX8_fewest 26 = .ok (.invokevirtual 204, 3) := by decide +kernel
theorem dX8_fewest_29 : decode cX8_fewest 29 = .ok (.istore_n 2, 1) := by decide +kernel
theorem dX8_fewest_30 : decode cX8_fewest 30 = .ok (.iload_n 1, 1) := by decide +kernel
theorem dX8_fewest_31 : decode cX8_fewest 31 = .ok (.iconst 1, 1) := by decide +kernel
theorem dX8_fewest_32 : decode cX8_fewest 32 = .ok (.if_icmp .eq 8, 3) := by decide +kernel
theorem dX8_fewest_35 : decode cX8_fewest 35 = .ok (.iload_n 2, 1) := by decide +kernel
theorem dX8_fewest_36 : decode cX8_fewest 36 = .ok (.iconst (-1), 1) := by decide +kernel
theorem dX8_fewest_37 : decode cX8_fewest 37 = .ok (.if_icmp .ne 7, 3) := by decide +kernel
theorem dX8_fewest_40 : decode cX8_fewest 40 = .ok (.iload_n 2, 1) := by decide +kernel
theorem dX8_fewest_41 : decode cX8_fewest 41 = .ok (.goto 7, 3) := by decide +kernel
theorem dX8_fewest_44 : decode cX8_fewest 44 = .ok (.iload_n 2, 1) := by decide +kernel
theorem dX8_fewest_45 : decode cX8_fewest 45 = .ok (.invokestatic 207, 3) := by decide +kernel
theorem dX8_fewest_48 : decode cX8_fewest 48 = .ok (.ireturn, 1) := by decide +kernel
theorem dX8_urges_0 : decode cX8_urges 0 = .ok (.aload_n 0, 1) := by decide +kernel
theorem dX8_urges_1 : decode cX8_urges 1 = .ok (.iload_n 1, 1) := by decide +kernel
theorem dX8_urges_2 : decode cX8_urges 2 = .ok (.invokevirtual 105, 3) := by decide +kernel
theorem dX8_urges_5 : decode cX8_urges 5 = .ok (.ifCond .ne 11, 3) := by decide +kernel
theorem dX8_urges_8 : decode cX8_urges 8 = .ok (.aload_n 0, 1) := by decide +kernel
theorem dX8_urges_9 : decode cX8_urges 9 = .ok (.iload_n 2, 1) := by decide +kernel
theorem dX8_urges_10 : decode cX8_urges 10 = .ok (.invokevirtual 136, 3) := by decide +kernel
theorem dX8_urges_13 : decode cX8_urges 13 = .ok (.ifCond .eq 6, 3) := by decide +kernel
theorem dX8_urges_16 : decode cX8_urges 16 = .ok (.bipush (-101), 2) := by decide +kernel
theorem dX8_urges_18 : decode cX8_urges 18 = .ok (.ireturn, 1) := by decide +kernel
theorem dX8_urges_19 : decode cX8_urges 19 = .ok (.iload_n 3, 1) := by decide +kernel
theorem dX8_urges_20 : decode cX8_urges 20 = .ok (.iconst 1, 1) := by decide +kernel
theorem dX8_urges_21 : decode cX8_urges 21 = .ok (.iconst 5, 1) := by decide +kernel
theorem dX8_urges_22 : decode cX8_urges 22 = .ok (.invokestatic 62, 3) := by decide +kernel
theorem dX8_urges_25 : decode cX8_urges 25 = .ok (.ifCond .eq 6, 3) := by decide +kernel
theorem dX8_urges_28 : decode cX8_urges 28 = .ok (.bipush (-102), 2) := by decide +kernel
theorem dX8_urges_30 : decode cX8_urges 30 = .ok (.ireturn, 1) := by decide +kernel
theorem dX8_urges_31 : decode cX8_urges 31 = .ok (.aload_n 0, 1) := by decide +kernel
theorem dX8_urges_32 : decode cX8_urges 32 = .ok (.getfield 51, 3) := by decide +kernel
theorem dX8_urges_35 : decode cX8_urges 35 = .ok (.iload_n 1, 1) := by decide +kernel
theorem dX8_urges_36 : decode cX8_urges 36 = .ok (.iload_n 2, 1) := by decide +kernel
theorem dX8_urges_37 : decode cX8_urges 37 = .ok (.iload_n 3, 1) := by decide +kernel
theorem dX8_urges_38 : decode cX8_urges 38 = .ok (.invokevirtual 212, 3) := by decide +kernel
theorem dX8_urges_41 : decode cX8_urges 41 = .ok (.ireturn, 1) := by decide +kernel
theorem dX8_evening_0 : decode cX8_evening 0 = .ok (.aload_n 0, 1) := by decide +kernel
theorem dX8_evening_1 : decode cX8_evening 1 = .ok (.iload_n 1, 1) := by decide +kernel
theorem dX8_evening_2 : decode cX8_evening 2 = .ok (.invokevirtual 136, 3) := by decide +kernel
theorem dX8_evening_5 : decode cX8_evening 5 = .ok (.ifCond .ne 24, 3) := by decide +kernel
theorem dX8_evening_8 : decode cX8_evening 8 = .ok (.aload_n 0, 1) := by decide +kernel
theorem dX8_evening_9 : decode cX8_evening 9 = .ok (.iload_n 2, 1) := by decide +kernel
theorem dX8_evening_10 : decode cX8_evening 10 = .ok (.invokevirtual 136, 3) := by decide +kernel
theorem dX8_evening_13 : decode cX8_evening 13 = .ok (.ifCond .ne 16, 3) := by decide +kernel
theorem dX8_evening_16 : decode cX8_evening 16 = .ok (.iload_n 3, 1) := by decide +kernel
theorem dX8_evening_17 : decode cX8_evening 17 = .ok (.iconst (-1), 1) := by decide +kernel
theorem dX8_evening_18 : decode cX8_evening 18 = .ok (.if_icmp .eq 14, 3) := by decide +kernel
theorem dX8_evening_21 : decode cX8_evening 21 = .ok (.aload_n 0, 1) := by decide +kernel
theorem dX8_evening_22 : decode cX8_evening 22 = .ok (.iload_n 3, 1) := by decide +kernel
theorem dX8_evening_23 : decode cX8_evening 23 = .ok (.invokevirtual 105, 3) := by decide +kernel
theorem dX8_evening_26 : decode cX8_evening 26 = .ok (.ifCond .eq 6, 3) := by decide +kernel
theorem dX8_evening_29 : decode cX8_evening 29 = .ok (.bipush (-101), 2) := by decide +kernel
theorem dX8_evening_31 : decode cX8_evening 31 = .ok (.ireturn, 1) := by decide +kernel
theorem dX8_evening_32 : decode cX8_evening 32 = .ok (.aload_n 0, 1) := by decide +kernel
theorem dX8_evening_33 : decode cX8_evening 33 = .ok (.getfield 42, 3) := by decide +kernel
theorem dX8_evening_36 : decode cX8_evening 36 = .ok (.getfield 87, 3) := by decide +kernel
theorem dX8_evening_39 : decode cX8_evening 39 = .ok (.iconst 4, 1) := by decide +kernel
theorem dX8_evening_40 : decode cX8_evening 40 = .ok (.if_icmp .lt 6, 3) := by decide +kernel
theorem dX8_evening_43 : decode cX8_evening 43 = .ok (.bipush (-104), 2) := by decide +kernel
theorem dX8_evening_45 : decode cX8_evening 45 = .ok (.ireturn, 1) := by decide +kernel
theorem dX8_evening_46 : decode cX8_evening 46 = .ok (.aload_n 0, 1) := by decide +kernel
theorem dX8_evening_47 : decode cX8_evening 47 = .ok (.getfield 42, 3) := by decide +kernel
theorem dX8_evening_50 : decode cX8_evening 50 = .ok (.iload_n 1, 1) := by decide +kernel
theorem dX8_evening_51 : decode cX8_evening 51 = .ok (.iload_n 2, 1) := by decide +kernel
theorem dX8_evening_52 : decode cX8_evening 52 = .ok (.iload_n 3, 1) := by decide +kernel
theorem dX8_evening_53 : decode cX8_evening 53 = .ok (.invokevirtual 216, 3) := by decide +kernel
theorem dX8_evening_56 : decode cX8_evening 56 = .ok (.aload_n 0, 1) := by decide +kernel
theorem dX8_evening_57 : decode cX8_evening 57 = .ok (.getfield 42, 3) := by decide +kernel
theorem dX8_evening_60 : decode cX8_evening 60 = .ok (.getfield 87, 3) := by decide +kernel
theorem dX8_evening_63 : decode cX8_evening 63 = .ok (.ireturn, 1) := by decide +kernel
theorem dX8_forget_0 : decode cX8_forget 0 = .ok (.aload_n 0, 1) := by decide +kernel
theorem dX8_forget_1 : decode cX8_forget 1 = .ok (.getfield 42, 3) := by decide +kernel
theorem dX8_forget_4 : decode cX8_forget 4 = .ok (.getfield 87, 3) := by decide +kernel
theorem dX8_forget_7 : decode cX8_forget 7 = .ok (.istore_n 1, 1) := by decide +kernel
theorem dX8_forget_8 : decode cX8_forget 8 = .ok (.aload_n 0, 1) := by decide +kernel
theorem dX8_forget_9 : decode cX8_forget 9 = .ok (.getfield 42, 3) := by decide +kernel
theorem dX8_forget_12 : decode cX8_forget 12 = .ok (.iconst 0, 1) := by decide +kernel
theorem dX8_forget_13 : decode cX8_forget 13 = .ok (.putfield 87, 3) := by decide +kernel
theorem dX8_forget_16 : decode cX8_forget 16 = .ok (.iload_n 1, 1) := by decide +kernel
theorem dX8_forget_17 : decode cX8_forget 17 = .ok (.ireturn, 1) := by decide +kernel
theorem dX8_fits_0 : decode cX8_fits 0 = .ok (.iload_n 1, 1) := by decide +kernel
theorem dX8_fits_1 : decode cX8_fits 1 = .ok (.iconst 0, 1) := by decide +kernel
theorem dX8_fits_2 : decode cX8_fits 2 = .ok (.iconst 1, 1) := by decide +kernel
theorem dX8_fits_3 : decode cX8_fits 3 = .ok (.invokestatic 62, 3) := by decide +kernel
theorem dX8_fits_6 : decode cX8_fits 6 = .ok (.ifCond .eq 6, 3) := by decide +kernel
theorem dX8_fits_9 : decode cX8_fits 9 = .ok (.bipush (-102), 2) := by decide +kernel
theorem dX8_fits_11 : decode cX8_fits 11 = .ok (.ireturn, 1) := by decide +kernel
theorem dX8_fits_12 : decode cX8_fits 12 = .ok (.aload_n 0, 1) := by decide +kernel
theorem dX8_fits_13 : decode cX8_fits 13 = .ok (.invokevirtual 124, 3) := by decide +kernel
theorem dX8_fits_16 : decode cX8_fits 16 = .ok (.ifCond .eq 6, 3) := by decide +kernel
theorem dX8_fits_19 : decode cX8_fits 19 = .ok (.bipush (-103), 2) := by decide +kernel
theorem dX8_fits_21 : decode cX8_fits 21 = .ok (.ireturn, 1) := by decide +kernel
theorem dX8_fits_22 : decode cX8_fits 22 = .ok (.aload_n 0, 1) := by decide +kernel
theorem dX8_fits_23 : decode cX8_fits 23 = .ok (.getfield 51, 3) := by decide +kernel
theorem dX8_fits_26 : decode cX8_fits 26 = .ok (.aload_n 0, 1) := by decide +kernel
theorem dX8_fits_27 : decode cX8_fits 27 = .ok (.getfield 42, 3) := by decide +kernel
theorem dX8_fits_30 : decode cX8_fits 30 = .ok (.invokevirtual 220, 3) := by decide +kernel
theorem dX8_fits_33 : decode cX8_fits 33 = .ok (.istore_n 2, 1) := by decide +kernel
theorem dX8_fits_34 : decode cX8_fits 34 = .ok (.iload_n 1, 1) := by decide +kernel
theorem dX8_fits_35 : decode cX8_fits 35 = .ok (.ifCond .ne 7, 3) := by decide +kernel
theorem dX8_fits_38 : decode cX8_fits 38 = .ok (.iload_n 2, 1) := by decide +kernel
theorem dX8_fits_39 : decode cX8_fits 39 = .ok (.goto 7, 3) := by decide +kernel
theorem dX8_fits_42 : decode cX8_fits 42 = .ok (.iload_n 2, 1) := by decide +kernel
theorem dX8_fits_43 : decode cX8_fits 43 = .ok (.invokestatic 224, 3) := by decide +kernel
theorem dX8_fits_46 : decode cX8_fits 46 = .ok (.ireturn, 1) := by decide +kernel
theorem dX8_evenings_0 : decode cX8_evenings 0 = .ok (.iload_n 1, 1) := by decide +kernel
theorem dX8_evenings_1 : decode cX8_evenings 1 = .ok (.iconst 1, 1) := by decide +kernel
theorem dX8_evenings_2 : decode cX8_evenings 2 = .ok (.bipush 60, 2) := by decide +kernel
theorem dX8_evenings_4 : decode cX8_evenings 4 = .ok (.invokestatic 62, 3) := by decide +kernel
theorem dX8_evenings_7 : decode cX8_evenings 7 = .ok (.ifCond .ne 16, 3) := by decide +kernel
theorem dX8_evenings_10 : decode cX8_evenings 10 = .ok (.iload_n 2, 1) := by decide +kernel
theorem dX8_evenings_11 : decode cX8_evenings 11 = .ok (.ifCond .lt 12, 3) := by decide +kernel
theorem dX8_evenings_14 : decode cX8_evenings 14 = .ok (.iload_n 3, 1) := by decide +kernel
theorem dX8_evenings_15 : decode cX8_evenings 15 = .ok (.iconst 0, 1) := by decide +kernel
theorem dX8_evenings_16 : decode cX8_evenings 16 = .ok (.iconst 1, 1) := by decide +kernel
theorem dX8_evenings_17 : decode cX8_evenings 17 = .ok (.invokestatic 62, 3) := by decide +kernel
theorem dX8_evenings_20 : decode cX8_evenings 20 = .ok (.ifCond .eq 6, 3) := by decide +kernel
theorem dX8_evenings_23 : decode cX8_evenings 23 = .ok (.bipush (-102), 2) := by decide +kernel
theorem dX8_evenings_25 : decode cX8_evenings 25 = .ok (.ireturn, 1) := by decide +kernel
theorem dX8_evenings_26 : decode cX8_evenings 26 = .ok (.aload_n 0, 1) := by decide +kernel
theorem dX8_evenings_27 : decode cX8_evenings 27 = .ok (.getfield 26, 3) := by decide +kernel
theorem dX8_evenings_30 : decode cX8_evenings 30 = .ok (.getfield 86, 3) := by decide +kernel
theorem dX8_evenings_33 : decode cX8_evenings 33 = .ok (.ifCond .ne 6, 3) := by decide +kernel
theorem dX8_evenings_36 : decode cX8_evenings 36 = .ok (.bipush (-103), 2) := by decide +kernel
theorem dX8_evenings_38 : decode cX8_evenings 38 = .ok (.ireturn, 1) := by decide +kernel
theorem dX8_evenings_39 : decode cX8_evenings 39 = .ok (.aload_n 0, 1) := by decide +kernel
theorem dX8_evenings_40 : decode cX8_evenings 40 = .ok (.getfield 51, 3) := by decide +kernel
theorem dX8_evenings_43 : decode cX8_evenings 43 = .ok (.iload_n 1, 1) := by decide +kernel
theorem dX8_evenings_44 : decode cX8_evenings 44 = .ok (.iload_n 2, 1) := by decide +kernel
theorem dX8_evenings_45 : decode cX8_evenings 45 = .ok (.invokevirtual 227, 3) := by decide +kernel
theorem dX8_evenings_48 : decode cX8_evenings 48 = .ok (.istore 4, 2) := by decide +kernel
theorem dX8_evenings_50 : decode cX8_evenings 50 = .ok (.iload_n 3, 1) := by decide +kernel
theorem dX8_evenings_51 : decode cX8_evenings 51 = .ok (.ifCond .ne 8, 3) := by decide +kernel
theorem dX8_evenings_54 : decode cX8_evenings 54 = .ok (.iload 4, 2) := by decide +kernel
theorem dX8_evenings_56 : decode cX8_evenings 56 = .ok (.goto 11, 3) := by decide +kernel
theorem dX8_evenings_59 : decode cX8_evenings 59 = .ok (.aload_n 0, 1) := by decide +kernel
theorem dX8_evenings_60 : decode cX8_evenings 60 = .ok (.getfield 51, 3) := by decide +kernel
theorem dX8_evenings_63 : decode cX8_evenings 63 = .ok (.getfield 230, 3) := by decide +kernel
theorem dX8_evenings_66 : decode cX8_evenings 66 = .ok (.l2i, 1) := by decide +kernel
theorem dX8_evenings_67 : decode cX8_evenings 67 = .ok (.ireturn, 1) := by decide +kernel
theorem dX8_image_0 : decode cX8_image 0 = .ok (.aload_n 0, 1) := by decide +kernel
theorem dX8_image_1 : decode cX8_image 1 = .ok (.invokevirtual 124, 3) := by decide +kernel
theorem dX8_image_4 : decode cX8_image 4 = .ok (.ifCond .eq 6, 3) := by decide +kernel
theorem dX8_image_7 : decode cX8_image 7 = .ok (.bipush (-103), 2) := by decide +kernel
theorem dX8_image_9 : decode cX8_image 9 = .ok (.ireturn, 1) := by decide +kernel
theorem dX8_image_10 : decode cX8_image 10 = .ok (.aload_n 0, 1) := by decide +kernel
theorem dX8_image_11 : decode cX8_image 11 = .ok (.getfield 58, 3) := by decide +kernel
theorem dX8_image_14 : decode cX8_image 14 = .ok (.aload_n 0, 1) := by decide +kernel
theorem dX8_image_15 : decode cX8_image 15 = .ok (.getfield 26, 3) := by decide +kernel
theorem dX8_image_18 : decode cX8_image 18 = .ok (.aload_n 0, 1) := by decide +kernel
theorem dX8_image_19 : decode cX8_image 19 = .ok (.getfield 35, 3) := by decide +kernel
theorem dX8_image_22 : decode cX8_image 22 = .ok (.aload_n 0, 1) := by decide +kernel
theorem dX8_image_23 : decode cX8_image 23 = .ok (.getfield 42, 3) := by decide +kernel
theorem dX8_image_26 : decode cX8_image 26 = .ok (.invokevirtual 234, 3) := by decide +kernel
theorem dX8_image_29 : decode cX8_image 29 = .ok (.aload_n 0, 1) := by decide +kernel
theorem dX8_image_30 : decode cX8_image 30 = .ok (.getfield 58, 3) := by decide +kernel
theorem dX8_image_33 : decode cX8_image 33 = .ok (.aload_n 0, 1) := by decide +kernel
theorem dX8_image_34 : decode cX8_image 34 = .ok (.getfield 99, 3) := by decide +kernel
theorem dX8_image_37 : decode cX8_image 37 = .ok (.putfield 238, 3) := by decide +kernel
theorem dX8_image_40 : decode cX8_image 40 = .ok (.aload_n 0, 1) := by decide +kernel
theorem dX8_image_41 : decode cX8_image 41 = .ok (.getfield 35, 3) := by decide +kernel
theorem dX8_image_44 : decode cX8_image 44 = .ok (.invokevirtual 173, 3) := by decide +kernel
theorem dX8_image_47 : decode cX8_image 47 = .ok (.ireturn, 1) := by decide +kernel
theorem dX8_restore_0 : decode cX8_restore 0 = .ok (.aload_n 0, 1) := by decide +kernel
theorem dX8_restore_1 : decode cX8_restore 1 = .ok (.invokevirtual 124, 3) := by decide +kernel
theorem dX8_restore_4 : decode cX8_restore 4 = .ok (.ifCond .ne 34, 3) := by decide +kernel
theorem dX8_restore_7 : decode cX8_restore 7 = .ok (.aload_n 0, 1) := by decide +kernel
theorem dX8_restore_8 : decode cX8_restore 8 = .ok (.getfield 58, 3) := by decide +kernel
theorem dX8_restore_11 : decode cX8_restore 11 = .ok (.getfield 238, 3) := by decide +kernel
theorem dX8_restore_14 : decode cX8_restore 14 = .ok (.aload_n 0, 1) := by decide +kernel
theorem dX8_restore_15 : decode cX8_restore 15 = .ok (.getfield 99, 3) := by decide +kernel
theorem dX8_restore_18 : decode cX8_restore 18 = .ok (.if_icmp .ne 20, 3) := by decide +kernel
theorem dX8_restore_21 : decode cX8_restore 21 = .ok (.aload_n 0, 1) := by decide +kernel
theorem dX8_restore_22 : decode cX8_restore 22 = .ok (.getfield 58, 3) := by decide +kernel
theorem dX8_restore_25 : decode cX8_restore 25 = .ok (.getfield 241, 3) := by decide +kernel
theorem dX8_restore_28 : decode cX8_restore 28 = .ok (.aload_n 0, 1) := by decide +kernel
theorem dX8_restore_29 : decode cX8_restore 29 = .ok (.getfield 26, 3) := by decide +kernel
theorem dX8_restore_32 : decode cX8_restore 32 = .ok (.getfield 86, 3) := by decide +kernel
theorem dX8_restore_35 : decode cX8_restore 35 = .ok (.if_icmp .eq 6, 3) := by decide +kernel
theorem dX8_restore_38 : decode cX8_restore 38 = .ok (.bipush (-103), 2) := by decide +kernel
theorem dX8_restore_40 : decode cX8_restore 40 = .ok (.ireturn, 1) := by decide +kernel
theorem dX8_restore_41 : decode cX8_restore 41 = .ok (.aload_n 0, 1) := by decide +kernel
theorem dX8_restore_42 : decode cX8_restore 42 = .ok (.getfield 58, 3) := by decide +kernel
theorem dX8_restore_45 : decode cX8_restore 45 = .ok (.aload_n 0, 1) := by decide +kernel
theorem dX8_restore_46 : decode cX8_restore 46 = .ok (.getfield 26, 3) := by decide +kernel
theorem dX8_restore_49 : decode cX8_restore 49 = .ok (.aload_n 0, 1) := by decide +kernel
theorem dX8_restore_50 : decode cX8_restore 50 = .ok (.getfield 35, 3) := by decide +kernel
theorem dX8_restore_53 : decode cX8_restore 53 = .ok (.aload_n 0, 1) := by decide +kernel
theorem dX8_restore_54 : decode cX8_restore 54 = .ok (.getfield 42, 3) := by decide +kernel
theorem dX8_restore_57 : decode cX8_restore 57 = .ok (.invokevirtual 244, 3) := by decide +kernel
theorem dX8_restore_60 : decode cX8_restore 60 = .ok (.aload_n 0, 1) := by decide +kernel
theorem dX8_restore_61 : decode cX8_restore 61 = .ok (.getfield 35, 3) := by decide +kernel
theorem dX8_restore_64 : decode cX8_restore 64 = .ok (.invokevirtual 173, 3) := by decide +kernel
theorem dX8_restore_67 : decode cX8_restore 67 = .ok (.ireturn, 1) := by decide +kernel
theorem dX8_count_0 : decode cX8_count 0 = .ok (.iload_n 1, 1) := by decide +kernel
theorem dX8_count_1 : decode cX8_count 1 = .ok (.tableswitch 117 0 8 #[51, 59, 67, 75, 83, 91, 99, 107, 112], 51) := by decide +kernel
theorem dX8_count_52 : decode cX8_count 52 = .ok (.aload_n 0, 1) := by decide +kernel
theorem dX8_count_53 : decode cX8_count 53 = .ok (.getfield 19, 3) := by decide +kernel
theorem dX8_count_56 : decode cX8_count 56 = .ok (.getfield 102, 3) := by decide +kernel
theorem dX8_count_59 : decode cX8_count 59 = .ok (.ireturn, 1) := by decide +kernel
theorem dX8_count_60 : decode cX8_count 60 = .ok (.aload_n 0, 1) := by decide +kernel
theorem dX8_count_61 : decode cX8_count 61 = .ok (.getfield 19, 3) := by decide +kernel
theorem dX8_count_64 : decode cX8_count 64 = .ok (.getfield 88, 3) := by decide +kernel
theorem dX8_count_67 : decode cX8_count 67 = .ok (.ireturn, 1) := by decide +kernel
theorem dX8_count_68 : decode cX8_count 68 = .ok (.aload_n 0, 1) := by decide +kernel
theorem dX8_count_69 : decode cX8_count 69 = .ok (.getfield 26, 3) := by decide +kernel
theorem dX8_count_72 : decode cX8_count 72 = .ok (.getfield 86, 3) := by decide +kernel
theorem dX8_count_75 : decode cX8_count 75 = .ok (.ireturn, 1) := by decide +kernel
theorem dX8_count_76 : decode cX8_count 76 = .ok (.aload_n 0, 1) := by decide +kernel
theorem dX8_count_77 : decode cX8_count 77 = .ok (.getfield 35, 3) := by decide +kernel
theorem dX8_count_80 : decode cX8_count 80 = .ok (.invokevirtual 173, 3) := by decide +kernel
theorem dX8_count_83 : decode cX8_count 83 = .ok (.ireturn, 1) := by decide +kernel
theorem dX8_count_84 : decode cX8_count 84 = .ok (.aload_n 0, 1) := by decide +kernel
theorem dX8_count_85 : decode cX8_count 85 = .ok (.getfield 35, 3) := by decide +kernel
theorem dX8_count_88 : decode cX8_count 88 = .ok (.invokevirtual 247, 3) := by decide +kernel
theorem dX8_count_91 : decode cX8_count 91 = .ok (.ireturn, 1) := by decide +kernel
theorem dX8_count_92 : decode cX8_count 92 = .ok (.aload_n 0, 1) := by decide +kernel
theorem dX8_count_93 : decode cX8_count 93 = .ok (.getfield 42, 3) := by decide +kernel
theorem dX8_count_96 : decode cX8_count 96 = .ok (.getfield 87, 3) := by decide +kernel
theorem dX8_count_99 : decode cX8_count 99 = .ok (.ireturn, 1) := by decide +kernel
theorem dX8_count_100 : decode cX8_count 100 = .ok (.aload_n 0, 1) := by decide +kernel
theorem dX8_count_101 : decode cX8_count 101 = .ok (.getfield 10, 3) := by decide +kernel
theorem dX8_count_104 : decode cX8_count 104 = .ok (.getfield 66, 3) := by decide +kernel
theorem dX8_count_107 : decode cX8_count 107 = .ok (.ireturn, 1) := by decide +kernel
theorem dX8_count_108 : decode cX8_count 108 = .ok (.aload_n 0, 1) := by decide +kernel
theorem dX8_count_109 : decode cX8_count 109 = .ok (.getfield 99, 3) := by decide +kernel
theorem dX8_count_112 : decode cX8_count 112 = .ok (.ireturn, 1) := by decide +kernel
theorem dX8_count_113 : decode cX8_count 113 = .ok (.aload_n 0, 1) := by decide +kernel
theorem dX8_count_114 : decode cX8_count 114 = .ok (.getfield 186, 3) := by decide +kernel
theorem dX8_count_117 : decode cX8_count 117 = .ok (.ireturn, 1) := by decide +kernel
theorem dX8_count_118 : decode cX8_count 118 = .ok (.bipush (-102), 2) := by decide +kernel
theorem dX8_count_120 : decode cX8_count 120 = .ok (.ireturn, 1) := by decide +kernel
theorem dX8_digest_0 : decode cX8_digest 0 = .ok (.aload_n 0, 1) := by decide +kernel
theorem dX8_digest_1 : decode cX8_digest 1 = .ok (.aload_n 0, 1) := by decide +kernel
theorem dX8_digest_2 : decode cX8_digest 2 = .ok (.ldc2_w 250, 3) := by decide +kernel
theorem dX8_digest_5 : decode cX8_digest 5 = .ok (.invokevirtual 252, 3) := by decide +kernel
theorem dX8_digest_8 : decode cX8_digest 8 = .ok (.invokevirtual 256, 3) := by decide +kernel
theorem dX8_digest_11 : decode cX8_digest 11 = .ok (.lstore_n 1, 1) := by decide +kernel
theorem dX8_digest_12 : decode cX8_digest 12 = .ok (.aload_n 0, 1) := by decide +kernel
theorem dX8_digest_13 : decode cX8_digest 13 = .ok (.invokevirtual 124, 3) := by decide +kernel
theorem dX8_digest_16 : decode cX8_digest 16 = .ok (.ifCond .ne 46, 3) := by decide +kernel
theorem dX8_digest_19 : decode cX8_digest 19 = .ok (.lload_n 1, 1) := by decide +kernel
theorem dX8_digest_20 : decode cX8_digest 20 = .ok (.aload_n 0, 1) := by decide +kernel
theorem dX8_digest_21 : decode cX8_digest 21 = .ok (.invokevirtual 259, 3) := by decide +kernel
theorem dX8_digest_24 : decode cX8_digest 24 = .ok (.i2l, 1) := by decide +kernel
theorem dX8_digest_25 : decode cX8_digest 25 = .ok (.invokestatic 262, 3) := by decide +kernel
theorem dX8_digest_28 : decode cX8_digest 28 = .ok (.lstore_n 1, 1) := by decide +kernel
theorem dX8_digest_29 : decode cX8_digest 29 = .ok (.lload_n 1, 1) := by decide +kernel
theorem dX8_digest_30 : decode cX8_digest 30 = .ok (.aload_n 0, 1) := by decide +kernel
theorem dX8_digest_31 : decode cX8_digest 31 = .ok (.iconst 0, 1) := by decide +kernel
theorem dX8_digest_32 : decode cX8_digest 32 = .ok (.invokevirtual 266, 3) := by decide +kernel
theorem dX8_digest_35 : decode cX8_digest 35 = .ok (.i2l, 1) := by decide +kernel
theorem dX8_digest_36 : decode cX8_digest 36 = .ok (.invokestatic 262, 3) := by decide +kernel
theorem dX8_digest_39 : decode cX8_digest 39 = .ok (.lstore_n 1, 1) := by decide +kernel
theorem dX8_digest_40 : decode cX8_digest 40 = .ok (.lload_n 1, 1) := by decide +kernel
theorem dX8_digest_41 : decode cX8_digest 41 = .ok (.aload_n 0, 1) := by decide +kernel
theorem dX8_digest_42 : decode cX8_digest 42 = .ok (.iconst 1, 1) := by decide +kernel
theorem dX8_digest_43 : decode cX8_digest 43 = .ok (.invokevirtual 266, 3) := by decide +kernel
theorem dX8_digest_46 : decode cX8_digest 46 = .ok (.i2l, 1) := by decide +kernel
theorem dX8_digest_47 : decode cX8_digest 47 = .ok (.invokestatic 262, 3) := by decide +kernel
theorem dX8_digest_50 : decode cX8_digest 50 = .ok (.lstore_n 1, 1) := by decide +kernel
theorem dX8_digest_51 : decode cX8_digest 51 = .ok (.lload_n 1, 1) := by decide +kernel
theorem dX8_digest_52 : decode cX8_digest 52 = .ok (.aload_n 0, 1) := by decide +kernel
theorem dX8_digest_53 : decode cX8_digest 53 = .ok (.iconst 0, 1) := by decide +kernel
theorem dX8_digest_54 : decode cX8_digest 54 = .ok (.invokevirtual 269, 3) := by decide +kernel
theorem dX8_digest_57 : decode cX8_digest 57 = .ok (.i2l, 1) := by decide +kernel
theorem dX8_digest_58 : decode cX8_digest 58 = .ok (.invokestatic 262, 3) := by decide +kernel
theorem dX8_digest_61 : decode cX8_digest 61 = .ok (.lstore_n 1, 1) := by decide +kernel
theorem dX8_digest_62 : decode cX8_digest 62 = .ok (.aload_n 0, 1) := by decide +kernel
theorem dX8_digest_63 : decode cX8_digest 63 = .ok (.getfield 26, 3) := by decide +kernel
theorem dX8_digest_66 : decode cX8_digest 66 = .ok (.getfield 86, 3) := by decide +kernel
theorem dX8_digest_69 : decode cX8_digest 69 = .ok (.ifCond .le 27, 3) := by decide +kernel
theorem dX8_digest_72 : decode cX8_digest 72 = .ok (.lload_n 1, 1) := by decide +kernel
theorem dX8_digest_73 : decode cX8_digest 73 = .ok (.aload_n 0, 1) := by decide +kernel
theorem dX8_digest_74 : decode cX8_digest 74 = .ok (.iconst (-1), 1) := by decide +kernel
theorem dX8_digest_75 : decode cX8_digest 75 = .ok (.iconst 0, 1) := by decide +kernel
theorem dX8_digest_76 : decode cX8_digest 76 = .ok (.invokevirtual 272, 3) := by decide +kernel
theorem dX8_digest_79 : decode cX8_digest 79 = .ok (.i2l, 1) := by decide +kernel
theorem dX8_digest_80 : decode cX8_digest 80 = .ok (.invokestatic 262, 3) := by decide +kernel
theorem dX8_digest_83 : decode cX8_digest 83 = .ok (.lstore_n 1, 1) := by decide +kernel
theorem dX8_digest_84 : decode cX8_digest 84 = .ok (.lload_n 1, 1) := by decide +kernel
theorem dX8_digest_85 : decode cX8_digest 85 = .ok (.aload_n 0, 1) := by decide +kernel
theorem dX8_digest_86 : decode cX8_digest 86 = .ok (.iconst (-1), 1) := by decide +kernel
theorem dX8_digest_87 : decode cX8_digest 87 = .ok (.iconst 1, 1) := by decide +kernel
theorem dX8_digest_88 : decode cX8_digest 88 = .ok (.invokevirtual 272, 3) := by decide +kernel
theorem dX8_digest_91 : decode cX8_digest 91 = .ok (.i2l, 1) := by decide +kernel
theorem dX8_digest_92 : decode cX8_digest 92 = .ok (.invokestatic 262, 3) := by decide +kernel
theorem dX8_digest_95 : decode cX8_digest 95 = .ok (.lstore_n 1, 1) := by decide +kernel
theorem dX8_digest_96 : decode cX8_digest 96 = .ok (.iconst 0, 1) := by decide +kernel
theorem dX8_digest_97 : decode cX8_digest 97 = .ok (.istore_n 3, 1) := by decide +kernel
theorem dX8_digest_98 : decode cX8_digest 98 = .ok (.iload_n 3, 1) := by decide +kernel
theorem dX8_digest_99 : decode cX8_digest 99 = .ok (.aload_n 0, 1) := by decide +kernel
theorem dX8_digest_100 : decode cX8_digest 100 = .ok (.getfield 10, 3) := by decide +kernel
theorem dX8_digest_103 : decode cX8_digest 103 = .ok (.getfield 66, 3) := by decide +kernel
theorem dX8_digest_106 : decode cX8_digest 106 = .ok (.if_icmp .ge 24, 3) := by decide +kernel
theorem dX8_digest_109 : decode cX8_digest 109 = .ok (.lload_n 1, 1) := by decide +kernel
theorem dX8_digest_110 : decode cX8_digest 110 = .ok (.aload_n 0, 1) := by decide +kernel
theorem dX8_digest_111 : decode cX8_digest 111 = .ok (.getfield 10, 3) := by decide +kernel
theorem dX8_digest_114 : decode cX8_digest 114 = .ok (.getfield 70, 3) := by decide +kernel
theorem dX8_digest_117 : decode cX8_digest 117 = .ok (.iload_n 3, 1) := by decide +kernel
theorem dX8_digest_118 : decode cX8_digest 118 = .ok (.iaload, 1) := by decide +kernel
theorem dX8_digest_119 : decode cX8_digest 119 = .ok (.i2l, 1) := by decide +kernel
theorem dX8_digest_120 : decode cX8_digest 120 = .ok (.invokestatic 262, 3) := by decide +kernel
theorem dX8_digest_123 : decode cX8_digest 123 = .ok (.lstore_n 1, 1) := by decide +kernel
theorem dX8_digest_124 : decode cX8_digest 124 = .ok (.iinc 3 1, 3) := by decide +kernel
theorem dX8_digest_127 : decode cX8_digest 127 = .ok (.goto (-29), 3) := by decide +kernel
theorem dX8_digest_130 : decode cX8_digest 130 = .ok (.iconst 0, 1) := by decide +kernel
theorem dX8_digest_131 : decode cX8_digest 131 = .ok (.istore_n 3, 1) := by decide +kernel
theorem dX8_digest_132 : decode cX8_digest 132 = .ok (.iload_n 3, 1) := by decide +kernel
theorem dX8_digest_133 : decode cX8_digest 133 = .ok (.bipush 9, 2) := by decide +kernel
theorem dX8_digest_135 : decode cX8_digest 135 = .ok (.if_icmp .ge 20, 3) := by decide +kernel
theorem dX8_digest_138 : decode cX8_digest 138 = .ok (.lload_n 1, 1) := by decide +kernel
theorem dX8_digest_139 : decode cX8_digest 139 = .ok (.aload_n 0, 1) := by decide +kernel
theorem dX8_digest_140 : decode cX8_digest 140 = .ok (.iload_n 3, 1) := by decide +kernel
theorem dX8_digest_141 : decode cX8_digest 141 = .ok (.invokevirtual 275, 3) := by decide +kernel
theorem dX8_digest_144 : decode cX8_digest 144 = .ok (.i2l, 1) := by decide +kernel
theorem dX8_digest_145 : decode cX8_digest 145 = .ok (.invokestatic 262, 3) := by decide +kernel
theorem dX8_digest_148 : decode cX8_digest 148 = .ok (.lstore_n 1, 1) := by decide +kernel
theorem dX8_digest_149 : decode cX8_digest 149 = .ok (.iinc 3 1, 3) := by decide +kernel
theorem dX8_digest_152 : decode cX8_digest 152 = .ok (.goto (-20), 3) := by decide +kernel
theorem dX8_digest_155 : decode cX8_digest 155 = .ok (.lload_n 1, 1) := by decide +kernel
theorem dX8_digest_156 : decode cX8_digest 156 = .ok (.lreturn, 1) := by decide +kernel
theorem dX8_mixedDishes_0 : decode cX8_mixedDishes 0 = .ok (.lload_n 1, 1) := by decide +kernel
theorem dX8_mixedDishes_1 : decode cX8_mixedDishes 1 = .ok (.lstore_n 3, 1) := by decide +kernel
theorem dX8_mixedDishes_2 : decode cX8_mixedDishes 2 = .ok (.iconst 0, 1) := by decide +kernel
theorem dX8_mixedDishes_3 : decode cX8_mixedDishes 3 = .ok (.istore 5, 2) := by decide +kernel
theorem dX8_mixedDishes_5 : decode cX8_mixedDishes 5 = .ok (.iload 5, 2) := by decide +kernel
theorem dX8_mixedDishes_7 : decode cX8_mixedDishes 7 = .ok (.aload_n 0, 1) := by decide +kernel
theorem dX8_mixedDishes_8 : decode cX8_mixedDishes 8 = .ok (.getfield 19, 3) := by decide +kernel
theorem dX8_mixedDishes_11 : decode cX8_mixedDishes 11 = .ok (.getfield 102, 3) := by decide +kernel
theorem dX8_mixedDishes_14 : decode cX8_mixedDishes 14 = .ok (.if_icmp .ge 38, 3) := by decide +kernel
theorem dX8_mixedDishes_17 : decode cX8_mixedDishes 17 = .ok (.iconst 0, 1) := by decide +kernel
theorem dX8_mixedDishes_18 : decode cX8_mixedDishes 18 = .ok (.istore 6, 2) := by decide +kernel
theorem dX8_mixedDishes_20 : decode cX8_mixedDishes 20 = .ok (.iload 6, 2) := by decide +kernel
theorem dX8_mixedDishes_22 : decode cX8_mixedDishes 22 = .ok (.iconst 4, 1) := by decide +kernel
theorem dX8_mixedDishes_23 : decode cX8_mixedDishes 23 = .ok (.if_icmp .ge 23, 3) := by decide +kernel
theorem dX8_mixedDishes_26 : decode cX8_mixedDishes 26 = .ok (.lload_n 3, 1) := by decide +kernel
theorem dX8_mixedDishes_27 : decode cX8_mixedDishes 27 = .ok (.aload_n 0, 1) := by decide +kernel
theorem dX8_mixedDishes_28 : decode cX8_mixedDishes 28 = .ok (.iload 5, 2) := by decide +kernel
theorem dX8_mixedDishes_30 : decode cX8_mixedDishes 30 = .ok (.iload 6, 2) := by decide +kernel
theorem dX8_mixedDishes_32 : decode cX8_mixedDishes 32 = .ok (.invokevirtual 278, 3) := by decide +kernel
theorem dX8_mixedDishes_35 : decode cX8_mixedDishes 35 = .ok (.i2l, 1) := by decide +kernel
theorem dX8_mixedDishes_36 : decode cX8_mixedDishes 36 = .ok (.invokestatic 262, 3) := by decide +kernel
theorem dX8_mixedDishes_39 : decode cX8_mixedDishes 39 = .ok (.lstore_n 3, 1) := by decide +kernel
theorem dX8_mixedDishes_40 : decode cX8_mixedDishes 40 = .ok (.iinc 6 1, 3) := by decide +kernel
theorem dX8_mixedDishes_43 : decode cX8_mixedDishes 43 = .ok (.goto (-23), 3) := by decide +kernel
theorem dX8_mixedDishes_46 : decode cX8_mixedDishes 46 = .ok (.iinc 5 1, 3) := by decide +kernel
theorem dX8_mixedDishes_49 : decode cX8_mixedDishes 49 = .ok (.goto (-44), 3) := by decide +kernel
theorem dX8_mixedDishes_52 : decode cX8_mixedDishes 52 = .ok (.lload_n 3, 1) := by decide +kernel
theorem dX8_mixedDishes_53 : decode cX8_mixedDishes 53 = .ok (.lreturn, 1) := by decide +kernel
theorem dX8_mixedGuests_0 : decode cX8_mixedGuests 0 = .ok (.lload_n 1, 1) := by decide +kernel
theorem dX8_mixedGuests_1 : decode cX8_mixedGuests 1 = .ok (.lstore_n 3, 1) := by decide +kernel
theorem dX8_mixedGuests_2 : decode cX8_mixedGuests 2 = .ok (.iconst 0, 1) := by decide +kernel
theorem dX8_mixedGuests_3 : decode cX8_mixedGuests 3 = .ok (.istore 5, 2) := by decide +kernel
theorem dX8_mixedGuests_5 : decode cX8_mixedGuests 5 = .ok (.iload 5, 2) := by decide +kernel
theorem dX8_mixedGuests_7 : decode cX8_mixedGuests 7 = .ok (.aload_n 0, 1) := by decide +kernel
theorem dX8_mixedGuests_8 : decode cX8_mixedGuests 8 = .ok (.getfield 26, 3) := by decide +kernel
theorem dX8_mixedGuests_11 : decode cX8_mixedGuests 11 = .ok (.getfield 86, 3) := by decide +kernel
theorem dX8_mixedGuests_14 : decode cX8_mixedGuests 14 = .ok (.if_icmp .ge 94, 3) := by decide +kernel
theorem dX8_mixedGuests_17 : decode cX8_mixedGuests 17 = .ok (.iconst 0, 1) := by decide +kernel
theorem dX8_mixedGuests_18 : decode cX8_mixedGuests 18 = .ok (.istore 6, 2) := by decide +kernel
theorem dX8_mixedGuests_20 : decode cX8_mixedGuests 20 = .ok (.iload 6, 2) := by decide +kernel
theorem dX8_mixedGuests_22 : decode cX8_mixedGuests 22 = .ok (.bipush 6, 2) := by decide +kernel
theorem dX8_mixedGuests_24 : decode cX8_mixedGuests 24 = .ok (.if_icmp .ge 23, 3) := by decide +kernel
theorem dX8_mixedGuests_27 : decode cX8_mixedGuests 27 = .ok (.lload_n 3, 1) := by decide +kernel
theorem dX8_mixedGuests_28 : decode cX8_mixedGuests 28 = .ok (.aload_n 0, 1) := by decide +kernel
theorem dX8_mixedGuests_29 : decode cX8_mixedGuests 29 = .ok (.iload 5, 2) := by decide +kernel
theorem dX8_mixedGuests_31 : decode cX8_mixedGuests 31 = .ok (.iload 6, 2) := by decide +kernel
theorem dX8_mixedGuests_33 : decode cX8_mixedGuests 33 = .ok (.invokevirtual 281, 3) := by decide +kernel
theorem dX8_mixedGuests_36 : decode cX8_mixedGuests 36 = .ok (.i2l, 1) := by decide +kernel
theorem dX8_mixedGuests_37 : decode cX8_mixedGuests 37 = .ok (.invokestatic 262, 3) := by decide +kernel
theorem dX8_mixedGuests_40 : decode cX8_mixedGuests 40 = .ok (.lstore_n 3, 1) := by decide +kernel
theorem dX8_mixedGuests_41 : decode cX8_mixedGuests 41 = .ok (.iinc 6 1, 3) := by decide +kernel
theorem dX8_mixedGuests_44 : decode cX8_mixedGuests 44 = .ok (.goto (-24), 3) := by decide +kernel
theorem dX8_mixedGuests_47 : decode cX8_mixedGuests 47 = .ok (.iconst 0, 1) := by decide +kernel
theorem dX8_mixedGuests_48 : decode cX8_mixedGuests 48 = .ok (.istore 6, 2) := by decide +kernel
theorem dX8_mixedGuests_50 : decode cX8_mixedGuests 50 = .ok (.iload 6, 2) := by decide +kernel
theorem dX8_mixedGuests_52 : decode cX8_mixedGuests 52 = .ok (.aload_n 0, 1) := by decide +kernel
theorem dX8_mixedGuests_53 : decode cX8_mixedGuests 53 = .ok (.getfield 19, 3) := by decide +kernel
theorem dX8_mixedGuests_56 : decode cX8_mixedGuests 56 = .ok (.getfield 102, 3) := by decide +kernel
theorem dX8_mixedGuests_59 : decode cX8_mixedGuests 59 = .ok (.if_icmp .ge 31, 3) := by decide +kernel
theorem dX8_mixedGuests_62 : decode cX8_mixedGuests 62 = .ok (.lload_n 3, 1) := by decide +kernel
theorem dX8_mixedGuests_63 : decode cX8_mixedGuests 63 = .ok (.aload_n 0, 1) := by decide +kernel
theorem dX8_mixedGuests_64 : decode cX8_mixedGuests 64 = .ok (.getfield 26, 3) := by decide +kernel
theorem dX8_mixedGuests_67 : decode cX8_mixedGuests 67 = .ok (.getfield 127, 3) := by decide +kernel
theorem dX8_mixedGuests_70 : decode cX8_mixedGuests 70 = .ok (.iload 5, 2) := by decide +kernel
theorem dX8_mixedGuests_72 : decode cX8_mixedGuests 72 = .ok (.aaload, 1) := by decide +kernel
theorem dX8_mixedGuests_73 : decode cX8_mixedGuests 73 = .ok (.getfield 161, 3) := by decide +kernel
theorem dX8_mixedGuests_76 : decode cX8_mixedGuests 76 = .ok (.iload 6, 2) := by decide +kernel
theorem dX8_mixedGuests_78 : decode cX8_mixedGuests 78 = .ok (.iaload, 1) := by decide +kernel
theorem dX8_mixedGuests_79 : decode cX8_mixedGuests 79 = .ok (.i2l, 1) := by decide +kernel
theorem dX8_mixedGuests_80 : decode cX8_mixedGuests 80 = .ok (.invokestatic 262, 3) := by decide +kernel
theorem dX8_mixedGuests_83 : decode cX8_mixedGuests 83 = .ok (.lstore_n 3, 1) := by decide +kernel
theorem dX8_mixedGuests_84 : decode cX8_mixedGuests 84 = .ok (.iinc 6 1, 3) := by decide +kernel
theorem dX8_mixedGuests_87 : decode cX8_mixedGuests 87 = .ok (.goto (-37), 3) := by decide +kernel
theorem dX8_mixedGuests_90 : decode cX8_mixedGuests 90 = .ok (.lload_n 3, 1) := by decide +kernel
theorem dX8_mixedGuests_91 : decode cX8_mixedGuests 91 = .ok (.aload_n 0, 1) := by decide +kernel
theorem dX8_mixedGuests_92 : decode cX8_mixedGuests 92 = .ok (.iload 5, 2) := by decide +kernel
theorem dX8_mixedGuests_94 : decode cX8_mixedGuests 94 = .ok (.invokevirtual 284, 3) := by decide +kernel
theorem dX8_mixedGuests_97 : decode cX8_mixedGuests 97 = .ok (.i2l, 1) := by decide +kernel
theorem dX8_mixedGuests_98 : decode cX8_mixedGuests 98 = .ok (.invokestatic 262, 3) := by decide +kernel
theorem dX8_mixedGuests_101 : decode cX8_mixedGuests 101 = .ok (.lstore_n 3, 1) := by decide +kernel
theorem dX8_mixedGuests_102 : decode cX8_mixedGuests 102 = .ok (.iinc 5 1, 3) := by decide +kernel
theorem dX8_mixedGuests_105 : decode cX8_mixedGuests 105 = .ok (.goto (-100), 3) := by decide +kernel
theorem dX8_mixedGuests_108 : decode cX8_mixedGuests 108 = .ok (.lload_n 3, 1) := by decide +kernel
theorem dX8_mixedGuests_109 : decode cX8_mixedGuests 109 = .ok (.lreturn, 1) := by decide +kernel
theorem dX8_mixed_0 : decode cX8_mixed 0 = .ok (.ldc2_w 287, 3) := by decide +kernel
theorem dX8_mixed_3 : decode cX8_mixed 3 = .ok (.lload_n 0, 1) := by decide +kernel
theorem dX8_mixed_4 : decode cX8_mixed 4 = .ok (.lmul, 1) := by decide +kernel
theorem dX8_mixed_5 : decode cX8_mixed 5 = .ok (.lload_n 2, 1) := by decide +kernel
theorem dX8_mixed_6 : decode cX8_mixed 6 = .ok (.ladd, 1) := by decide +kernel
theorem dX8_mixed_7 : decode cX8_mixed 7 = .ok (.lreturn, 1) := by decide +kernel
theorem dX8_onlyLoath_0 : decode cX8_onlyLoath 0 = .ok (.iconst 0, 1) := by decide +kernel
theorem dX8_onlyLoath_1 : decode cX8_onlyLoath 1 = .ok (.istore_n 1, 1) := by decide +kernel
theorem dX8_onlyLoath_2 : decode cX8_onlyLoath 2 = .ok (.iload_n 1, 1) := by decide +kernel
theorem dX8_onlyLoath_3 : decode cX8_onlyLoath 3 = .ok (.bipush 10, 2) := by decide +kernel
theorem dX8_onlyLoath_5 : decode cX8_onlyLoath 5 = .ok (.if_icmp .ge 18, 3) := by decide +kernel
theorem dX8_onlyLoath_8 : decode cX8_onlyLoath 8 = .ok (.iload_n 0, 1) := by decide +kernel
theorem dX8_onlyLoath_9 : decode cX8_onlyLoath 9 = .ok (.iconst 1, 1) := by decide +kernel
theorem dX8_onlyLoath_10 : decode cX8_onlyLoath 10 = .ok (.iload_n 1, 1) := by decide +kernel
theorem dX8_onlyLoath_11 : decode cX8_onlyLoath 11 = .ok (.ishl, 1) := by decide +kernel
theorem dX8_onlyLoath_12 : decode cX8_onlyLoath 12 = .ok (.if_icmp .ne 5, 3) := by decide +kernel
theorem dX8_onlyLoath_15 : decode cX8_onlyLoath 15 = .ok (.iload_n 1, 1) := by decide +kernel
theorem dX8_onlyLoath_16 : decode cX8_onlyLoath 16 = .ok (.ireturn, 1) := by decide +kernel
theorem dX8_onlyLoath_17 : decode cX8_onlyLoath 17 = .ok (.iinc 1 1, 3) := by decide +kernel
theorem dX8_onlyLoath_20 : decode cX8_onlyLoath 20 = .ok (.goto (-18), 3) := by decide +kernel
theorem dX8_onlyLoath_23 : decode cX8_onlyLoath 23 = .ok (.iconst (-1), 1) := by decide +kernel
theorem dX8_onlyLoath_24 : decode cX8_onlyLoath 24 = .ok (.ireturn, 1) := by decide +kernel
theorem dX8_isOutside_0 : decode cX8_isOutside 0 = .ok (.iload_n 0, 1) := by decide +kernel
theorem dX8_isOutside_1 : decode cX8_isOutside 1 = .ok (.iload_n 1, 1) := by decide +kernel
theorem dX8_isOutside_2 : decode cX8_isOutside 2 = .ok (.if_icmp .lt 8, 3) := by decide +kernel
theorem dX8_isOutside_5 : decode cX8_isOutside 5 = .ok (.iload_n 0, 1) := by decide +kernel
theorem dX8_isOutside_6 : decode cX8_isOutside 6 = .ok (.iload_n 2, 1) := by decide +kernel
theorem dX8_isOutside_7 : decode cX8_isOutside 7 = .ok (.if_icmp .le 7, 3) := by decide +kernel
theorem dX8_isOutside_10 : decode cX8_isOutside 10 = .ok (.iconst 1, 1) := by decide +kernel
theorem dX8_isOutside_11 : decode cX8_isOutside 11 = .ok (.goto 4, 3) := by decide +kernel
theorem dX8_isOutside_14 : decode cX8_isOutside 14 = .ok (.iconst 0, 1) := by decide +kernel
theorem dX8_isOutside_15 : decode cX8_isOutside 15 = .ok (.ireturn, 1) := by decide +kernel
theorem dX8_noCard_0 : decode cX8_noCard 0 = .ok (.aload_n 0, 1) := by decide +kernel
theorem dX8_noCard_1 : decode cX8_noCard 1 = .ok (.getfield 19, 3) := by decide +kernel
theorem dX8_noCard_4 : decode cX8_noCard 4 = .ok (.getfield 102, 3) := by decide +kernel
theorem dX8_noCard_7 : decode cX8_noCard 7 = .ok (.ifCond .ne 7, 3) := by decide +kernel
theorem dX8_noCard_10 : decode cX8_noCard 10 = .ok (.iconst 1, 1) := by decide +kernel
theorem dX8_noCard_11 : decode cX8_noCard 11 = .ok (.goto 4, 3) := by decide +kernel
theorem dX8_noCard_14 : decode cX8_noCard 14 = .ok (.iconst 0, 1) := by decide +kernel
theorem dX8_noCard_15 : decode cX8_noCard 15 = .ok (.ireturn, 1) := by decide +kernel
theorem dX8_noDish_0 : decode cX8_noDish 0 = .ok (.iload_n 1, 1) := by decide +kernel
theorem dX8_noDish_1 : decode cX8_noDish 1 = .ok (.ifCond .lt 14, 3) := by decide +kernel
theorem dX8_noDish_4 : decode cX8_noDish 4 = .ok (.iload_n 1, 1) := by decide +kernel
theorem dX8_noDish_5 : decode cX8_noDish 5 = .ok (.aload_n 0, 1) := by decide +kernel
theorem dX8_noDish_6 : decode cX8_noDish 6 = .ok (.getfield 19, 3) := by decide +kernel
theorem dX8_noDish_9 : decode cX8_noDish 9 = .ok (.getfield 102, 3) := by decide +kernel
theorem dX8_noDish_12 : decode cX8_noDish 12 = .ok (.if_icmp .lt 7, 3) := by decide +kernel
theorem dX8_noDish_15 : decode cX8_noDish 15 = .ok (.iconst 1, 1) := by decide +kernel
theorem dX8_noDish_16 : decode cX8_noDish 16 = .ok (.goto 4, 3) := by decide +kernel
theorem dX8_noDish_19 : decode cX8_noDish 19 = .ok (.iconst 0, 1) := by decide +kernel
theorem dX8_noDish_20 : decode cX8_noDish 20 = .ok (.ireturn, 1) := by decide +kernel
theorem dX8_noGuest_0 : decode cX8_noGuest 0 = .ok (.iload_n 1, 1) := by decide +kernel
theorem dX8_noGuest_1 : decode cX8_noGuest 1 = .ok (.ifCond .lt 14, 3) := by decide +kernel
theorem dX8_noGuest_4 : decode cX8_noGuest 4 = .ok (.iload_n 1, 1) := by decide +kernel
theorem dX8_noGuest_5 : decode cX8_noGuest 5 = .ok (.aload_n 0, 1) := by decide +kernel
theorem dX8_noGuest_6 : decode cX8_noGuest 6 = .ok (.getfield 26, 3) := by decide +kernel
theorem dX8_noGuest_9 : decode cX8_noGuest 9 = .ok (.getfield 86, 3) := by decide +kernel
theorem dX8_noGuest_12 : decode cX8_noGuest 12 = .ok (.if_icmp .lt 7, 3) := by decide +kernel
theorem dX8_noGuest_15 : decode cX8_noGuest 15 = .ok (.iconst 1, 1) := by decide +kernel
theorem dX8_noGuest_16 : decode cX8_noGuest 16 = .ok (.goto 4, 3) := by decide +kernel
theorem dX8_noGuest_19 : decode cX8_noGuest 19 = .ok (.iconst 0, 1) := by decide +kernel
theorem dX8_noGuest_20 : decode cX8_noGuest 20 = .ok (.ireturn, 1) := by decide +kernel
