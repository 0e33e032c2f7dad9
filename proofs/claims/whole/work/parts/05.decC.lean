theorem dX9_init_0 : decode cX9_init 0 = .ok (.aload_n 0, 1) := by decide +kernel
theorem dX9_init_1 : decode cX9_init 1 = .ok (.invokespecial 1, 3) := by decide +kernel
theorem dX9_init_4 : decode cX9_init 4 = .ok (.aload_n 0, 1) := by decide +kernel
theorem dX9_init_5 : decode cX9_init 5 = .ok (.bipush 22, 2) := by decide +kernel
theorem dX9_init_7 : decode cX9_init 7 = .ok (.newarray .int, 2) := by decide +kernel
theorem dX9_init_9 : decode cX9_init 9 = .ok (.putfield 7, 3) := by decide +kernel
theorem dX9_init_12 : decode cX9_init 12 = .ok (.aload_n 0, 1) := by decide +kernel
theorem dX9_init_13 : decode cX9_init 13 = .ok (.bipush 6, 2) := by decide +kernel
theorem dX9_init_15 : decode cX9_init 15 = .ok (.newarray .int, 2) := by decide +kernel
theorem dX9_init_17 : decode cX9_init 17 = .ok (.putfield 13, 3) := by decide +kernel
theorem dX9_init_20 : decode cX9_init 20 = .ok (.aload_n 0, 1) := by decide +kernel
theorem dX9_init_21 : decode cX9_init 21 = .ok (.bipush 6, 2) := by decide +kernel
theorem dX9_init_23 : decode cX9_init 23 = .ok (.newarray .int, 2) := by decide +kernel
theorem dX9_init_25 : decode cX9_init 25 = .ok (.putfield 16, 3) := by decide +kernel
theorem dX9_init_28 : decode cX9_init 28 = .ok (.aload_n 0, 1) := by decide +kernel
theorem dX9_init_29 : decode cX9_init 29 = .ok (.bipush 6, 2) := by decide +kernel
theorem dX9_init_31 : decode cX9_init 31 = .ok (.newarray .int, 2) := by decide +kernel
theorem dX9_init_33 : decode cX9_init 33 = .ok (.putfield 19, 3) := by decide +kernel
theorem dX9_init_36 : decode cX9_init 36 = .ok (.aload_n 0, 1) := by decide +kernel
theorem dX9_init_37 : decode cX9_init 37 = .ok (.bipush 6, 2) := by decide +kernel
theorem dX9_init_39 : decode cX9_init 39 = .ok (.newarray .int, 2) := by decide +kernel
theorem dX9_init_41 : decode cX9_init 41 = .ok (.putfield 22, 3) := by decide +kernel
theorem dX9_init_44 : decode cX9_init 44 = .ok (.aload_n 0, 1) := by decide +kernel
theorem dX9_init_45 : decode cX9_init 45 = .ok (.bipush 10, 2) := by decide +kernel
theorem dX9_init_47 : decode cX9_init 47 = .ok (.newarray .int, 2) := by decide +kernel
theorem dX9_init_49 : decode cX9_init 49 = .ok (.putfield 25, 3) := by decide +kernel
theorem dX9_init_52 : decode cX9_init 52 = .ok (.aload_n 0, 1) := by decide +kernel
theorem dX9_init_53 : decode cX9_init 53 = .ok (.bipush 30, 2) := by decide +kernel
theorem dX9_init_55 : decode cX9_init 55 = .ok (.newarray .int, 2) := by decide +kernel
theorem dX9_init_57 : decode cX9_init 57 = .ok (.putfield 28, 3) := by decide +kernel
theorem dX9_init_60 : decode cX9_init 60 = .ok (.aload_n 0, 1) := by decide +kernel
theorem dX9_init_61 : decode cX9_init 61 = .ok (.iconst 5, 1) := by decide +kernel
theorem dX9_init_62 : decode cX9_init 62 = .ok (.newarray .int, 2) := by decide +kernel
theorem dX9_init_64 : decode cX9_init 64 = .ok (.putfield 31, 3) := by decide +kernel
theorem dX9_init_67 : decode cX9_init 67 = .ok (.aload_n 0, 1) := by decide +kernel
theorem dX9_init_68 : decode cX9_init 68 = .ok (.iconst 5, 1) := by decide +kernel
theorem dX9_init_69 : decode cX9_init 69 = .ok (.newarray .int, 2) := by decide +kernel
theorem dX9_init_71 : decode cX9_init 71 = .ok (.putfield 34, 3) := by decide +kernel
theorem dX9_init_74 : decode cX9_init 74 = .ok (.aload_n 0, 1) := by decide +kernel
theorem dX9_init_75 : decode cX9_init 75 = .ok (.bipush 12, 2) := by decide +kernel
theorem dX9_init_77 : decode cX9_init 77 = .ok (.newarray .int, 2) := by decide +kernel
theorem dX9_init_79 : decode cX9_init 79 = .ok (.putfield 37, 3) := by decide +kernel
theorem dX9_init_82 : decode cX9_init 82 = .ok (.aload_n 0, 1) := by decide +kernel
theorem dX9_init_83 : decode cX9_init 83 = .ok (.bipush 30, 2) := by decide +kernel
theorem dX9_init_85 : decode cX9_init 85 = .ok (.newarray .int, 2) := by decide +kernel
theorem dX9_init_87 : decode cX9_init 87 = .ok (.putfield 40, 3) := by decide +kernel
theorem dX9_init_90 : decode cX9_init 90 = .ok (.aload_n 0, 1) := by decide +kernel
theorem dX9_init_91 : decode cX9_init 91 = .ok (.bipush 30, 2) := by decide +kernel
theorem dX9_init_93 : decode cX9_init 93 = .ok (.newarray .int, 2) := by decide +kernel
theorem dX9_init_95 : decode cX9_init 95 = .ok (.putfield 43, 3) := by decide +kernel
theorem dX9_init_98 : decode cX9_init 98 = .ok (.aload_n 0, 1) := by decide +kernel
theorem dX9_init_99 : decode cX9_init 99 = .ok (.bipush 10, 2) := by decide +kernel
theorem dX9_init_101 : decode cX9_init 101 = .ok (.newarray .int, 2) := by decide +kernel
theorem dX9_init_103 : decode cX9_init 103 = .ok (.putfield 46, 3) := by decide +kernel
theorem dX9_init_106 : decode cX9_init 106 = .ok (.aload_n 0, 1) := by decide +kernel
theorem dX9_init_107 : decode cX9_init 107 = .ok (.iconst 5, 1) := by decide +kernel
theorem dX9_init_108 : decode cX9_init 108 = .ok (.newarray .int, 2) := by decide +kernel
theorem dX9_init_110 : decode cX9_init 110 = .ok (.putfield 49, 3) := by decide +kernel
theorem dX9_init_113 : decode cX9_init 113 = .ok (.aload_n 0, 1) := by decide +kernel
theorem dX9_init_114 : decode cX9_init 114 = .ok (.bipush 12, 2) := by decide +kernel
theorem dX9_init_116 : decode cX9_init 116 = .ok (.newarray .int, 2) := by decide +kernel
theorem dX9_init_118 : decode cX9_init 118 = .ok (.putfield 52, 3) := by decide +kernel
theorem dX9_init_121 : decode cX9_init 121 = .ok (.aload_n 0, 1) := by decide +kernel
theorem dX9_init_122 : decode cX9_init 122 = .ok (.iconst (-1), 1) := by decide +kernel
theorem dX9_init_123 : decode cX9_init 123 = .ok (.putfield 55, 3) := by decide +kernel
theorem dX9_init_126 : decode cX9_init 126 = .ok (.aload_n 0, 1) := by decide +kernel
theorem dX9_init_127 : decode cX9_init 127 = .ok (.iconst (-1), 1) := by decide +kernel
theorem dX9_init_128 : decode cX9_init 128 = .ok (.putfield 59, 3) := by decide +kernel
theorem dX9_init_131 : decode cX9_init 131 = .ok (.return_, 1) := by decide +kernel
theorem dX9_in_0 : decode cX9_in 0 = .ok (.lload_n 0, 1) := by decide +kernel
theorem dX9_in_1 : decode cX9_in 1 = .ok (.lload_n 2, 1) := by decide +kernel
theorem dX9_in_2 : decode cX9_in 2 = .ok (.lcmp, 1) := by decide +kernel
theorem dX9_in_3 : decode cX9_in 3 = .ok (.ifCond .lt 14, 3) := by decide +kernel
theorem dX9_in_6 : decode cX9_in 6 = .ok (.lload_n 0, 1) := by decide +kernel
theorem dX9_in_7 : decode cX9_in 7 = .ok (.lload 4, 2) := by decide +kernel
theorem dX9_in_9 : decode cX9_in 9 = .ok (.lcmp, 1) := by decide +kernel
theorem dX9_in_10 : decode cX9_in 10 = .ok (.ifCond .gt 7, 3) := by decide +kernel
theorem dX9_in_13 : decode cX9_in 13 = .ok (.iconst 1, 1) := by decide +kernel
theorem dX9_in_14 : decode cX9_in 14 = .ok (.goto 4, 3) := by decide +kernel
theorem dX9_in_17 : decode cX9_in 17 = .ok (.iconst 0, 1) := by decide +kernel
theorem dX9_in_18 : decode cX9_in 18 = .ok (.ireturn, 1) := by decide +kernel
theorem dX9_letter_0 : decode cX9_letter 0 = .ok (.iload_n 1, 1) := by decide +kernel
theorem dX9_letter_1 : decode cX9_letter 1 = .ok (.i2l, 1) := by decide +kernel
theorem dX9_letter_2 : decode cX9_letter 2 = .ok (.lconst 1, 1) := by decide +kernel
theorem dX9_letter_3 : decode cX9_letter 3 = .ok (.ldc2_w 62, 3) := by decide +kernel
theorem dX9_letter_6 : decode cX9_letter 6 = .ok (.invokestatic 64, 3) := by decide +kernel
theorem dX9_letter_9 : decode cX9_letter 9 = .ok (.ifCond .ne 6, 3) := by decide +kernel
theorem dX9_letter_12 : decode cX9_letter 12 = .ok (.bipush (-102), 2) := by decide +kernel
theorem dX9_letter_14 : decode cX9_letter 14 = .ok (.ireturn, 1) := by decide +kernel
theorem dX9_letter_15 : decode cX9_letter 15 = .ok (.aload_n 0, 1) := by decide +kernel
theorem dX9_letter_16 : decode cX9_letter 16 = .ok (.getfield 68, 3) := by decide +kernel
theorem dX9_letter_19 : decode cX9_letter 19 = .ok (.bipush 22, 2) := by decide +kernel
theorem dX9_letter_21 : decode cX9_letter 21 = .ok (.if_icmp .ne 6, 3) := by decide +kernel
theorem dX9_letter_24 : decode cX9_letter 24 = .ok (.bipush (-104), 2) := by decide +kernel
theorem dX9_letter_26 : decode cX9_letter 26 = .ok (.ireturn, 1) := by decide +kernel
theorem dX9_letter_27 : decode cX9_letter 27 = .ok (.aload_n 0, 1) := by decide +kernel
theorem dX9_letter_28 : decode cX9_letter 28 = .ok (.getfield 7, 3) := by decide +kernel
theorem dX9_letter_31 : decode cX9_letter 31 = .ok (.aload_n 0, 1) := by decide +kernel
theorem dX9_letter_32 : decode cX9_letter 32 = .ok (.getfield 68, 3) := by decide +kernel
theorem dX9_letter_35 : decode cX9_letter 35 = .ok (.iload_n 1, 1) := by decide +kernel
theorem dX9_letter_36 : decode cX9_letter 36 = .ok (.iastore, 1) := by decide +kernel
theorem dX9_letter_37 : decode cX9_letter 37 = .ok (.aload_n 0, 1) := by decide +kernel
theorem dX9_letter_38 : decode cX9_letter 38 = .ok (.dup, 1) := by decide +kernel
theorem dX9_letter_39 : decode cX9_letter 39 = .ok (.getfield 68, 3) := by decide +kernel
theorem dX9_letter_42 : decode cX9_letter 42 = .ok (.iconst 1, 1) := by decide +kernel
theorem dX9_letter_43 : decode cX9_letter 43 = .ok (.iadd, 1) := by decide +kernel
theorem dX9_letter_44 : decode cX9_letter 44 = .ok (.putfield 68, 3) := by decide +kernel
theorem dX9_letter_47 : decode cX9_letter 47 = .ok (.aload_n 0, 1) := by decide +kernel
theorem dX9_letter_48 : decode cX9_letter 48 = .ok (.getfield 68, 3) := by decide +kernel
theorem dX9_letter_51 : decode cX9_letter 51 = .ok (.ireturn, 1) := by decide +kernel
theorem dX9_blank_0 : decode cX9_blank 0 = .ok (.aload_n 0, 1) := by decide +kernel
theorem dX9_blank_1 : decode cX9_blank 1 = .ok (.getfield 68, 3) := by decide +kernel
theorem dX9_blank_4 : decode cX9_blank 4 = .ok (.istore_n 1, 1) := by decide +kernel
theorem dX9_blank_5 : decode cX9_blank 5 = .ok (.aload_n 0, 1) := by decide +kernel
theorem dX9_blank_6 : decode cX9_blank 6 = .ok (.iconst 0, 1) := by decide +kernel
theorem dX9_blank_7 : decode cX9_blank 7 = .ok (.putfield 68, 3) := by decide +kernel
theorem dX9_blank_10 : decode cX9_blank 10 = .ok (.iload_n 1, 1) := by decide +kernel
theorem dX9_blank_11 : decode cX9_blank 11 = .ok (.ireturn, 1) := by decide +kernel
theorem dX9_go_0 : decode cX9_go 0 = .ok (.iload_n 1, 1) := by decide +kernel
theorem dX9_go_1 : decode cX9_go 1 = .ok (.bipush 48, 2) := by decide +kernel
theorem dX9_go_3 : decode cX9_go 3 = .ok (.isub, 1) := by decide +kernel
theorem dX9_go_4 : decode cX9_go 4 = .ok (.istore_n 2, 1) := by decide +kernel
theorem dX9_go_5 : decode cX9_go 5 = .ok (.aload_n 0, 1) := by decide +kernel
theorem dX9_go_6 : decode cX9_go 6 = .ok (.getfield 71, 3) := by decide +kernel
theorem dX9_go_9 : decode cX9_go 9 = .ok (.istore_n 3, 1) := by decide +kernel
theorem dX9_go_10 : decode cX9_go 10 = .ok (.aload_n 0, 1) := by decide +kernel
theorem dX9_go_11 : decode cX9_go 11 = .ok (.dup, 1) := by decide +kernel
theorem dX9_go_12 : decode cX9_go 12 = .ok (.getfield 71, 3) := by decide +kernel
theorem dX9_go_15 : decode cX9_go 15 = .ok (.iconst 1, 1) := by decide +kernel
theorem dX9_go_16 : decode cX9_go 16 = .ok (.iadd, 1) := by decide +kernel
theorem dX9_go_17 : decode cX9_go 17 = .ok (.putfield 71, 3) := by decide +kernel
theorem dX9_go_20 : decode cX9_go 20 = .ok (.iload_n 3, 1) := by decide +kernel
theorem dX9_go_21 : decode cX9_go 21 = .ok (.ifCond .ne 23, 3) := by decide +kernel
theorem dX9_go_24 : decode cX9_go 24 = .ok (.aload_n 0, 1) := by decide +kernel
theorem dX9_go_25 : decode cX9_go 25 = .ok (.getfield 13, 3) := by decide +kernel
theorem dX9_go_28 : decode cX9_go 28 = .ok (.aload_n 0, 1) := by decide +kernel
theorem dX9_go_29 : decode cX9_go 29 = .ok (.getfield 74, 3) := by decide +kernel
theorem dX9_go_32 : decode cX9_go 32 = .ok (.iload_n 2, 1) := by decide +kernel
theorem dX9_go_33 : decode cX9_go 33 = .ok (.iastore, 1) := by decide +kernel
theorem dX9_go_34 : decode cX9_go 34 = .ok (.iload_n 2, 1) := by decide +kernel
theorem dX9_go_35 : decode cX9_go 35 = .ok (.i2l, 1) := by decide +kernel
theorem dX9_go_36 : decode cX9_go 36 = .ok (.lconst 1, 1) := by decide +kernel
theorem dX9_go_37 : decode cX9_go 37 = .ok (.ldc2_w 77, 3) := by decide +kernel
theorem dX9_go_40 : decode cX9_go 40 = .ok (.invokestatic 64, 3) := by decide +kernel
theorem dX9_go_43 : decode cX9_go 43 = .ok (.ireturn, 1) := by decide +kernel
theorem dX9_go_44 : decode cX9_go 44 = .ok (.iload_n 3, 1) := by decide +kernel
theorem dX9_go_45 : decode cX9_go 45 = .ok (.iconst 1, 1) := by decide +kernel
theorem dX9_go_46 : decode cX9_go 46 = .ok (.if_icmp .ne 33, 3) := by decide +kernel
theorem dX9_go_49 : decode cX9_go 49 = .ok (.aload_n 0, 1) := by decide +kernel
theorem dX9_go_50 : decode cX9_go 50 = .ok (.getfield 16, 3) := by decide +kernel
theorem dX9_go_53 : decode cX9_go 53 = .ok (.aload_n 0, 1) := by decide +kernel
theorem dX9_go_54 : decode cX9_go 54 = .ok (.getfield 74, 3) := by decide +kernel
theorem dX9_go_57 : decode cX9_go 57 = .ok (.iload_n 2, 1) := by decide +kernel
theorem dX9_go_58 : decode cX9_go 58 = .ok (.iastore, 1) := by decide +kernel
theorem dX9_go_59 : decode cX9_go 59 = .ok (.aload_n 0, 1) := by decide +kernel
theorem dX9_go_60 : decode cX9_go 60 = .ok (.dup, 1) := by decide +kernel
theorem dX9_go_61 : decode cX9_go 61 = .ok (.getfield 74, 3) := by decide +kernel
theorem dX9_go_64 : decode cX9_go 64 = .ok (.iconst 1, 1) := by decide +kernel
theorem dX9_go_65 : decode cX9_go 65 = .ok (.iadd, 1) := by decide +kernel
theorem dX9_go_66 : decode cX9_go 66 = .ok (.putfield 74, 3) := by decide +kernel
theorem dX9_go_69 : decode cX9_go 69 = .ok (.iload_n 2, 1) := by decide +kernel
theorem dX9_go_70 : decode cX9_go 70 = .ok (.i2l, 1) := by decide +kernel
theorem dX9_go_71 : decode cX9_go 71 = .ok (.lconst 1, 1) := by decide +kernel
theorem dX9_go_72 : decode cX9_go 72 = .ok (.ldc2_w 77, 3) := by decide +kernel
theorem dX9_go_75 : decode cX9_go 75 = .ok (.invokestatic 64, 3) := by decide +kernel
theorem dX9_go_78 : decode cX9_go 78 = .ok (.ireturn, 1) := by decide +kernel
theorem dX9_go_79 : decode cX9_go 79 = .ok (.iload_n 3, 1) := by decide +kernel
theorem dX9_go_80 : decode cX9_go 80 = .ok (.iconst 2, 1) := by decide +kernel
theorem dX9_go_81 : decode cX9_go 81 = .ok (.if_icmp .ne 61, 3) := by decide +kernel
theorem dX9_go_84 : decode cX9_go 84 = .ok (.aload_n 0, 1) := by decide +kernel
theorem dX9_go_85 : decode cX9_go 85 = .ok (.iload_n 1, 1) := by decide +kernel
theorem dX9_go_86 : decode cX9_go 86 = .ok (.bipush 44, 2) := by decide +kernel
theorem dX9_go_88 : decode cX9_go 88 = .ok (.if_icmp .ne 7, 3) := by decide +kernel
theorem dX9_go_91 : decode cX9_go 91 = .ok (.iconst 0, 1) := by decide +kernel
theorem dX9_go_92 : decode cX9_go 92 = .ok (.goto 4, 3) := by decide +kernel
theorem dX9_go_95 : decode cX9_go 95 = .ok (.iconst 3, 1) := by decide +kernel
theorem dX9_go_96 : decode cX9_go 96 = .ok (.putfield 71, 3) := by decide +kernel
theorem dX9_go_99 : decode cX9_go 99 = .ok (.iload_n 1, 1) := by decide +kernel
theorem dX9_go_100 : decode cX9_go 100 = .ok (.bipush 44, 2) := by decide +kernel
theorem dX9_go_102 : decode cX9_go 102 = .ok (.if_icmp .ne 20, 3) := by decide +kernel
theorem dX9_go_105 : decode cX9_go 105 = .ok (.aload_n 0, 1) := by decide +kernel
theorem dX9_go_106 : decode cX9_go 106 = .ok (.getfield 74, 3) := by decide +kernel
theorem dX9_go_109 : decode cX9_go 109 = .ok (.bipush 6, 2) := by decide +kernel
theorem dX9_go_111 : decode cX9_go 111 = .ok (.if_icmp .ge 7, 3) := by decide +kernel
theorem dX9_go_114 : decode cX9_go 114 = .ok (.iconst 1, 1) := by decide +kernel
theorem dX9_go_115 : decode cX9_go 115 = .ok (.goto 26, 3) := by decide +kernel
theorem dX9_go_118 : decode cX9_go 118 = .ok (.iconst 0, 1) := by decide +kernel
theorem dX9_go_119 : decode cX9_go 119 = .ok (.goto 22, 3) := by decide +kernel
theorem dX9_go_122 : decode cX9_go 122 = .ok (.iload_n 1, 1) := by decide +kernel
theorem dX9_go_123 : decode cX9_go 123 = .ok (.bipush 59, 2) := by decide +kernel
theorem dX9_go_125 : decode cX9_go 125 = .ok (.if_icmp .ne 15, 3) := by decide +kernel
theorem dX9_go_128 : decode cX9_go 128 = .ok (.aload_n 0, 1) := by decide +kernel
theorem dX9_go_129 : decode cX9_go 129 = .ok (.getfield 74, 3) := by decide +kernel
theorem dX9_go_132 : decode cX9_go 132 = .ok (.iconst 1, 1) := by decide +kernel
theorem dX9_go_133 : decode cX9_go 133 = .ok (.if_icmp .le 7, 3) := by decide +kernel
theorem dX9_go_136 : decode cX9_go 136 = .ok (.iconst 1, 1) := by decide +kernel
theorem dX9_go_137 : decode cX9_go 137 = .ok (.goto 4, 3) := by decide +kernel
theorem dX9_go_140 : decode cX9_go 140 = .ok (.iconst 0, 1) := by decide +kernel
theorem dX9_go_141 : decode cX9_go 141 = .ok (.ireturn, 1) := by decide +kernel
theorem dX9_go_142 : decode cX9_go 142 = .ok (.aload_n 0, 1) := by decide +kernel
theorem dX9_go_143 : decode cX9_go 143 = .ok (.iload_n 2, 1) := by decide +kernel
theorem dX9_go_144 : decode cX9_go 144 = .ok (.putfield 79, 3) := by decide +kernel
theorem dX9_go_147 : decode cX9_go 147 = .ok (.iload_n 3, 1) := by decide +kernel
theorem dX9_go_148 : decode cX9_go 148 = .ok (.iconst 3, 1) := by decide +kernel
theorem dX9_go_149 : decode cX9_go 149 = .ok (.if_icmp .ne 19, 3) := by decide +kernel
theorem dX9_go_152 : decode cX9_go 152 = .ok (.iload_n 2, 1) := by decide +kernel
theorem dX9_go_153 : decode cX9_go 153 = .ok (.i2l, 1) := by decide +kernel
theorem dX9_go_154 : decode cX9_go 154 = .ok (.lconst 0, 1) := by decide +kernel
theorem dX9_go_155 : decode cX9_go 155 = .ok (.ldc2_w 77, 3) := by decide +kernel
theorem dX9_go_158 : decode cX9_go 158 = .ok (.invokestatic 64, 3) := by decide +kernel
theorem dX9_go_161 : decode cX9_go 161 = .ok (.ifCond .eq 7, 3) := by decide +kernel
theorem dX9_go_164 : decode cX9_go 164 = .ok (.iconst 1, 1) := by decide +kernel
theorem dX9_go_165 : decode cX9_go 165 = .ok (.goto 4, 3) := by decide +kernel
theorem dX9_go_168 : decode cX9_go 168 = .ok (.iconst 0, 1) := by decide +kernel
theorem dX9_go_169 : decode cX9_go 169 = .ok (.ireturn, 1) := by decide +kernel
theorem dX9_faultOf_0 : decode cX9_faultOf 0 = .ok (.aload_n 0, 1) := by decide +kernel
theorem dX9_faultOf_1 : decode cX9_faultOf 1 = .ok (.iconst 0, 1) := by decide +kernel
theorem dX9_faultOf_2 : decode cX9_faultOf 2 = .ok (.putfield 74, 3) := by decide +kernel
theorem dX9_faultOf_5 : decode cX9_faultOf 5 = .ok (.aload_n 0, 1) := by decide +kernel
theorem dX9_faultOf_6 : decode cX9_faultOf 6 = .ok (.iconst 0, 1) := by decide +kernel
theorem dX9_faultOf_7 : decode cX9_faultOf 7 = .ok (.putfield 71, 3) := by decide +kernel
theorem dX9_faultOf_10 : decode cX9_faultOf 10 = .ok (.iconst 0, 1) := by decide +kernel
theorem dX9_faultOf_11 : decode cX9_faultOf 11 = .ok (.istore_n 1, 1) := by decide +kernel
theorem dX9_faultOf_12 : decode cX9_faultOf 12 = .ok (.iload_n 1, 1) := by decide +kernel
theorem dX9_faultOf_13 : decode cX9_faultOf 13 = .ok (.aload_n 0, 1) := by decide +kernel
theorem dX9_faultOf_14 : decode cX9_faultOf 14 = .ok (.getfield 68, 3) := by decide +kernel
theorem dX9_faultOf_17 : decode cX9_faultOf 17 = .ok (.if_icmp .ge 22, 3) := by decide +kernel
theorem dX9_faultOf_20 : decode cX9_faultOf 20 = .ok (.aload_n 0, 1) := by decide +kernel
theorem dX9_faultOf_21 : decode cX9_faultOf 21 = .ok (.aload_n 0, 1) := by decide +kernel
theorem dX9_faultOf_22 : decode cX9_faultOf 22 = .ok (.getfield 7, 3) := by decide +kernel
theorem dX9_faultOf_25 : decode cX9_faultOf 25 = .ok (.iload_n 1, 1) := by decide +kernel
theorem dX9_faultOf_26 : decode cX9_faultOf 26 = .ok (.iaload, 1) := by decide +kernel
theorem dX9_faultOf_27 : decode cX9_faultOf 27 = .ok (.invokevirtual 82, 3) := by decide +kernel
theorem dX9_faultOf_30 : decode cX9_faultOf 30 = .ok (.ifCond .eq 9, 3) := by decide +kernel
theorem dX9_faultOf_33 : decode cX9_faultOf 33 = .ok (.iinc 1 1, 3) := by decide +kernel
theorem dX9_faultOf_36 : decode cX9_faultOf 36 = .ok (.goto (-24), 3) := by decide +kernel
theorem dX9_faultOf_39 : decode cX9_faultOf 39 = .ok (.iload_n 1, 1) := by decide +kernel
theorem dX9_faultOf_40 : decode cX9_faultOf 40 = .ok (.ireturn, 1) := by decide +kernel
theorem dX9_fault_0 : decode cX9_fault 0 = .ok (.aload_n 0, 1) := by decide +kernel
theorem dX9_fault_1 : decode cX9_fault 1 = .ok (.invokevirtual 86, 3) := by decide +kernel
theorem dX9_fault_4 : decode cX9_fault 4 = .ok (.ireturn, 1) := by decide +kernel
theorem dX9_card_0 : decode cX9_card 0 = .ok (.aload_n 0, 1) := by decide +kernel
theorem dX9_card_1 : decode cX9_card 1 = .ok (.invokevirtual 86, 3) := by decide +kernel
theorem dX9_card_4 : decode cX9_card 4 = .ok (.aload_n 0, 1) := by decide +kernel
theorem dX9_card_5 : decode cX9_card 5 = .ok (.getfield 68, 3) := by decide +kernel
theorem dX9_card_8 : decode cX9_card 8 = .ok (.if_icmp .lt 11, 3) := by decide +kernel
theorem dX9_card_11 : decode cX9_card 11 = .ok (.aload_n 0, 1) := by decide +kernel
theorem dX9_card_12 : decode cX9_card 12 = .ok (.getfield 71, 3) := by decide +kernel
theorem dX9_card_15 : decode cX9_card 15 = .ok (.iconst 4, 1) := by decide +kernel
theorem dX9_card_16 : decode cX9_card 16 = .ok (.if_icmp .eq 6, 3) := by decide +kernel
theorem dX9_card_19 : decode cX9_card 19 = .ok (.bipush (-103), 2) := by decide +kernel
theorem dX9_card_21 : decode cX9_card 21 = .ok (.ireturn, 1) := by decide +kernel
theorem dX9_card_22 : decode cX9_card 22 = .ok (.iconst 0, 1) := by decide +kernel
theorem dX9_card_23 : decode cX9_card 23 = .ok (.istore_n 1, 1) := by decide +kernel
theorem dX9_card_24 : decode cX9_card 24 = .ok (.iload_n 1, 1) := by decide +kernel
theorem dX9_card_25 : decode cX9_card 25 = .ok (.bipush 6, 2) := by decide +kernel
theorem dX9_card_27 : decode cX9_card 27 = .ok (.if_icmp .ge 33, 3) := by decide +kernel
theorem dX9_card_30 : decode cX9_card 30 = .ok (.aload_n 0, 1) := by decide +kernel
theorem dX9_card_31 : decode cX9_card 31 = .ok (.getfield 19, 3) := by decide +kernel
theorem dX9_card_34 : decode cX9_card 34 = .ok (.iload_n 1, 1) := by decide +kernel
theorem dX9_card_35 : decode cX9_card 35 = .ok (.aload_n 0, 1) := by decide +kernel
theorem dX9_card_36 : decode cX9_card 36 = .ok (.getfield 13, 3) := by decide +kernel
theorem dX9_card_39 : decode cX9_card 39 = .ok (.iload_n 1, 1) := by decide +kernel
theorem dX9_card_40 : decode cX9_card 40 = .ok (.iaload, 1) := by decide +kernel
theorem dX9_card_41 : decode cX9_card 41 = .ok (.iastore, 1) := by decide +kernel
theorem dX9_card_42 : decode cX9_card 42 = .ok (.aload_n 0, 1) := by decide +kernel
theorem dX9_card_43 : decode cX9_card 43 = .ok (.getfield 22, 3) := by decide +kernel
theorem dX9_card_46 : decode cX9_card 46 = .ok (.iload_n 1, 1) := by decide +kernel
theorem dX9_card_47 : decode cX9_card 47 = .ok (.aload_n 0, 1) := by decide +kernel
theorem dX9_card_48 : decode cX9_card 48 = .ok (.getfield 16, 3) := by decide +kernel
theorem dX9_card_51 : decode cX9_card 51 = .ok (.iload_n 1, 1) := by decide +kernel
theorem dX9_card_52 : decode cX9_card 52 = .ok (.iaload, 1) := by decide +kernel
theorem dX9_card_53 : decode cX9_card 53 = .ok (.iastore, 1) := by decide +kernel
theorem dX9_card_54 : decode cX9_card 54 = .ok (.iinc 1 1, 3) := by decide +kernel
theorem dX9_card_57 : decode cX9_card 57 = .ok (.goto (-33), 3) := by decide +kernel
theorem dX9_card_60 : decode cX9_card 60 = .ok (.aload_n 0, 1) := by decide +kernel
theorem dX9_card_61 : decode cX9_card 61 = .ok (.aload_n 0, 1) := by decide +kernel
theorem dX9_card_62 : decode cX9_card 62 = .ok (.getfield 74, 3) := by decide +kernel
theorem dX9_card_65 : decode cX9_card 65 = .ok (.putfield 90, 3) := by decide +kernel
theorem dX9_card_68 : decode cX9_card 68 = .ok (.aload_n 0, 1) := by decide +kernel
theorem dX9_card_69 : decode cX9_card 69 = .ok (.aload_n 0, 1) := by decide +kernel
theorem dX9_card_70 : decode cX9_card 70 = .ok (.getfield 79, 3) := by decide +kernel
theorem dX9_card_73 : decode cX9_card 73 = .ok (.putfield 93, 3) := by decide +kernel
theorem dX9_card_76 : decode cX9_card 76 = .ok (.aload_n 0, 1) := by decide +kernel
theorem dX9_card_77 : decode cX9_card 77 = .ok (.iconst 0, 1) := by decide +kernel
theorem dX9_card_78 : decode cX9_card 78 = .ok (.putfield 96, 3) := by decide +kernel
theorem dX9_card_81 : decode cX9_card 81 = .ok (.aload_n 0, 1) := by decide +kernel
theorem dX9_card_82 : decode cX9_card 82 = .ok (.iconst 0, 1) := by decide +kernel
theorem dX9_card_83 : decode cX9_card 83 = .ok (.putfield 99, 3) := by decide +kernel
theorem dX9_card_86 : decode cX9_card 86 = .ok (.aload_n 0, 1) := by decide +kernel
theorem dX9_card_87 : decode cX9_card 87 = .ok (.iconst (-1), 1) := by decide +kernel
theorem dX9_card_88 : decode cX9_card 88 = .ok (.putfield 59, 3) := by decide +kernel
theorem dX9_card_91 : decode cX9_card 91 = .ok (.aload_n 0, 1) := by decide +kernel
theorem dX9_card_92 : decode cX9_card 92 = .ok (.iconst 0, 1) := by decide +kernel
theorem dX9_card_93 : decode cX9_card 93 = .ok (.putfield 102, 3) := by decide +kernel
theorem dX9_card_96 : decode cX9_card 96 = .ok (.aload_n 0, 1) := by decide +kernel
theorem dX9_card_97 : decode cX9_card 97 = .ok (.dup, 1) := by decide +kernel
theorem dX9_card_98 : decode cX9_card 98 = .ok (.getfield 105, 3) := by decide +kernel
theorem dX9_card_101 : decode cX9_card 101 = .ok (.iconst 1, 1) := by decide +kernel
theorem dX9_card_102 : decode cX9_card 102 = .ok (.iadd, 1) := by decide +kernel
theorem dX9_card_103 : decode cX9_card 103 = .ok (.putfield 105, 3) := by decide +kernel
theorem dX9_card_106 : decode cX9_card 106 = .ok (.aload_n 0, 1) := by decide +kernel
theorem dX9_card_107 : decode cX9_card 107 = .ok (.iconst 0, 1) := by decide +kernel
theorem dX9_card_108 : decode cX9_card 108 = .ok (.putfield 68, 3) := by decide +kernel
theorem dX9_card_111 : decode cX9_card 111 = .ok (.aload_n 0, 1) := by decide +kernel
theorem dX9_card_112 : decode cX9_card 112 = .ok (.getfield 90, 3) := by decide +kernel
theorem dX9_card_115 : decode cX9_card 115 = .ok (.ireturn, 1) := by decide +kernel
theorem dX9_lacks_0 : decode cX9_lacks 0 = .ok (.aload_n 0, 1) := by decide +kernel
theorem dX9_lacks_1 : decode cX9_lacks 1 = .ok (.getfield 90, 3) := by decide +kernel
theorem dX9_lacks_4 : decode cX9_lacks 4 = .ok (.ifCond .ne 7, 3) := by decide +kernel
theorem dX9_lacks_7 : decode cX9_lacks 7 = .ok (.iconst 1, 1) := by decide +kernel
theorem dX9_lacks_8 : decode cX9_lacks 8 = .ok (.goto 4, 3) := by decide +kernel
theorem dX9_lacks_11 : decode cX9_lacks 11 = .ok (.iconst 0, 1) := by decide +kernel
theorem dX9_lacks_12 : decode cX9_lacks 12 = .ok (.ireturn, 1) := by decide +kernel
theorem dX9_isDish_0 : decode cX9_isDish 0 = .ok (.iload_n 1, 1) := by decide +kernel
theorem dX9_isDish_1 : decode cX9_isDish 1 = .ok (.i2l, 1) := by decide +kernel
theorem dX9_isDish_2 : decode cX9_isDish 2 = .ok (.lconst 0, 1) := by decide +kernel
theorem dX9_isDish_3 : decode cX9_isDish 3 = .ok (.aload_n 0, 1) := by decide +kernel
theorem dX9_isDish_4 : decode cX9_isDish 4 = .ok (.getfield 90, 3) := by decide +kernel
theorem dX9_isDish_7 : decode cX9_isDish 7 = .ok (.iconst 1, 1) := by decide +kernel
theorem dX9_isDish_8 : decode cX9_isDish 8 = .ok (.isub, 1) := by decide +kernel
theorem dX9_isDish_9 : decode cX9_isDish 9 = .ok (.i2l, 1) := by decide +kernel
theorem dX9_isDish_10 : decode cX9_isDish 10 = .ok (.invokestatic 64, 3) := by decide +kernel
theorem dX9_isDish_13 : decode cX9_isDish 13 = .ok (.ireturn, 1) := by decide +kernel
theorem dX9_isGuest_0 : decode cX9_isGuest 0 = .ok (.iload_n 1, 1) := by decide +kernel
theorem dX9_isGuest_1 : decode cX9_isGuest 1 = .ok (.i2l, 1) := by decide +kernel
theorem dX9_isGuest_2 : decode cX9_isGuest 2 = .ok (.lconst 0, 1) := by decide +kernel
theorem dX9_isGuest_3 : decode cX9_isGuest 3 = .ok (.aload_n 0, 1) := by decide +kernel
theorem dX9_isGuest_4 : decode cX9_isGuest 4 = .ok (.getfield 96, 3) := by decide +kernel
theorem dX9_isGuest_7 : decode cX9_isGuest 7 = .ok (.iconst 1, 1) := by decide +kernel
theorem dX9_isGuest_8 : decode cX9_isGuest 8 = .ok (.isub, 1) := by decide +kernel
theorem dX9_isGuest_9 : decode cX9_isGuest 9 = .ok (.i2l, 1) := by decide +kernel
theorem dX9_isGuest_10 : decode cX9_isGuest 10 = .ok (.invokestatic 64, 3) := by decide +kernel
theorem dX9_isGuest_13 : decode cX9_isGuest 13 = .ok (.ireturn, 1) := by decide +kernel
theorem dX9_haveOf_0 : decode cX9_haveOf 0 = .ok (.iconst 0, 1) := by decide +kernel
theorem dX9_haveOf_1 : decode cX9_haveOf 1 = .ok (.istore_n 3, 1) := by decide +kernel
theorem dX9_haveOf_2 : decode cX9_haveOf 2 = .ok (.iconst 0, 1) := by decide +kernel
theorem dX9_haveOf_3 : decode cX9_haveOf 3 = .ok (.istore 4, 2) := by decide +kernel
theorem dX9_haveOf_5 : decode cX9_haveOf 5 = .ok (.iload 4, 2) := by decide +kernel
theorem dX9_haveOf_7 : decode cX9_haveOf 7 = .ok (.aload_n 0, 1) := by decide +kernel
theorem dX9_haveOf_8 : decode cX9_haveOf 8 = .ok (.getfield 96, 3) := by decide +kernel
theorem dX9_haveOf_11 : decode cX9_haveOf 11 = .ok (.if_icmp .ge 25, 3) := by decide +kernel
theorem dX9_haveOf_14 : decode cX9_haveOf 14 = .ok (.iload_n 3, 1) := by decide +kernel
theorem dX9_haveOf_15 : decode cX9_haveOf 15 = .ok (.aload_n 1, 1) := by decide +kernel
theorem dX9_haveOf_16 : decode cX9_haveOf 16 = .ok (.iload 4, 2) := by decide +kernel
theorem dX9_haveOf_18 : decode cX9_haveOf 18 = .ok (.iaload, 1) := by decide +kernel
theorem dX9_haveOf_19 : decode cX9_haveOf 19 = .ok (.iload_n 2, 1) := by decide +kernel
theorem dX9_haveOf_20 : decode cX9_haveOf 20 = .ok (.if_icmp .ne 7, 3) := by decide +kernel
theorem dX9_haveOf_23 : decode cX9_haveOf 23 = .ok (.iconst 1, 1) := by decide +kernel
theorem dX9_haveOf_24 : decode cX9_haveOf 24 = .ok (.goto 4, 3) := by decide +kernel
theorem dX9_haveOf_27 : decode cX9_haveOf 27 = .ok (.iconst 0, 1) := by decide +kernel
theorem dX9_haveOf_28 : decode cX9_haveOf 28 = .ok (.iadd, 1) := by decide +kernel
theorem dX9_haveOf_29 : decode cX9_haveOf 29 = .ok (.istore_n 3, 1) := by decide +kernel
theorem dX9_haveOf_30 : decode cX9_haveOf 30 = .ok (.iinc 4 1, 3) := by decide +kernel
theorem dX9_haveOf_33 : decode cX9_haveOf 33 = .ok (.goto (-28), 3) := by decide +kernel
theorem dX9_haveOf_36 : decode cX9_haveOf 36 = .ok (.iload_n 3, 1) := by decide +kernel
theorem dX9_haveOf_37 : decode cX9_haveOf 37 = .ok (.ireturn, 1) := by decide +kernel
theorem dX9_tellDish_0 : decode cX9_tellDish 0 = .ok (.iload_n 2, 1) := by decide +kernel
theorem dX9_tellDish_1 : decode cX9_tellDish 1 = .ok (.tableswitch 82 0 3 #[31, 48, 55, 65], 31) := by decide +kernel
theorem dX9_tellDish_32 : decode cX9_tellDish 32 = .ok (.aload_n 0, 1) := by decide +kernel
theorem dX9_tellDish_33 : decode cX9_tellDish 33 = .ok (.getfield 19, 3) := by decide +kernel
theorem dX9_tellDish_36 : decode cX9_tellDish 36 = .ok (.iload_n 1, 1) := by decide +kernel
theorem dX9_tellDish_37 : decode cX9_tellDish 37 = .ok (.iaload, 1) := by decide +kernel
theorem dX9_tellDish_38 : decode cX9_tellDish 38 = .ok (.aload_n 0, 1) := by decide +kernel
theorem dX9_tellDish_39 : decode cX9_tellDish 39 = .ok (.aload_n 0, 1) := by decide +kernel
theorem dX9_tellDish_40 : decode cX9_tellDish 40 = .ok (.getfield 31, 3) := by decide +kernel
theorem dX9_tellDish_43 : decode cX9_tellDish 43 = .ok (.iload_n 1, 1) := by decide +kernel
theorem dX9_tellDish_44 : decode cX9_tellDish 44 = .ok (.invokevirtual 108, 3) := by decide +kernel
theorem dX9_tellDish_47 : decode cX9_tellDish 47 = .ok (.isub, 1) := by decide +kernel
theorem dX9_tellDish_48 : decode cX9_tellDish 48 = .ok (.ireturn, 1) := by decide +kernel
theorem dX9_tellDish_49 : decode cX9_tellDish 49 = .ok (.aload_n 0, 1) := by decide +kernel
theorem dX9_tellDish_50 : decode cX9_tellDish 50 = .ok (.getfield 22, 3) := by decide +kernel
theorem dX9_tellDish_53 : decode cX9_tellDish 53 = .ok (.iload_n 1, 1) := by decide +kernel
theorem dX9_tellDish_54 : decode cX9_tellDish 54 = .ok (.iaload, 1) := by decide +kernel
theorem dX9_tellDish_55 : decode cX9_tellDish 55 = .ok (.ireturn, 1) := by decide +kernel
theorem dX9_tellDish_56 : decode cX9_tellDish 56 = .ok (.aload_n 0, 1) := by decide +kernel
theorem dX9_tellDish_57 : decode cX9_tellDish 57 = .ok (.aload_n 0, 1) := by decide +kernel
theorem dX9_tellDish_58 : decode cX9_tellDish 58 = .ok (.getfield 31, 3) := by decide +kernel
theorem dX9_tellDish_61 : decode cX9_tellDish 61 = .ok (.iload_n 1, 1) := by decide +kernel
theorem dX9_tellDish_62 : decode cX9_tellDish 62 = .ok (.invokevirtual 108, 3) := by decide +kernel
theorem dX9_tellDish_65 : decode cX9_tellDish 65 = .ok (.ireturn, 1) := by decide +kernel
theorem dX9_tellDish_66 : decode cX9_tellDish 66 = .ok (.iload_n 1, 1) := by decide +kernel
theorem dX9_tellDish_67 : decode cX9_tellDish 67 = .ok (.aload_n 0, 1) := by decide +kernel
theorem dX9_tellDish_68 : decode cX9_tellDish 68 = .ok (.getfield 59, 3) := by decide +kernel
theorem dX9_tellDish_71 : decode cX9_tellDish 71 = .ok (.if_icmp .ne 10, 3) := by decide +kernel
theorem dX9_tellDish_74 : decode cX9_tellDish 74 = .ok (.aload_n 0, 1) := by decide +kernel
theorem dX9_tellDish_75 : decode cX9_tellDish 75 = .ok (.getfield 102, 3) := by decide +kernel
theorem dX9_tellDish_78 : decode cX9_tellDish 78 = .ok (.goto 4, 3) := by decide +kernel
theorem dX9_tellDish_81 : decode cX9_tellDish 81 = .ok (.iconst 0, 1) := by decide +kernel
theorem dX9_tellDish_82 : decode cX9_tellDish 82 = .ok (.ireturn, 1) := by decide +kernel
theorem dX9_tellDish_83 : decode cX9_tellDish 83 = .ok (.bipush (-102), 2) := by decide +kernel
theorem dX9_tellDish_85 : decode cX9_tellDish 85 = .ok (.ireturn, 1) := by decide +kernel
theorem dX9_dish_0 : decode cX9_dish 0 = .ok (.aload_n 0, 1) := by decide +kernel
theorem dX9_dish_1 : decode cX9_dish 1 = .ok (.iload_n 1, 1) := by decide +kernel
theorem dX9_dish_2 : decode cX9_dish 2 = .ok (.invokevirtual 112, 3) := by decide +kernel
theorem dX9_dish_5 : decode cX9_dish 5 = .ok (.ifCond .eq 12, 3) := by decide +kernel
theorem dX9_dish_8 : decode cX9_dish 8 = .ok (.aload_n 0, 1) := by decide +kernel
theorem dX9_dish_9 : decode cX9_dish 9 = .ok (.iload_n 1, 1) := by decide +kernel
theorem dX9_dish_10 : decode cX9_dish 10 = .ok (.iload_n 2, 1) := by decide +kernel
theorem dX9_dish_11 : decode cX9_dish 11 = .ok (.invokevirtual 115, 3) := by decide +kernel
theorem dX9_dish_14 : decode cX9_dish 14 = .ok (.goto 5, 3) := by decide +kernel
theorem dX9_dish_17 : decode cX9_dish 17 = .ok (.bipush (-101), 2) := by decide +kernel
theorem dX9_dish_19 : decode cX9_dish 19 = .ok (.ireturn, 1) := by decide +kernel
theorem dX9_guest_0 : decode cX9_guest 0 = .ok (.iload_n 1, 1) := by decide +kernel
theorem dX9_guest_1 : decode cX9_guest 1 = .ok (.i2l, 1) := by decide +kernel
theorem dX9_guest_2 : decode cX9_guest 2 = .ok (.lconst 0, 1) := by decide +kernel
theorem dX9_guest_3 : decode cX9_guest 3 = .ok (.ldc2_w 119, 3) := by decide +kernel
theorem dX9_guest_6 : decode cX9_guest 6 = .ok (.invokestatic 64, 3) := by decide +kernel
theorem dX9_guest_9 : decode cX9_guest 9 = .ok (.ifCond .eq 15, 3) := by decide +kernel
theorem dX9_guest_12 : decode cX9_guest 12 = .ok (.iload_n 2, 1) := by decide +kernel
theorem dX9_guest_13 : decode cX9_guest 13 = .ok (.i2l, 1) := by decide +kernel
theorem dX9_guest_14 : decode cX9_guest 14 = .ok (.lconst 1, 1) := by decide +kernel
theorem dX9_guest_15 : decode cX9_guest 15 = .ok (.ldc2_w 77, 3) := by decide +kernel
theorem dX9_guest_18 : decode cX9_guest 18 = .ok (.invokestatic 64, 3) := by decide +kernel
theorem dX9_guest_21 : decode cX9_guest 21 = .ok (.ifCond .ne 6, 3) := by decide +kernel
theorem dX9_guest_24 : decode cX9_guest 24 = .ok (.bipush (-102), 2) := by decide +kernel
theorem dX9_guest_26 : decode cX9_guest 26 = .ok (.ireturn, 1) := by decide +kernel
theorem dX9_guest_27 : decode cX9_guest 27 = .ok (.aload_n 0, 1) := by decide +kernel
theorem dX9_guest_28 : decode cX9_guest 28 = .ok (.invokevirtual 121, 3) := by decide +kernel
theorem dX9_guest_31 : decode cX9_guest 31 = .ok (.ifCond .eq 6, 3) := by decide +kernel
theorem dX9_guest_34 : decode cX9_guest 34 = .ok (.bipush (-103), 2) := by decide +kernel
theorem dX9_guest_36 : decode cX9_guest 36 = .ok (.ireturn, 1) := by decide +kernel
theorem dX9_guest_37 : decode cX9_guest 37 = .ok (.aload_n 0, 1) := by decide +kernel
theorem dX9_guest_38 : decode cX9_guest 38 = .ok (.getfield 96, 3) := by decide +kernel
theorem dX9_guest_41 : decode cX9_guest 41 = .ok (.iconst 5, 1) := by decide +kernel
theorem dX9_guest_42 : decode cX9_guest 42 = .ok (.if_icmp .ne 6, 3) := by decide +kernel
theorem dX9_guest_45 : decode cX9_guest 45 = .ok (.bipush (-104), 2) := by decide +kernel
theorem dX9_guest_47 : decode cX9_guest 47 = .ok (.ireturn, 1) := by decide +kernel
theorem dX9_guest_48 : decode cX9_guest 48 = .ok (.aload_n 0, 1) := by decide +kernel
theorem dX9_guest_49 : decode cX9_guest 49 = .ok (.getfield 25, 3) := by decide +kernel
theorem dX9_guest_52 : decode cX9_guest 52 = .ok (.iconst 2, 1) := by decide +kernel
theorem dX9_guest_53 : decode cX9_guest 53 = .ok (.aload_n 0, 1) := by decide +kernel
theorem dX9_guest_54 : decode cX9_guest 54 = .ok (.getfield 96, 3) := by decide +kernel
theorem dX9_guest_57 : decode cX9_guest 57 = .ok (.imul, 1) := by decide +kernel
theorem dX9_guest_58 : decode cX9_guest 58 = .ok (.iload_n 1, 1) := by decide +kernel
theorem dX9_guest_59 : decode cX9_guest 59 = .ok (.iastore, 1) := by decide +kernel
theorem dX9_guest_60 : decode cX9_guest 60 = .ok (.aload_n 0, 1) := by decide +kernel
theorem dX9_guest_61 : decode cX9_guest 61 = .ok (.getfield 25, 3) := by decide +kernel
theorem dX9_guest_64 : decode cX9_guest 64 = .ok (.iconst 2, 1) := by decide +kernel
theorem dX9_guest_65 : decode cX9_guest 65 = .ok (.aload_n 0, 1) := by decide +kernel
theorem dX9_guest_66 : decode cX9_guest 66 = .ok (.getfield 96, 3) := by decide +kernel
theorem dX9_guest_69 : decode cX9_guest 69 = .ok (.imul, 1) := by decide +kernel
theorem dX9_guest_70 : decode cX9_guest 70 = .ok (.iconst 1, 1) := by decide +kernel
theorem dX9_guest_71 : decode cX9_guest 71 = .ok (.iadd, 1) := by decide +kernel
theorem dX9_guest_72 : decode cX9_guest 72 = .ok (.iload_n 2, 1) := by decide +kernel
theorem dX9_guest_73 : decode cX9_guest 73 = .ok (.iastore, 1) := by decide +kernel
theorem dX9_guest_74 : decode cX9_guest 74 = .ok (.aload_n 0, 1) := by decide +kernel
theorem dX9_guest_75 : decode cX9_guest 75 = .ok (.getfield 31, 3) := by decide +kernel
theorem dX9_guest_78 : decode cX9_guest 78 = .ok (.aload_n 0, 1) := by decide +kernel
theorem dX9_guest_79 : decode cX9_guest 79 = .ok (.getfield 96, 3) := by decide +kernel
theorem dX9_guest_82 : decode cX9_guest 82 = .ok (.bipush (-2), 2) := by decide +kernel
theorem dX9_guest_84 : decode cX9_guest 84 = .ok (.iastore, 1) := by decide +kernel
theorem dX9_guest_85 : decode cX9_guest 85 = .ok (.iconst 0, 1) := by decide +kernel
theorem dX9_guest_86 : decode cX9_guest 86 = .ok (.istore_n 3, 1) := by decide +kernel
theorem dX9_guest_87 : decode cX9_guest 87 = .ok (.iload_n 3, 1) := by decide +kernel
theorem dX9_guest_88 : decode cX9_guest 88 = .ok (.bipush 6, 2) := by decide +kernel
theorem dX9_guest_90 : decode cX9_guest 90 = .ok (.if_icmp .ge 24, 3) := by decide +kernel
theorem dX9_guest_93 : decode cX9_guest 93 = .ok (.aload_n 0, 1) := by decide +kernel
theorem dX9_guest_94 : decode cX9_guest 94 = .ok (.getfield 28, 3) := by decide +kernel
theorem dX9_guest_97 : decode cX9_guest 97 = .ok (.bipush 6, 2) := by decide +kernel
theorem dX9_guest_99 : decode cX9_guest 99 = .ok (.aload_n 0, 1) := by decide +kernel
theorem dX9_guest_100 : decode cX9_guest 100 = .ok (.getfield 96, 3) := by decide +kernel
theorem dX9_guest_103 : decode cX9_guest 103 = .ok (.imul, 1) := by decide +kernel
theorem dX9_guest_104 : decode cX9_guest 104 = .ok (.iload_n 3, 1) := by decide +kernel
theorem dX9_guest_105 : decode cX9_guest 105 = .ok (.iadd, 1) := by decide +kernel
theorem dX9_guest_106 : decode cX9_guest 106 = .ok (.iconst 0, 1) := by decide +kernel
theorem dX9_guest_107 : decode cX9_guest 107 = .ok (.iastore, 1) := by decide +kernel
theorem dX9_guest_108 : decode cX9_guest 108 = .ok (.iinc 3 1, 3) := by decide +kernel
theorem dX9_guest_111 : decode cX9_guest 111 = .ok (.goto (-24), 3) := by decide +kernel
theorem dX9_guest_114 : decode cX9_guest 114 = .ok (.aload_n 0, 1) := by decide +kernel
theorem dX9_guest_115 : decode cX9_guest 115 = .ok (.dup, 1) := by decide +kernel
theorem dX9_guest_116 : decode cX9_guest 116 = .ok (.getfield 96, 3) := by decide +kernel
theorem dX9_guest_119 : decode cX9_guest 119 = .ok (.iconst 1, 1) := by decide +kernel
theorem dX9_guest_120 : decode cX9_guest 120 = .ok (.iadd, 1) := by decide +kernel
theorem dX9_guest_121 : decode cX9_guest 121 = .ok (.putfield 96, 3) := by decide +kernel
theorem dX9_guest_124 : decode cX9_guest 124 = .ok (.aload_n 0, 1) := by decide +kernel
theorem dX9_guest_125 : decode cX9_guest 125 = .ok (.getfield 96, 3) := by decide +kernel
theorem dX9_guest_128 : decode cX9_guest 128 = .ok (.iconst 1, 1) := by decide +kernel
theorem dX9_guest_129 : decode cX9_guest 129 = .ok (.isub, 1) := by decide +kernel
theorem dX9_guest_130 : decode cX9_guest 130 = .ok (.ireturn, 1) := by decide +kernel
theorem dX9_swayBy_0 : decode cX9_swayBy 0 = .ok (.aload_n 0, 1) := by decide +kernel
theorem dX9_swayBy_1 : decode cX9_swayBy 1 = .ok (.getfield 25, 3) := by decide +kernel
theorem dX9_swayBy_4 : decode cX9_swayBy 4 = .ok (.iconst 2, 1) := by decide +kernel
theorem dX9_swayBy_5 : decode cX9_swayBy 5 = .ok (.iload_n 1, 1) := by decide +kernel
theorem dX9_swayBy_6 : decode cX9_swayBy 6 = .ok (.imul, 1) := by decide +kernel
theorem dX9_swayBy_7 : decode cX9_swayBy 7 = .ok (.iaload, 1) := by decide +kernel
theorem dX9_swayBy_8 : decode cX9_swayBy 8 = .ok (.istore_n 3, 1) := by decide +kernel
theorem dX9_swayBy_9 : decode cX9_swayBy 9 = .ok (.iload_n 3, 1) := by decide +kernel
theorem dX9_swayBy_10 : decode cX9_swayBy 10 = .ok (.ifCond .ne 8, 3) := by decide +kernel
theorem dX9_swayBy_13 : decode cX9_swayBy 13 = .ok (.iload_n 2, 1) := by decide +kernel
theorem dX9_swayBy_14 : decode cX9_swayBy 14 = .ok (.ineg, 1) := by decide +kernel
theorem dX9_swayBy_15 : decode cX9_swayBy 15 = .ok (.goto 36, 3) := by decide +kernel
theorem dX9_swayBy_18 : decode cX9_swayBy 18 = .ok (.iload_n 3, 1) := by decide +kernel
theorem dX9_swayBy_19 : decode cX9_swayBy 19 = .ok (.iconst 1, 1) := by decide +kernel
theorem dX9_swayBy_20 : decode cX9_swayBy 20 = .ok (.if_icmp .ne 7, 3) := by decide +kernel
theorem dX9_swayBy_23 : decode cX9_swayBy 23 = .ok (.iconst 0, 1) := by decide +kernel
theorem dX9_swayBy_24 : decode cX9_swayBy 24 = .ok (.goto 27, 3) := by decide +kernel
theorem dX9_swayBy_27 : decode cX9_swayBy 27 = .ok (.iload_n 3, 1) := by decide +kernel
theorem dX9_swayBy_28 : decode cX9_swayBy 28 = .ok (.iconst 2, 1) := by decide +kernel
theorem dX9_swayBy_29 : decode cX9_swayBy 29 = .ok (.if_icmp .ne 10, 3) := by decide +kernel
theorem dX9_swayBy_32 : decode cX9_swayBy 32 = .ok (.bipush (-2), 2) := by decide +kernel
theorem dX9_swayBy_34 : decode cX9_swayBy 34 = .ok (.iload_n 2, 1) := by decide +kernel
theorem dX9_swayBy_35 : decode cX9_swayBy 35 = .ok (.imul, 1) := by decide +kernel
theorem dX9_swayBy_36 : decode cX9_swayBy 36 = .ok (.goto 15, 3) := by decide +kernel
theorem dX9_swayBy_39 : decode cX9_swayBy 39 = .ok (.iload_n 3, 1) := by decide +kernel
theorem dX9_swayBy_40 : decode cX9_swayBy 40 = .ok (.iconst 3, 1) := by decide +kernel
theorem dX9_swayBy_41 : decode cX9_swayBy 41 = .ok (.if_icmp .ne 7, 3) := by decide +kernel
theorem dX9_swayBy_44 : decode cX9_swayBy 44 = .ok (.iload_n 2, 1) := by decide +kernel
theorem dX9_swayBy_45 : decode cX9_swayBy 45 = .ok (.goto 6, 3) := by decide +kernel
theorem dX9_swayBy_48 : decode cX9_swayBy 48 = .ok (.iconst 2, 1) := by decide +kernel
theorem dX9_swayBy_49 : decode cX9_swayBy 49 = .ok (.iload_n 2, 1) := by decide +kernel
theorem dX9_swayBy_50 : decode cX9_swayBy 50 = .ok (.imul, 1) := by decide +kernel
theorem dX9_swayBy_51 : decode cX9_swayBy 51 = .ok (.ireturn, 1) := by decide +kernel
theorem dX9_joyOf_0 : decode cX9_joyOf 0 = .ok (.aload_n 1, 1) := by decide +kernel
theorem dX9_joyOf_1 : decode cX9_joyOf 1 = .ok (.iload_n 2, 1) := by decide +kernel
theorem dX9_joyOf_2 : decode cX9_joyOf 2 = .ok (.iaload, 1) := by decide +kernel
theorem dX9_joyOf_3 : decode cX9_joyOf 3 = .ok (.ifCond .ge 7, 3) := by decide +kernel
theorem dX9_joyOf_6 : decode cX9_joyOf 6 = .ok (.iconst 0, 1) := by decide +kernel
theorem dX9_joyOf_7 : decode cX9_joyOf 7 = .ok (.goto 16, 3) := by decide +kernel
theorem dX9_joyOf_10 : decode cX9_joyOf 10 = .ok (.aload_n 0, 1) := by decide +kernel
theorem dX9_joyOf_11 : decode cX9_joyOf 11 = .ok (.getfield 28, 3) := by decide +kernel
theorem dX9_joyOf_14 : decode cX9_joyOf 14 = .ok (.bipush 6, 2) := by decide +kernel
theorem dX9_joyOf_16 : decode cX9_joyOf 16 = .ok (.iload_n 2, 1) := by decide +kernel
theorem dX9_joyOf_17 : decode cX9_joyOf 17 = .ok (.imul, 1) := by decide +kernel
theorem dX9_joyOf_18 : decode cX9_joyOf 18 = .ok (.aload_n 1, 1) := by decide +kernel
theorem dX9_joyOf_19 : decode cX9_joyOf 19 = .ok (.iload_n 2, 1) := by decide +kernel
theorem dX9_joyOf_20 : decode cX9_joyOf 20 = .ok (.iaload, 1) := by decide +kernel
theorem dX9_joyOf_21 : decode cX9_joyOf 21 = .ok (.iadd, 1) := by decide +kernel
theorem dX9_joyOf_22 : decode cX9_joyOf 22 = .ok (.iaload, 1) := by decide +kernel
theorem dX9_joyOf_23 : decode cX9_joyOf 23 = .ok (.ireturn, 1) := by decide +kernel
theorem dX9_tell_0 : decode cX9_tell 0 = .ok (.iload_n 2, 1) := by decide +kernel
theorem dX9_tell_1 : decode cX9_tell 1 = .ok (.tableswitch 107 0 5 #[39, 39, 50, 70, 87, 97], 39) := by decide +kernel
theorem dX9_tell_40 : decode cX9_tell 40 = .ok (.aload_n 0, 1) := by decide +kernel
theorem dX9_tell_41 : decode cX9_tell 41 = .ok (.getfield 25, 3) := by decide +kernel
theorem dX9_tell_44 : decode cX9_tell 44 = .ok (.iconst 2, 1) := by decide +kernel
theorem dX9_tell_45 : decode cX9_tell 45 = .ok (.iload_n 1, 1) := by decide +kernel
theorem dX9_tell_46 : decode cX9_tell 46 = .ok (.imul, 1) := by decide +kernel
theorem dX9_tell_47 : decode cX9_tell 47 = .ok (.iload_n 2, 1) := by decide +kernel
theorem dX9_tell_48 : decode cX9_tell 48 = .ok (.iadd, 1) := by decide +kernel
theorem dX9_tell_49 : decode cX9_tell 49 = .ok (.iaload, 1) := by decide +kernel
theorem dX9_tell_50 : decode cX9_tell 50 = .ok (.ireturn, 1) := by decide +kernel
theorem dX9_tell_51 : decode cX9_tell 51 = .ok (.aload_n 0, 1) := by decide +kernel
theorem dX9_tell_52 : decode cX9_tell 52 = .ok (.getfield 31, 3) := by decide +kernel
theorem dX9_tell_55 : decode cX9_tell 55 = .ok (.iload_n 1, 1) := by decide +kernel
theorem dX9_tell_56 : decode cX9_tell 56 = .ok (.iaload, 1) := by decide +kernel
theorem dX9_tell_57 : decode cX9_tell 57 = .ok (.ifCond .ge 7, 3) := by decide +kernel
theorem dX9_tell_60 : decode cX9_tell 60 = .ok (.iconst (-1), 1) := by decide +kernel
theorem dX9_tell_61 : decode cX9_tell 61 = .ok (.goto 9, 3) := by decide +kernel
theorem dX9_tell_64 : decode cX9_tell 64 = .ok (.aload_n 0, 1) := by decide +kernel
theorem dX9_tell_65 : decode cX9_tell 65 = .ok (.getfield 31, 3) := by decide +kernel
theorem dX9_tell_68 : decode cX9_tell 68 = .ok (.iload_n 1, 1) := by decide +kernel
theorem dX9_tell_69 : decode cX9_tell 69 = .ok (.iaload, 1) := by decide +kernel
theorem dX9_tell_70 : decode cX9_tell 70 = .ok (.ireturn, 1) := by decide +kernel
theorem dX9_tell_71 : decode cX9_tell 71 = .ok (.aload_n 0, 1) := by decide +kernel
theorem dX9_tell_72 : decode cX9_tell 72 = .ok (.getfield 31, 3) := by decide +kernel
theorem dX9_tell_75 : decode cX9_tell 75 = .ok (.iload_n 1, 1) := by decide +kernel
theorem dX9_tell_76 : decode cX9_tell 76 = .ok (.iaload, 1) := by decide +kernel
theorem dX9_tell_77 : decode cX9_tell 77 = .ok (.bipush (-2), 2) := by decide +kernel
theorem dX9_tell_79 : decode cX9_tell 79 = .ok (.if_icmp .ne 7, 3) := by decide +kernel
theorem dX9_tell_82 : decode cX9_tell 82 = .ok (.iconst 0, 1) := by decide +kernel
theorem dX9_tell_83 : decode cX9_tell 83 = .ok (.goto 4, 3) := by decide +kernel
theorem dX9_tell_86 : decode cX9_tell 86 = .ok (.iconst 1, 1) := by decide +kernel
theorem dX9_tell_87 : decode cX9_tell 87 = .ok (.ireturn, 1) := by decide +kernel
theorem dX9_tell_88 : decode cX9_tell 88 = .ok (.aload_n 0, 1) := by decide +kernel
theorem dX9_tell_89 : decode cX9_tell 89 = .ok (.iload_n 1, 1) := by decide +kernel
theorem dX9_tell_90 : decode cX9_tell 90 = .ok (.aload_n 0, 1) := by decide +kernel
theorem dX9_tell_91 : decode cX9_tell 91 = .ok (.getfield 93, 3) := by decide +kernel
theorem dX9_tell_94 : decode cX9_tell 94 = .ok (.invokevirtual 125, 3) := by decide +kernel
theorem dX9_tell_97 : decode cX9_tell 97 = .ok (.ireturn, 1) := by decide +kernel
theorem dX9_tell_98 : decode cX9_tell 98 = .ok (.aload_n 0, 1) := by decide +kernel
theorem dX9_tell_99 : decode cX9_tell 99 = .ok (.aload_n 0, 1) := by decide +kernel
theorem dX9_tell_100 : decode cX9_tell 100 = .ok (.getfield 31, 3) := by decide +kernel
theorem dX9_tell_103 : decode cX9_tell 103 = .ok (.iload_n 1, 1) := by decide +kernel
theorem dX9_tell_104 : decode cX9_tell 104 = .ok (.invokevirtual 128, 3) := by decide +kernel
theorem dX9_tell_107 : decode cX9_tell 107 = .ok (.ireturn, 1) := by decide +kernel
theorem dX9_tell_108 : decode cX9_tell 108 = .ok (.bipush (-102), 2) := by decide +kernel
theorem dX9_tell_110 : decode cX9_tell 110 = .ok (.ireturn, 1) := by decide +kernel
theorem dX9_about_0 : decode cX9_about 0 = .ok (.aload_n 0, 1) := by decide +kernel
theorem dX9_about_1 : decode cX9_about 1 = .ok (.iload_n 1, 1) := by decide +kernel
theorem dX9_about_2 : decode cX9_about 2 = .ok (.invokevirtual 131, 3) := by decide +kernel
theorem dX9_about_5 : decode cX9_about 5 = .ok (.ifCond .eq 12, 3) := by decide +kernel
theorem dX9_about_8 : decode cX9_about 8 = .ok (.aload_n 0, 1) := by decide +kernel
theorem dX9_about_9 : decode cX9_about 9 = .ok (.iload_n 1, 1) := by decide +kernel
theorem dX9_about_10 : decode cX9_about 10 = .ok (.iload_n 2, 1) := by decide +kernel
theorem dX9_about_11 : decode cX9_about 11 = .ok (.invokevirtual 134, 3) := by decide +kernel
theorem dX9_about_14 : decode cX9_about 14 = .ok (.goto 5, 3) := by decide +kernel
theorem dX9_about_17 : decode cX9_about 17 = .ok (.bipush (-101), 2) := by decide +kernel
theorem dX9_about_19 : decode cX9_about 19 = .ok (.ireturn, 1) := by decide +kernel
theorem dX9_as_0 : decode cX9_as 0 = .ok (.aload_n 0, 1) := by decide +kernel
theorem dX9_as_1 : decode cX9_as 1 = .ok (.iload_n 1, 1) := by decide +kernel
theorem dX9_as_2 : decode cX9_as 2 = .ok (.invokevirtual 131, 3) := by decide +kernel
theorem dX9_as_5 : decode cX9_as 5 = .ok (.ifCond .ne 6, 3) := by decide +kernel
theorem dX9_as_8 : decode cX9_as 8 = .ok (.bipush (-101), 2) := by decide +kernel
theorem dX9_as_10 : decode cX9_as 10 = .ok (.ireturn, 1) := by decide +kernel
theorem dX9_as_11 : decode cX9_as 11 = .ok (.iload_n 2, 1) := by decide +kernel
theorem dX9_as_12 : decode cX9_as 12 = .ok (.i2l, 1) := by decide +kernel
theorem dX9_as_13 : decode cX9_as 13 = .ok (.lconst 0, 1) := by decide +kernel
theorem dX9_as_14 : decode cX9_as 14 = .ok (.ldc2_w 119, 3) := by decide +kernel
theorem dX9_as_17 : decode cX9_as 17 = .ok (.invokestatic 64, 3) := by decide +kernel
theorem dX9_as_20 : decode cX9_as 20 = .ok (.ifCond .ne 6, 3) := by decide +kernel
theorem dX9_as_23 : decode cX9_as 23 = .ok (.bipush (-102), 2) := by decide +kernel
theorem dX9_as_25 : decode cX9_as 25 = .ok (.ireturn, 1) := by decide +kernel
theorem dX9_as_26 : decode cX9_as 26 = .ok (.aload_n 0, 1) := by decide +kernel
theorem dX9_as_27 : decode cX9_as 27 = .ok (.getfield 25, 3) := by decide +kernel
theorem dX9_as_30 : decode cX9_as 30 = .ok (.iconst 2, 1) := by decide +kernel
theorem dX9_as_31 : decode cX9_as 31 = .ok (.iload_n 1, 1) := by decide +kernel
theorem dX9_as_32 : decode cX9_as 32 = .ok (.imul, 1) := by decide +kernel
theorem dX9_as_33 : decode cX9_as 33 = .ok (.iaload, 1) := by decide +kernel
theorem dX9_as_34 : decode cX9_as 34 = .ok (.istore_n 3, 1) := by decide +kernel
theorem dX9_as_35 : decode cX9_as 35 = .ok (.iload_n 2, 1) := by decide +kernel
theorem dX9_as_36 : decode cX9_as 36 = .ok (.ifCond .eq 18, 3) := by decide +kernel
theorem dX9_as_39 : decode cX9_as 39 = .ok (.iload_n 2, 1) := by decide +kernel
theorem dX9_as_40 : decode cX9_as 40 = .ok (.iload_n 3, 1) := by decide +kernel
theorem dX9_as_41 : decode cX9_as 41 = .ok (.if_icmp .eq 13, 3) := by decide +kernel
theorem dX9_as_44 : decode cX9_as 44 = .ok (.iload_n 2, 1) := by decide +kernel
theorem dX9_as_45 : decode cX9_as 45 = .ok (.iconst 3, 1) := by decide +kernel
theorem dX9_as_46 : decode cX9_as 46 = .ok (.if_icmp .ne 12, 3) := by decide +kernel
theorem dX9_as_49 : decode cX9_as 49 = .ok (.iload_n 3, 1) := by decide +kernel
theorem dX9_as_50 : decode cX9_as 50 = .ok (.iconst 4, 1) := by decide +kernel
theorem dX9_as_51 : decode cX9_as 51 = .ok (.if_icmp .ne 7, 3) := by decide +kernel
theorem dX9_as_54 : decode cX9_as 54 = .ok (.iconst 1, 1) := by decide +kernel
theorem dX9_as_55 : decode cX9_as 55 = .ok (.goto 4, 3) := by decide +kernel
theorem dX9_as_58 : decode cX9_as 58 = .ok (.iconst 0, 1) := by decide +kernel
theorem dX9_as_59 : decode cX9_as 59 = .ok (.istore 4, 2) := by decide +kernel
theorem dX9_as_61 : decode cX9_as 61 = .ok (.iload 4, 2) := by decide +kernel
theorem dX9_as_63 : decode cX9_as 63 = .ok (.ifCond .eq 7, 3) := by decide +kernel
theorem dX9_as_66 : decode cX9_as 66 = .ok (.iload_n 1, 1) := by decide +kernel
theorem dX9_as_67 : decode cX9_as 67 = .ok (.goto 4, 3) := by decide +kernel
theorem dX9_as_70 : decode cX9_as 70 = .ok (.iconst (-1), 1) := by decide +kernel
theorem dX9_as_71 : decode cX9_as 71 = .ok (.ireturn, 1) := by decide +kernel
theorem dX9_want_0 : decode cX9_want 0 = .ok (.aload_n 0, 1) := by decide +kernel
theorem dX9_want_1 : decode cX9_want 1 = .ok (.iload_n 1, 1) := by decide +kernel
theorem dX9_want_2 : decode cX9_want 2 = .ok (.invokevirtual 131, 3) := by decide +kernel
theorem dX9_want_5 : decode cX9_want 5 = .ok (.ifCond .eq 11, 3) := by decide +kernel
theorem dX9_want_8 : decode cX9_want 8 = .ok (.aload_n 0, 1) := by decide +kernel
theorem dX9_want_9 : decode cX9_want 9 = .ok (.iload_n 2, 1) := by decide +kernel
theorem dX9_want_10 : decode cX9_want 10 = .ok (.invokevirtual 112, 3) := by decide +kernel
theorem dX9_want_13 : decode cX9_want 13 = .ok (.ifCond .ne 6, 3) := by decide +kernel
theorem dX9_want_16 : decode cX9_want 16 = .ok (.bipush (-101), 2) := by decide +kernel
theorem dX9_want_18 : decode cX9_want 18 = .ok (.ireturn, 1) := by decide +kernel
theorem dX9_want_19 : decode cX9_want 19 = .ok (.iload_n 3, 1) := by decide +kernel
theorem dX9_want_20 : decode cX9_want 20 = .ok (.i2l, 1) := by decide +kernel
theorem dX9_want_21 : decode cX9_want 21 = .ok (.lconst 0, 1) := by decide +kernel
theorem dX9_want_22 : decode cX9_want 22 = .ok (.ldc2_w 77, 3) := by decide +kernel
theorem dX9_want_25 : decode cX9_want 25 = .ok (.invokestatic 64, 3) := by decide +kernel
theorem dX9_want_28 : decode cX9_want 28 = .ok (.ifCond .ne 6, 3) := by decide +kernel
theorem dX9_want_31 : decode cX9_want 31 = .ok (.bipush (-102), 2) := by decide +kernel
theorem dX9_want_33 : decode cX9_want 33 = .ok (.ireturn, 1) := by decide +kernel
theorem dX9_want_34 : decode cX9_want 34 = .ok (.aload_n 0, 1) := by decide +kernel
theorem dX9_want_35 : decode cX9_want 35 = .ok (.getfield 28, 3) := by decide +kernel
theorem dX9_want_38 : decode cX9_want 38 = .ok (.bipush 6, 2) := by decide +kernel
theorem dX9_want_40 : decode cX9_want 40 = .ok (.iload_n 1, 1) := by decide +kernel
theorem dX9_want_41 : decode cX9_want 41 = .ok (.imul, 1) := by decide +kernel
theorem dX9_want_42 : decode cX9_want 42 = .ok (.iload_n 2, 1) := by decide +kernel
theorem dX9_want_43 : decode cX9_want 43 = .ok (.iadd, 1) := by decide +kernel
theorem dX9_want_44 : decode cX9_want 44 = .ok (.iaload, 1) := by decide +kernel
theorem dX9_want_45 : decode cX9_want 45 = .ok (.istore 4, 2) := by decide +kernel
theorem dX9_want_47 : decode cX9_want 47 = .ok (.aload_n 0, 1) := by decide +kernel
theorem dX9_want_48 : decode cX9_want 48 = .ok (.getfield 28, 3) := by decide +kernel
theorem dX9_want_51 : decode cX9_want 51 = .ok (.bipush 6, 2) := by decide +kernel
theorem dX9_want_53 : decode cX9_want 53 = .ok (.iload_n 1, 1) := by decide +kernel
theorem dX9_want_54 : decode cX9_want 54 = .ok (.imul, 1) := by decide +kernel
theorem dX9_want_55 : decode cX9_want 55 = .ok (.iload_n 2, 1) := by decide +kernel
theorem dX9_want_56 : decode cX9_want 56 = .ok (.iadd, 1) := by decide +kernel
theorem dX9_want_57 : decode cX9_want 57 = .ok (.iload_n 3, 1) := by decide +kernel
theorem dX9_want_58 : decode cX9_want 58 = .ok (.iastore, 1) := by decide +kernel
theorem dX9_want_59 : decode cX9_want 59 = .ok (.iload 4, 2) := by decide +kernel
theorem dX9_want_61 : decode cX9_want 61 = .ok (.ireturn, 1) := by decide +kernel
theorem dX9_purse_0 : decode cX9_purse 0 = .ok (.aload_n 0, 1) := by decide +kernel
theorem dX9_purse_1 : decode cX9_purse 1 = .ok (.iload_n 1, 1) := by decide +kernel
theorem dX9_purse_2 : decode cX9_purse 2 = .ok (.invokevirtual 131, 3) := by decide +kernel
theorem dX9_purse_5 : decode cX9_purse 5 = .ok (.ifCond .ne 6, 3) := by decide +kernel
theorem dX9_purse_8 : decode cX9_purse 8 = .ok (.bipush (-101), 2) := by decide +kernel
theorem dX9_purse_10 : decode cX9_purse 10 = .ok (.ireturn, 1) := by decide +kernel
theorem dX9_purse_11 : decode cX9_purse 11 = .ok (.iload_n 2, 1) := by decide +kernel
theorem dX9_purse_12 : decode cX9_purse 12 = .ok (.i2l, 1) := by decide +kernel
theorem dX9_purse_13 : decode cX9_purse 13 = .ok (.lconst 1, 1) := by decide +kernel
theorem dX9_purse_14 : decode cX9_purse 14 = .ok (.ldc2_w 77, 3) := by decide +kernel
theorem dX9_purse_17 : decode cX9_purse 17 = .ok (.invokestatic 64, 3) := by decide +kernel
theorem dX9_purse_20 : decode cX9_purse 20 = .ok (.ifCond .ne 6, 3) := by decide +kernel
theorem dX9_purse_23 : decode cX9_purse 23 = .ok (.bipush (-102), 2) := by decide +kernel
theorem dX9_purse_25 : decode cX9_purse 25 = .ok (.ireturn, 1) := by decide +kernel
theorem dX9_purse_26 : decode cX9_purse 26 = .ok (.aload_n 0, 1) := by decide +kernel
theorem dX9_purse_27 : decode cX9_purse 27 = .ok (.getfield 25, 3) := by decide +kernel
theorem dX9_purse_30 : decode cX9_purse 30 = .ok (.iconst 2, 1) := by decide +kernel
theorem dX9_purse_31 : decode cX9_purse 31 = .ok (.iload_n 1, 1) := by decide +kernel
theorem dX9_purse_32 : decode cX9_purse 32 = .ok (.imul, 1) := by decide +kernel
theorem dX9_purse_33 : decode cX9_purse 33 = .ok (.iconst 1, 1) := by decide +kernel
theorem dX9_purse_34 : decode cX9_purse 34 = .ok (.iadd, 1) := by decide +kernel
theorem dX9_purse_35 : decode cX9_purse 35 = .ok (.iaload, 1) := by decide +kernel
theorem dX9_purse_36 : decode cX9_purse 36 = .ok (.istore_n 3, 1) := by decide +kernel
theorem dX9_purse_37 : decode cX9_purse 37 = .ok (.aload_n 0, 1) := by decide +kernel
theorem dX9_purse_38 : decode cX9_purse 38 = .ok (.getfield 25, 3) := by decide +kernel
theorem dX9_purse_41 : decode cX9_purse 41 = .ok (.iconst 2, 1) := by decide +kernel
theorem dX9_purse_42 : decode cX9_purse 42 = .ok (.iload_n 1, 1) := by decide +kernel
theorem dX9_purse_43 : decode cX9_purse 43 = .ok (.imul, 1) := by decide +kernel
theorem dX9_purse_44 : decode cX9_purse 44 = .ok (.iconst 1, 1) := by decide +kernel
theorem dX9_purse_45 : decode cX9_purse 45 = .ok (.iadd, 1) := by decide +kernel
theorem dX9_purse_46 : decode cX9_purse 46 = .ok (.iload_n 2, 1) := by decide +kernel
theorem dX9_purse_47 : decode cX9_purse 47 = .ok (.iastore, 1) := by decide +kernel
theorem dX9_purse_48 : decode cX9_purse 48 = .ok (.iload_n 3, 1) := by decide +kernel
theorem dX9_purse_49 : decode cX9_purse 49 = .ok (.ireturn, 1) := by decide +kernel
theorem dX9_urge_0 : decode cX9_urge 0 = .ok (.aload_n 0, 1) := by decide +kernel
theorem dX9_urge_1 : decode cX9_urge 1 = .ok (.iload_n 1, 1) := by decide +kernel
theorem dX9_urge_2 : decode cX9_urge 2 = .ok (.invokevirtual 112, 3) := by decide +kernel
theorem dX9_urge_5 : decode cX9_urge 5 = .ok (.ifCond .ne 6, 3) := by decide +kernel
theorem dX9_urge_8 : decode cX9_urge 8 = .ok (.bipush (-101), 2) := by decide +kernel
theorem dX9_urge_10 : decode cX9_urge 10 = .ok (.ireturn, 1) := by decide +kernel
theorem dX9_urge_11 : decode cX9_urge 11 = .ok (.iload_n 2, 1) := by decide +kernel
theorem dX9_urge_12 : decode cX9_urge 12 = .ok (.i2l, 1) := by decide +kernel
theorem dX9_urge_13 : decode cX9_urge 13 = .ok (.lconst 0, 1) := by decide +kernel
theorem dX9_urge_14 : decode cX9_urge 14 = .ok (.ldc2_w 137, 3) := by decide +kernel
theorem dX9_urge_17 : decode cX9_urge 17 = .ok (.invokestatic 64, 3) := by decide +kernel
theorem dX9_urge_20 : decode cX9_urge 20 = .ok (.ifCond .ne 6, 3) := by decide +kernel
theorem dX9_urge_23 : decode cX9_urge 23 = .ok (.bipush (-102), 2) := by decide +kernel
theorem dX9_urge_25 : decode cX9_urge 25 = .ok (.ireturn, 1) := by decide +kernel
theorem dX9_urge_26 : decode cX9_urge 26 = .ok (.aload_n 0, 1) := by decide +kernel
theorem dX9_urge_27 : decode cX9_urge 27 = .ok (.getfield 59, 3) := by decide +kernel
theorem dX9_urge_30 : decode cX9_urge 30 = .ok (.istore_n 3, 1) := by decide +kernel
theorem dX9_urge_31 : decode cX9_urge 31 = .ok (.aload_n 0, 1) := by decide +kernel
theorem dX9_urge_32 : decode cX9_urge 32 = .ok (.iload_n 2, 1) := by decide +kernel
theorem dX9_urge_33 : decode cX9_urge 33 = .ok (.ifCond .ne 7, 3) := by decide +kernel
theorem dX9_urge_36 : decode cX9_urge 36 = .ok (.iconst (-1), 1) := by decide +kernel
theorem dX9_urge_37 : decode cX9_urge 37 = .ok (.goto 4, 3) := by decide +kernel
theorem dX9_urge_40 : decode cX9_urge 40 = .ok (.iload_n 1, 1) := by decide +kernel
theorem dX9_urge_41 : decode cX9_urge 41 = .ok (.putfield 59, 3) := by decide +kernel
theorem dX9_urge_44 : decode cX9_urge 44 = .ok (.aload_n 0, 1) := by decide +kernel
theorem dX9_urge_45 : decode cX9_urge 45 = .ok (.iload_n 2, 1) := by decide +kernel
theorem dX9_urge_46 : decode cX9_urge 46 = .ok (.putfield 102, 3) := by decide +kernel
theorem dX9_urge_49 : decode cX9_urge 49 = .ok (.iload_n 3, 1) := by decide +kernel
theorem dX9_urge_50 : decode cX9_urge 50 = .ok (.ireturn, 1) := by decide +kernel
theorem dX9_asItIs_0 : decode cX9_asItIs 0 = .ok (.aload_n 0, 1) := by decide +kernel
theorem dX9_asItIs_1 : decode cX9_asItIs 1 = .ok (.aload_n 0, 1) := by decide +kernel
theorem dX9_asItIs_2 : decode cX9_asItIs 2 = .ok (.getfield 93, 3) := by decide +kernel
theorem dX9_asItIs_5 : decode cX9_asItIs 5 = .ok (.putfield 139, 3) := by decide +kernel
theorem dX9_asItIs_8 : decode cX9_asItIs 8 = .ok (.aload_n 0, 1) := by decide +kernel
theorem dX9_asItIs_9 : decode cX9_asItIs 9 = .ok (.aload_n 0, 1) := by decide +kernel
theorem dX9_asItIs_10 : decode cX9_asItIs 10 = .ok (.getfield 59, 3) := by decide +kernel
theorem dX9_asItIs_13 : decode cX9_asItIs 13 = .ok (.putfield 142, 3) := by decide +kernel
theorem dX9_asItIs_16 : decode cX9_asItIs 16 = .ok (.aload_n 0, 1) := by decide +kernel
theorem dX9_asItIs_17 : decode cX9_asItIs 17 = .ok (.aload_n 0, 1) := by decide +kernel
theorem dX9_asItIs_18 : decode cX9_asItIs 18 = .ok (.getfield 102, 3) := by decide +kernel
theorem dX9_asItIs_21 : decode cX9_asItIs 21 = .ok (.putfield 145, 3) := by decide +kernel
theorem dX9_asItIs_24 : decode cX9_asItIs 24 = .ok (.return_, 1) := by decide +kernel
theorem dX9_valueOf_0 : decode cX9_valueOf 0 = .ok (.aload_n 0, 1) := by decide +kernel
theorem dX9_valueOf_1 : decode cX9_valueOf 1 = .ok (.aload_n 1, 1) := by decide +kernel
theorem dX9_valueOf_2 : decode cX9_valueOf 2 = .ok (.iload_n 3, 1) := by decide +kernel
theorem dX9_valueOf_3 : decode cX9_valueOf 3 = .ok (.invokevirtual 108, 3) := by decide +kernel
theorem dX9_valueOf_6 : decode cX9_valueOf 6 = .ok (.aload_n 1, 1) := by decide +kernel
theorem dX9_valueOf_7 : decode cX9_valueOf 7 = .ok (.iload_n 2, 1) := by decide +kernel
theorem dX9_valueOf_8 : decode cX9_valueOf 8 = .ok (.iaload, 1) := by decide +kernel
theorem dX9_valueOf_9 : decode cX9_valueOf 9 = .ok (.iload_n 3, 1) := by decide +kernel
theorem dX9_valueOf_10 : decode cX9_valueOf 10 = .ok (.if_icmp .ne 7, 3) := by decide +kernel
theorem dX9_valueOf_13 : decode cX9_valueOf 13 = .ok (.iconst 1, 1) := by decide +kernel
theorem dX9_valueOf_14 : decode cX9_valueOf 14 = .ok (.goto 4, 3) := by decide +kernel
theorem dX9_valueOf_17 : decode cX9_valueOf 17 = .ok (.iconst 0, 1) := by decide +kernel
theorem dX9_valueOf_18 : decode cX9_valueOf 18 = .ok (.isub, 1) := by decide +kernel
theorem dX9_valueOf_19 : decode cX9_valueOf 19 = .ok (.istore 4, 2) := by decide +kernel
theorem dX9_valueOf_21 : decode cX9_valueOf 21 = .ok (.aload_n 0, 1) := by decide +kernel
theorem dX9_valueOf_22 : decode cX9_valueOf 22 = .ok (.getfield 28, 3) := by decide +kernel
theorem dX9_valueOf_25 : decode cX9_valueOf 25 = .ok (.bipush 6, 2) := by decide +kernel
theorem dX9_valueOf_27 : decode cX9_valueOf 27 = .ok (.iload_n 2, 1) := by decide +kernel
theorem dX9_valueOf_28 : decode cX9_valueOf 28 = .ok (.imul, 1) := by decide +kernel
theorem dX9_valueOf_29 : decode cX9_valueOf 29 = .ok (.iload_n 3, 1) := by decide +kernel
theorem dX9_valueOf_30 : decode cX9_valueOf 30 = .ok (.iadd, 1) := by decide +kernel
theorem dX9_valueOf_31 : decode cX9_valueOf 31 = .ok (.iaload, 1) := by decide +kernel
theorem dX9_valueOf_32 : decode cX9_valueOf 32 = .ok (.aload_n 0, 1) := by decide +kernel
theorem dX9_valueOf_33 : decode cX9_valueOf 33 = .ok (.iload_n 2, 1) := by decide +kernel
theorem dX9_valueOf_34 : decode cX9_valueOf 34 = .ok (.aload_n 0, 1) := by decide +kernel
theorem dX9_valueOf_35 : decode cX9_valueOf 35 = .ok (.getfield 139, 3) := by decide +kernel
theorem dX9_valueOf_38 : decode cX9_valueOf 38 = .ok (.invokevirtual 125, 3) := by decide +kernel
theorem dX9_valueOf_41 : decode cX9_valueOf 41 = .ok (.iload 4, 2) := by decide +kernel
theorem dX9_valueOf_43 : decode cX9_valueOf 43 = .ok (.imul, 1) := by decide +kernel
theorem dX9_valueOf_44 : decode cX9_valueOf 44 = .ok (.iadd, 1) := by decide +kernel
theorem dX9_valueOf_45 : decode cX9_valueOf 45 = .ok (.iload_n 3, 1) := by decide +kernel
theorem dX9_valueOf_46 : decode cX9_valueOf 46 = .ok (.aload_n 0, 1) := by decide +kernel
theorem dX9_valueOf_47 : decode cX9_valueOf 47 = .ok (.getfield 142, 3) := by decide +kernel
theorem dX9_valueOf_50 : decode cX9_valueOf 50 = .ok (.if_icmp .ne 10, 3) := by decide +kernel
theorem dX9_valueOf_53 : decode cX9_valueOf 53 = .ok (.aload_n 0, 1) := by decide +kernel
theorem dX9_valueOf_54 : decode cX9_valueOf 54 = .ok (.getfield 145, 3) := by decide +kernel
theorem dX9_valueOf_57 : decode cX9_valueOf 57 = .ok (.goto 4, 3) := by decide +kernel
theorem dX9_valueOf_60 : decode cX9_valueOf 60 = .ok (.iconst 0, 1) := by decide +kernel
theorem dX9_valueOf_61 : decode cX9_valueOf 61 = .ok (.iadd, 1) := by decide +kernel
theorem dX9_valueOf_62 : decode cX9_valueOf 62 = .ok (.ireturn, 1) := by decide +kernel
theorem dX9_mayHave_0 : decode cX9_mayHave 0 = .ok (.aload_n 0, 1) := by decide +kernel
theorem dX9_mayHave_1 : decode cX9_mayHave 1 = .ok (.aload_n 1, 1) := by decide +kernel
theorem dX9_mayHave_2 : decode cX9_mayHave 2 = .ok (.iload_n 3, 1) := by decide +kernel
theorem dX9_mayHave_3 : decode cX9_mayHave 3 = .ok (.invokevirtual 108, 3) := by decide +kernel
theorem dX9_mayHave_6 : decode cX9_mayHave 6 = .ok (.aload_n 1, 1) := by decide +kernel
theorem dX9_mayHave_7 : decode cX9_mayHave 7 = .ok (.iload_n 2, 1) := by decide +kernel
theorem dX9_mayHave_8 : decode cX9_mayHave 8 = .ok (.iaload, 1) := by decide +kernel
theorem dX9_mayHave_9 : decode cX9_mayHave 9 = .ok (.iload_n 3, 1) := by decide +kernel
theorem dX9_mayHave_10 : decode cX9_mayHave 10 = .ok (.if_icmp .ne 7, 3) := by decide +kernel
theorem dX9_mayHave_13 : decode cX9_mayHave 13 = .ok (.iconst 1, 1) := by decide +kernel
theorem dX9_mayHave_14 : decode cX9_mayHave 14 = .ok (.goto 4, 3) := by decide +kernel
theorem dX9_mayHave_17 : decode cX9_mayHave 17 = .ok (.iconst 0, 1) := by decide +kernel
theorem dX9_mayHave_18 : decode cX9_mayHave 18 = .ok (.isub, 1) := by decide +kernel
theorem dX9_mayHave_19 : decode cX9_mayHave 19 = .ok (.istore 4, 2) := by decide +kernel
theorem dX9_mayHave_21 : decode cX9_mayHave 21 = .ok (.aload_n 0, 1) := by decide +kernel
theorem dX9_mayHave_22 : decode cX9_mayHave 22 = .ok (.getfield 22, 3) := by decide +kernel
theorem dX9_mayHave_25 : decode cX9_mayHave 25 = .ok (.iload_n 3, 1) := by decide +kernel
theorem dX9_mayHave_26 : decode cX9_mayHave 26 = .ok (.iaload, 1) := by decide +kernel
theorem dX9_mayHave_27 : decode cX9_mayHave 27 = .ok (.aload_n 0, 1) := by decide +kernel
theorem dX9_mayHave_28 : decode cX9_mayHave 28 = .ok (.getfield 25, 3) := by decide +kernel
theorem dX9_mayHave_31 : decode cX9_mayHave 31 = .ok (.iconst 2, 1) := by decide +kernel
theorem dX9_mayHave_32 : decode cX9_mayHave 32 = .ok (.iload_n 2, 1) := by decide +kernel
theorem dX9_mayHave_33 : decode cX9_mayHave 33 = .ok (.imul, 1) := by decide +kernel
theorem dX9_mayHave_34 : decode cX9_mayHave 34 = .ok (.iconst 1, 1) := by decide +kernel
theorem dX9_mayHave_35 : decode cX9_mayHave 35 = .ok (.iadd, 1) := by decide +kernel
theorem dX9_mayHave_36 : decode cX9_mayHave 36 = .ok (.iaload, 1) := by decide +kernel
theorem dX9_mayHave_37 : decode cX9_mayHave 37 = .ok (.if_icmp .gt 18, 3) := by decide +kernel
theorem dX9_mayHave_40 : decode cX9_mayHave 40 = .ok (.iload 4, 2) := by decide +kernel
theorem dX9_mayHave_42 : decode cX9_mayHave 42 = .ok (.aload_n 0, 1) := by decide +kernel
theorem dX9_mayHave_43 : decode cX9_mayHave 43 = .ok (.getfield 19, 3) := by decide +kernel
theorem dX9_mayHave_46 : decode cX9_mayHave 46 = .ok (.iload_n 3, 1) := by decide +kernel
theorem dX9_mayHave_47 : decode cX9_mayHave 47 = .ok (.iaload, 1) := by decide +kernel
theorem dX9_mayHave_48 : decode cX9_mayHave 48 = .ok (.if_icmp .ge 7, 3) := by decide +kernel
theorem dX9_mayHave_51 : decode cX9_mayHave 51 = .ok (.iconst 1, 1) := by decide +kernel
theorem dX9_mayHave_52 : decode cX9_mayHave 52 = .ok (.goto 4, 3) := by decide +kernel
theorem dX9_mayHave_55 : decode cX9_mayHave 55 = .ok (.iconst 0, 1) := by decide +kernel
theorem dX9_mayHave_56 : decode cX9_mayHave 56 = .ok (.ireturn, 1) := by decide +kernel
theorem dX9_bestFor_0 : decode cX9_bestFor 0 = .ok (.iconst (-1), 1) := by decide +kernel
theorem dX9_bestFor_1 : decode cX9_bestFor 1 = .ok (.istore_n 3, 1) := by decide +kernel
theorem dX9_bestFor_2 : decode cX9_bestFor 2 = .ok (.iconst 0, 1) := by decide +kernel
theorem dX9_bestFor_3 : decode cX9_bestFor 3 = .ok (.istore 4, 2) := by decide +kernel
theorem dX9_bestFor_5 : decode cX9_bestFor 5 = .ok (.iconst 0, 1) := by decide +kernel
theorem dX9_bestFor_6 : decode cX9_bestFor 6 = .ok (.istore 5, 2) := by decide +kernel
theorem dX9_bestFor_8 : decode cX9_bestFor 8 = .ok (.iload 5, 2) := by decide +kernel
theorem dX9_bestFor_10 : decode cX9_bestFor 10 = .ok (.aload_n 0, 1) := by decide +kernel
theorem dX9_bestFor_11 : decode cX9_bestFor 11 = .ok (.getfield 90, 3) := by decide +kernel
theorem dX9_bestFor_14 : decode cX9_bestFor 14 = .ok (.if_icmp .ge 75, 3) := by decide +kernel
theorem dX9_bestFor_17 : decode cX9_bestFor 17 = .ok (.aload_n 0, 1) := by decide +kernel
theorem dX9_bestFor_18 : decode cX9_bestFor 18 = .ok (.aload_n 1, 1) := by decide +kernel
theorem dX9_bestFor_19 : decode cX9_bestFor 19 = .ok (.iload_n 2, 1) := by decide +kernel
theorem dX9_bestFor_20 : decode cX9_bestFor 20 = .ok (.iload 5, 2) := by decide +kernel
theorem dX9_bestFor_22 : decode cX9_bestFor 22 = .ok (.invokevirtual 148, 3) := by decide +kernel
theorem dX9_bestFor_25 : decode cX9_bestFor 25 = .ok (.ifCond .eq 58, 3) := by decide +kernel
theorem dX9_bestFor_28 : decode cX9_bestFor 28 = .ok (.aload_n 0, 1) := by decide +kernel
theorem dX9_bestFor_29 : decode cX9_bestFor 29 = .ok (.aload_n 1, 1) := by decide +kernel
theorem dX9_bestFor_30 : decode cX9_bestFor 30 = .ok (.iload_n 2, 1) := by decide +kernel
theorem dX9_bestFor_31 : decode cX9_bestFor 31 = .ok (.iload 5, 2) := by decide +kernel
theorem dX9_bestFor_33 : decode cX9_bestFor 33 = .ok (.invokevirtual 152, 3) := by decide +kernel
theorem dX9_bestFor_36 : decode cX9_bestFor 36 = .ok (.istore 6, 2) := by decide +kernel
theorem dX9_bestFor_38 : decode cX9_bestFor 38 = .ok (.iload_n 3, 1) := by decide +kernel
theorem dX9_bestFor_39 : decode cX9_bestFor 39 = .ok (.iconst (-1), 1) := by decide +kernel
theorem dX9_bestFor_40 : decode cX9_bestFor 40 = .ok (.if_icmp .eq 10, 3) := by decide +kernel
theorem dX9_bestFor_43 : decode cX9_bestFor 43 = .ok (.iload 6, 2) := by decide +kernel
theorem dX9_bestFor_45 : decode cX9_bestFor 45 = .ok (.iload 4, 2) := by decide +kernel
theorem dX9_bestFor_47 : decode cX9_bestFor 47 = .ok (.if_icmp .le 7, 3) := by decide +kernel
theorem dX9_bestFor_50 : decode cX9_bestFor 50 = .ok (.iconst 1, 1) := by decide +kernel
theorem dX9_bestFor_51 : decode cX9_bestFor 51 = .ok (.goto 4, 3) := by decide +kernel
theorem dX9_bestFor_54 : decode cX9_bestFor 54 = .ok (.iconst 0, 1) := by decide +kernel
theorem dX9_bestFor_55 : decode cX9_bestFor 55 = .ok (.istore 7, 2) := by decide +kernel
theorem dX9_bestFor_57 : decode cX9_bestFor 57 = .ok (.iload 7, 2) := by decide +kernel
theorem dX9_bestFor_59 : decode cX9_bestFor 59 = .ok (.ifCond .eq 8, 3) := by decide +kernel
theorem dX9_bestFor_62 : decode cX9_bestFor 62 = .ok (.iload 5, 2) := by decide +kernel
theorem dX9_bestFor_64 : decode cX9_bestFor 64 = .ok (.goto 4, 3) := by decide +kernel
theorem dX9_bestFor_67 : decode cX9_bestFor 67 = .ok (.iload_n 3, 1) := by decide +kernel
theorem dX9_bestFor_68 : decode cX9_bestFor 68 = .ok (.istore_n 3, 1) := by decide +kernel
theorem dX9_bestFor_69 : decode cX9_bestFor 69 = .ok (.iload 7, 2) := by decide +kernel
theorem dX9_bestFor_71 : decode cX9_bestFor 71 = .ok (.ifCond .eq 8, 3) := by decide +kernel
theorem dX9_bestFor_74 : decode cX9_bestFor 74 = .ok (.iload 6, 2) := by decide +kernel
theorem dX9_bestFor_76 : decode cX9_bestFor 76 = .ok (.goto 5, 3) := by decide +kernel
theorem dX9_bestFor_79 : decode cX9_bestFor 79 = .ok (.iload 4, 2) := by decide +kernel
theorem dX9_bestFor_81 : decode cX9_bestFor 81 = .ok (.istore 4, 2) := by decide +kernel
theorem dX9_bestFor_83 : decode cX9_bestFor 83 = .ok (.iinc 5 1, 3) := by decide +kernel
theorem dX9_bestFor_86 : decode cX9_bestFor 86 = .ok (.goto (-78), 3) := by decide +kernel
theorem dX9_bestFor_89 : decode cX9_bestFor 89 = .ok (.iload_n 3, 1) := by decide +kernel
theorem dX9_bestFor_90 : decode cX9_bestFor 90 = .ok (.ireturn, 1) := by decide +kernel
theorem dX9_takes_0 : decode cX9_takes 0 = .ok (.aload_n 0, 1) := by decide +kernel
theorem dX9_takes_1 : decode cX9_takes 1 = .ok (.iload_n 1, 1) := by decide +kernel
theorem dX9_takes_2 : decode cX9_takes 2 = .ok (.invokevirtual 131, 3) := by decide +kernel
theorem dX9_takes_5 : decode cX9_takes 5 = .ok (.ifCond .ne 6, 3) := by decide +kernel
theorem dX9_takes_8 : decode cX9_takes 8 = .ok (.bipush (-101), 2) := by decide +kernel
theorem dX9_takes_10 : decode cX9_takes 10 = .ok (.ireturn, 1) := by decide +kernel
theorem dX9_takes_11 : decode cX9_takes 11 = .ok (.aload_n 0, 1) := by decide +kernel
theorem dX9_takes_12 : decode cX9_takes 12 = .ok (.getfield 31, 3) := by decide +kernel
theorem dX9_takes_15 : decode cX9_takes 15 = .ok (.iload_n 1, 1) := by decide +kernel
theorem dX9_takes_16 : decode cX9_takes 16 = .ok (.iaload, 1) := by decide +kernel
theorem dX9_takes_17 : decode cX9_takes 17 = .ok (.bipush (-2), 2) := by decide +kernel
theorem dX9_takes_19 : decode cX9_takes 19 = .ok (.if_icmp .eq 6, 3) := by decide +kernel
theorem dX9_takes_22 : decode cX9_takes 22 = .ok (.bipush (-103), 2) := by decide +kernel
theorem dX9_takes_24 : decode cX9_takes 24 = .ok (.ireturn, 1) := by decide +kernel
theorem dX9_takes_25 : decode cX9_takes 25 = .ok (.aload_n 0, 1) := by decide +kernel
theorem dX9_takes_26 : decode cX9_takes 26 = .ok (.invokevirtual 156, 3) := by decide +kernel
theorem dX9_takes_29 : decode cX9_takes 29 = .ok (.aload_n 0, 1) := by decide +kernel
theorem dX9_takes_30 : decode cX9_takes 30 = .ok (.aload_n 0, 1) := by decide +kernel
theorem dX9_takes_31 : decode cX9_takes 31 = .ok (.getfield 31, 3) := by decide +kernel
theorem dX9_takes_34 : decode cX9_takes 34 = .ok (.iload_n 1, 1) := by decide +kernel
theorem dX9_takes_35 : decode cX9_takes 35 = .ok (.invokevirtual 159, 3) := by decide +kernel
theorem dX9_takes_38 : decode cX9_takes 38 = .ok (.ireturn, 1) := by decide +kernel
theorem dX9_order_0 : decode cX9_order 0 = .ok (.aload_n 0, 1) := by decide +kernel
theorem dX9_order_1 : decode cX9_order 1 = .ok (.iload_n 1, 1) := by decide +kernel
theorem dX9_order_2 : decode cX9_order 2 = .ok (.invokevirtual 131, 3) := by decide +kernel
theorem dX9_order_5 : decode cX9_order 5 = .ok (.ifCond .ne 6, 3) := by decide +kernel
theorem dX9_order_8 : decode cX9_order 8 = .ok (.bipush (-101), 2) := by decide +kernel
theorem dX9_order_10 : decode cX9_order 10 = .ok (.ireturn, 1) := by decide +kernel
theorem dX9_order_11 : decode cX9_order 11 = .ok (.aload_n 0, 1) := by decide +kernel
theorem dX9_order_12 : decode cX9_order 12 = .ok (.getfield 31, 3) := by decide +kernel
theorem dX9_order_15 : decode cX9_order 15 = .ok (.iload_n 1, 1) := by decide +kernel
theorem dX9_order_16 : decode cX9_order 16 = .ok (.iaload, 1) := by decide +kernel
theorem dX9_order_17 : decode cX9_order 17 = .ok (.bipush (-2), 2) := by decide +kernel
theorem dX9_order_19 : decode cX9_order 19 = .ok (.if_icmp .eq 6, 3) := by decide +kernel
theorem dX9_order_22 : decode cX9_order 22 = .ok (.bipush (-103), 2) := by decide +kernel
theorem dX9_order_24 : decode cX9_order 24 = .ok (.ireturn, 1) := by decide +kernel
theorem dX9_order_25 : decode cX9_order 25 = .ok (.aload_n 0, 1) := by decide +kernel
theorem dX9_order_26 : decode cX9_order 26 = .ok (.invokevirtual 156, 3) := by decide +kernel
theorem dX9_order_29 : decode cX9_order 29 = .ok (.aload_n 0, 1) := by decide +kernel
theorem dX9_order_30 : decode cX9_order 30 = .ok (.getfield 31, 3) := by decide +kernel
theorem dX9_order_33 : decode cX9_order 33 = .ok (.iload_n 1, 1) := by decide +kernel
theorem dX9_order_34 : decode cX9_order 34 = .ok (.aload_n 0, 1) := by decide +kernel
theorem dX9_order_35 : decode cX9_order 35 = .ok (.aload_n 0, 1) := by decide +kernel
theorem dX9_order_36 : decode cX9_order 36 = .ok (.getfield 31, 3) := by decide +kernel
theorem dX9_order_39 : decode cX9_order 39 = .ok (.iload_n 1, 1) := by decide +kernel
theorem dX9_order_40 : decode cX9_order 40 = .ok (.invokevirtual 159, 3) := by decide +kernel
theorem dX9_order_43 : decode cX9_order 43 = .ok (.iastore, 1) := by decide +kernel
theorem dX9_order_44 : decode cX9_order 44 = .ok (.aload_n 0, 1) := by decide +kernel
theorem dX9_order_45 : decode cX9_order 45 = .ok (.getfield 31, 3) := by decide +kernel
theorem dX9_order_48 : decode cX9_order 48 = .ok (.iload_n 1, 1) := by decide +kernel
theorem dX9_order_49 : decode cX9_order 49 = .ok (.iaload, 1) := by decide +kernel
theorem dX9_order_50 : decode cX9_order 50 = .ok (.ireturn, 1) := by decide +kernel
theorem dX9_orderedMany_0 : decode cX9_orderedMany 0 = .ok (.iconst 0, 1) := by decide +kernel
theorem dX9_orderedMany_1 : decode cX9_orderedMany 1 = .ok (.istore_n 1, 1) := by decide +kernel
theorem dX9_orderedMany_2 : decode cX9_orderedMany 2 = .ok (.iconst 0, 1) := by decide +kernel
theorem dX9_orderedMany_3 : decode cX9_orderedMany 3 = .ok (.istore_n 2, 1) := by decide +kernel
theorem dX9_orderedMany_4 : decode cX9_orderedMany 4 = .ok (.iload_n 2, 1) := by decide +kernel
theorem dX9_orderedMany_5 : decode cX9_orderedMany 5 = .ok (.aload_n 0, 1) := by decide +kernel
theorem dX9_orderedMany_6 : decode cX9_orderedMany 6 = .ok (.getfield 96, 3) := by decide +kernel
theorem dX9_orderedMany_9 : decode cX9_orderedMany 9 = .ok (.if_icmp .ge 28, 3) := by decide +kernel
theorem dX9_orderedMany_12 : decode cX9_orderedMany 12 = .ok (.iload_n 1, 1) := by decide +kernel
theorem dX9_orderedMany_13 : decode cX9_orderedMany 13 = .ok (.aload_n 0, 1) := by decide +kernel
theorem dX9_orderedMany_14 : decode cX9_orderedMany 14 = .ok (.getfield 31, 3) := by decide +kernel
theorem dX9_orderedMany_17 : decode cX9_orderedMany 17 = .ok (.iload_n 2, 1) := by decide +kernel
theorem dX9_orderedMany_18 : decode cX9_orderedMany 18 = .ok (.iaload, 1) := by decide +kernel
theorem dX9_orderedMany_19 : decode cX9_orderedMany 19 = .ok (.bipush (-2), 2) := by decide +kernel
theorem dX9_orderedMany_21 : decode cX9_orderedMany 21 = .ok (.if_icmp .ne 7, 3) := by decide +kernel
theorem dX9_orderedMany_24 : decode cX9_orderedMany 24 = .ok (.iconst 0, 1) := by decide +kernel
theorem dX9_orderedMany_25 : decode cX9_orderedMany 25 = .ok (.goto 4, 3) := by decide +kernel
theorem dX9_orderedMany_28 : decode cX9_orderedMany 28 = .ok (.iconst 1, 1) := by decide +kernel
theorem dX9_orderedMany_29 : decode cX9_orderedMany 29 = .ok (.iadd, 1) := by decide +kernel
theorem dX9_orderedMany_30 : decode cX9_orderedMany 30 = .ok (.istore_n 1, 1) := by decide +kernel
theorem dX9_orderedMany_31 : decode cX9_orderedMany 31 = .ok (.iinc 2 1, 3) := by decide +kernel
theorem dX9_orderedMany_34 : decode cX9_orderedMany 34 = .ok (.goto (-30), 3) := by decide +kernel
theorem dX9_orderedMany_37 : decode cX9_orderedMany 37 = .ok (.iload_n 1, 1) := by decide +kernel
theorem dX9_orderedMany_38 : decode cX9_orderedMany 38 = .ok (.ireturn, 1) := by decide +kernel
theorem dX9_clear_0 : decode cX9_clear 0 = .ok (.aload_n 0, 1) := by decide +kernel
theorem dX9_clear_1 : decode cX9_clear 1 = .ok (.invokevirtual 162, 3) := by decide +kernel
theorem dX9_clear_4 : decode cX9_clear 4 = .ok (.istore_n 1, 1) := by decide +kernel
theorem dX9_clear_5 : decode cX9_clear 5 = .ok (.iconst 0, 1) := by decide +kernel
theorem dX9_clear_6 : decode cX9_clear 6 = .ok (.istore_n 2, 1) := by decide +kernel
theorem dX9_clear_7 : decode cX9_clear 7 = .ok (.iload_n 2, 1) := by decide +kernel
theorem dX9_clear_8 : decode cX9_clear 8 = .ok (.aload_n 0, 1) := by decide +kernel
theorem dX9_clear_9 : decode cX9_clear 9 = .ok (.getfield 96, 3) := by decide +kernel
theorem dX9_clear_12 : decode cX9_clear 12 = .ok (.if_icmp .ge 17, 3) := by decide +kernel
theorem dX9_clear_15 : decode cX9_clear 15 = .ok (.aload_n 0, 1) := by decide +kernel
theorem dX9_clear_16 : decode cX9_clear 16 = .ok (.getfield 31, 3) := by decide +kernel
theorem dX9_clear_19 : decode cX9_clear 19 = .ok (.iload_n 2, 1) := by decide +kernel
theorem dX9_clear_20 : decode cX9_clear 20 = .ok (.bipush (-2), 2) := by decide +kernel
theorem dX9_clear_22 : decode cX9_clear 22 = .ok (.iastore, 1) := by decide +kernel
theorem dX9_clear_23 : decode cX9_clear 23 = .ok (.iinc 2 1, 3) := by decide +kernel
theorem dX9_clear_26 : decode cX9_clear 26 = .ok (.goto (-19), 3) := by decide +kernel
theorem dX9_clear_29 : decode cX9_clear 29 = .ok (.iload_n 1, 1) := by decide +kernel
theorem dX9_clear_30 : decode cX9_clear 30 = .ok (.ireturn, 1) := by decide +kernel
theorem dX9_layInTurn_0 : decode cX9_layInTurn 0 = .ok (.iconst 0, 1) := by decide +kernel
theorem dX9_layInTurn_1 : decode cX9_layInTurn 1 = .ok (.istore_n 2, 1) := by decide +kernel
theorem dX9_layInTurn_2 : decode cX9_layInTurn 2 = .ok (.iload_n 2, 1) := by decide +kernel
theorem dX9_layInTurn_3 : decode cX9_layInTurn 3 = .ok (.iconst 5, 1) := by decide +kernel
theorem dX9_layInTurn_4 : decode cX9_layInTurn 4 = .ok (.if_icmp .ge 17, 3) := by decide +kernel
theorem dX9_layInTurn_7 : decode cX9_layInTurn 7 = .ok (.aload_n 0, 1) := by decide +kernel
theorem dX9_layInTurn_8 : decode cX9_layInTurn 8 = .ok (.getfield 34, 3) := by decide +kernel
theorem dX9_layInTurn_11 : decode cX9_layInTurn 11 = .ok (.iload_n 2, 1) := by decide +kernel
theorem dX9_layInTurn_12 : decode cX9_layInTurn 12 = .ok (.bipush (-2), 2) := by decide +kernel
theorem dX9_layInTurn_14 : decode cX9_layInTurn 14 = .ok (.iastore, 1) := by decide +kernel
theorem dX9_layInTurn_15 : decode cX9_layInTurn 15 = .ok (.iinc 2 1, 3) := by decide +kernel
theorem dX9_layInTurn_18 : decode cX9_layInTurn 18 = .ok (.goto (-16), 3) := by decide +kernel
theorem dX9_layInTurn_21 : decode cX9_layInTurn 21 = .ok (.iconst 0, 1) := by decide +kernel
theorem dX9_layInTurn_22 : decode cX9_layInTurn 22 = .ok (.istore_n 2, 1) := by decide +kernel
theorem dX9_layInTurn_23 : decode cX9_layInTurn 23 = .ok (.iload_n 2, 1) := by decide +kernel
theorem dX9_layInTurn_24 : decode cX9_layInTurn 24 = .ok (.aload_n 0, 1) := by decide +kernel
theorem dX9_layInTurn_25 : decode cX9_layInTurn 25 = .ok (.getfield 96, 3) := by decide +kernel
theorem dX9_layInTurn_28 : decode cX9_layInTurn 28 = .ok (.if_icmp .ge 33, 3) := by decide +kernel
theorem dX9_layInTurn_31 : decode cX9_layInTurn 31 = .ok (.iload_n 1, 1) := by decide +kernel
theorem dX9_layInTurn_32 : decode cX9_layInTurn 32 = .ok (.iload_n 2, 1) := by decide +kernel
theorem dX9_layInTurn_33 : decode cX9_layInTurn 33 = .ok (.iadd, 1) := by decide +kernel
theorem dX9_layInTurn_34 : decode cX9_layInTurn 34 = .ok (.aload_n 0, 1) := by decide +kernel
theorem dX9_layInTurn_35 : decode cX9_layInTurn 35 = .ok (.getfield 96, 3) := by decide +kernel
theorem dX9_layInTurn_38 : decode cX9_layInTurn 38 = .ok (.irem, 1) := by decide +kernel
theorem dX9_layInTurn_39 : decode cX9_layInTurn 39 = .ok (.istore_n 3, 1) := by decide +kernel
theorem dX9_layInTurn_40 : decode cX9_layInTurn 40 = .ok (.aload_n 0, 1) := by decide +kernel
theorem dX9_layInTurn_41 : decode cX9_layInTurn 41 = .ok (.getfield 34, 3) := by decide +kernel
theorem dX9_layInTurn_44 : decode cX9_layInTurn 44 = .ok (.iload_n 3, 1) := by decide +kernel
theorem dX9_layInTurn_45 : decode cX9_layInTurn 45 = .ok (.aload_n 0, 1) := by decide +kernel
theorem dX9_layInTurn_46 : decode cX9_layInTurn 46 = .ok (.aload_n 0, 1) := by decide +kernel
theorem dX9_layInTurn_47 : decode cX9_layInTurn 47 = .ok (.getfield 34, 3) := by decide +kernel
theorem dX9_layInTurn_50 : decode cX9_layInTurn 50 = .ok (.iload_n 3, 1) := by decide +kernel
theorem dX9_layInTurn_51 : decode cX9_layInTurn 51 = .ok (.invokevirtual 159, 3) := by decide +kernel
theorem dX9_layInTurn_54 : decode cX9_layInTurn 54 = .ok (.iastore, 1) := by decide +kernel
theorem dX9_layInTurn_55 : decode cX9_layInTurn 55 = .ok (.iinc 2 1, 3) := by decide +kernel
theorem dX9_layInTurn_58 : decode cX9_layInTurn 58 = .ok (.goto (-35), 3) := by decide +kernel
theorem dX9_layInTurn_61 : decode cX9_layInTurn 61 = .ok (.return_, 1) := by decide +kernel
theorem dX9_inTurn_0 : decode cX9_inTurn 0 = .ok (.aload_n 0, 1) := by decide +kernel
theorem dX9_inTurn_1 : decode cX9_inTurn 1 = .ok (.iload_n 1, 1) := by decide +kernel
theorem dX9_inTurn_2 : decode cX9_inTurn 2 = .ok (.invokevirtual 131, 3) := by decide +kernel
theorem dX9_inTurn_5 : decode cX9_inTurn 5 = .ok (.ifCond .eq 11, 3) := by decide +kernel
theorem dX9_inTurn_8 : decode cX9_inTurn 8 = .ok (.aload_n 0, 1) := by decide +kernel
theorem dX9_inTurn_9 : decode cX9_inTurn 9 = .ok (.iload_n 2, 1) := by decide +kernel
theorem dX9_inTurn_10 : decode cX9_inTurn 10 = .ok (.invokevirtual 131, 3) := by decide +kernel
theorem dX9_inTurn_13 : decode cX9_inTurn 13 = .ok (.ifCond .ne 6, 3) := by decide +kernel
theorem dX9_inTurn_16 : decode cX9_inTurn 16 = .ok (.bipush (-101), 2) := by decide +kernel
theorem dX9_inTurn_18 : decode cX9_inTurn 18 = .ok (.ireturn, 1) := by decide +kernel
theorem dX9_inTurn_19 : decode cX9_inTurn 19 = .ok (.aload_n 0, 1) := by decide +kernel
theorem dX9_inTurn_20 : decode cX9_inTurn 20 = .ok (.invokevirtual 156, 3) := by decide +kernel
theorem dX9_inTurn_23 : decode cX9_inTurn 23 = .ok (.aload_n 0, 1) := by decide +kernel
theorem dX9_inTurn_24 : decode cX9_inTurn 24 = .ok (.iload_n 1, 1) := by decide +kernel
theorem dX9_inTurn_25 : decode cX9_inTurn 25 = .ok (.invokevirtual 165, 3) := by decide +kernel
theorem dX9_inTurn_28 : decode cX9_inTurn 28 = .ok (.aload_n 0, 1) := by decide +kernel
theorem dX9_inTurn_29 : decode cX9_inTurn 29 = .ok (.getfield 34, 3) := by decide +kernel
theorem dX9_inTurn_32 : decode cX9_inTurn 32 = .ok (.iload_n 2, 1) := by decide +kernel
theorem dX9_inTurn_33 : decode cX9_inTurn 33 = .ok (.iaload, 1) := by decide +kernel
theorem dX9_inTurn_34 : decode cX9_inTurn 34 = .ok (.ireturn, 1) := by decide +kernel
theorem dX9_joyAll_0 : decode cX9_joyAll 0 = .ok (.iconst 0, 1) := by decide +kernel
theorem dX9_joyAll_1 : decode cX9_joyAll 1 = .ok (.istore_n 2, 1) := by decide +kernel
theorem dX9_joyAll_2 : decode cX9_joyAll 2 = .ok (.iconst 0, 1) := by decide +kernel
theorem dX9_joyAll_3 : decode cX9_joyAll 3 = .ok (.istore_n 3, 1) := by decide +kernel
theorem dX9_joyAll_4 : decode cX9_joyAll 4 = .ok (.iload_n 3, 1) := by decide +kernel
theorem dX9_joyAll_5 : decode cX9_joyAll 5 = .ok (.aload_n 0, 1) := by decide +kernel
theorem dX9_joyAll_6 : decode cX9_joyAll 6 = .ok (.getfield 96, 3) := by decide +kernel
theorem dX9_joyAll_9 : decode cX9_joyAll 9 = .ok (.if_icmp .ge 18, 3) := by decide +kernel
theorem dX9_joyAll_12 : decode cX9_joyAll 12 = .ok (.iload_n 2, 1) := by decide +kernel
theorem dX9_joyAll_13 : decode cX9_joyAll 13 = .ok (.aload_n 0, 1) := by decide +kernel
theorem dX9_joyAll_14 : decode cX9_joyAll 14 = .ok (.aload_n 1, 1) := by decide +kernel
theorem dX9_joyAll_15 : decode cX9_joyAll 15 = .ok (.iload_n 3, 1) := by decide +kernel
theorem dX9_joyAll_16 : decode cX9_joyAll 16 = .ok (.invokevirtual 128, 3) := by decide +kernel
theorem dX9_joyAll_19 : decode cX9_joyAll 19 = .ok (.iadd, 1) := by decide +kernel
theorem dX9_joyAll_20 : decode cX9_joyAll 20 = .ok (.istore_n 2, 1) := by decide +kernel
theorem dX9_joyAll_21 : decode cX9_joyAll 21 = .ok (.iinc 3 1, 3) := by decide +kernel
theorem dX9_joyAll_24 : decode cX9_joyAll 24 = .ok (.goto (-20), 3) := by decide +kernel
theorem dX9_joyAll_27 : decode cX9_joyAll 27 = .ok (.iload_n 2, 1) := by decide +kernel
theorem dX9_joyAll_28 : decode cX9_joyAll 28 = .ok (.ireturn, 1) := by decide +kernel
theorem dX9_beginOf_0 : decode cX9_beginOf 0 = .ok (.aload_n 0, 1) := by decide +kernel
theorem dX9_beginOf_1 : decode cX9_beginOf 1 = .ok (.invokevirtual 156, 3) := by decide +kernel
theorem dX9_beginOf_4 : decode cX9_beginOf 4 = .ok (.iconst (-1), 1) := by decide +kernel
theorem dX9_beginOf_5 : decode cX9_beginOf 5 = .ok (.istore_n 3, 1) := by decide +kernel
theorem dX9_beginOf_6 : decode cX9_beginOf 6 = .ok (.iconst (-1), 1) := by decide +kernel
theorem dX9_beginOf_7 : decode cX9_beginOf 7 = .ok (.istore 4, 2) := by decide +kernel
theorem dX9_beginOf_9 : decode cX9_beginOf 9 = .ok (.iconst 0, 1) := by decide +kernel
theorem dX9_beginOf_10 : decode cX9_beginOf 10 = .ok (.istore 5, 2) := by decide +kernel
theorem dX9_beginOf_12 : decode cX9_beginOf 12 = .ok (.iload 5, 2) := by decide +kernel
theorem dX9_beginOf_14 : decode cX9_beginOf 14 = .ok (.aload_n 0, 1) := by decide +kernel
theorem dX9_beginOf_15 : decode cX9_beginOf 15 = .ok (.getfield 96, 3) := by decide +kernel
theorem dX9_beginOf_18 : decode cX9_beginOf 18 = .ok (.if_icmp .ge 72, 3) := by decide +kernel
theorem dX9_beginOf_21 : decode cX9_beginOf 21 = .ok (.aload_n 0, 1) := by decide +kernel
theorem dX9_beginOf_22 : decode cX9_beginOf 22 = .ok (.iload 5, 2) := by decide +kernel
theorem dX9_beginOf_24 : decode cX9_beginOf 24 = .ok (.invokevirtual 165, 3) := by decide +kernel
theorem dX9_beginOf_27 : decode cX9_beginOf 27 = .ok (.iload_n 1, 1) := by decide +kernel
theorem dX9_beginOf_28 : decode cX9_beginOf 28 = .ok (.iconst (-1), 1) := by decide +kernel
theorem dX9_beginOf_29 : decode cX9_beginOf 29 = .ok (.if_icmp .ne 14, 3) := by decide +kernel
theorem dX9_beginOf_32 : decode cX9_beginOf 32 = .ok (.aload_n 0, 1) := by decide +kernel
theorem dX9_beginOf_33 : decode cX9_beginOf 33 = .ok (.aload_n 0, 1) := by decide +kernel
theorem dX9_beginOf_34 : decode cX9_beginOf 34 = .ok (.getfield 34, 3) := by decide +kernel
theorem dX9_beginOf_37 : decode cX9_beginOf 37 = .ok (.invokevirtual 169, 3) := by decide +kernel
theorem dX9_beginOf_40 : decode cX9_beginOf 40 = .ok (.goto 12, 3) := by decide +kernel
theorem dX9_beginOf_43 : decode cX9_beginOf 43 = .ok (.aload_n 0, 1) := by decide +kernel
theorem dX9_beginOf_44 : decode cX9_beginOf 44 = .ok (.aload_n 0, 1) := by decide +kernel
theorem dX9_beginOf_45 : decode cX9_beginOf 45 = .ok (.getfield 34, 3) := by decide +kernel
theorem dX9_beginOf_48 : decode cX9_beginOf 48 = .ok (.iload_n 1, 1) := by decide +kernel
theorem dX9_beginOf_49 : decode cX9_beginOf 49 = .ok (.invokevirtual 128, 3) := by decide +kernel
theorem dX9_beginOf_52 : decode cX9_beginOf 52 = .ok (.istore 6, 2) := by decide +kernel
theorem dX9_beginOf_54 : decode cX9_beginOf 54 = .ok (.iload 6, 2) := by decide +kernel
theorem dX9_beginOf_56 : decode cX9_beginOf 56 = .ok (.iload 4, 2) := by decide +kernel
theorem dX9_beginOf_58 : decode cX9_beginOf 58 = .ok (.if_icmp .le 8, 3) := by decide +kernel
theorem dX9_beginOf_61 : decode cX9_beginOf 61 = .ok (.iload 5, 2) := by decide +kernel
theorem dX9_beginOf_63 : decode cX9_beginOf 63 = .ok (.goto 4, 3) := by decide +kernel
theorem dX9_beginOf_66 : decode cX9_beginOf 66 = .ok (.iload_n 3, 1) := by decide +kernel
theorem dX9_beginOf_67 : decode cX9_beginOf 67 = .ok (.istore_n 3, 1) := by decide +kernel
theorem dX9_beginOf_68 : decode cX9_beginOf 68 = .ok (.iload 6, 2) := by decide +kernel
theorem dX9_beginOf_70 : decode cX9_beginOf 70 = .ok (.iload 4, 2) := by decide +kernel
theorem dX9_beginOf_72 : decode cX9_beginOf 72 = .ok (.if_icmp .le 8, 3) := by decide +kernel
theorem dX9_beginOf_75 : decode cX9_beginOf 75 = .ok (.iload 6, 2) := by decide +kernel
theorem dX9_beginOf_77 : decode cX9_beginOf 77 = .ok (.goto 5, 3) := by decide +kernel
theorem dX9_beginOf_80 : decode cX9_beginOf 80 = .ok (.iload 4, 2) := by decide +kernel
theorem dX9_beginOf_82 : decode cX9_beginOf 82 = .ok (.istore 4, 2) := by decide +kernel
theorem dX9_beginOf_84 : decode cX9_beginOf 84 = .ok (.iinc 5 1, 3) := by decide +kernel
theorem dX9_beginOf_87 : decode cX9_beginOf 87 = .ok (.goto (-75), 3) := by decide +kernel
theorem dX9_beginOf_90 : decode cX9_beginOf 90 = .ok (.iload_n 2, 1) := by decide +kernel
theorem dX9_beginOf_91 : decode cX9_beginOf 91 = .ok (.ifCond .ne 7, 3) := by decide +kernel
theorem dX9_beginOf_94 : decode cX9_beginOf 94 = .ok (.iload_n 3, 1) := by decide +kernel
theorem dX9_beginOf_95 : decode cX9_beginOf 95 = .ok (.goto 5, 3) := by decide +kernel
theorem dX9_beginOf_98 : decode cX9_beginOf 98 = .ok (.iload 4, 2) := by decide +kernel
theorem dX9_beginOf_100 : decode cX9_beginOf 100 = .ok (.ireturn, 1) := by decide +kernel
theorem dX9_begin_0 : decode cX9_begin 0 = .ok (.iload_n 1, 1) := by decide +kernel
theorem dX9_begin_1 : decode cX9_begin 1 = .ok (.iconst (-1), 1) := by decide +kernel
theorem dX9_begin_2 : decode cX9_begin 2 = .ok (.if_icmp .eq 14, 3) := by decide +kernel
theorem dX9_begin_5 : decode cX9_begin 5 = .ok (.aload_n 0, 1) := by decide +kernel
theorem dX9_begin_6 : decode cX9_begin 6 = .ok (.iload_n 1, 1) := by decide +kernel
theorem dX9_begin_7 : decode cX9_begin 7 = .ok (.invokevirtual 131, 3) := by decide +kernel
theorem dX9_begin_10 : decode cX9_begin 10 = .ok (.ifCond .ne 6, 3) := by decide +kernel
theorem dX9_begin_13 : decode cX9_begin 13 = .ok (.bipush (-101), 2) := by decide +kernel
theorem dX9_begin_15 : decode cX9_begin 15 = .ok (.ireturn, 1) := by decide +kernel
theorem dX9_begin_16 : decode cX9_begin 16 = .ok (.iload_n 2, 1) := by decide +kernel
theorem dX9_begin_17 : decode cX9_begin 17 = .ok (.i2l, 1) := by decide +kernel
theorem dX9_begin_18 : decode cX9_begin 18 = .ok (.lconst 0, 1) := by decide +kernel
theorem dX9_begin_19 : decode cX9_begin 19 = .ok (.lconst 1, 1) := by decide +kernel
theorem dX9_begin_20 : decode cX9_begin 20 = .ok (.invokestatic 64, 3) := by decide +kernel
theorem dX9_begin_23 : decode cX9_begin 23 = .ok (.ifCond .ne 6, 3) := by decide +kernel
theorem dX9_begin_26 : decode cX9_begin 26 = .ok (.bipush (-102), 2) := by decide +kernel
theorem dX9_begin_28 : decode cX9_begin 28 = .ok (.ireturn, 1) := by decide +kernel
theorem dX9_begin_29 : decode cX9_begin 29 = .ok (.aload_n 0, 1) := by decide +kernel
theorem dX9_begin_30 : decode cX9_begin 30 = .ok (.getfield 96, 3) := by decide +kernel
theorem dX9_begin_33 : decode cX9_begin 33 = .ok (.ifCond .ne 8, 3) := by decide +kernel
theorem dX9_begin_36 : decode cX9_begin 36 = .ok (.bipush (-103), 2) := by decide +kernel
theorem dX9_begin_38 : decode cX9_begin 38 = .ok (.goto 9, 3) := by decide +kernel
theorem dX9_begin_41 : decode cX9_begin 41 = .ok (.aload_n 0, 1) := by decide +kernel
theorem dX9_begin_42 : decode cX9_begin 42 = .ok (.iload_n 1, 1) := by decide +kernel
theorem dX9_begin_43 : decode cX9_begin 43 = .ok (.iload_n 2, 1) := by decide +kernel
theorem dX9_begin_44 : decode cX9_begin 44 = .ok (.invokevirtual 173, 3) := by decide +kernel
theorem dX9_begin_47 : decode cX9_begin 47 = .ok (.ireturn, 1) := by decide +kernel
theorem dX9_isAtOnce_0 : decode cX9_isAtOnce 0 = .ok (.iconst 1, 1) := by decide +kernel
theorem dX9_isAtOnce_1 : decode cX9_isAtOnce 1 = .ok (.istore_n 1, 1) := by decide +kernel
theorem dX9_isAtOnce_2 : decode cX9_isAtOnce 2 = .ok (.iconst 0, 1) := by decide +kernel
theorem dX9_isAtOnce_3 : decode cX9_isAtOnce 3 = .ok (.istore_n 2, 1) := by decide +kernel
theorem dX9_isAtOnce_4 : decode cX9_isAtOnce 4 = .ok (.iload_n 2, 1) := by decide +kernel
theorem dX9_isAtOnce_5 : decode cX9_isAtOnce 5 = .ok (.aload_n 0, 1) := by decide +kernel
theorem dX9_isAtOnce_6 : decode cX9_isAtOnce 6 = .ok (.getfield 96, 3) := by decide +kernel
theorem dX9_isAtOnce_9 : decode cX9_isAtOnce 9 = .ok (.if_icmp .ge 106, 3) := by decide +kernel
theorem dX9_isAtOnce_12 : decode cX9_isAtOnce 12 = .ok (.iload_n 1, 1) := by decide +kernel
theorem dX9_isAtOnce_13 : decode cX9_isAtOnce 13 = .ok (.ifCond .eq 102, 3) := by decide +kernel
theorem dX9_isAtOnce_16 : decode cX9_isAtOnce 16 = .ok (.aload_n 0, 1) := by decide +kernel
theorem dX9_isAtOnce_17 : decode cX9_isAtOnce 17 = .ok (.aload_n 0, 1) := by decide +kernel
theorem dX9_isAtOnce_18 : decode cX9_isAtOnce 18 = .ok (.getfield 34, 3) := by decide +kernel
theorem dX9_isAtOnce_21 : decode cX9_isAtOnce 21 = .ok (.iload_n 2, 1) := by decide +kernel
theorem dX9_isAtOnce_22 : decode cX9_isAtOnce 22 = .ok (.aload_n 0, 1) := by decide +kernel
theorem dX9_isAtOnce_23 : decode cX9_isAtOnce 23 = .ok (.getfield 34, 3) := by decide +kernel
theorem dX9_isAtOnce_26 : decode cX9_isAtOnce 26 = .ok (.iload_n 2, 1) := by decide +kernel
theorem dX9_isAtOnce_27 : decode cX9_isAtOnce 27 = .ok (.iaload, 1) := by decide +kernel
theorem dX9_isAtOnce_28 : decode cX9_isAtOnce 28 = .ok (.invokevirtual 148, 3) := by decide +kernel
theorem dX9_isAtOnce_31 : decode cX9_isAtOnce 31 = .ok (.istore_n 1, 1) := by decide +kernel
theorem dX9_isAtOnce_32 : decode cX9_isAtOnce 32 = .ok (.iconst 0, 1) := by decide +kernel
theorem dX9_isAtOnce_33 : decode cX9_isAtOnce 33 = .ok (.istore_n 3, 1) := by decide +kernel
theorem dX9_isAtOnce_34 : decode cX9_isAtOnce 34 = .ok (.iload_n 3, 1) := by decide +kernel
theorem dX9_isAtOnce_35 : decode cX9_isAtOnce 35 = .ok (.aload_n 0, 1) := by decide +kernel
theorem dX9_isAtOnce_36 : decode cX9_isAtOnce 36 = .ok (.getfield 90, 3) := by decide +kernel
theorem dX9_isAtOnce_39 : decode cX9_isAtOnce 39 = .ok (.if_icmp .ge 70, 3) := by decide +kernel
theorem dX9_isAtOnce_42 : decode cX9_isAtOnce 42 = .ok (.iload_n 1, 1) := by decide +kernel
theorem dX9_isAtOnce_43 : decode cX9_isAtOnce 43 = .ok (.ifCond .eq 66, 3) := by decide +kernel
theorem dX9_isAtOnce_46 : decode cX9_isAtOnce 46 = .ok (.iload_n 3, 1) := by decide +kernel
theorem dX9_isAtOnce_47 : decode cX9_isAtOnce 47 = .ok (.aload_n 0, 1) := by decide +kernel
theorem dX9_isAtOnce_48 : decode cX9_isAtOnce 48 = .ok (.getfield 34, 3) := by decide +kernel
theorem dX9_isAtOnce_51 : decode cX9_isAtOnce 51 = .ok (.iload_n 2, 1) := by decide +kernel
theorem dX9_isAtOnce_52 : decode cX9_isAtOnce 52 = .ok (.iaload, 1) := by decide +kernel
theorem dX9_isAtOnce_53 : decode cX9_isAtOnce 53 = .ok (.if_icmp .eq 44, 3) := by decide +kernel
theorem dX9_isAtOnce_56 : decode cX9_isAtOnce 56 = .ok (.aload_n 0, 1) := by decide +kernel
theorem dX9_isAtOnce_57 : decode cX9_isAtOnce 57 = .ok (.aload_n 0, 1) := by decide +kernel
theorem dX9_isAtOnce_58 : decode cX9_isAtOnce 58 = .ok (.getfield 34, 3) := by decide +kernel
theorem dX9_isAtOnce_61 : decode cX9_isAtOnce 61 = .ok (.iload_n 2, 1) := by decide +kernel
theorem dX9_isAtOnce_62 : decode cX9_isAtOnce 62 = .ok (.iload_n 3, 1) := by decide +kernel
theorem dX9_isAtOnce_63 : decode cX9_isAtOnce 63 = .ok (.invokevirtual 148, 3) := by decide +kernel
theorem dX9_isAtOnce_66 : decode cX9_isAtOnce 66 = .ok (.ifCond .eq 31, 3) := by decide +kernel
theorem dX9_isAtOnce_69 : decode cX9_isAtOnce 69 = .ok (.aload_n 0, 1) := by decide +kernel
theorem dX9_isAtOnce_70 : decode cX9_isAtOnce 70 = .ok (.aload_n 0, 1) := by decide +kernel
theorem dX9_isAtOnce_71 : decode cX9_isAtOnce 71 = .ok (.getfield 34, 3) := by decide +kernel
theorem dX9_isAtOnce_74 : decode cX9_isAtOnce 74 = .ok (.iload_n 2, 1) := by decide +kernel
theorem dX9_isAtOnce_75 : decode cX9_isAtOnce 75 = .ok (.iload_n 3, 1) := by decide +kernel
theorem dX9_isAtOnce_76 : decode cX9_isAtOnce 76 = .ok (.invokevirtual 152, 3) := by decide +kernel
theorem dX9_isAtOnce_79 : decode cX9_isAtOnce 79 = .ok (.aload_n 0, 1) := by decide +kernel
theorem dX9_isAtOnce_80 : decode cX9_isAtOnce 80 = .ok (.aload_n 0, 1) := by decide +kernel
theorem dX9_isAtOnce_81 : decode cX9_isAtOnce 81 = .ok (.getfield 34, 3) := by decide +kernel
theorem dX9_isAtOnce_84 : decode cX9_isAtOnce 84 = .ok (.iload_n 2, 1) := by decide +kernel
theorem dX9_isAtOnce_85 : decode cX9_isAtOnce 85 = .ok (.aload_n 0, 1) := by decide +kernel
theorem dX9_isAtOnce_86 : decode cX9_isAtOnce 86 = .ok (.getfield 34, 3) := by decide +kernel
theorem dX9_isAtOnce_89 : decode cX9_isAtOnce 89 = .ok (.iload_n 2, 1) := by decide +kernel
theorem dX9_isAtOnce_90 : decode cX9_isAtOnce 90 = .ok (.iaload, 1) := by decide +kernel
theorem dX9_isAtOnce_91 : decode cX9_isAtOnce 91 = .ok (.invokevirtual 152, 3) := by decide +kernel
theorem dX9_isAtOnce_94 : decode cX9_isAtOnce 94 = .ok (.if_icmp .gt 7, 3) := by decide +kernel
theorem dX9_isAtOnce_97 : decode cX9_isAtOnce 97 = .ok (.iconst 1, 1) := by decide +kernel
theorem dX9_isAtOnce_98 : decode cX9_isAtOnce 98 = .ok (.goto 4, 3) := by decide +kernel
theorem dX9_isAtOnce_101 : decode cX9_isAtOnce 101 = .ok (.iconst 0, 1) := by decide +kernel
theorem dX9_isAtOnce_102 : decode cX9_isAtOnce 102 = .ok (.istore_n 1, 1) := by decide +kernel
theorem dX9_isAtOnce_103 : decode cX9_isAtOnce 103 = .ok (.iinc 3 1, 3) := by decide +kernel
theorem dX9_isAtOnce_106 : decode cX9_isAtOnce 106 = .ok (.goto (-72), 3) := by decide +kernel
theorem dX9_isAtOnce_109 : decode cX9_isAtOnce 109 = .ok (.iinc 2 1, 3) := by decide +kernel
theorem dX9_isAtOnce_112 : decode cX9_isAtOnce 112 = .ok (.goto (-108), 3) := by decide +kernel
theorem dX9_isAtOnce_115 : decode cX9_isAtOnce 115 = .ok (.iload_n 1, 1) := by decide +kernel
theorem dX9_isAtOnce_116 : decode cX9_isAtOnce 116 = .ok (.ireturn, 1) := by decide +kernel
theorem dX9_power_0 : decode cX9_power 0 = .ok (.iconst 1, 1) := by decide +kernel
theorem dX9_power_1 : decode cX9_power 1 = .ok (.istore_n 2, 1) := by decide +kernel
theorem dX9_power_2 : decode cX9_power 2 = .ok (.iconst 0, 1) := by decide +kernel
theorem dX9_power_3 : decode cX9_power 3 = .ok (.istore_n 3, 1) := by decide +kernel
theorem dX9_power_4 : decode cX9_power 4 = .ok (.iload_n 3, 1) := by decide +kernel
theorem dX9_power_5 : decode cX9_power 5 = .ok (.aload_n 0, 1) := by decide +kernel
theorem dX9_power_6 : decode cX9_power 6 = .ok (.getfield 96, 3) := by decide +kernel
theorem dX9_power_9 : decode cX9_power 9 = .ok (.if_icmp .ge 13, 3) := by decide +kernel
theorem dX9_power_12 : decode cX9_power 12 = .ok (.iload_n 2, 1) := by decide +kernel
theorem dX9_power_13 : decode cX9_power 13 = .ok (.iload_n 1, 1) := by decide +kernel
theorem dX9_power_14 : decode cX9_power 14 = .ok (.imul, 1) := by decide +kernel
theorem dX9_power_15 : decode cX9_power 15 = .ok (.istore_n 2, 1) := by decide +kernel
theorem dX9_power_16 : decode cX9_power 16 = .ok (.iinc 3 1, 3) := by decide +kernel
theorem dX9_power_19 : decode cX9_power 19 = .ok (.goto (-15), 3) := by decide +kernel
theorem dX9_power_22 : decode cX9_power 22 = .ok (.iload_n 2, 1) := by decide +kernel
theorem dX9_power_23 : decode cX9_power 23 = .ok (.ireturn, 1) := by decide +kernel
theorem dX9_atOnce_0 : decode cX9_atOnce 0 = .ok (.iload_n 1, 1) := by decide +kernel
theorem dX9_atOnce_1 : decode cX9_atOnce 1 = .ok (.i2l, 1) := by decide +kernel
theorem dX9_atOnce_2 : decode cX9_atOnce 2 = .ok (.lconst 0, 1) := by decide +kernel
theorem dX9_atOnce_3 : decode cX9_atOnce 3 = .ok (.lconst 1, 1) := by decide +kernel
theorem dX9_atOnce_4 : decode cX9_atOnce 4 = .ok (.invokestatic 64, 3) := by decide +kernel
theorem dX9_atOnce_7 : decode cX9_atOnce 7 = .ok (.ifCond .ne 6, 3) := by decide +kernel
theorem dX9_atOnce_10 : decode cX9_atOnce 10 = .ok (.bipush (-102), 2) := by decide +kernel
theorem dX9_atOnce_12 : decode cX9_atOnce 12 = .ok (.ireturn, 1) := by decide +kernel
theorem dX9_atOnce_13 : decode cX9_atOnce 13 = .ok (.aload_n 0, 1) := by decide +kernel
theorem dX9_atOnce_14 : decode cX9_atOnce 14 = .ok (.invokevirtual 121, 3) := by decide +kernel
theorem dX9_atOnce_17 : decode cX9_atOnce 17 = .ok (.ifCond .ne 12, 3) := by decide +kernel
theorem dX9_atOnce_20 : decode cX9_atOnce 20 = .ok (.aload_n 0, 1) := by decide +kernel
theorem dX9_atOnce_21 : decode cX9_atOnce 21 = .ok (.getfield 176, 3) := by decide +kernel
theorem dX9_atOnce_24 : decode cX9_atOnce 24 = .ok (.bipush 20, 2) := by decide +kernel
theorem dX9_atOnce_26 : decode cX9_atOnce 26 = .ok (.if_icmp .ne 6, 3) := by decide +kernel
theorem dX9_atOnce_29 : decode cX9_atOnce 29 = .ok (.bipush (-103), 2) := by decide +kernel
theorem dX9_atOnce_31 : decode cX9_atOnce 31 = .ok (.ireturn, 1) := by decide +kernel
theorem dX9_atOnce_32 : decode cX9_atOnce 32 = .ok (.aload_n 0, 1) := by decide +kernel
theorem dX9_atOnce_33 : decode cX9_atOnce 33 = .ok (.dup, 1) := by decide +kernel
theorem dX9_atOnce_34 : decode cX9_atOnce 34 = .ok (.getfield 176, 3) := by decide +kernel
theorem dX9_atOnce_37 : decode cX9_atOnce 37 = .ok (.iconst 1, 1) := by decide +kernel
theorem dX9_atOnce_38 : decode cX9_atOnce 38 = .ok (.iadd, 1) := by decide +kernel
theorem dX9_atOnce_39 : decode cX9_atOnce 39 = .ok (.putfield 176, 3) := by decide +kernel
theorem dX9_atOnce_42 : decode cX9_atOnce 42 = .ok (.aload_n 0, 1) := by decide +kernel
theorem dX9_atOnce_43 : decode cX9_atOnce 43 = .ok (.invokevirtual 156, 3) := by decide +kernel
theorem dX9_atOnce_46 : decode cX9_atOnce 46 = .ok (.iconst 0, 1) := by decide +kernel
theorem dX9_atOnce_47 : decode cX9_atOnce 47 = .ok (.istore_n 2, 1) := by decide +kernel
theorem dX9_atOnce_48 : decode cX9_atOnce 48 = .ok (.iconst (-1), 1) := by decide +kernel
theorem dX9_atOnce_49 : decode cX9_atOnce 49 = .ok (.istore_n 3, 1) := by decide +kernel
theorem dX9_atOnce_50 : decode cX9_atOnce 50 = .ok (.iconst 0, 1) := by decide +kernel
theorem dX9_atOnce_51 : decode cX9_atOnce 51 = .ok (.istore 4, 2) := by decide +kernel
theorem dX9_atOnce_53 : decode cX9_atOnce 53 = .ok (.iload 4, 2) := by decide +kernel
theorem dX9_atOnce_55 : decode cX9_atOnce 55 = .ok (.aload_n 0, 1) := by decide +kernel
theorem dX9_atOnce_56 : decode cX9_atOnce 56 = .ok (.aload_n 0, 1) := by decide +kernel
theorem dX9_atOnce_57 : decode cX9_atOnce 57 = .ok (.getfield 90, 3) := by decide +kernel
theorem dX9_atOnce_60 : decode cX9_atOnce 60 = .ok (.invokevirtual 179, 3) := by decide +kernel
theorem dX9_atOnce_63 : decode cX9_atOnce 63 = .ok (.if_icmp .ge 87, 3) := by decide +kernel
theorem dX9_atOnce_66 : decode cX9_atOnce 66 = .ok (.iload 4, 2) := by decide +kernel
theorem dX9_atOnce_68 : decode cX9_atOnce 68 = .ok (.istore 5, 2) := by decide +kernel
theorem dX9_atOnce_70 : decode cX9_atOnce 70 = .ok (.iconst 0, 1) := by decide +kernel
theorem dX9_atOnce_71 : decode cX9_atOnce 71 = .ok (.istore 6, 2) := by decide +kernel
theorem dX9_atOnce_73 : decode cX9_atOnce 73 = .ok (.iload 6, 2) := by decide +kernel
theorem dX9_atOnce_75 : decode cX9_atOnce 75 = .ok (.aload_n 0, 1) := by decide +kernel
theorem dX9_atOnce_76 : decode cX9_atOnce 76 = .ok (.getfield 96, 3) := by decide +kernel
theorem dX9_atOnce_79 : decode cX9_atOnce 79 = .ok (.if_icmp .ge 32, 3) := by decide +kernel
theorem dX9_atOnce_82 : decode cX9_atOnce 82 = .ok (.aload_n 0, 1) := by decide +kernel
theorem dX9_atOnce_83 : decode cX9_atOnce 83 = .ok (.getfield 34, 3) := by decide +kernel
theorem dX9_atOnce_86 : decode cX9_atOnce 86 = .ok (.iload 6, 2) := by decide +kernel
theorem dX9_atOnce_88 : decode cX9_atOnce 88 = .ok (.iload 5, 2) := by decide +kernel
theorem dX9_atOnce_90 : decode cX9_atOnce 90 = .ok (.aload_n 0, 1) := by decide +kernel
theorem dX9_atOnce_91 : decode cX9_atOnce 91 = .ok (.getfield 90, 3) := by decide +kernel
theorem dX9_atOnce_94 : decode cX9_atOnce 94 = .ok (.irem, 1) := by decide +kernel
theorem dX9_atOnce_95 : decode cX9_atOnce 95 = .ok (.iastore, 1) := by decide +kernel
theorem dX9_atOnce_96 : decode cX9_atOnce 96 = .ok (.iload 5, 2) := by decide +kernel
theorem dX9_atOnce_98 : decode cX9_atOnce 98 = .ok (.aload_n 0, 1) := by decide +kernel
theorem dX9_atOnce_99 : decode cX9_atOnce 99 = .ok (.getfield 90, 3) := by decide +kernel
theorem dX9_atOnce_102 : decode cX9_atOnce 102 = .ok (.idiv, 1) := by decide +kernel
theorem dX9_atOnce_103 : decode cX9_atOnce 103 = .ok (.istore 5, 2) := by decide +kernel
theorem dX9_atOnce_105 : decode cX9_atOnce 105 = .ok (.iinc 6 1, 3) := by decide +kernel
theorem dX9_atOnce_108 : decode cX9_atOnce 108 = .ok (.goto (-35), 3) := by decide +kernel
theorem dX9_atOnce_111 : decode cX9_atOnce 111 = .ok (.aload_n 0, 1) := by decide +kernel
theorem dX9_atOnce_112 : decode cX9_atOnce 112 = .ok (.invokevirtual 183, 3) := by decide +kernel
theorem dX9_atOnce_115 : decode cX9_atOnce 115 = .ok (.ifCond .eq 29, 3) := by decide +kernel
theorem dX9_atOnce_118 : decode cX9_atOnce 118 = .ok (.aload_n 0, 1) := by decide +kernel
theorem dX9_atOnce_119 : decode cX9_atOnce 119 = .ok (.aload_n 0, 1) := by decide +kernel
theorem dX9_atOnce_120 : decode cX9_atOnce 120 = .ok (.getfield 34, 3) := by decide +kernel
theorem dX9_atOnce_123 : decode cX9_atOnce 123 = .ok (.invokevirtual 169, 3) := by decide +kernel
theorem dX9_atOnce_126 : decode cX9_atOnce 126 = .ok (.istore 6, 2) := by decide +kernel
theorem dX9_atOnce_128 : decode cX9_atOnce 128 = .ok (.iinc 2 1, 3) := by decide +kernel
theorem dX9_atOnce_131 : decode cX9_atOnce 131 = .ok (.iload 6, 2) := by decide +kernel
theorem dX9_atOnce_133 : decode cX9_atOnce 133 = .ok (.iload_n 3, 1) := by decide +kernel
theorem dX9_atOnce_134 : decode cX9_atOnce 134 = .ok (.if_icmp .le 8, 3) := by decide +kernel
theorem dX9_atOnce_137 : decode cX9_atOnce 137 = .ok (.iload 6, 2) := by decide +kernel
theorem dX9_atOnce_139 : decode cX9_atOnce 139 = .ok (.goto 4, 3) := by decide +kernel
theorem dX9_atOnce_142 : decode cX9_atOnce 142 = .ok (.iload_n 3, 1) := by decide +kernel
theorem dX9_atOnce_143 : decode cX9_atOnce 143 = .ok (.istore_n 3, 1) := by decide +kernel
theorem dX9_atOnce_144 : decode cX9_atOnce 144 = .ok (.iinc 4 1, 3) := by decide +kernel
theorem dX9_atOnce_147 : decode cX9_atOnce 147 = .ok (.goto (-94), 3) := by decide +kernel
theorem dX9_atOnce_150 : decode cX9_atOnce 150 = .ok (.iload_n 1, 1) := by decide +kernel
theorem dX9_atOnce_151 : decode cX9_atOnce 151 = .ok (.ifCond .ne 7, 3) := by decide +kernel
theorem dX9_atOnce_154 : decode cX9_atOnce 154 = .ok (.iload_n 2, 1) := by decide +kernel
theorem dX9_atOnce_155 : decode cX9_atOnce 155 = .ok (.goto 4, 3) := by decide +kernel
theorem dX9_atOnce_158 : decode cX9_atOnce 158 = .ok (.iload_n 3, 1) := by decide +kernel
theorem dX9_atOnce_159 : decode cX9_atOnce 159 = .ok (.ireturn, 1) := by decide +kernel
theorem dX9_mindsOf_0 : decode cX9_mindsOf 0 = .ok (.aload_n 0, 1) := by decide +kernel
theorem dX9_mindsOf_1 : decode cX9_mindsOf 1 = .ok (.invokevirtual 156, 3) := by decide +kernel
theorem dX9_mindsOf_4 : decode cX9_mindsOf 4 = .ok (.aload_n 0, 1) := by decide +kernel
theorem dX9_mindsOf_5 : decode cX9_mindsOf 5 = .ok (.iload_n 1, 1) := by decide +kernel
theorem dX9_mindsOf_6 : decode cX9_mindsOf 6 = .ok (.invokevirtual 165, 3) := by decide +kernel
theorem dX9_mindsOf_9 : decode cX9_mindsOf 9 = .ok (.iconst 1, 1) := by decide +kernel
theorem dX9_mindsOf_10 : decode cX9_mindsOf 10 = .ok (.istore_n 2, 1) := by decide +kernel
theorem dX9_mindsOf_11 : decode cX9_mindsOf 11 = .ok (.iload_n 2, 1) := by decide +kernel
theorem dX9_mindsOf_12 : decode cX9_mindsOf 12 = .ok (.bipush 20, 2) := by decide +kernel
theorem dX9_mindsOf_14 : decode cX9_mindsOf 14 = .ok (.if_icmp .gt 141, 3) := by decide +kernel
theorem dX9_mindsOf_17 : decode cX9_mindsOf 17 = .ok (.iconst 0, 1) := by decide +kernel
theorem dX9_mindsOf_18 : decode cX9_mindsOf 18 = .ok (.istore_n 3, 1) := by decide +kernel
theorem dX9_mindsOf_19 : decode cX9_mindsOf 19 = .ok (.iconst 0, 1) := by decide +kernel
theorem dX9_mindsOf_20 : decode cX9_mindsOf 20 = .ok (.istore 4, 2) := by decide +kernel
theorem dX9_mindsOf_22 : decode cX9_mindsOf 22 = .ok (.iload 4, 2) := by decide +kernel
theorem dX9_mindsOf_24 : decode cX9_mindsOf 24 = .ok (.aload_n 0, 1) := by decide +kernel
theorem dX9_mindsOf_25 : decode cX9_mindsOf 25 = .ok (.getfield 96, 3) := by decide +kernel
theorem dX9_mindsOf_28 : decode cX9_mindsOf 28 = .ok (.if_icmp .ge 115, 3) := by decide +kernel
theorem dX9_mindsOf_31 : decode cX9_mindsOf 31 = .ok (.iload_n 1, 1) := by decide +kernel
theorem dX9_mindsOf_32 : decode cX9_mindsOf 32 = .ok (.iload 4, 2) := by decide +kernel
theorem dX9_mindsOf_34 : decode cX9_mindsOf 34 = .ok (.iadd, 1) := by decide +kernel
theorem dX9_mindsOf_35 : decode cX9_mindsOf 35 = .ok (.aload_n 0, 1) := by decide +kernel
theorem dX9_mindsOf_36 : decode cX9_mindsOf 36 = .ok (.getfield 96, 3) := by decide +kernel
theorem dX9_mindsOf_39 : decode cX9_mindsOf 39 = .ok (.irem, 1) := by decide +kernel
theorem dX9_mindsOf_40 : decode cX9_mindsOf 40 = .ok (.istore 5, 2) := by decide +kernel
theorem dX9_mindsOf_42 : decode cX9_mindsOf 42 = .ok (.aload_n 0, 1) := by decide +kernel
theorem dX9_mindsOf_43 : decode cX9_mindsOf 43 = .ok (.aload_n 0, 1) := by decide +kernel
theorem dX9_mindsOf_44 : decode cX9_mindsOf 44 = .ok (.getfield 34, 3) := by decide +kernel
theorem dX9_mindsOf_47 : decode cX9_mindsOf 47 = .ok (.iload 5, 2) := by decide +kernel
theorem dX9_mindsOf_49 : decode cX9_mindsOf 49 = .ok (.invokevirtual 159, 3) := by decide +kernel
theorem dX9_mindsOf_52 : decode cX9_mindsOf 52 = .ok (.istore 6, 2) := by decide +kernel
theorem dX9_mindsOf_54 : decode cX9_mindsOf 54 = .ok (.iload 6, 2) := by decide +kernel
theorem dX9_mindsOf_56 : decode cX9_mindsOf 56 = .ok (.iconst (-1), 1) := by decide +kernel
theorem dX9_mindsOf_57 : decode cX9_mindsOf 57 = .ok (.if_icmp .eq 45, 3) := by decide +kernel
theorem dX9_mindsOf_60 : decode cX9_mindsOf 60 = .ok (.aload_n 0, 1) := by decide +kernel
theorem dX9_mindsOf_61 : decode cX9_mindsOf 61 = .ok (.getfield 34, 3) := by decide +kernel
theorem dX9_mindsOf_64 : decode cX9_mindsOf 64 = .ok (.iload 5, 2) := by decide +kernel
theorem dX9_mindsOf_66 : decode cX9_mindsOf 66 = .ok (.iaload, 1) := by decide +kernel
theorem dX9_mindsOf_67 : decode cX9_mindsOf 67 = .ok (.ifCond .lt 39, 3) := by decide +kernel
theorem dX9_mindsOf_70 : decode cX9_mindsOf 70 = .ok (.aload_n 0, 1) := by decide +kernel
theorem dX9_mindsOf_71 : decode cX9_mindsOf 71 = .ok (.aload_n 0, 1) := by decide +kernel
theorem dX9_mindsOf_72 : decode cX9_mindsOf 72 = .ok (.getfield 34, 3) := by decide +kernel
theorem dX9_mindsOf_75 : decode cX9_mindsOf 75 = .ok (.iload 5, 2) := by decide +kernel
theorem dX9_mindsOf_77 : decode cX9_mindsOf 77 = .ok (.aload_n 0, 1) := by decide +kernel
theorem dX9_mindsOf_78 : decode cX9_mindsOf 78 = .ok (.getfield 34, 3) := by decide +kernel
theorem dX9_mindsOf_81 : decode cX9_mindsOf 81 = .ok (.iload 5, 2) := by decide +kernel
theorem dX9_mindsOf_83 : decode cX9_mindsOf 83 = .ok (.iaload, 1) := by decide +kernel
theorem dX9_mindsOf_84 : decode cX9_mindsOf 84 = .ok (.invokevirtual 152, 3) := by decide +kernel
theorem dX9_mindsOf_87 : decode cX9_mindsOf 87 = .ok (.aload_n 0, 1) := by decide +kernel
theorem dX9_mindsOf_88 : decode cX9_mindsOf 88 = .ok (.aload_n 0, 1) := by decide +kernel
theorem dX9_mindsOf_89 : decode cX9_mindsOf 89 = .ok (.getfield 34, 3) := by decide +kernel
theorem dX9_mindsOf_92 : decode cX9_mindsOf 92 = .ok (.iload 5, 2) := by decide +kernel
theorem dX9_mindsOf_94 : decode cX9_mindsOf 94 = .ok (.iload 6, 2) := by decide +kernel
theorem dX9_mindsOf_96 : decode cX9_mindsOf 96 = .ok (.invokevirtual 152, 3) := by decide +kernel
theorem dX9_mindsOf_99 : decode cX9_mindsOf 99 = .ok (.if_icmp .lt 7, 3) := by decide +kernel
theorem dX9_mindsOf_102 : decode cX9_mindsOf 102 = .ok (.iconst 1, 1) := by decide +kernel
theorem dX9_mindsOf_103 : decode cX9_mindsOf 103 = .ok (.goto 4, 3) := by decide +kernel
theorem dX9_mindsOf_106 : decode cX9_mindsOf 106 = .ok (.iconst 0, 1) := by decide +kernel
theorem dX9_mindsOf_107 : decode cX9_mindsOf 107 = .ok (.istore 7, 2) := by decide +kernel
theorem dX9_mindsOf_109 : decode cX9_mindsOf 109 = .ok (.iload 7, 2) := by decide +kernel
theorem dX9_mindsOf_111 : decode cX9_mindsOf 111 = .ok (.ifCond .ne 26, 3) := by decide +kernel
theorem dX9_mindsOf_114 : decode cX9_mindsOf 114 = .ok (.iload 6, 2) := by decide +kernel
theorem dX9_mindsOf_116 : decode cX9_mindsOf 116 = .ok (.aload_n 0, 1) := by decide +kernel
theorem dX9_mindsOf_117 : decode cX9_mindsOf 117 = .ok (.getfield 34, 3) := by decide +kernel
theorem dX9_mindsOf_120 : decode cX9_mindsOf 120 = .ok (.iload 5, 2) := by decide +kernel
theorem dX9_mindsOf_122 : decode cX9_mindsOf 122 = .ok (.iaload, 1) := by decide +kernel
theorem dX9_mindsOf_123 : decode cX9_mindsOf 123 = .ok (.if_icmp .eq 14, 3) := by decide +kernel
theorem dX9_mindsOf_126 : decode cX9_mindsOf 126 = .ok (.aload_n 0, 1) := by decide +kernel
theorem dX9_mindsOf_127 : decode cX9_mindsOf 127 = .ok (.getfield 34, 3) := by decide +kernel
theorem dX9_mindsOf_130 : decode cX9_mindsOf 130 = .ok (.iload 5, 2) := by decide +kernel
theorem dX9_mindsOf_132 : decode cX9_mindsOf 132 = .ok (.iload 6, 2) := by decide +kernel
theorem dX9_mindsOf_134 : decode cX9_mindsOf 134 = .ok (.iastore, 1) := by decide +kernel
theorem dX9_mindsOf_135 : decode cX9_mindsOf 135 = .ok (.iconst 1, 1) := by decide +kernel
theorem dX9_mindsOf_136 : decode cX9_mindsOf 136 = .ok (.istore_n 3, 1) := by decide +kernel
theorem dX9_mindsOf_137 : decode cX9_mindsOf 137 = .ok (.iinc 4 1, 3) := by decide +kernel
theorem dX9_mindsOf_140 : decode cX9_mindsOf 140 = .ok (.goto (-118), 3) := by decide +kernel
theorem dX9_mindsOf_143 : decode cX9_mindsOf 143 = .ok (.iload_n 3, 1) := by decide +kernel
theorem dX9_mindsOf_144 : decode cX9_mindsOf 144 = .ok (.ifCond .ne 5, 3) := by decide +kernel
theorem dX9_mindsOf_147 : decode cX9_mindsOf 147 = .ok (.iload_n 2, 1) := by decide +kernel
theorem dX9_mindsOf_148 : decode cX9_mindsOf 148 = .ok (.ireturn, 1) := by decide +kernel
theorem dX9_mindsOf_149 : decode cX9_mindsOf 149 = .ok (.iinc 2 1, 3) := by decide +kernel
theorem dX9_mindsOf_152 : decode cX9_mindsOf 152 = .ok (.goto (-141), 3) := by decide +kernel
theorem dX9_mindsOf_155 : decode cX9_mindsOf 155 = .ok (.iconst (-1), 1) := by decide +kernel
theorem dX9_mindsOf_156 : decode cX9_mindsOf 156 = .ok (.ireturn, 1) := by decide +kernel
theorem dX9_minds_0 : decode cX9_minds 0 = .ok (.aload_n 0, 1) := by decide +kernel
theorem dX9_minds_1 : decode cX9_minds 1 = .ok (.iload_n 1, 1) := by decide +kernel
theorem dX9_minds_2 : decode cX9_minds 2 = .ok (.invokevirtual 131, 3) := by decide +kernel
theorem dX9_minds_5 : decode cX9_minds 5 = .ok (.ifCond .eq 11, 3) := by decide +kernel
theorem dX9_minds_8 : decode cX9_minds 8 = .ok (.aload_n 0, 1) := by decide +kernel
theorem dX9_minds_9 : decode cX9_minds 9 = .ok (.iload_n 1, 1) := by decide +kernel
theorem dX9_minds_10 : decode cX9_minds 10 = .ok (.invokevirtual 186, 3) := by decide +kernel
theorem dX9_minds_13 : decode cX9_minds 13 = .ok (.goto 5, 3) := by decide +kernel
theorem dX9_minds_16 : decode cX9_minds 16 = .ok (.bipush (-101), 2) := by decide +kernel
theorem dX9_minds_18 : decode cX9_minds 18 = .ok (.ireturn, 1) := by decide +kernel
theorem dX9_hostOf_0 : decode cX9_hostOf 0 = .ok (.iconst 0, 1) := by decide +kernel
theorem dX9_hostOf_1 : decode cX9_hostOf 1 = .ok (.istore_n 1, 1) := by decide +kernel
theorem dX9_hostOf_2 : decode cX9_hostOf 2 = .ok (.iconst 0, 1) := by decide +kernel
theorem dX9_hostOf_3 : decode cX9_hostOf 3 = .ok (.istore_n 2, 1) := by decide +kernel
theorem dX9_hostOf_4 : decode cX9_hostOf 4 = .ok (.iload_n 2, 1) := by decide +kernel
theorem dX9_hostOf_5 : decode cX9_hostOf 5 = .ok (.aload_n 0, 1) := by decide +kernel
theorem dX9_hostOf_6 : decode cX9_hostOf 6 = .ok (.aload_n 0, 1) := by decide +kernel
theorem dX9_hostOf_7 : decode cX9_hostOf 7 = .ok (.getfield 90, 3) := by decide +kernel
theorem dX9_hostOf_10 : decode cX9_hostOf 10 = .ok (.iconst 1, 1) := by decide +kernel
theorem dX9_hostOf_11 : decode cX9_hostOf 11 = .ok (.iadd, 1) := by decide +kernel
theorem dX9_hostOf_12 : decode cX9_hostOf 12 = .ok (.invokevirtual 179, 3) := by decide +kernel
theorem dX9_hostOf_15 : decode cX9_hostOf 15 = .ok (.if_icmp .ge 189, 3) := by decide +kernel
theorem dX9_hostOf_18 : decode cX9_hostOf 18 = .ok (.iload_n 2, 1) := by decide +kernel
theorem dX9_hostOf_19 : decode cX9_hostOf 19 = .ok (.istore_n 3, 1) := by decide +kernel
theorem dX9_hostOf_20 : decode cX9_hostOf 20 = .ok (.iconst 1, 1) := by decide +kernel
theorem dX9_hostOf_21 : decode cX9_hostOf 21 = .ok (.istore 4, 2) := by decide +kernel
theorem dX9_hostOf_23 : decode cX9_hostOf 23 = .ok (.iconst 0, 1) := by decide +kernel
theorem dX9_hostOf_24 : decode cX9_hostOf 24 = .ok (.istore 5, 2) := by decide +kernel
theorem dX9_hostOf_26 : decode cX9_hostOf 26 = .ok (.iload 5, 2) := by decide +kernel
theorem dX9_hostOf_28 : decode cX9_hostOf 28 = .ok (.aload_n 0, 1) := by decide +kernel
theorem dX9_hostOf_29 : decode cX9_hostOf 29 = .ok (.getfield 96, 3) := by decide +kernel
theorem dX9_hostOf_32 : decode cX9_hostOf 32 = .ok (.if_icmp .ge 84, 3) := by decide +kernel
theorem dX9_hostOf_35 : decode cX9_hostOf 35 = .ok (.aload_n 0, 1) := by decide +kernel
theorem dX9_hostOf_36 : decode cX9_hostOf 36 = .ok (.getfield 34, 3) := by decide +kernel
theorem dX9_hostOf_39 : decode cX9_hostOf 39 = .ok (.iload 5, 2) := by decide +kernel
theorem dX9_hostOf_41 : decode cX9_hostOf 41 = .ok (.iload_n 3, 1) := by decide +kernel
theorem dX9_hostOf_42 : decode cX9_hostOf 42 = .ok (.aload_n 0, 1) := by decide +kernel
theorem dX9_hostOf_43 : decode cX9_hostOf 43 = .ok (.getfield 90, 3) := by decide +kernel
theorem dX9_hostOf_46 : decode cX9_hostOf 46 = .ok (.iconst 1, 1) := by decide +kernel
theorem dX9_hostOf_47 : decode cX9_hostOf 47 = .ok (.iadd, 1) := by decide +kernel
theorem dX9_hostOf_48 : decode cX9_hostOf 48 = .ok (.irem, 1) := by decide +kernel
theorem dX9_hostOf_49 : decode cX9_hostOf 49 = .ok (.iconst 1, 1) := by decide +kernel
theorem dX9_hostOf_50 : decode cX9_hostOf 50 = .ok (.isub, 1) := by decide +kernel
theorem dX9_hostOf_51 : decode cX9_hostOf 51 = .ok (.iastore, 1) := by decide +kernel
theorem dX9_hostOf_52 : decode cX9_hostOf 52 = .ok (.iload_n 3, 1) := by decide +kernel
theorem dX9_hostOf_53 : decode cX9_hostOf 53 = .ok (.aload_n 0, 1) := by decide +kernel
theorem dX9_hostOf_54 : decode cX9_hostOf 54 = .ok (.getfield 90, 3) := by decide +kernel
theorem dX9_hostOf_57 : decode cX9_hostOf 57 = .ok (.iconst 1, 1) := by decide +kernel
theorem dX9_hostOf_58 : decode cX9_hostOf 58 = .ok (.iadd, 1) := by decide +kernel
theorem dX9_hostOf_59 : decode cX9_hostOf 59 = .ok (.idiv, 1) := by decide +kernel
theorem dX9_hostOf_60 : decode cX9_hostOf 60 = .ok (.istore_n 3, 1) := by decide +kernel
theorem dX9_hostOf_61 : decode cX9_hostOf 61 = .ok (.iload 4, 2) := by decide +kernel
theorem dX9_hostOf_63 : decode cX9_hostOf 63 = .ok (.ifCond .eq 44, 3) := by decide +kernel
theorem dX9_hostOf_66 : decode cX9_hostOf 66 = .ok (.aload_n 0, 1) := by decide +kernel
theorem dX9_hostOf_67 : decode cX9_hostOf 67 = .ok (.getfield 34, 3) := by decide +kernel
theorem dX9_hostOf_70 : decode cX9_hostOf 70 = .ok (.iload 5, 2) := by decide +kernel
theorem dX9_hostOf_72 : decode cX9_hostOf 72 = .ok (.iaload, 1) := by decide +kernel
theorem dX9_hostOf_73 : decode cX9_hostOf 73 = .ok (.iconst (-1), 1) := by decide +kernel
theorem dX9_hostOf_74 : decode cX9_hostOf 74 = .ok (.if_icmp .eq 29, 3) := by decide +kernel
theorem dX9_hostOf_77 : decode cX9_hostOf 77 = .ok (.aload_n 0, 1) := by decide +kernel
theorem dX9_hostOf_78 : decode cX9_hostOf 78 = .ok (.getfield 22, 3) := by decide +kernel
theorem dX9_hostOf_81 : decode cX9_hostOf 81 = .ok (.aload_n 0, 1) := by decide +kernel
theorem dX9_hostOf_82 : decode cX9_hostOf 82 = .ok (.getfield 34, 3) := by decide +kernel
theorem dX9_hostOf_85 : decode cX9_hostOf 85 = .ok (.iload 5, 2) := by decide +kernel
theorem dX9_hostOf_87 : decode cX9_hostOf 87 = .ok (.iaload, 1) := by decide +kernel
theorem dX9_hostOf_88 : decode cX9_hostOf 88 = .ok (.iaload, 1) := by decide +kernel
theorem dX9_hostOf_89 : decode cX9_hostOf 89 = .ok (.aload_n 0, 1) := by decide +kernel
theorem dX9_hostOf_90 : decode cX9_hostOf 90 = .ok (.getfield 25, 3) := by decide +kernel
theorem dX9_hostOf_93 : decode cX9_hostOf 93 = .ok (.iconst 2, 1) := by decide +kernel
theorem dX9_hostOf_94 : decode cX9_hostOf 94 = .ok (.iload 5, 2) := by decide +kernel
theorem dX9_hostOf_96 : decode cX9_hostOf 96 = .ok (.imul, 1) := by decide +kernel
theorem dX9_hostOf_97 : decode cX9_hostOf 97 = .ok (.iconst 1, 1) := by decide +kernel
theorem dX9_hostOf_98 : decode cX9_hostOf 98 = .ok (.iadd, 1) := by decide +kernel
theorem dX9_hostOf_99 : decode cX9_hostOf 99 = .ok (.iaload, 1) := by decide +kernel
theorem dX9_hostOf_100 : decode cX9_hostOf 100 = .ok (.if_icmp .gt 7, 3) := by decide +kernel
theorem dX9_hostOf_103 : decode cX9_hostOf 103 = .ok (.iconst 1, 1) := by decide +kernel
theorem dX9_hostOf_104 : decode cX9_hostOf 104 = .ok (.goto 4, 3) := by decide +kernel
theorem dX9_hostOf_107 : decode cX9_hostOf 107 = .ok (.iconst 0, 1) := by decide +kernel
theorem dX9_hostOf_108 : decode cX9_hostOf 108 = .ok (.istore 4, 2) := by decide +kernel
theorem dX9_hostOf_110 : decode cX9_hostOf 110 = .ok (.iinc 5 1, 3) := by decide +kernel
theorem dX9_hostOf_113 : decode cX9_hostOf 113 = .ok (.goto (-87), 3) := by decide +kernel
theorem dX9_hostOf_116 : decode cX9_hostOf 116 = .ok (.iconst 0, 1) := by decide +kernel
theorem dX9_hostOf_117 : decode cX9_hostOf 117 = .ok (.istore 5, 2) := by decide +kernel
theorem dX9_hostOf_119 : decode cX9_hostOf 119 = .ok (.iload 5, 2) := by decide +kernel
theorem dX9_hostOf_121 : decode cX9_hostOf 121 = .ok (.aload_n 0, 1) := by decide +kernel
theorem dX9_hostOf_122 : decode cX9_hostOf 122 = .ok (.getfield 90, 3) := by decide +kernel
theorem dX9_hostOf_125 : decode cX9_hostOf 125 = .ok (.if_icmp .ge 41, 3) := by decide +kernel
theorem dX9_hostOf_128 : decode cX9_hostOf 128 = .ok (.iload 4, 2) := by decide +kernel
theorem dX9_hostOf_130 : decode cX9_hostOf 130 = .ok (.ifCond .eq 36, 3) := by decide +kernel
theorem dX9_hostOf_133 : decode cX9_hostOf 133 = .ok (.aload_n 0, 1) := by decide +kernel
theorem dX9_hostOf_134 : decode cX9_hostOf 134 = .ok (.aload_n 0, 1) := by decide +kernel
theorem dX9_hostOf_135 : decode cX9_hostOf 135 = .ok (.getfield 34, 3) := by decide +kernel
theorem dX9_hostOf_138 : decode cX9_hostOf 138 = .ok (.iload 5, 2) := by decide +kernel
theorem dX9_hostOf_140 : decode cX9_hostOf 140 = .ok (.invokevirtual 108, 3) := by decide +kernel
theorem dX9_hostOf_143 : decode cX9_hostOf 143 = .ok (.aload_n 0, 1) := by decide +kernel
theorem dX9_hostOf_144 : decode cX9_hostOf 144 = .ok (.getfield 19, 3) := by decide +kernel
theorem dX9_hostOf_147 : decode cX9_hostOf 147 = .ok (.iload 5, 2) := by decide +kernel
theorem dX9_hostOf_149 : decode cX9_hostOf 149 = .ok (.iaload, 1) := by decide +kernel
theorem dX9_hostOf_150 : decode cX9_hostOf 150 = .ok (.if_icmp .gt 7, 3) := by decide +kernel
theorem dX9_hostOf_153 : decode cX9_hostOf 153 = .ok (.iconst 1, 1) := by decide +kernel
theorem dX9_hostOf_154 : decode cX9_hostOf 154 = .ok (.goto 4, 3) := by decide +kernel
theorem dX9_hostOf_157 : decode cX9_hostOf 157 = .ok (.iconst 0, 1) := by decide +kernel
theorem dX9_hostOf_158 : decode cX9_hostOf 158 = .ok (.istore 4, 2) := by decide +kernel
theorem dX9_hostOf_160 : decode cX9_hostOf 160 = .ok (.iinc 5 1, 3) := by decide +kernel
theorem dX9_hostOf_163 : decode cX9_hostOf 163 = .ok (.goto (-44), 3) := by decide +kernel
theorem dX9_hostOf_166 : decode cX9_hostOf 166 = .ok (.iload 4, 2) := by decide +kernel
theorem dX9_hostOf_168 : decode cX9_hostOf 168 = .ok (.ifCond .eq 14, 3) := by decide +kernel
theorem dX9_hostOf_171 : decode cX9_hostOf 171 = .ok (.aload_n 0, 1) := by decide +kernel
theorem dX9_hostOf_172 : decode cX9_hostOf 172 = .ok (.aload_n 0, 1) := by decide +kernel
theorem dX9_hostOf_173 : decode cX9_hostOf 173 = .ok (.getfield 34, 3) := by decide +kernel
theorem dX9_hostOf_176 : decode cX9_hostOf 176 = .ok (.invokevirtual 169, 3) := by decide +kernel
theorem dX9_hostOf_179 : decode cX9_hostOf 179 = .ok (.goto 4, 3) := by decide +kernel
theorem dX9_hostOf_182 : decode cX9_hostOf 182 = .ok (.iconst 0, 1) := by decide +kernel
theorem dX9_hostOf_183 : decode cX9_hostOf 183 = .ok (.istore 5, 2) := by decide +kernel
theorem dX9_hostOf_185 : decode cX9_hostOf 185 = .ok (.iload 5, 2) := by decide +kernel
theorem dX9_hostOf_187 : decode cX9_hostOf 187 = .ok (.iload_n 1, 1) := by decide +kernel
theorem dX9_hostOf_188 : decode cX9_hostOf 188 = .ok (.if_icmp .le 8, 3) := by decide +kernel
theorem dX9_hostOf_191 : decode cX9_hostOf 191 = .ok (.iload 5, 2) := by decide +kernel
theorem dX9_hostOf_193 : decode cX9_hostOf 193 = .ok (.goto 4, 3) := by decide +kernel
theorem dX9_hostOf_196 : decode cX9_hostOf 196 = .ok (.iload_n 1, 1) := by decide +kernel
theorem dX9_hostOf_197 : decode cX9_hostOf 197 = .ok (.istore_n 1, 1) := by decide +kernel
theorem dX9_hostOf_198 : decode cX9_hostOf 198 = .ok (.iinc 2 1, 3) := by decide +kernel
theorem dX9_hostOf_201 : decode cX9_hostOf 201 = .ok (.goto (-197), 3) := by decide +kernel
theorem dX9_hostOf_204 : decode cX9_hostOf 204 = .ok (.iload_n 1, 1) := by decide +kernel
theorem dX9_hostOf_205 : decode cX9_hostOf 205 = .ok (.ireturn, 1) := by decide +kernel
theorem dX9_host_0 : decode cX9_host 0 = .ok (.aload_n 0, 1) := by decide +kernel
theorem dX9_host_1 : decode cX9_host 1 = .ok (.invokevirtual 121, 3) := by decide +kernel
theorem dX9_host_4 : decode cX9_host 4 = .ok (.ifCond .eq 8, 3) := by decide +kernel
theorem dX9_host_7 : decode cX9_host 7 = .ok (.bipush (-103), 2) := by decide +kernel
theorem dX9_host_9 : decode cX9_host 9 = .ok (.goto 7, 3) := by decide +kernel
theorem dX9_host_12 : decode cX9_host 12 = .ok (.aload_n 0, 1) := by decide +kernel
theorem dX9_host_13 : decode cX9_host 13 = .ok (.invokevirtual 189, 3) := by decide +kernel
theorem dX9_host_16 : decode cX9_host 16 = .ok (.ireturn, 1) := by decide +kernel
theorem dX9_ones_0 : decode cX9_ones 0 = .ok (.iconst 0, 1) := by decide +kernel
theorem dX9_ones_1 : decode cX9_ones 1 = .ok (.istore_n 1, 1) := by decide +kernel
theorem dX9_ones_2 : decode cX9_ones 2 = .ok (.iconst 0, 1) := by decide +kernel
theorem dX9_ones_3 : decode cX9_ones 3 = .ok (.istore_n 2, 1) := by decide +kernel
theorem dX9_ones_4 : decode cX9_ones 4 = .ok (.iload_n 2, 1) := by decide +kernel
theorem dX9_ones_5 : decode cX9_ones 5 = .ok (.bipush 6, 2) := by decide +kernel
theorem dX9_ones_7 : decode cX9_ones 7 = .ok (.if_icmp .ge 17, 3) := by decide +kernel
theorem dX9_ones_10 : decode cX9_ones 10 = .ok (.iload_n 1, 1) := by decide +kernel
theorem dX9_ones_11 : decode cX9_ones 11 = .ok (.iload_n 0, 1) := by decide +kernel
theorem dX9_ones_12 : decode cX9_ones 12 = .ok (.iload_n 2, 1) := by decide +kernel
theorem dX9_ones_13 : decode cX9_ones 13 = .ok (.ishr, 1) := by decide +kernel
theorem dX9_ones_14 : decode cX9_ones 14 = .ok (.iconst 1, 1) := by decide +kernel
theorem dX9_ones_15 : decode cX9_ones 15 = .ok (.iand, 1) := by decide +kernel
theorem dX9_ones_16 : decode cX9_ones 16 = .ok (.iadd, 1) := by decide +kernel
theorem dX9_ones_17 : decode cX9_ones 17 = .ok (.istore_n 1, 1) := by decide +kernel
theorem dX9_ones_18 : decode cX9_ones 18 = .ok (.iinc 2 1, 3) := by decide +kernel
theorem dX9_ones_21 : decode cX9_ones 21 = .ok (.goto (-17), 3) := by decide +kernel
theorem dX9_ones_24 : decode cX9_ones 24 = .ok (.iload_n 1, 1) := by decide +kernel
theorem dX9_ones_25 : decode cX9_ones 25 = .ok (.ireturn, 1) := by decide +kernel
theorem dX9_fewestOf_0 : decode cX9_fewestOf 0 = .ok (.iconst (-1), 1) := by decide +kernel
theorem dX9_fewestOf_1 : decode cX9_fewestOf 1 = .ok (.istore_n 2, 1) := by decide +kernel
theorem dX9_fewestOf_2 : decode cX9_fewestOf 2 = .ok (.iconst 0, 1) := by decide +kernel
theorem dX9_fewestOf_3 : decode cX9_fewestOf 3 = .ok (.istore_n 3, 1) := by decide +kernel
theorem dX9_fewestOf_4 : decode cX9_fewestOf 4 = .ok (.iload_n 3, 1) := by decide +kernel
theorem dX9_fewestOf_5 : decode cX9_fewestOf 5 = .ok (.iconst 1, 1) := by decide +kernel
theorem dX9_fewestOf_6 : decode cX9_fewestOf 6 = .ok (.aload_n 0, 1) := by decide +kernel
theorem dX9_fewestOf_7 : decode cX9_fewestOf 7 = .ok (.getfield 90, 3) := by decide +kernel
theorem dX9_fewestOf_10 : decode cX9_fewestOf 10 = .ok (.ishl, 1) := by decide +kernel
theorem dX9_fewestOf_11 : decode cX9_fewestOf 11 = .ok (.if_icmp .ge 134, 3) := by decide +kernel
theorem dX9_fewestOf_14 : decode cX9_fewestOf 14 = .ok (.iconst 1, 1) := by decide +kernel
theorem dX9_fewestOf_15 : decode cX9_fewestOf 15 = .ok (.istore 4, 2) := by decide +kernel
theorem dX9_fewestOf_17 : decode cX9_fewestOf 17 = .ok (.iconst 0, 1) := by decide +kernel
theorem dX9_fewestOf_18 : decode cX9_fewestOf 18 = .ok (.istore 5, 2) := by decide +kernel
theorem dX9_fewestOf_20 : decode cX9_fewestOf 20 = .ok (.iload 5, 2) := by decide +kernel
theorem dX9_fewestOf_22 : decode cX9_fewestOf 22 = .ok (.aload_n 0, 1) := by decide +kernel
theorem dX9_fewestOf_23 : decode cX9_fewestOf 23 = .ok (.getfield 96, 3) := by decide +kernel
theorem dX9_fewestOf_26 : decode cX9_fewestOf 26 = .ok (.if_icmp .ge 86, 3) := by decide +kernel
theorem dX9_fewestOf_29 : decode cX9_fewestOf 29 = .ok (.iconst 0, 1) := by decide +kernel
theorem dX9_fewestOf_30 : decode cX9_fewestOf 30 = .ok (.istore 6, 2) := by decide +kernel
theorem dX9_fewestOf_32 : decode cX9_fewestOf 32 = .ok (.iconst 0, 1) := by decide +kernel
theorem dX9_fewestOf_33 : decode cX9_fewestOf 33 = .ok (.istore 7, 2) := by decide +kernel
theorem dX9_fewestOf_35 : decode cX9_fewestOf 35 = .ok (.iload 7, 2) := by decide +kernel
theorem dX9_fewestOf_37 : decode cX9_fewestOf 37 = .ok (.aload_n 0, 1) := by decide +kernel
theorem dX9_fewestOf_38 : decode cX9_fewestOf 38 = .ok (.getfield 90, 3) := by decide +kernel
theorem dX9_fewestOf_41 : decode cX9_fewestOf 41 = .ok (.if_icmp .ge 48, 3) := by decide +kernel
theorem dX9_fewestOf_44 : decode cX9_fewestOf 44 = .ok (.iload 6, 2) := by decide +kernel
theorem dX9_fewestOf_46 : decode cX9_fewestOf 46 = .ok (.ifCond .ne 30, 3) := by decide +kernel
theorem dX9_fewestOf_49 : decode cX9_fewestOf 49 = .ok (.iload_n 3, 1) := by decide +kernel
theorem dX9_fewestOf_50 : decode cX9_fewestOf 50 = .ok (.iload 7, 2) := by decide +kernel
theorem dX9_fewestOf_52 : decode cX9_fewestOf 52 = .ok (.ishr, 1) := by decide +kernel
theorem dX9_fewestOf_53 : decode cX9_fewestOf 53 = .ok (.iconst 1, 1) := by decide +kernel
theorem dX9_fewestOf_54 : decode cX9_fewestOf 54 = .ok (.iand, 1) := by decide +kernel
theorem dX9_fewestOf_55 : decode cX9_fewestOf 55 = .ok (.iconst 1, 1) := by decide +kernel
theorem dX9_fewestOf_56 : decode cX9_fewestOf 56 = .ok (.if_icmp .ne 24, 3) := by decide +kernel
theorem dX9_fewestOf_59 : decode cX9_fewestOf 59 = .ok (.aload_n 0, 1) := by decide +kernel
theorem dX9_fewestOf_60 : decode cX9_fewestOf 60 = .ok (.getfield 28, 3) := by decide +kernel
theorem dX9_fewestOf_63 : decode cX9_fewestOf 63 = .ok (.bipush 6, 2) := by decide +kernel
theorem dX9_fewestOf_65 : decode cX9_fewestOf 65 = .ok (.iload 5, 2) := by decide +kernel
theorem dX9_fewestOf_67 : decode cX9_fewestOf 67 = .ok (.imul, 1) := by decide +kernel
theorem dX9_fewestOf_68 : decode cX9_fewestOf 68 = .ok (.iload 7, 2) := by decide +kernel
theorem dX9_fewestOf_70 : decode cX9_fewestOf 70 = .ok (.iadd, 1) := by decide +kernel
theorem dX9_fewestOf_71 : decode cX9_fewestOf 71 = .ok (.iaload, 1) := by decide +kernel
theorem dX9_fewestOf_72 : decode cX9_fewestOf 72 = .ok (.iconst 5, 1) := by decide +kernel
theorem dX9_fewestOf_73 : decode cX9_fewestOf 73 = .ok (.if_icmp .lt 7, 3) := by decide +kernel
theorem dX9_fewestOf_76 : decode cX9_fewestOf 76 = .ok (.iconst 1, 1) := by decide +kernel
theorem dX9_fewestOf_77 : decode cX9_fewestOf 77 = .ok (.goto 4, 3) := by decide +kernel
theorem dX9_fewestOf_80 : decode cX9_fewestOf 80 = .ok (.iconst 0, 1) := by decide +kernel
theorem dX9_fewestOf_81 : decode cX9_fewestOf 81 = .ok (.istore 6, 2) := by decide +kernel
theorem dX9_fewestOf_83 : decode cX9_fewestOf 83 = .ok (.iinc 7 1, 3) := by decide +kernel
theorem dX9_fewestOf_86 : decode cX9_fewestOf 86 = .ok (.goto (-51), 3) := by decide +kernel
theorem dX9_fewestOf_89 : decode cX9_fewestOf 89 = .ok (.iload 4, 2) := by decide +kernel
theorem dX9_fewestOf_91 : decode cX9_fewestOf 91 = .ok (.ifCond .eq 12, 3) := by decide +kernel
theorem dX9_fewestOf_94 : decode cX9_fewestOf 94 = .ok (.iload 6, 2) := by decide +kernel
theorem dX9_fewestOf_96 : decode cX9_fewestOf 96 = .ok (.ifCond .eq 7, 3) := by decide +kernel
theorem dX9_fewestOf_99 : decode cX9_fewestOf 99 = .ok (.iconst 1, 1) := by decide +kernel
theorem dX9_fewestOf_100 : decode cX9_fewestOf 100 = .ok (.goto 4, 3) := by decide +kernel
theorem dX9_fewestOf_103 : decode cX9_fewestOf 103 = .ok (.iconst 0, 1) := by decide +kernel
theorem dX9_fewestOf_104 : decode cX9_fewestOf 104 = .ok (.istore 4, 2) := by decide +kernel
theorem dX9_fewestOf_106 : decode cX9_fewestOf 106 = .ok (.iinc 5 1, 3) := by decide +kernel
theorem dX9_fewestOf_109 : decode cX9_fewestOf 109 = .ok (.goto (-89), 3) := by decide +kernel
theorem dX9_fewestOf_112 : decode cX9_fewestOf 112 = .ok (.iload 4, 2) := by decide +kernel
theorem dX9_fewestOf_114 : decode cX9_fewestOf 114 = .ok (.ifCond .eq 23, 3) := by decide +kernel
theorem dX9_fewestOf_117 : decode cX9_fewestOf 117 = .ok (.iload_n 2, 1) := by decide +kernel
theorem dX9_fewestOf_118 : decode cX9_fewestOf 118 = .ok (.iconst (-1), 1) := by decide +kernel
theorem dX9_fewestOf_119 : decode cX9_fewestOf 119 = .ok (.if_icmp .eq 14, 3) := by decide +kernel
theorem dX9_fewestOf_122 : decode cX9_fewestOf 122 = .ok (.iload_n 3, 1) := by decide +kernel
theorem dX9_fewestOf_123 : decode cX9_fewestOf 123 = .ok (.invokestatic 192, 3) := by decide +kernel
theorem dX9_fewestOf_126 : decode cX9_fewestOf 126 = .ok (.iload_n 2, 1) := by decide +kernel
theorem dX9_fewestOf_127 : decode cX9_fewestOf 127 = .ok (.invokestatic 192, 3) := by decide +kernel
theorem dX9_fewestOf_130 : decode cX9_fewestOf 130 = .ok (.if_icmp .ge 7, 3) := by decide +kernel
theorem dX9_fewestOf_133 : decode cX9_fewestOf 133 = .ok (.iload_n 3, 1) := by decide +kernel
theorem dX9_fewestOf_134 : decode cX9_fewestOf 134 = .ok (.goto 4, 3) := by decide +kernel
theorem dX9_fewestOf_137 : decode cX9_fewestOf 137 = .ok (.iload_n 2, 1) := by decide +kernel
theorem dX9_fewestOf_138 : decode cX9_fewestOf 138 = .ok (.istore_n 2, 1) := by decide +kernel
theorem dX9_fewestOf_139 : decode cX9_fewestOf 139 = .ok (.iinc 3 1, 3) := by decide +kernel
theorem dX9_fewestOf_142 : decode cX9_fewestOf 142 = .ok (.goto (-138), 3) := by decide +kernel
theorem dX9_fewestOf_145 : decode cX9_fewestOf 145 = .ok (.iload_n 2, 1) := by decide +kernel
theorem dX9_fewestOf_146 : decode cX9_fewestOf 146 = .ok (.iconst (-1), 1) := by decide +kernel
theorem dX9_fewestOf_147 : decode cX9_fewestOf 147 = .ok (.if_icmp .eq 8, 3) := by decide +kernel
theorem dX9_fewestOf_150 : decode cX9_fewestOf 150 = .ok (.iload_n 1, 1) := by decide +kernel
theorem dX9_fewestOf_151 : decode cX9_fewestOf 151 = .ok (.iconst 1, 1) := by decide +kernel
theorem dX9_fewestOf_152 : decode cX9_fewestOf 152 = .ok (.if_icmp .ne 7, 3) := by decide +kernel
theorem dX9_fewestOf_155 : decode cX9_fewestOf 155 = .ok (.iload_n 2, 1) := by decide +kernel
theorem dX9_fewestOf_156 : decode cX9_fewestOf 156 = .ok (.goto 7, 3) := by decide +kernel
theorem dX9_fewestOf_159 : decode cX9_fewestOf 159 = .ok (.iload_n 2, 1) := by decide +kernel
theorem dX9_fewestOf_160 : decode cX9_fewestOf 160 = .ok (.invokestatic 192, 3) := by decide +kernel
theorem dX9_fewestOf_163 : decode cX9_fewestOf 163 = .ok (.ireturn, 1) := by decide +kernel
theorem dX9_fewest_0 : decode cX9_fewest 0 = .ok (.iload_n 1, 1) := by decide +kernel
theorem dX9_fewest_1 : decode cX9_fewest 1 = .ok (.i2l, 1) := by decide +kernel
theorem dX9_fewest_2 : decode cX9_fewest 2 = .ok (.lconst 0, 1) := by decide +kernel
theorem dX9_fewest_3 : decode cX9_fewest 3 = .ok (.lconst 1, 1) := by decide +kernel
theorem dX9_fewest_4 : decode cX9_fewest 4 = .ok (.invokestatic 64, 3) := by decide +kernel
theorem dX9_fewest_7 : decode cX9_fewest 7 = .ok (.ifCond .ne 6, 3) := by decide +kernel
theorem dX9_fewest_10 : decode cX9_fewest 10 = .ok (.bipush (-102), 2) := by decide +kernel
theorem dX9_fewest_12 : decode cX9_fewest 12 = .ok (.ireturn, 1) := by decide +kernel
theorem dX9_fewest_13 : decode cX9_fewest 13 = .ok (.aload_n 0, 1) := by decide +kernel
theorem dX9_fewest_14 : decode cX9_fewest 14 = .ok (.invokevirtual 121, 3) := by decide +kernel
theorem dX9_fewest_17 : decode cX9_fewest 17 = .ok (.ifCond .eq 8, 3) := by decide +kernel
theorem dX9_fewest_20 : decode cX9_fewest 20 = .ok (.bipush (-103), 2) := by decide +kernel
theorem dX9_fewest_22 : decode cX9_fewest 22 = .ok (.goto 8, 3) := by decide +kernel
theorem dX9_fewest_25 : decode cX9_fewest 25 = .ok (.aload_n 0, 1) := by decide +kernel
theorem dX9_fewest_26 : decode cX9_fewest 26 = .ok (.iload_n 1, 1) := by decide +kernel
theorem dX9_fewest_27 : decode cX9_fewest 27 = .ok (.invokevirtual 195, 3) := by decide +kernel
theorem dX9_fewest_30 : decode cX9_fewest 30 = .ok (.ireturn, 1) := by decide +kernel
theorem dX9_urges_0 : decode cX9_urges 0 = .ok (.aload_n 0, 1) := by decide +kernel
theorem dX9_urges_1 : decode cX9_urges 1 = .ok (.iload_n 1, 1) := by decide +kernel
theorem dX9_urges_2 : decode cX9_urges 2 = .ok (.invokevirtual 112, 3) := by decide +kernel
theorem dX9_urges_5 : decode cX9_urges 5 = .ok (.ifCond .eq 11, 3) := by decide +kernel
theorem dX9_urges_8 : decode cX9_urges 8 = .ok (.aload_n 0, 1) := by decide +kernel
theorem dX9_urges_9 : decode cX9_urges 9 = .ok (.iload_n 2, 1) := by decide +kernel
theorem dX9_urges_10 : decode cX9_urges 10 = .ok (.invokevirtual 131, 3) := by decide +kernel
theorem dX9_urges_13 : decode cX9_urges 13 = .ok (.ifCond .ne 6, 3) := by decide +kernel
theorem dX9_urges_16 : decode cX9_urges 16 = .ok (.bipush (-101), 2) := by decide +kernel
theorem dX9_urges_18 : decode cX9_urges 18 = .ok (.ireturn, 1) := by decide +kernel
theorem dX9_urges_19 : decode cX9_urges 19 = .ok (.iload_n 3, 1) := by decide +kernel
theorem dX9_urges_20 : decode cX9_urges 20 = .ok (.i2l, 1) := by decide +kernel
theorem dX9_urges_21 : decode cX9_urges 21 = .ok (.lconst 1, 1) := by decide +kernel
theorem dX9_urges_22 : decode cX9_urges 22 = .ok (.ldc2_w 198, 3) := by decide +kernel
theorem dX9_urges_25 : decode cX9_urges 25 = .ok (.invokestatic 64, 3) := by decide +kernel
theorem dX9_urges_28 : decode cX9_urges 28 = .ok (.ifCond .ne 6, 3) := by decide +kernel
theorem dX9_urges_31 : decode cX9_urges 31 = .ok (.bipush (-102), 2) := by decide +kernel
theorem dX9_urges_33 : decode cX9_urges 33 = .ok (.ireturn, 1) := by decide +kernel
theorem dX9_urges_34 : decode cX9_urges 34 = .ok (.aload_n 0, 1) := by decide +kernel
theorem dX9_urges_35 : decode cX9_urges 35 = .ok (.aload_n 0, 1) := by decide +kernel
theorem dX9_urges_36 : decode cX9_urges 36 = .ok (.getfield 93, 3) := by decide +kernel
theorem dX9_urges_39 : decode cX9_urges 39 = .ok (.putfield 139, 3) := by decide +kernel
theorem dX9_urges_42 : decode cX9_urges 42 = .ok (.aload_n 0, 1) := by decide +kernel
theorem dX9_urges_43 : decode cX9_urges 43 = .ok (.iload_n 1, 1) := by decide +kernel
theorem dX9_urges_44 : decode cX9_urges 44 = .ok (.putfield 142, 3) := by decide +kernel
theorem dX9_urges_47 : decode cX9_urges 47 = .ok (.iconst 0, 1) := by decide +kernel
theorem dX9_urges_48 : decode cX9_urges 48 = .ok (.istore 4, 2) := by decide +kernel
theorem dX9_urges_50 : decode cX9_urges 50 = .ok (.iload 4, 2) := by decide +kernel
theorem dX9_urges_52 : decode cX9_urges 52 = .ok (.bipush 20, 2) := by decide +kernel
theorem dX9_urges_54 : decode cX9_urges 54 = .ok (.if_icmp .gt 36, 3) := by decide +kernel
theorem dX9_urges_57 : decode cX9_urges 57 = .ok (.aload_n 0, 1) := by decide +kernel
theorem dX9_urges_58 : decode cX9_urges 58 = .ok (.iload 4, 2) := by decide +kernel
theorem dX9_urges_60 : decode cX9_urges 60 = .ok (.putfield 145, 3) := by decide +kernel
theorem dX9_urges_63 : decode cX9_urges 63 = .ok (.aload_n 0, 1) := by decide +kernel
theorem dX9_urges_64 : decode cX9_urges 64 = .ok (.iload_n 2, 1) := by decide +kernel
theorem dX9_urges_65 : decode cX9_urges 65 = .ok (.invokevirtual 165, 3) := by decide +kernel
theorem dX9_urges_68 : decode cX9_urges 68 = .ok (.aload_n 0, 1) := by decide +kernel
theorem dX9_urges_69 : decode cX9_urges 69 = .ok (.aload_n 0, 1) := by decide +kernel
theorem dX9_urges_70 : decode cX9_urges 70 = .ok (.getfield 34, 3) := by decide +kernel
theorem dX9_urges_73 : decode cX9_urges 73 = .ok (.iload_n 1, 1) := by decide +kernel
theorem dX9_urges_74 : decode cX9_urges 74 = .ok (.invokevirtual 108, 3) := by decide +kernel
theorem dX9_urges_77 : decode cX9_urges 77 = .ok (.iload_n 3, 1) := by decide +kernel
theorem dX9_urges_78 : decode cX9_urges 78 = .ok (.if_icmp .lt 6, 3) := by decide +kernel
theorem dX9_urges_81 : decode cX9_urges 81 = .ok (.iload 4, 2) := by decide +kernel
theorem dX9_urges_83 : decode cX9_urges 83 = .ok (.ireturn, 1) := by decide +kernel
theorem dX9_urges_84 : decode cX9_urges 84 = .ok (.iinc 4 1, 3) := by decide +kernel
theorem dX9_urges_87 : decode cX9_urges 87 = .ok (.goto (-37), 3) := by decide +kernel
theorem dX9_urges_90 : decode cX9_urges 90 = .ok (.iconst (-1), 1) := by decide +kernel
theorem dX9_urges_91 : decode cX9_urges 91 = .ok (.ireturn, 1) := by decide +kernel
theorem dX9_evening_0 : decode cX9_evening 0 = .ok (.aload_n 0, 1) := by decide +kernel
theorem dX9_evening_1 : decode cX9_evening 1 = .ok (.iload_n 1, 1) := by decide +kernel
theorem dX9_evening_2 : decode cX9_evening 2 = .ok (.invokevirtual 131, 3) := by decide +kernel
theorem dX9_evening_5 : decode cX9_evening 5 = .ok (.ifCond .eq 24, 3) := by decide +kernel
theorem dX9_evening_8 : decode cX9_evening 8 = .ok (.aload_n 0, 1) := by decide +kernel
theorem dX9_evening_9 : decode cX9_evening 9 = .ok (.iload_n 2, 1) := by decide +kernel
theorem dX9_evening_10 : decode cX9_evening 10 = .ok (.invokevirtual 131, 3) := by decide +kernel
theorem dX9_evening_13 : decode cX9_evening 13 = .ok (.ifCond .eq 16, 3) := by decide +kernel
theorem dX9_evening_16 : decode cX9_evening 16 = .ok (.iload_n 3, 1) := by decide +kernel
theorem dX9_evening_17 : decode cX9_evening 17 = .ok (.iconst (-1), 1) := by decide +kernel
theorem dX9_evening_18 : decode cX9_evening 18 = .ok (.if_icmp .eq 14, 3) := by decide +kernel
theorem dX9_evening_21 : decode cX9_evening 21 = .ok (.aload_n 0, 1) := by decide +kernel
theorem dX9_evening_22 : decode cX9_evening 22 = .ok (.iload_n 3, 1) := by decide +kernel
theorem dX9_evening_23 : decode cX9_evening 23 = .ok (.invokevirtual 112, 3) := by decide +kernel
theorem dX9_evening_26 : decode cX9_evening 26 = .ok (.ifCond .ne 6, 3) := by decide +kernel
theorem dX9_evening_29 : decode cX9_evening 29 = .ok (.bipush (-101), 2) := by decide +kernel
theorem dX9_evening_31 : decode cX9_evening 31 = .ok (.ireturn, 1) := by decide +kernel
theorem dX9_evening_32 : decode cX9_evening 32 = .ok (.aload_n 0, 1) := by decide +kernel
theorem dX9_evening_33 : decode cX9_evening 33 = .ok (.getfield 99, 3) := by decide +kernel
theorem dX9_evening_36 : decode cX9_evening 36 = .ok (.iconst 4, 1) := by decide +kernel
theorem dX9_evening_37 : decode cX9_evening 37 = .ok (.if_icmp .ne 6, 3) := by decide +kernel
theorem dX9_evening_40 : decode cX9_evening 40 = .ok (.bipush (-104), 2) := by decide +kernel
theorem dX9_evening_42 : decode cX9_evening 42 = .ok (.ireturn, 1) := by decide +kernel
theorem dX9_evening_43 : decode cX9_evening 43 = .ok (.aload_n 0, 1) := by decide +kernel
theorem dX9_evening_44 : decode cX9_evening 44 = .ok (.getfield 37, 3) := by decide +kernel
theorem dX9_evening_47 : decode cX9_evening 47 = .ok (.iconst 3, 1) := by decide +kernel
theorem dX9_evening_48 : decode cX9_evening 48 = .ok (.aload_n 0, 1) := by decide +kernel
theorem dX9_evening_49 : decode cX9_evening 49 = .ok (.getfield 99, 3) := by decide +kernel
theorem dX9_evening_52 : decode cX9_evening 52 = .ok (.imul, 1) := by decide +kernel
theorem dX9_evening_53 : decode cX9_evening 53 = .ok (.iload_n 1, 1) := by decide +kernel
theorem dX9_evening_54 : decode cX9_evening 54 = .ok (.iastore, 1) := by decide +kernel
theorem dX9_evening_55 : decode cX9_evening 55 = .ok (.aload_n 0, 1) := by decide +kernel
theorem dX9_evening_56 : decode cX9_evening 56 = .ok (.getfield 37, 3) := by decide +kernel
theorem dX9_evening_59 : decode cX9_evening 59 = .ok (.iconst 3, 1) := by decide +kernel
theorem dX9_evening_60 : decode cX9_evening 60 = .ok (.aload_n 0, 1) := by decide +kernel
theorem dX9_evening_61 : decode cX9_evening 61 = .ok (.getfield 99, 3) := by decide +kernel
theorem dX9_evening_64 : decode cX9_evening 64 = .ok (.imul, 1) := by decide +kernel
theorem dX9_evening_65 : decode cX9_evening 65 = .ok (.iconst 1, 1) := by decide +kernel
theorem dX9_evening_66 : decode cX9_evening 66 = .ok (.iadd, 1) := by decide +kernel
theorem dX9_evening_67 : decode cX9_evening 67 = .ok (.iload_n 2, 1) := by decide +kernel
theorem dX9_evening_68 : decode cX9_evening 68 = .ok (.iastore, 1) := by decide +kernel
theorem dX9_evening_69 : decode cX9_evening 69 = .ok (.aload_n 0, 1) := by decide +kernel
theorem dX9_evening_70 : decode cX9_evening 70 = .ok (.getfield 37, 3) := by decide +kernel
theorem dX9_evening_73 : decode cX9_evening 73 = .ok (.iconst 3, 1) := by decide +kernel
theorem dX9_evening_74 : decode cX9_evening 74 = .ok (.aload_n 0, 1) := by decide +kernel
theorem dX9_evening_75 : decode cX9_evening 75 = .ok (.getfield 99, 3) := by decide +kernel
theorem dX9_evening_78 : decode cX9_evening 78 = .ok (.imul, 1) := by decide +kernel
theorem dX9_evening_79 : decode cX9_evening 79 = .ok (.iconst 2, 1) := by decide +kernel
theorem dX9_evening_80 : decode cX9_evening 80 = .ok (.iadd, 1) := by decide +kernel
theorem dX9_evening_81 : decode cX9_evening 81 = .ok (.iload_n 3, 1) := by decide +kernel
theorem dX9_evening_82 : decode cX9_evening 82 = .ok (.iastore, 1) := by decide +kernel
theorem dX9_evening_83 : decode cX9_evening 83 = .ok (.aload_n 0, 1) := by decide +kernel
theorem dX9_evening_84 : decode cX9_evening 84 = .ok (.dup, 1) := by decide +kernel
theorem dX9_evening_85 : decode cX9_evening 85 = .ok (.getfield 99, 3) := by decide +kernel
theorem dX9_evening_88 : decode cX9_evening 88 = .ok (.iconst 1, 1) := by decide +kernel
theorem dX9_evening_89 : decode cX9_evening 89 = .ok (.iadd, 1) := by decide +kernel
theorem dX9_evening_90 : decode cX9_evening 90 = .ok (.putfield 99, 3) := by decide +kernel
theorem dX9_evening_93 : decode cX9_evening 93 = .ok (.aload_n 0, 1) := by decide +kernel
theorem dX9_evening_94 : decode cX9_evening 94 = .ok (.getfield 99, 3) := by decide +kernel
theorem dX9_evening_97 : decode cX9_evening 97 = .ok (.ireturn, 1) := by decide +kernel
theorem dX9_forget_0 : decode cX9_forget 0 = .ok (.aload_n 0, 1) := by decide +kernel
theorem dX9_forget_1 : decode cX9_forget 1 = .ok (.getfield 99, 3) := by decide +kernel
theorem dX9_forget_4 : decode cX9_forget 4 = .ok (.istore_n 1, 1) := by decide +kernel
theorem dX9_forget_5 : decode cX9_forget 5 = .ok (.aload_n 0, 1) := by decide +kernel
theorem dX9_forget_6 : decode cX9_forget 6 = .ok (.iconst 0, 1) := by decide +kernel
theorem dX9_forget_7 : decode cX9_forget 7 = .ok (.putfield 99, 3) := by decide +kernel
theorem dX9_forget_10 : decode cX9_forget 10 = .ok (.iload_n 1, 1) := by decide +kernel
theorem dX9_forget_11 : decode cX9_forget 11 = .ok (.ireturn, 1) := by decide +kernel
theorem dX9_fitsOf_0 : decode cX9_fitsOf 0 = .ok (.iconst 0, 1) := by decide +kernel
theorem dX9_fitsOf_1 : decode cX9_fitsOf 1 = .ok (.istore_n 1, 1) := by decide +kernel
theorem dX9_fitsOf_2 : decode cX9_fitsOf 2 = .ok (.aload_n 0, 1) := by decide +kernel
theorem dX9_fitsOf_3 : decode cX9_fitsOf 3 = .ok (.invokevirtual 156, 3) := by decide +kernel
theorem dX9_fitsOf_6 : decode cX9_fitsOf 6 = .ok (.iconst 0, 1) := by decide +kernel
theorem dX9_fitsOf_7 : decode cX9_fitsOf 7 = .ok (.istore_n 2, 1) := by decide +kernel
theorem dX9_fitsOf_8 : decode cX9_fitsOf 8 = .ok (.iload_n 2, 1) := by decide +kernel
theorem dX9_fitsOf_9 : decode cX9_fitsOf 9 = .ok (.bipush 10, 2) := by decide +kernel
theorem dX9_fitsOf_11 : decode cX9_fitsOf 11 = .ok (.if_icmp .ge 101, 3) := by decide +kernel
theorem dX9_fitsOf_14 : decode cX9_fitsOf 14 = .ok (.aload_n 0, 1) := by decide +kernel
theorem dX9_fitsOf_15 : decode cX9_fitsOf 15 = .ok (.iload_n 2, 1) := by decide +kernel
theorem dX9_fitsOf_16 : decode cX9_fitsOf 16 = .ok (.putfield 139, 3) := by decide +kernel
theorem dX9_fitsOf_19 : decode cX9_fitsOf 19 = .ok (.iconst 1, 1) := by decide +kernel
theorem dX9_fitsOf_20 : decode cX9_fitsOf 20 = .ok (.istore_n 3, 1) := by decide +kernel
theorem dX9_fitsOf_21 : decode cX9_fitsOf 21 = .ok (.iconst 0, 1) := by decide +kernel
theorem dX9_fitsOf_22 : decode cX9_fitsOf 22 = .ok (.istore 4, 2) := by decide +kernel
theorem dX9_fitsOf_24 : decode cX9_fitsOf 24 = .ok (.iload 4, 2) := by decide +kernel
theorem dX9_fitsOf_26 : decode cX9_fitsOf 26 = .ok (.aload_n 0, 1) := by decide +kernel
theorem dX9_fitsOf_27 : decode cX9_fitsOf 27 = .ok (.getfield 99, 3) := by decide +kernel
theorem dX9_fitsOf_30 : decode cX9_fitsOf 30 = .ok (.if_icmp .ge 62, 3) := by decide +kernel
theorem dX9_fitsOf_33 : decode cX9_fitsOf 33 = .ok (.iload_n 3, 1) := by decide +kernel
theorem dX9_fitsOf_34 : decode cX9_fitsOf 34 = .ok (.ifCond .eq 58, 3) := by decide +kernel
theorem dX9_fitsOf_37 : decode cX9_fitsOf 37 = .ok (.aload_n 0, 1) := by decide +kernel
theorem dX9_fitsOf_38 : decode cX9_fitsOf 38 = .ok (.aload_n 0, 1) := by decide +kernel
theorem dX9_fitsOf_39 : decode cX9_fitsOf 39 = .ok (.getfield 37, 3) := by decide +kernel
theorem dX9_fitsOf_42 : decode cX9_fitsOf 42 = .ok (.iconst 3, 1) := by decide +kernel
theorem dX9_fitsOf_43 : decode cX9_fitsOf 43 = .ok (.iload 4, 2) := by decide +kernel
theorem dX9_fitsOf_45 : decode cX9_fitsOf 45 = .ok (.imul, 1) := by decide +kernel
theorem dX9_fitsOf_46 : decode cX9_fitsOf 46 = .ok (.iaload, 1) := by decide +kernel
theorem dX9_fitsOf_47 : decode cX9_fitsOf 47 = .ok (.invokevirtual 165, 3) := by decide +kernel
theorem dX9_fitsOf_50 : decode cX9_fitsOf 50 = .ok (.aload_n 0, 1) := by decide +kernel
theorem dX9_fitsOf_51 : decode cX9_fitsOf 51 = .ok (.getfield 34, 3) := by decide +kernel
theorem dX9_fitsOf_54 : decode cX9_fitsOf 54 = .ok (.aload_n 0, 1) := by decide +kernel
theorem dX9_fitsOf_55 : decode cX9_fitsOf 55 = .ok (.getfield 37, 3) := by decide +kernel
theorem dX9_fitsOf_58 : decode cX9_fitsOf 58 = .ok (.iconst 3, 1) := by decide +kernel
theorem dX9_fitsOf_59 : decode cX9_fitsOf 59 = .ok (.iload 4, 2) := by decide +kernel
theorem dX9_fitsOf_61 : decode cX9_fitsOf 61 = .ok (.imul, 1) := by decide +kernel
theorem dX9_fitsOf_62 : decode cX9_fitsOf 62 = .ok (.iconst 1, 1) := by decide +kernel
theorem dX9_fitsOf_63 : decode cX9_fitsOf 63 = .ok (.iadd, 1) := by decide +kernel
theorem dX9_fitsOf_64 : decode cX9_fitsOf 64 = .ok (.iaload, 1) := by decide +kernel
theorem dX9_fitsOf_65 : decode cX9_fitsOf 65 = .ok (.iaload, 1) := by decide +kernel
theorem dX9_fitsOf_66 : decode cX9_fitsOf 66 = .ok (.aload_n 0, 1) := by decide +kernel
theorem dX9_fitsOf_67 : decode cX9_fitsOf 67 = .ok (.getfield 37, 3) := by decide +kernel
theorem dX9_fitsOf_70 : decode cX9_fitsOf 70 = .ok (.iconst 3, 1) := by decide +kernel
theorem dX9_fitsOf_71 : decode cX9_fitsOf 71 = .ok (.iload 4, 2) := by decide +kernel
theorem dX9_fitsOf_73 : decode cX9_fitsOf 73 = .ok (.imul, 1) := by decide +kernel
theorem dX9_fitsOf_74 : decode cX9_fitsOf 74 = .ok (.iconst 2, 1) := by decide +kernel
theorem dX9_fitsOf_75 : decode cX9_fitsOf 75 = .ok (.iadd, 1) := by decide +kernel
theorem dX9_fitsOf_76 : decode cX9_fitsOf 76 = .ok (.iaload, 1) := by decide +kernel
theorem dX9_fitsOf_77 : decode cX9_fitsOf 77 = .ok (.if_icmp .ne 7, 3) := by decide +kernel
theorem dX9_fitsOf_80 : decode cX9_fitsOf 80 = .ok (.iconst 1, 1) := by decide +kernel
theorem dX9_fitsOf_81 : decode cX9_fitsOf 81 = .ok (.goto 4, 3) := by decide +kernel
theorem dX9_fitsOf_84 : decode cX9_fitsOf 84 = .ok (.iconst 0, 1) := by decide +kernel
theorem dX9_fitsOf_85 : decode cX9_fitsOf 85 = .ok (.istore_n 3, 1) := by decide +kernel
theorem dX9_fitsOf_86 : decode cX9_fitsOf 86 = .ok (.iinc 4 1, 3) := by decide +kernel
theorem dX9_fitsOf_89 : decode cX9_fitsOf 89 = .ok (.goto (-65), 3) := by decide +kernel
theorem dX9_fitsOf_92 : decode cX9_fitsOf 92 = .ok (.iload_n 1, 1) := by decide +kernel
theorem dX9_fitsOf_93 : decode cX9_fitsOf 93 = .ok (.iload_n 3, 1) := by decide +kernel
theorem dX9_fitsOf_94 : decode cX9_fitsOf 94 = .ok (.ifCond .eq 9, 3) := by decide +kernel
theorem dX9_fitsOf_97 : decode cX9_fitsOf 97 = .ok (.iconst 1, 1) := by decide +kernel
theorem dX9_fitsOf_98 : decode cX9_fitsOf 98 = .ok (.iload_n 2, 1) := by decide +kernel
theorem dX9_fitsOf_99 : decode cX9_fitsOf 99 = .ok (.ishl, 1) := by decide +kernel
theorem dX9_fitsOf_100 : decode cX9_fitsOf 100 = .ok (.goto 4, 3) := by decide +kernel
theorem dX9_fitsOf_103 : decode cX9_fitsOf 103 = .ok (.iconst 0, 1) := by decide +kernel
theorem dX9_fitsOf_104 : decode cX9_fitsOf 104 = .ok (.ior, 1) := by decide +kernel
theorem dX9_fitsOf_105 : decode cX9_fitsOf 105 = .ok (.istore_n 1, 1) := by decide +kernel
theorem dX9_fitsOf_106 : decode cX9_fitsOf 106 = .ok (.iinc 2 1, 3) := by decide +kernel
theorem dX9_fitsOf_109 : decode cX9_fitsOf 109 = .ok (.goto (-101), 3) := by decide +kernel
theorem dX9_fitsOf_112 : decode cX9_fitsOf 112 = .ok (.iload_n 1, 1) := by decide +kernel
theorem dX9_fitsOf_113 : decode cX9_fitsOf 113 = .ok (.ireturn, 1) := by decide +kernel
theorem dX9_fits_0 : decode cX9_fits 0 = .ok (.iload_n 1, 1) := by decide +kernel
theorem dX9_fits_1 : decode cX9_fits 1 = .ok (.i2l, 1) := by decide +kernel
theorem dX9_fits_2 : decode cX9_fits 2 = .ok (.lconst 0, 1) := by decide +kernel
theorem dX9_fits_3 : decode cX9_fits 3 = .ok (.lconst 1, 1) := by decide +kernel
theorem dX9_fits_4 : decode cX9_fits 4 = .ok (.invokestatic 64, 3) := by decide +kernel
theorem dX9_fits_7 : decode cX9_fits 7 = .ok (.ifCond .ne 6, 3) := by decide +kernel
theorem dX9_fits_10 : decode cX9_fits 10 = .ok (.bipush (-102), 2) := by decide +kernel
theorem dX9_fits_12 : decode cX9_fits 12 = .ok (.ireturn, 1) := by decide +kernel
theorem dX9_fits_13 : decode cX9_fits 13 = .ok (.aload_n 0, 1) := by decide +kernel
theorem dX9_fits_14 : decode cX9_fits 14 = .ok (.invokevirtual 121, 3) := by decide +kernel
theorem dX9_fits_17 : decode cX9_fits 17 = .ok (.ifCond .eq 6, 3) := by decide +kernel
theorem dX9_fits_20 : decode cX9_fits 20 = .ok (.bipush (-103), 2) := by decide +kernel
theorem dX9_fits_22 : decode cX9_fits 22 = .ok (.ireturn, 1) := by decide +kernel
theorem dX9_fits_23 : decode cX9_fits 23 = .ok (.aload_n 0, 1) := by decide +kernel
theorem dX9_fits_24 : decode cX9_fits 24 = .ok (.invokevirtual 200, 3) := by decide +kernel
theorem dX9_fits_27 : decode cX9_fits 27 = .ok (.istore_n 2, 1) := by decide +kernel
theorem dX9_fits_28 : decode cX9_fits 28 = .ok (.iload_n 1, 1) := by decide +kernel
theorem dX9_fits_29 : decode cX9_fits 29 = .ok (.ifCond .ne 5, 3) := by decide +kernel
theorem dX9_fits_32 : decode cX9_fits 32 = .ok (.iload_n 2, 1) := by decide +kernel
theorem dX9_fits_33 : decode cX9_fits 33 = .ok (.ireturn, 1) := by decide +kernel
theorem dX9_fits_34 : decode cX9_fits 34 = .ok (.iconst 0, 1) := by decide +kernel
theorem dX9_fits_35 : decode cX9_fits 35 = .ok (.istore_n 3, 1) := by decide +kernel
theorem dX9_fits_36 : decode cX9_fits 36 = .ok (.iload_n 3, 1) := by decide +kernel
theorem dX9_fits_37 : decode cX9_fits 37 = .ok (.bipush 10, 2) := by decide +kernel
theorem dX9_fits_39 : decode cX9_fits 39 = .ok (.if_icmp .ge 18, 3) := by decide +kernel
theorem dX9_fits_42 : decode cX9_fits 42 = .ok (.iload_n 2, 1) := by decide +kernel
theorem dX9_fits_43 : decode cX9_fits 43 = .ok (.iconst 1, 1) := by decide +kernel
theorem dX9_fits_44 : decode cX9_fits 44 = .ok (.iload_n 3, 1) := by decide +kernel
theorem dX9_fits_45 : decode cX9_fits 45 = .ok (.ishl, 1) := by decide +kernel
theorem dX9_fits_46 : decode cX9_fits 46 = .ok (.if_icmp .ne 5, 3) := by decide +kernel
theorem dX9_fits_49 : decode cX9_fits 49 = .ok (.iload_n 3, 1) := by decide +kernel
theorem dX9_fits_50 : decode cX9_fits 50 = .ok (.ireturn, 1) := by decide +kernel
theorem dX9_fits_51 : decode cX9_fits 51 = .ok (.iinc 3 1, 3) := by decide +kernel
theorem dX9_fits_54 : decode cX9_fits 54 = .ok (.goto (-18), 3) := by decide +kernel
theorem dX9_fits_57 : decode cX9_fits 57 = .ok (.iconst (-1), 1) := by decide +kernel
theorem dX9_fits_58 : decode cX9_fits 58 = .ok (.ireturn, 1) := by decide +kernel
theorem dX9_draw_0 : decode cX9_draw 0 = .ok (.aload_n 0, 1) := by decide +kernel
theorem dX9_draw_1 : decode cX9_draw 1 = .ok (.ldc2_w 203, 3) := by decide +kernel
theorem dX9_draw_4 : decode cX9_draw 4 = .ok (.aload_n 0, 1) := by decide +kernel
theorem dX9_draw_5 : decode cX9_draw 5 = .ok (.getfield 205, 3) := by decide +kernel
theorem dX9_draw_8 : decode cX9_draw 8 = .ok (.i2l, 1) := by decide +kernel
theorem dX9_draw_9 : decode cX9_draw 9 = .ok (.lmul, 1) := by decide +kernel
theorem dX9_draw_10 : decode cX9_draw 10 = .ok (.ldc2_w 208, 3) := by decide +kernel
theorem dX9_draw_13 : decode cX9_draw 13 = .ok (.ladd, 1) := by decide +kernel
theorem dX9_draw_14 : decode cX9_draw 14 = .ok (.ldc2_w 210, 3) := by decide +kernel
theorem dX9_draw_17 : decode cX9_draw 17 = .ok (.land, 1) := by decide +kernel
theorem dX9_draw_18 : decode cX9_draw 18 = .ok (.l2i, 1) := by decide +kernel
theorem dX9_draw_19 : decode cX9_draw 19 = .ok (.putfield 205, 3) := by decide +kernel
theorem dX9_draw_22 : decode cX9_draw 22 = .ok (.aload_n 0, 1) := by decide +kernel
theorem dX9_draw_23 : decode cX9_draw 23 = .ok (.getfield 205, 3) := by decide +kernel
theorem dX9_draw_26 : decode cX9_draw 26 = .ok (.ldc 212, 2) := by decide +kernel
theorem dX9_draw_28 : decode cX9_draw 28 = .ok (.idiv, 1) := by decide +kernel
theorem dX9_draw_29 : decode cX9_draw 29 = .ok (.iload_n 1, 1) := by decide +kernel
theorem dX9_draw_30 : decode cX9_draw 30 = .ok (.irem, 1) := by decide +kernel
theorem dX9_draw_31 : decode cX9_draw 31 = .ok (.ireturn, 1) := by decide +kernel
theorem dX9_copy_0 : decode cX9_copy 0 = .ok (.iconst 0, 1) := by decide +kernel
theorem dX9_copy_1 : decode cX9_copy 1 = .ok (.istore_n 2, 1) := by decide +kernel
theorem dX9_copy_2 : decode cX9_copy 2 = .ok (.iload_n 2, 1) := by decide +kernel
theorem dX9_copy_3 : decode cX9_copy 3 = .ok (.aload_n 0, 1) := by decide +kernel
theorem dX9_copy_4 : decode cX9_copy 4 = .ok (.arraylength, 1) := by decide +kernel
theorem dX9_copy_5 : decode cX9_copy 5 = .ok (.if_icmp .ge 15, 3) := by decide +kernel
theorem dX9_copy_8 : decode cX9_copy 8 = .ok (.aload_n 1, 1) := by decide +kernel
theorem dX9_copy_9 : decode cX9_copy 9 = .ok (.iload_n 2, 1) := by decide +kernel
theorem dX9_copy_10 : decode cX9_copy 10 = .ok (.aload_n 0, 1) := by decide +kernel
theorem dX9_copy_11 : decode cX9_copy 11 = .ok (.iload_n 2, 1) := by decide +kernel
theorem dX9_copy_12 : decode cX9_copy 12 = .ok (.iaload, 1) := by decide +kernel
theorem dX9_copy_13 : decode cX9_copy 13 = .ok (.iastore, 1) := by decide +kernel
theorem dX9_copy_14 : decode cX9_copy 14 = .ok (.iinc 2 1, 3) := by decide +kernel
theorem dX9_copy_17 : decode cX9_copy 17 = .ok (.goto (-15), 3) := by decide +kernel
theorem dX9_copy_20 : decode cX9_copy 20 = .ok (.return_, 1) := by decide +kernel
theorem dX9_evenings_0 : decode cX9_evenings 0 = .ok (.iload_n 1, 1) := by decide +kernel
theorem dX9_evenings_1 : decode cX9_evenings 1 = .ok (.i2l, 1) := by decide +kernel
theorem dX9_evenings_2 : decode cX9_evenings 2 = .ok (.lconst 1, 1) := by decide +kernel
theorem dX9_evenings_3 : decode cX9_evenings 3 = .ok (.ldc2_w 213, 3) := by decide +kernel
theorem dX9_evenings_6 : decode cX9_evenings 6 = .ok (.invokestatic 64, 3) := by decide +kernel
theorem dX9_evenings_9 : decode cX9_evenings 9 = .ok (.ifCond .eq 17, 3) := by decide +kernel
theorem dX9_evenings_12 : decode cX9_evenings 12 = .ok (.iload_n 2, 1) := by decide +kernel
theorem dX9_evenings_13 : decode cX9_evenings 13 = .ok (.ifCond .lt 13, 3) := by decide +kernel
theorem dX9_evenings_16 : decode cX9_evenings 16 = .ok (.iload_n 3, 1) := by decide +kernel
theorem dX9_evenings_17 : decode cX9_evenings 17 = .ok (.i2l, 1) := by decide +kernel
theorem dX9_evenings_18 : decode cX9_evenings 18 = .ok (.lconst 0, 1) := by decide +kernel
theorem dX9_evenings_19 : decode cX9_evenings 19 = .ok (.lconst 1, 1) := by decide +kernel
theorem dX9_evenings_20 : decode cX9_evenings 20 = .ok (.invokestatic 64, 3) := by decide +kernel
theorem dX9_evenings_23 : decode cX9_evenings 23 = .ok (.ifCond .ne 6, 3) := by decide +kernel
theorem dX9_evenings_26 : decode cX9_evenings 26 = .ok (.bipush (-102), 2) := by decide +kernel
theorem dX9_evenings_28 : decode cX9_evenings 28 = .ok (.ireturn, 1) := by decide +kernel
theorem dX9_evenings_29 : decode cX9_evenings 29 = .ok (.aload_n 0, 1) := by decide +kernel
theorem dX9_evenings_30 : decode cX9_evenings 30 = .ok (.getfield 96, 3) := by decide +kernel
theorem dX9_evenings_33 : decode cX9_evenings 33 = .ok (.ifCond .ne 6, 3) := by decide +kernel
theorem dX9_evenings_36 : decode cX9_evenings 36 = .ok (.bipush (-103), 2) := by decide +kernel
theorem dX9_evenings_38 : decode cX9_evenings 38 = .ok (.ireturn, 1) := by decide +kernel
theorem dX9_evenings_39 : decode cX9_evenings 39 = .ok (.aload_n 0, 1) := by decide +kernel
theorem dX9_evenings_40 : decode cX9_evenings 40 = .ok (.getfield 28, 3) := by decide +kernel
theorem dX9_evenings_43 : decode cX9_evenings 43 = .ok (.aload_n 0, 1) := by decide +kernel
theorem dX9_evenings_44 : decode cX9_evenings 44 = .ok (.getfield 40, 3) := by decide +kernel
theorem dX9_evenings_47 : decode cX9_evenings 47 = .ok (.invokestatic 215, 3) := by decide +kernel
theorem dX9_evenings_50 : decode cX9_evenings 50 = .ok (.aload_n 0, 1) := by decide +kernel
theorem dX9_evenings_51 : decode cX9_evenings 51 = .ok (.invokevirtual 156, 3) := by decide +kernel
theorem dX9_evenings_54 : decode cX9_evenings 54 = .ok (.aload_n 0, 1) := by decide +kernel
theorem dX9_evenings_55 : decode cX9_evenings 55 = .ok (.iload_n 2, 1) := by decide +kernel
theorem dX9_evenings_56 : decode cX9_evenings 56 = .ok (.putfield 205, 3) := by decide +kernel
theorem dX9_evenings_59 : decode cX9_evenings 59 = .ok (.iconst 0, 1) := by decide +kernel
theorem dX9_evenings_60 : decode cX9_evenings 60 = .ok (.istore 4, 2) := by decide +kernel
theorem dX9_evenings_62 : decode cX9_evenings 62 = .ok (.iconst 0, 1) := by decide +kernel
theorem dX9_evenings_63 : decode cX9_evenings 63 = .ok (.istore 5, 2) := by decide +kernel
theorem dX9_evenings_65 : decode cX9_evenings 65 = .ok (.iload 5, 2) := by decide +kernel
theorem dX9_evenings_67 : decode cX9_evenings 67 = .ok (.iload_n 1, 1) := by decide +kernel
theorem dX9_evenings_68 : decode cX9_evenings 68 = .ok (.if_icmp .ge 77, 3) := by decide +kernel
theorem dX9_evenings_71 : decode cX9_evenings 71 = .ok (.aload_n 0, 1) := by decide +kernel
theorem dX9_evenings_72 : decode cX9_evenings 72 = .ok (.aload_n 0, 1) := by decide +kernel
theorem dX9_evenings_73 : decode cX9_evenings 73 = .ok (.getfield 96, 3) := by decide +kernel
theorem dX9_evenings_76 : decode cX9_evenings 76 = .ok (.invokevirtual 219, 3) := by decide +kernel
theorem dX9_evenings_79 : decode cX9_evenings 79 = .ok (.istore 6, 2) := by decide +kernel
theorem dX9_evenings_81 : decode cX9_evenings 81 = .ok (.aload_n 0, 1) := by decide +kernel
theorem dX9_evenings_82 : decode cX9_evenings 82 = .ok (.aload_n 0, 1) := by decide +kernel
theorem dX9_evenings_83 : decode cX9_evenings 83 = .ok (.getfield 90, 3) := by decide +kernel
theorem dX9_evenings_86 : decode cX9_evenings 86 = .ok (.invokevirtual 219, 3) := by decide +kernel
theorem dX9_evenings_89 : decode cX9_evenings 89 = .ok (.istore 7, 2) := by decide +kernel
theorem dX9_evenings_91 : decode cX9_evenings 91 = .ok (.aload_n 0, 1) := by decide +kernel
theorem dX9_evenings_92 : decode cX9_evenings 92 = .ok (.aload_n 0, 1) := by decide +kernel
theorem dX9_evenings_93 : decode cX9_evenings 93 = .ok (.getfield 96, 3) := by decide +kernel
theorem dX9_evenings_96 : decode cX9_evenings 96 = .ok (.invokevirtual 219, 3) := by decide +kernel
theorem dX9_evenings_99 : decode cX9_evenings 99 = .ok (.istore 8, 2) := by decide +kernel
theorem dX9_evenings_101 : decode cX9_evenings 101 = .ok (.aload_n 0, 1) := by decide +kernel
theorem dX9_evenings_102 : decode cX9_evenings 102 = .ok (.getfield 28, 3) := by decide +kernel
theorem dX9_evenings_105 : decode cX9_evenings 105 = .ok (.bipush 6, 2) := by decide +kernel
theorem dX9_evenings_107 : decode cX9_evenings 107 = .ok (.iload 8, 2) := by decide +kernel
theorem dX9_evenings_109 : decode cX9_evenings 109 = .ok (.imul, 1) := by decide +kernel
theorem dX9_evenings_110 : decode cX9_evenings 110 = .ok (.iload 7, 2) := by decide +kernel
theorem dX9_evenings_112 : decode cX9_evenings 112 = .ok (.iadd, 1) := by decide +kernel
theorem dX9_evenings_113 : decode cX9_evenings 113 = .ok (.aload_n 0, 1) := by decide +kernel
theorem dX9_evenings_114 : decode cX9_evenings 114 = .ok (.bipush 10, 2) := by decide +kernel
theorem dX9_evenings_116 : decode cX9_evenings 116 = .ok (.invokevirtual 219, 3) := by decide +kernel
theorem dX9_evenings_119 : decode cX9_evenings 119 = .ok (.iastore, 1) := by decide +kernel
theorem dX9_evenings_120 : decode cX9_evenings 120 = .ok (.aload_n 0, 1) := by decide +kernel
theorem dX9_evenings_121 : decode cX9_evenings 121 = .ok (.iload 6, 2) := by decide +kernel
theorem dX9_evenings_123 : decode cX9_evenings 123 = .ok (.invokevirtual 165, 3) := by decide +kernel
theorem dX9_evenings_126 : decode cX9_evenings 126 = .ok (.iload 4, 2) := by decide +kernel
theorem dX9_evenings_128 : decode cX9_evenings 128 = .ok (.aload_n 0, 1) := by decide +kernel
theorem dX9_evenings_129 : decode cX9_evenings 129 = .ok (.aload_n 0, 1) := by decide +kernel
theorem dX9_evenings_130 : decode cX9_evenings 130 = .ok (.getfield 34, 3) := by decide +kernel
theorem dX9_evenings_133 : decode cX9_evenings 133 = .ok (.invokevirtual 169, 3) := by decide +kernel
theorem dX9_evenings_136 : decode cX9_evenings 136 = .ok (.iadd, 1) := by decide +kernel
theorem dX9_evenings_137 : decode cX9_evenings 137 = .ok (.istore 4, 2) := by decide +kernel
theorem dX9_evenings_139 : decode cX9_evenings 139 = .ok (.iinc 5 1, 3) := by decide +kernel
theorem dX9_evenings_142 : decode cX9_evenings 142 = .ok (.goto (-77), 3) := by decide +kernel
theorem dX9_evenings_145 : decode cX9_evenings 145 = .ok (.aload_n 0, 1) := by decide +kernel
theorem dX9_evenings_146 : decode cX9_evenings 146 = .ok (.getfield 40, 3) := by decide +kernel
theorem dX9_evenings_149 : decode cX9_evenings 149 = .ok (.aload_n 0, 1) := by decide +kernel
theorem dX9_evenings_150 : decode cX9_evenings 150 = .ok (.getfield 28, 3) := by decide +kernel
theorem dX9_evenings_153 : decode cX9_evenings 153 = .ok (.invokestatic 215, 3) := by decide +kernel
theorem dX9_evenings_156 : decode cX9_evenings 156 = .ok (.iload_n 3, 1) := by decide +kernel
theorem dX9_evenings_157 : decode cX9_evenings 157 = .ok (.ifCond .ne 8, 3) := by decide +kernel
theorem dX9_evenings_160 : decode cX9_evenings 160 = .ok (.iload 4, 2) := by decide +kernel
theorem dX9_evenings_162 : decode cX9_evenings 162 = .ok (.goto 7, 3) := by decide +kernel
theorem dX9_evenings_165 : decode cX9_evenings 165 = .ok (.aload_n 0, 1) := by decide +kernel
theorem dX9_evenings_166 : decode cX9_evenings 166 = .ok (.getfield 205, 3) := by decide +kernel
theorem dX9_evenings_169 : decode cX9_evenings 169 = .ok (.ireturn, 1) := by decide +kernel
theorem dX9_image_0 : decode cX9_image 0 = .ok (.aload_n 0, 1) := by decide +kernel
theorem dX9_image_1 : decode cX9_image 1 = .ok (.invokevirtual 121, 3) := by decide +kernel
theorem dX9_image_4 : decode cX9_image 4 = .ok (.ifCond .eq 6, 3) := by decide +kernel
theorem dX9_image_7 : decode cX9_image 7 = .ok (.bipush (-103), 2) := by decide +kernel
theorem dX9_image_9 : decode cX9_image 9 = .ok (.ireturn, 1) := by decide +kernel
theorem dX9_image_10 : decode cX9_image 10 = .ok (.aload_n 0, 1) := by decide +kernel
theorem dX9_image_11 : decode cX9_image 11 = .ok (.getfield 28, 3) := by decide +kernel
theorem dX9_image_14 : decode cX9_image 14 = .ok (.aload_n 0, 1) := by decide +kernel
theorem dX9_image_15 : decode cX9_image 15 = .ok (.getfield 43, 3) := by decide +kernel
theorem dX9_image_18 : decode cX9_image 18 = .ok (.invokestatic 215, 3) := by decide +kernel
theorem dX9_image_21 : decode cX9_image 21 = .ok (.aload_n 0, 1) := by decide +kernel
theorem dX9_image_22 : decode cX9_image 22 = .ok (.getfield 25, 3) := by decide +kernel
theorem dX9_image_25 : decode cX9_image 25 = .ok (.aload_n 0, 1) := by decide +kernel
theorem dX9_image_26 : decode cX9_image 26 = .ok (.getfield 46, 3) := by decide +kernel
theorem dX9_image_29 : decode cX9_image 29 = .ok (.invokestatic 215, 3) := by decide +kernel
theorem dX9_image_32 : decode cX9_image 32 = .ok (.aload_n 0, 1) := by decide +kernel
theorem dX9_image_33 : decode cX9_image 33 = .ok (.getfield 31, 3) := by decide +kernel
theorem dX9_image_36 : decode cX9_image 36 = .ok (.aload_n 0, 1) := by decide +kernel
theorem dX9_image_37 : decode cX9_image 37 = .ok (.getfield 49, 3) := by decide +kernel
theorem dX9_image_40 : decode cX9_image 40 = .ok (.invokestatic 215, 3) := by decide +kernel
theorem dX9_image_43 : decode cX9_image 43 = .ok (.aload_n 0, 1) := by decide +kernel
theorem dX9_image_44 : decode cX9_image 44 = .ok (.getfield 37, 3) := by decide +kernel
theorem dX9_image_47 : decode cX9_image 47 = .ok (.aload_n 0, 1) := by decide +kernel
theorem dX9_image_48 : decode cX9_image 48 = .ok (.getfield 52, 3) := by decide +kernel
theorem dX9_image_51 : decode cX9_image 51 = .ok (.invokestatic 215, 3) := by decide +kernel
theorem dX9_image_54 : decode cX9_image 54 = .ok (.aload_n 0, 1) := by decide +kernel
theorem dX9_image_55 : decode cX9_image 55 = .ok (.aload_n 0, 1) := by decide +kernel
theorem dX9_image_56 : decode cX9_image 56 = .ok (.getfield 96, 3) := by decide +kernel
theorem dX9_image_59 : decode cX9_image 59 = .ok (.putfield 222, 3) := by decide +kernel
theorem dX9_image_62 : decode cX9_image 62 = .ok (.aload_n 0, 1) := by decide +kernel
theorem dX9_image_63 : decode cX9_image 63 = .ok (.aload_n 0, 1) := by decide +kernel
theorem dX9_image_64 : decode cX9_image 64 = .ok (.getfield 59, 3) := by decide +kernel
theorem dX9_image_67 : decode cX9_image 67 = .ok (.putfield 225, 3) := by decide +kernel
theorem dX9_image_70 : decode cX9_image 70 = .ok (.aload_n 0, 1) := by decide +kernel
theorem dX9_image_71 : decode cX9_image 71 = .ok (.aload_n 0, 1) := by decide +kernel
theorem dX9_image_72 : decode cX9_image 72 = .ok (.getfield 102, 3) := by decide +kernel
theorem dX9_image_75 : decode cX9_image 75 = .ok (.putfield 228, 3) := by decide +kernel
theorem dX9_image_78 : decode cX9_image 78 = .ok (.aload_n 0, 1) := by decide +kernel
theorem dX9_image_79 : decode cX9_image 79 = .ok (.aload_n 0, 1) := by decide +kernel
theorem dX9_image_80 : decode cX9_image 80 = .ok (.getfield 99, 3) := by decide +kernel
theorem dX9_image_83 : decode cX9_image 83 = .ok (.putfield 231, 3) := by decide +kernel
theorem dX9_image_86 : decode cX9_image 86 = .ok (.aload_n 0, 1) := by decide +kernel
theorem dX9_image_87 : decode cX9_image 87 = .ok (.aload_n 0, 1) := by decide +kernel
theorem dX9_image_88 : decode cX9_image 88 = .ok (.getfield 105, 3) := by decide +kernel
theorem dX9_image_91 : decode cX9_image 91 = .ok (.putfield 55, 3) := by decide +kernel
theorem dX9_image_94 : decode cX9_image 94 = .ok (.aload_n 0, 1) := by decide +kernel
theorem dX9_image_95 : decode cX9_image 95 = .ok (.invokevirtual 162, 3) := by decide +kernel
theorem dX9_image_98 : decode cX9_image 98 = .ok (.ireturn, 1) := by decide +kernel
theorem dX9_restore_0 : decode cX9_restore 0 = .ok (.aload_n 0, 1) := by decide +kernel
theorem dX9_restore_1 : decode cX9_restore 1 = .ok (.getfield 55, 3) := by decide +kernel
theorem dX9_restore_4 : decode cX9_restore 4 = .ok (.aload_n 0, 1) := by decide +kernel
theorem dX9_restore_5 : decode cX9_restore 5 = .ok (.getfield 105, 3) := by decide +kernel
theorem dX9_restore_8 : decode cX9_restore 8 = .ok (.if_icmp .ne 14, 3) := by decide +kernel
theorem dX9_restore_11 : decode cX9_restore 11 = .ok (.aload_n 0, 1) := by decide +kernel
theorem dX9_restore_12 : decode cX9_restore 12 = .ok (.getfield 222, 3) := by decide +kernel
theorem dX9_restore_15 : decode cX9_restore 15 = .ok (.aload_n 0, 1) := by decide +kernel
theorem dX9_restore_16 : decode cX9_restore 16 = .ok (.getfield 96, 3) := by decide +kernel
theorem dX9_restore_19 : decode cX9_restore 19 = .ok (.if_icmp .eq 6, 3) := by decide +kernel
theorem dX9_restore_22 : decode cX9_restore 22 = .ok (.bipush (-103), 2) := by decide +kernel
theorem dX9_restore_24 : decode cX9_restore 24 = .ok (.ireturn, 1) := by decide +kernel
theorem dX9_restore_25 : decode cX9_restore 25 = .ok (.aload_n 0, 1) := by decide +kernel
theorem dX9_restore_26 : decode cX9_restore 26 = .ok (.getfield 43, 3) := by decide +kernel
theorem dX9_restore_29 : decode cX9_restore 29 = .ok (.aload_n 0, 1) := by decide +kernel
theorem dX9_restore_30 : decode cX9_restore 30 = .ok (.getfield 28, 3) := by decide +kernel
theorem dX9_restore_33 : decode cX9_restore 33 = .ok (.invokestatic 215, 3) := by decide +kernel
theorem dX9_restore_36 : decode cX9_restore 36 = .ok (.aload_n 0, 1) := by decide +kernel
theorem dX9_restore_37 : decode cX9_restore 37 = .ok (.getfield 46, 3) := by decide +kernel
theorem dX9_restore_40 : decode cX9_restore 40 = .ok (.aload_n 0, 1) := by decide +kernel
theorem dX9_restore_41 : decode cX9_restore 41 = .ok (.getfield 25, 3) := by decide +kernel
theorem dX9_restore_44 : decode cX9_restore 44 = .ok (.invokestatic 215, 3) := by decide +kernel
theorem dX9_restore_47 : decode cX9_restore 47 = .ok (.aload_n 0, 1) := by decide +kernel
theorem dX9_restore_48 : decode cX9_restore 48 = .ok (.getfield 49, 3) := by decide +kernel
theorem dX9_restore_51 : decode cX9_restore 51 = .ok (.aload_n 0, 1) := by decide +kernel
theorem dX9_restore_52 : decode cX9_restore 52 = .ok (.getfield 31, 3) := by decide +kernel
theorem dX9_restore_55 : decode cX9_restore 55 = .ok (.invokestatic 215, 3) := by decide +kernel
theorem dX9_restore_58 : decode cX9_restore 58 = .ok (.aload_n 0, 1) := by decide +kernel
theorem dX9_restore_59 : decode cX9_restore 59 = .ok (.getfield 52, 3) := by decide +kernel
theorem dX9_restore_62 : decode cX9_restore 62 = .ok (.aload_n 0, 1) := by decide +kernel
theorem dX9_restore_63 : decode cX9_restore 63 = .ok (.getfield 37, 3) := by decide +kernel
theorem dX9_restore_66 : decode cX9_restore 66 = .ok (.invokestatic 215, 3) := by decide +kernel
theorem dX9_restore_69 : decode cX9_restore 69 = .ok (.aload_n 0, 1) := by decide +kernel
theorem dX9_restore_70 : decode cX9_restore 70 = .ok (.aload_n 0, 1) := by decide +kernel
theorem dX9_restore_71 : decode cX9_restore 71 = .ok (.getfield 225, 3) := by decide +kernel
theorem dX9_restore_74 : decode cX9_restore 74 = .ok (.putfield 59, 3) := by decide +kernel
theorem dX9_restore_77 : decode cX9_restore 77 = .ok (.aload_n 0, 1) := by decide +kernel
theorem dX9_restore_78 : decode cX9_restore 78 = .ok (.aload_n 0, 1) := by decide +kernel
theorem dX9_restore_79 : decode cX9_restore 79 = .ok (.getfield 228, 3) := by decide +kernel
theorem dX9_restore_82 : decode cX9_restore 82 = .ok (.putfield 102, 3) := by decide +kernel
theorem dX9_restore_85 : decode cX9_restore 85 = .ok (.aload_n 0, 1) := by decide +kernel
theorem dX9_restore_86 : decode cX9_restore 86 = .ok (.aload_n 0, 1) := by decide +kernel
theorem dX9_restore_87 : decode cX9_restore 87 = .ok (.getfield 231, 3) := by decide +kernel
theorem dX9_restore_90 : decode cX9_restore 90 = .ok (.putfield 99, 3) := by decide +kernel
theorem dX9_restore_93 : decode cX9_restore 93 = .ok (.aload_n 0, 1) := by decide +kernel
theorem dX9_restore_94 : decode cX9_restore 94 = .ok (.invokevirtual 162, 3) := by decide +kernel
theorem dX9_restore_97 : decode cX9_restore 97 = .ok (.ireturn, 1) := by decide +kernel
theorem dX9_countOf_0 : decode cX9_countOf 0 = .ok (.iload_n 1, 1) := by decide +kernel
theorem dX9_countOf_1 : decode cX9_countOf 1 = .ok (.tableswitch 100 0 8 #[51, 56, 61, 66, 71, 80, 85, 90, 95], 51) := by decide +kernel
theorem dX9_countOf_52 : decode cX9_countOf 52 = .ok (.aload_n 0, 1) := by decide +kernel
theorem dX9_countOf_53 : decode cX9_countOf 53 = .ok (.getfield 90, 3) := by decide +kernel
theorem dX9_countOf_56 : decode cX9_countOf 56 = .ok (.ireturn, 1) := by decide +kernel
theorem dX9_countOf_57 : decode cX9_countOf 57 = .ok (.aload_n 0, 1) := by decide +kernel
theorem dX9_countOf_58 : decode cX9_countOf 58 = .ok (.getfield 93, 3) := by decide +kernel
theorem dX9_countOf_61 : decode cX9_countOf 61 = .ok (.ireturn, 1) := by decide +kernel
theorem dX9_countOf_62 : decode cX9_countOf 62 = .ok (.aload_n 0, 1) := by decide +kernel
theorem dX9_countOf_63 : decode cX9_countOf 63 = .ok (.getfield 96, 3) := by decide +kernel
theorem dX9_countOf_66 : decode cX9_countOf 66 = .ok (.ireturn, 1) := by decide +kernel
theorem dX9_countOf_67 : decode cX9_countOf 67 = .ok (.aload_n 0, 1) := by decide +kernel
theorem dX9_countOf_68 : decode cX9_countOf 68 = .ok (.invokevirtual 162, 3) := by decide +kernel
theorem dX9_countOf_71 : decode cX9_countOf 71 = .ok (.ireturn, 1) := by decide +kernel
theorem dX9_countOf_72 : decode cX9_countOf 72 = .ok (.aload_n 0, 1) := by decide +kernel
theorem dX9_countOf_73 : decode cX9_countOf 73 = .ok (.aload_n 0, 1) := by decide +kernel
theorem dX9_countOf_74 : decode cX9_countOf 74 = .ok (.getfield 31, 3) := by decide +kernel
theorem dX9_countOf_77 : decode cX9_countOf 77 = .ok (.invokevirtual 169, 3) := by decide +kernel
theorem dX9_countOf_80 : decode cX9_countOf 80 = .ok (.ireturn, 1) := by decide +kernel
theorem dX9_countOf_81 : decode cX9_countOf 81 = .ok (.aload_n 0, 1) := by decide +kernel
theorem dX9_countOf_82 : decode cX9_countOf 82 = .ok (.getfield 99, 3) := by decide +kernel
theorem dX9_countOf_85 : decode cX9_countOf 85 = .ok (.ireturn, 1) := by decide +kernel
theorem dX9_countOf_86 : decode cX9_countOf 86 = .ok (.aload_n 0, 1) := by decide +kernel
theorem dX9_countOf_87 : decode cX9_countOf 87 = .ok (.getfield 68, 3) := by decide +kernel
theorem dX9_countOf_90 : decode cX9_countOf 90 = .ok (.ireturn, 1) := by decide +kernel
theorem dX9_countOf_91 : decode cX9_countOf 91 = .ok (.aload_n 0, 1) := by decide +kernel
theorem dX9_countOf_92 : decode cX9_countOf 92 = .ok (.getfield 105, 3) := by decide +kernel
theorem dX9_countOf_95 : decode cX9_countOf 95 = .ok (.ireturn, 1) := by decide +kernel
theorem dX9_countOf_96 : decode cX9_countOf 96 = .ok (.aload_n 0, 1) := by decide +kernel
theorem dX9_countOf_97 : decode cX9_countOf 97 = .ok (.getfield 176, 3) := by decide +kernel
theorem dX9_countOf_100 : decode cX9_countOf 100 = .ok (.ireturn, 1) := by decide +kernel
theorem dX9_countOf_101 : decode cX9_countOf 101 = .ok (.bipush (-102), 2) := by decide +kernel
theorem dX9_countOf_103 : decode cX9_countOf 103 = .ok (.ireturn, 1) := by decide +kernel
theorem dX9_count_0 : decode cX9_count 0 = .ok (.aload_n 0, 1) := by decide +kernel
theorem dX9_count_1 : decode cX9_count 1 = .ok (.iload_n 1, 1) := by decide +kernel
theorem dX9_count_2 : decode cX9_count 2 = .ok (.invokevirtual 234, 3) := by decide +kernel
theorem dX9_count_5 : decode cX9_count 5 = .ok (.ireturn, 1) := by decide +kernel
theorem dX9_say_0 : decode cX9_say 0 = .ok (.aload_n 0, 1) := by decide +kernel
theorem dX9_say_1 : decode cX9_say 1 = .ok (.ldc2_w 237, 3) := by decide +kernel
theorem dX9_say_4 : decode cX9_say 4 = .ok (.aload_n 0, 1) := by decide +kernel
theorem dX9_say_5 : decode cX9_say 5 = .ok (.getfield 239, 3) := by decide +kernel
theorem dX9_say_8 : decode cX9_say 8 = .ok (.lmul, 1) := by decide +kernel
theorem dX9_say_9 : decode cX9_say 9 = .ok (.lload_n 1, 1) := by decide +kernel
theorem dX9_say_10 : decode cX9_say 10 = .ok (.ladd, 1) := by decide +kernel
theorem dX9_say_11 : decode cX9_say 11 = .ok (.putfield 239, 3) := by decide +kernel
theorem dX9_say_14 : decode cX9_say 14 = .ok (.return_, 1) := by decide +kernel
theorem dX9_sayGuest_0 : decode cX9_sayGuest 0 = .ok (.iconst 0, 1) := by decide +kernel
theorem dX9_sayGuest_1 : decode cX9_sayGuest 1 = .ok (.istore_n 2, 1) := by decide +kernel
theorem dX9_sayGuest_2 : decode cX9_sayGuest 2 = .ok (.iload_n 2, 1) := by decide +kernel
theorem dX9_sayGuest_3 : decode cX9_sayGuest 3 = .ok (.bipush 6, 2) := by decide +kernel
theorem dX9_sayGuest_5 : decode cX9_sayGuest 5 = .ok (.if_icmp .ge 20, 3) := by decide +kernel
theorem dX9_sayGuest_8 : decode cX9_sayGuest 8 = .ok (.aload_n 0, 1) := by decide +kernel
theorem dX9_sayGuest_9 : decode cX9_sayGuest 9 = .ok (.aload_n 0, 1) := by decide +kernel
theorem dX9_sayGuest_10 : decode cX9_sayGuest 10 = .ok (.iload_n 1, 1) := by decide +kernel
theorem dX9_sayGuest_11 : decode cX9_sayGuest 11 = .ok (.iload_n 2, 1) := by decide +kernel
theorem dX9_sayGuest_12 : decode cX9_sayGuest 12 = .ok (.invokevirtual 134, 3) := by decide +kernel
theorem dX9_sayGuest_15 : decode cX9_sayGuest 15 = .ok (.i2l, 1) := by decide +kernel
theorem dX9_sayGuest_16 : decode cX9_sayGuest 16 = .ok (.invokevirtual 243, 3) := by decide +kernel
theorem dX9_sayGuest_19 : decode cX9_sayGuest 19 = .ok (.iinc 2 1, 3) := by decide +kernel
theorem dX9_sayGuest_22 : decode cX9_sayGuest 22 = .ok (.goto (-20), 3) := by decide +kernel
theorem dX9_sayGuest_25 : decode cX9_sayGuest 25 = .ok (.iconst 0, 1) := by decide +kernel
theorem dX9_sayGuest_26 : decode cX9_sayGuest 26 = .ok (.istore_n 2, 1) := by decide +kernel
theorem dX9_sayGuest_27 : decode cX9_sayGuest 27 = .ok (.iload_n 2, 1) := by decide +kernel
theorem dX9_sayGuest_28 : decode cX9_sayGuest 28 = .ok (.aload_n 0, 1) := by decide +kernel
theorem dX9_sayGuest_29 : decode cX9_sayGuest 29 = .ok (.getfield 90, 3) := by decide +kernel
theorem dX9_sayGuest_32 : decode cX9_sayGuest 32 = .ok (.if_icmp .ge 25, 3) := by decide +kernel
theorem dX9_sayGuest_35 : decode cX9_sayGuest 35 = .ok (.aload_n 0, 1) := by decide +kernel
theorem dX9_sayGuest_36 : decode cX9_sayGuest 36 = .ok (.aload_n 0, 1) := by decide +kernel
theorem dX9_sayGuest_37 : decode cX9_sayGuest 37 = .ok (.getfield 28, 3) := by decide +kernel
theorem dX9_sayGuest_40 : decode cX9_sayGuest 40 = .ok (.bipush 6, 2) := by decide +kernel
theorem dX9_sayGuest_42 : decode cX9_sayGuest 42 = .ok (.iload_n 1, 1) := by decide +kernel
theorem dX9_sayGuest_43 : decode cX9_sayGuest 43 = .ok (.imul, 1) := by decide +kernel
theorem dX9_sayGuest_44 : decode cX9_sayGuest 44 = .ok (.iload_n 2, 1) := by decide +kernel
theorem dX9_sayGuest_45 : decode cX9_sayGuest 45 = .ok (.iadd, 1) := by decide +kernel
theorem dX9_sayGuest_46 : decode cX9_sayGuest 46 = .ok (.iaload, 1) := by decide +kernel
theorem dX9_sayGuest_47 : decode cX9_sayGuest 47 = .ok (.i2l, 1) := by decide +kernel
theorem dX9_sayGuest_48 : decode cX9_sayGuest 48 = .ok (.invokevirtual 243, 3) := by decide +kernel
theorem dX9_sayGuest_51 : decode cX9_sayGuest 51 = .ok (.iinc 2 1, 3) := by decide +kernel
theorem dX9_sayGuest_54 : decode cX9_sayGuest 54 = .ok (.goto (-27), 3) := by decide +kernel
theorem dX9_sayGuest_57 : decode cX9_sayGuest 57 = .ok (.aload_n 0, 1) := by decide +kernel
theorem dX9_sayGuest_58 : decode cX9_sayGuest 58 = .ok (.aload_n 0, 1) := by decide +kernel
theorem dX9_sayGuest_59 : decode cX9_sayGuest 59 = .ok (.iload_n 1, 1) := by decide +kernel
theorem dX9_sayGuest_60 : decode cX9_sayGuest 60 = .ok (.invokevirtual 186, 3) := by decide +kernel
theorem dX9_sayGuest_63 : decode cX9_sayGuest 63 = .ok (.i2l, 1) := by decide +kernel
theorem dX9_sayGuest_64 : decode cX9_sayGuest 64 = .ok (.invokevirtual 243, 3) := by decide +kernel
theorem dX9_sayGuest_67 : decode cX9_sayGuest 67 = .ok (.return_, 1) := by decide +kernel
theorem dX9_digest_0 : decode cX9_digest 0 = .ok (.aload_n 0, 1) := by decide +kernel
theorem dX9_digest_1 : decode cX9_digest 1 = .ok (.ldc2_w 247, 3) := by decide +kernel
theorem dX9_digest_4 : decode cX9_digest 4 = .ok (.putfield 239, 3) := by decide +kernel
theorem dX9_digest_7 : decode cX9_digest 7 = .ok (.iconst 0, 1) := by decide +kernel
theorem dX9_digest_8 : decode cX9_digest 8 = .ok (.istore_n 1, 1) := by decide +kernel
theorem dX9_digest_9 : decode cX9_digest 9 = .ok (.iload_n 1, 1) := by decide +kernel
theorem dX9_digest_10 : decode cX9_digest 10 = .ok (.aload_n 0, 1) := by decide +kernel
theorem dX9_digest_11 : decode cX9_digest 11 = .ok (.getfield 90, 3) := by decide +kernel
theorem dX9_digest_14 : decode cX9_digest 14 = .ok (.if_icmp .ge 33, 3) := by decide +kernel
theorem dX9_digest_17 : decode cX9_digest 17 = .ok (.iconst 0, 1) := by decide +kernel
theorem dX9_digest_18 : decode cX9_digest 18 = .ok (.istore_n 2, 1) := by decide +kernel
theorem dX9_digest_19 : decode cX9_digest 19 = .ok (.iload_n 2, 1) := by decide +kernel
theorem dX9_digest_20 : decode cX9_digest 20 = .ok (.iconst 4, 1) := by decide +kernel
theorem dX9_digest_21 : decode cX9_digest 21 = .ok (.if_icmp .ge 20, 3) := by decide +kernel
theorem dX9_digest_24 : decode cX9_digest 24 = .ok (.aload_n 0, 1) := by decide +kernel
theorem dX9_digest_25 : decode cX9_digest 25 = .ok (.aload_n 0, 1) := by decide +kernel
theorem dX9_digest_26 : decode cX9_digest 26 = .ok (.iload_n 1, 1) := by decide +kernel
theorem dX9_digest_27 : decode cX9_digest 27 = .ok (.iload_n 2, 1) := by decide +kernel
theorem dX9_digest_28 : decode cX9_digest 28 = .ok (.invokevirtual 115, 3) := by decide +kernel
theorem dX9_digest_31 : decode cX9_digest 31 = .ok (.i2l, 1) := by decide +kernel
theorem dX9_digest_32 : decode cX9_digest 32 = .ok (.invokevirtual 243, 3) := by decide +kernel
theorem dX9_digest_35 : decode cX9_digest 35 = .ok (.iinc 2 1, 3) := by decide +kernel
theorem dX9_digest_38 : decode cX9_digest 38 = .ok (.goto (-19), 3) := by decide +kernel
theorem dX9_digest_41 : decode cX9_digest 41 = .ok (.iinc 1 1, 3) := by decide +kernel
theorem dX9_digest_44 : decode cX9_digest 44 = .ok (.goto (-35), 3) := by decide +kernel
theorem dX9_digest_47 : decode cX9_digest 47 = .ok (.iconst 0, 1) := by decide +kernel
theorem dX9_digest_48 : decode cX9_digest 48 = .ok (.istore_n 1, 1) := by decide +kernel
theorem dX9_digest_49 : decode cX9_digest 49 = .ok (.iload_n 1, 1) := by decide +kernel
theorem dX9_digest_50 : decode cX9_digest 50 = .ok (.aload_n 0, 1) := by decide +kernel
theorem dX9_digest_51 : decode cX9_digest 51 = .ok (.getfield 96, 3) := by decide +kernel
theorem dX9_digest_54 : decode cX9_digest 54 = .ok (.if_icmp .ge 14, 3) := by decide +kernel
theorem dX9_digest_57 : decode cX9_digest 57 = .ok (.aload_n 0, 1) := by decide +kernel
theorem dX9_digest_58 : decode cX9_digest 58 = .ok (.iload_n 1, 1) := by decide +kernel
theorem dX9_digest_59 : decode cX9_digest 59 = .ok (.invokevirtual 249, 3) := by decide +kernel
theorem dX9_digest_62 : decode cX9_digest 62 = .ok (.iinc 1 1, 3) := by decide +kernel
theorem dX9_digest_65 : decode cX9_digest 65 = .ok (.goto (-16), 3) := by decide +kernel
theorem dX9_digest_68 : decode cX9_digest 68 = .ok (.aload_n 0, 1) := by decide +kernel
theorem dX9_digest_69 : decode cX9_digest 69 = .ok (.invokevirtual 121, 3) := by decide +kernel
theorem dX9_digest_72 : decode cX9_digest 72 = .ok (.ifCond .ne 41, 3) := by decide +kernel
theorem dX9_digest_75 : decode cX9_digest 75 = .ok (.aload_n 0, 1) := by decide +kernel
theorem dX9_digest_76 : decode cX9_digest 76 = .ok (.aload_n 0, 1) := by decide +kernel
theorem dX9_digest_77 : decode cX9_digest 77 = .ok (.invokevirtual 189, 3) := by decide +kernel
theorem dX9_digest_80 : decode cX9_digest 80 = .ok (.i2l, 1) := by decide +kernel
theorem dX9_digest_81 : decode cX9_digest 81 = .ok (.invokevirtual 243, 3) := by decide +kernel
theorem dX9_digest_84 : decode cX9_digest 84 = .ok (.aload_n 0, 1) := by decide +kernel
theorem dX9_digest_85 : decode cX9_digest 85 = .ok (.aload_n 0, 1) := by decide +kernel
theorem dX9_digest_86 : decode cX9_digest 86 = .ok (.iconst 0, 1) := by decide +kernel
theorem dX9_digest_87 : decode cX9_digest 87 = .ok (.invokevirtual 195, 3) := by decide +kernel
theorem dX9_digest_90 : decode cX9_digest 90 = .ok (.i2l, 1) := by decide +kernel
theorem dX9_digest_91 : decode cX9_digest 91 = .ok (.invokevirtual 243, 3) := by decide +kernel
theorem dX9_digest_94 : decode cX9_digest 94 = .ok (.aload_n 0, 1) := by decide +kernel
theorem dX9_digest_95 : decode cX9_digest 95 = .ok (.aload_n 0, 1) := by decide +kernel
theorem dX9_digest_96 : decode cX9_digest 96 = .ok (.iconst 1, 1) := by decide +kernel
theorem dX9_digest_97 : decode cX9_digest 97 = .ok (.invokevirtual 195, 3) := by decide +kernel
theorem dX9_digest_100 : decode cX9_digest 100 = .ok (.i2l, 1) := by decide +kernel
theorem dX9_digest_101 : decode cX9_digest 101 = .ok (.invokevirtual 243, 3) := by decide +kernel
theorem dX9_digest_104 : decode cX9_digest 104 = .ok (.aload_n 0, 1) := by decide +kernel
theorem dX9_digest_105 : decode cX9_digest 105 = .ok (.aload_n 0, 1) := by decide +kernel
theorem dX9_digest_106 : decode cX9_digest 106 = .ok (.invokevirtual 200, 3) := by decide +kernel
theorem dX9_digest_109 : decode cX9_digest 109 = .ok (.i2l, 1) := by decide +kernel
theorem dX9_digest_110 : decode cX9_digest 110 = .ok (.invokevirtual 243, 3) := by decide +kernel
theorem dX9_digest_113 : decode cX9_digest 113 = .ok (.aload_n 0, 1) := by decide +kernel
theorem dX9_digest_114 : decode cX9_digest 114 = .ok (.getfield 96, 3) := by decide +kernel
theorem dX9_digest_117 : decode cX9_digest 117 = .ok (.ifCond .le 25, 3) := by decide +kernel
theorem dX9_digest_120 : decode cX9_digest 120 = .ok (.aload_n 0, 1) := by decide +kernel
theorem dX9_digest_121 : decode cX9_digest 121 = .ok (.aload_n 0, 1) := by decide +kernel
theorem dX9_digest_122 : decode cX9_digest 122 = .ok (.iconst (-1), 1) := by decide +kernel
theorem dX9_digest_123 : decode cX9_digest 123 = .ok (.iconst 0, 1) := by decide +kernel
theorem dX9_digest_124 : decode cX9_digest 124 = .ok (.invokevirtual 173, 3) := by decide +kernel
theorem dX9_digest_127 : decode cX9_digest 127 = .ok (.i2l, 1) := by decide +kernel
theorem dX9_digest_128 : decode cX9_digest 128 = .ok (.invokevirtual 243, 3) := by decide +kernel
theorem dX9_digest_131 : decode cX9_digest 131 = .ok (.aload_n 0, 1) := by decide +kernel
theorem dX9_digest_132 : decode cX9_digest 132 = .ok (.aload_n 0, 1) := by decide +kernel
theorem dX9_digest_133 : decode cX9_digest 133 = .ok (.iconst (-1), 1) := by decide +kernel
theorem dX9_digest_134 : decode cX9_digest 134 = .ok (.iconst 1, 1) := by decide +kernel
theorem dX9_digest_135 : decode cX9_digest 135 = .ok (.invokevirtual 173, 3) := by decide +kernel
theorem dX9_digest_138 : decode cX9_digest 138 = .ok (.i2l, 1) := by decide +kernel
theorem dX9_digest_139 : decode cX9_digest 139 = .ok (.invokevirtual 243, 3) := by decide +kernel
theorem dX9_digest_142 : decode cX9_digest 142 = .ok (.iconst 0, 1) := by decide +kernel
theorem dX9_digest_143 : decode cX9_digest 143 = .ok (.istore_n 1, 1) := by decide +kernel
theorem dX9_digest_144 : decode cX9_digest 144 = .ok (.iload_n 1, 1) := by decide +kernel
theorem dX9_digest_145 : decode cX9_digest 145 = .ok (.aload_n 0, 1) := by decide +kernel
theorem dX9_digest_146 : decode cX9_digest 146 = .ok (.getfield 68, 3) := by decide +kernel
theorem dX9_digest_149 : decode cX9_digest 149 = .ok (.if_icmp .ge 20, 3) := by decide +kernel
theorem dX9_digest_152 : decode cX9_digest 152 = .ok (.aload_n 0, 1) := by decide +kernel
theorem dX9_digest_153 : decode cX9_digest 153 = .ok (.aload_n 0, 1) := by decide +kernel
theorem dX9_digest_154 : decode cX9_digest 154 = .ok (.getfield 7, 3) := by decide +kernel
theorem dX9_digest_157 : decode cX9_digest 157 = .ok (.iload_n 1, 1) := by decide +kernel
theorem dX9_digest_158 : decode cX9_digest 158 = .ok (.iaload, 1) := by decide +kernel
theorem dX9_digest_159 : decode cX9_digest 159 = .ok (.i2l, 1) := by decide +kernel
theorem dX9_digest_160 : decode cX9_digest 160 = .ok (.invokevirtual 243, 3) := by decide +kernel
theorem dX9_digest_163 : decode cX9_digest 163 = .ok (.iinc 1 1, 3) := by decide +kernel
theorem dX9_digest_166 : decode cX9_digest 166 = .ok (.goto (-22), 3) := by decide +kernel
theorem dX9_digest_169 : decode cX9_digest 169 = .ok (.iconst 0, 1) := by decide +kernel
theorem dX9_digest_170 : decode cX9_digest 170 = .ok (.istore_n 1, 1) := by decide +kernel
theorem dX9_digest_171 : decode cX9_digest 171 = .ok (.iload_n 1, 1) := by decide +kernel
theorem dX9_digest_172 : decode cX9_digest 172 = .ok (.bipush 9, 2) := by decide +kernel
theorem dX9_digest_174 : decode cX9_digest 174 = .ok (.if_icmp .ge 19, 3) := by decide +kernel
theorem dX9_digest_177 : decode cX9_digest 177 = .ok (.aload_n 0, 1) := by decide +kernel
theorem dX9_digest_178 : decode cX9_digest 178 = .ok (.aload_n 0, 1) := by decide +kernel
theorem dX9_digest_179 : decode cX9_digest 179 = .ok (.iload_n 1, 1) := by decide +kernel
theorem dX9_digest_180 : decode cX9_digest 180 = .ok (.invokevirtual 234, 3) := by decide +kernel
theorem dX9_digest_183 : decode cX9_digest 183 = .ok (.i2l, 1) := by decide +kernel
theorem dX9_digest_184 : decode cX9_digest 184 = .ok (.invokevirtual 243, 3) := by decide +kernel
theorem dX9_digest_187 : decode cX9_digest 187 = .ok (.iinc 1 1, 3) := by decide +kernel
theorem dX9_digest_190 : decode cX9_digest 190 = .ok (.goto (-19), 3) := by decide +kernel
theorem dX9_digest_193 : decode cX9_digest 193 = .ok (.aload_n 0, 1) := by decide +kernel
theorem dX9_digest_194 : decode cX9_digest 194 = .ok (.getfield 239, 3) := by decide +kernel
theorem dX9_digest_197 : decode cX9_digest 197 = .ok (.lreturn, 1) := by decide +kernel
