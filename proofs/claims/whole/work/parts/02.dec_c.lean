theorem dX6_init_0 : decode cX6_init 0 = .ok (.aload_n 0, 1) := by decide +kernel
theorem dX6_init_1 : decode cX6_init 1 = .ok (.invokespecial 1, 3) := by decide +kernel
theorem dX6_init_4 : decode cX6_init 4 = .ok (.aload_n 0, 1) := by decide +kernel
theorem dX6_init_5 : decode cX6_init 5 = .ok (.sipush 232, 3) := by decide +kernel
theorem dX6_init_8 : decode cX6_init 8 = .ok (.newarray .int, 2) := by decide +kernel
theorem dX6_init_10 : decode cX6_init 10 = .ok (.putfield 7, 3) := by decide +kernel
theorem dX6_init_13 : decode cX6_init 13 = .ok (.aload_n 0, 1) := by decide +kernel
theorem dX6_init_14 : decode cX6_init 14 = .ok (.sipush 432, 3) := by decide +kernel
theorem dX6_init_17 : decode cX6_init 17 = .ok (.newarray .int, 2) := by decide +kernel
theorem dX6_init_19 : decode cX6_init 19 = .ok (.putfield 13, 3) := by decide +kernel
theorem dX6_init_22 : decode cX6_init 22 = .ok (.aload_n 0, 1) := by decide +kernel
theorem dX6_init_23 : decode cX6_init 23 = .ok (.sipush 400, 3) := by decide +kernel
theorem dX6_init_26 : decode cX6_init 26 = .ok (.newarray .int, 2) := by decide +kernel
theorem dX6_init_28 : decode cX6_init 28 = .ok (.putfield 16, 3) := by decide +kernel
theorem dX6_init_31 : decode cX6_init 31 = .ok (.aload_n 0, 1) := by decide +kernel
theorem dX6_init_32 : decode cX6_init 32 = .ok (.bipush 8, 2) := by decide +kernel
theorem dX6_init_34 : decode cX6_init 34 = .ok (.newarray .int, 2) := by decide +kernel
theorem dX6_init_36 : decode cX6_init 36 = .ok (.dup, 1) := by decide +kernel
theorem dX6_init_37 : decode cX6_init 37 = .ok (.iconst 0, 1) := by decide +kernel
theorem dX6_init_38 : decode cX6_init 38 = .ok (.ldc 19, 2) := by decide +kernel
theorem dX6_init_40 : decode cX6_init 40 = .ok (.iastore, 1) := by decide +kernel
theorem dX6_init_41 : decode cX6_init 41 = .ok (.dup, 1) := by decide +kernel
theorem dX6_init_42 : decode cX6_init 42 = .ok (.iconst 1, 1) := by decide +kernel
theorem dX6_init_43 : decode cX6_init 43 = .ok (.ldc 19, 2) := by decide +kernel
theorem dX6_init_45 : decode cX6_init 45 = .ok (.iastore, 1) := by decide +kernel
theorem dX6_init_46 : decode cX6_init 46 = .ok (.dup, 1) := by decide +kernel
theorem dX6_init_47 : decode cX6_init 47 = .ok (.iconst 2, 1) := by decide +kernel
theorem dX6_init_48 : decode cX6_init 48 = .ok (.ldc 19, 2) := by decide +kernel
theorem dX6_init_50 : decode cX6_init 50 = .ok (.iastore, 1) := by decide +kernel
theorem dX6_init_51 : decode cX6_init 51 = .ok (.dup, 1) := by decide +kernel
theorem dX6_init_52 : decode cX6_init 52 = .ok (.iconst 3, 1) := by decide +kernel
theorem dX6_init_53 : decode cX6_init 53 = .ok (.ldc 19, 2) := by decide +kernel
theorem dX6_init_55 : decode cX6_init 55 = .ok (.iastore, 1) := by decide +kernel
theorem dX6_init_56 : decode cX6_init 56 = .ok (.dup, 1) := by decide +kernel
theorem dX6_init_57 : decode cX6_init 57 = .ok (.iconst 4, 1) := by decide +kernel
theorem dX6_init_58 : decode cX6_init 58 = .ok (.ldc 19, 2) := by decide +kernel
theorem dX6_init_60 : decode cX6_init 60 = .ok (.iastore, 1) := by decide +kernel
theorem dX6_init_61 : decode cX6_init 61 = .ok (.dup, 1) := by decide +kernel
theorem dX6_init_62 : decode cX6_init 62 = .ok (.iconst 5, 1) := by decide +kernel
theorem dX6_init_63 : decode cX6_init 63 = .ok (.ldc 19, 2) := by decide +kernel
theorem dX6_init_65 : decode cX6_init 65 = .ok (.iastore, 1) := by decide +kernel
theorem dX6_init_66 : decode cX6_init 66 = .ok (.dup, 1) := by decide +kernel
theorem dX6_init_67 : decode cX6_init 67 = .ok (.bipush 6, 2) := by decide +kernel
theorem dX6_init_69 : decode cX6_init 69 = .ok (.ldc 19, 2) := by decide +kernel
theorem dX6_init_71 : decode cX6_init 71 = .ok (.iastore, 1) := by decide +kernel
theorem dX6_init_72 : decode cX6_init 72 = .ok (.dup, 1) := by decide +kernel
theorem dX6_init_73 : decode cX6_init 73 = .ok (.bipush 7, 2) := by decide +kernel
theorem dX6_init_75 : decode cX6_init 75 = .ok (.ldc 19, 2) := by decide +kernel
theorem dX6_init_77 : decode cX6_init 77 = .ok (.iastore, 1) := by decide +kernel
theorem dX6_init_78 : decode cX6_init 78 = .ok (.putfield 20, 3) := by decide +kernel
theorem dX6_init_81 : decode cX6_init 81 = .ok (.aload_n 0, 1) := by decide +kernel
theorem dX6_init_82 : decode cX6_init 82 = .ok (.bipush 8, 2) := by decide +kernel
theorem dX6_init_84 : decode cX6_init 84 = .ok (.newarray .int, 2) := by decide +kernel
theorem dX6_init_86 : decode cX6_init 86 = .ok (.putfield 23, 3) := by decide +kernel
theorem dX6_init_89 : decode cX6_init 89 = .ok (.aload_n 0, 1) := by decide +kernel
theorem dX6_init_90 : decode cX6_init 90 = .ok (.sipush 320, 3) := by decide +kernel
theorem dX6_init_93 : decode cX6_init 93 = .ok (.newarray .int, 2) := by decide +kernel
theorem dX6_init_95 : decode cX6_init 95 = .ok (.putfield 26, 3) := by decide +kernel
theorem dX6_init_98 : decode cX6_init 98 = .ok (.aload_n 0, 1) := by decide +kernel
theorem dX6_init_99 : decode cX6_init 99 = .ok (.bipush 16, 2) := by decide +kernel
theorem dX6_init_101 : decode cX6_init 101 = .ok (.newarray .int, 2) := by decide +kernel
theorem dX6_init_103 : decode cX6_init 103 = .ok (.putfield 29, 3) := by decide +kernel
theorem dX6_init_106 : decode cX6_init 106 = .ok (.aload_n 0, 1) := by decide +kernel
theorem dX6_init_107 : decode cX6_init 107 = .ok (.ldc 19, 2) := by decide +kernel
theorem dX6_init_109 : decode cX6_init 109 = .ok (.putfield 32, 3) := by decide +kernel
theorem dX6_init_112 : decode cX6_init 112 = .ok (.aload_n 0, 1) := by decide +kernel
theorem dX6_init_113 : decode cX6_init 113 = .ok (.bipush 20, 2) := by decide +kernel
theorem dX6_init_115 : decode cX6_init 115 = .ok (.newarray .int, 2) := by decide +kernel
theorem dX6_init_117 : decode cX6_init 117 = .ok (.putfield 36, 3) := by decide +kernel
theorem dX6_init_120 : decode cX6_init 120 = .ok (.aload_n 0, 1) := by decide +kernel
theorem dX6_init_121 : decode cX6_init 121 = .ok (.bipush 16, 2) := by decide +kernel
theorem dX6_init_123 : decode cX6_init 123 = .ok (.newarray .int, 2) := by decide +kernel
theorem dX6_init_125 : decode cX6_init 125 = .ok (.putfield 39, 3) := by decide +kernel
theorem dX6_init_128 : decode cX6_init 128 = .ok (.aload_n 0, 1) := by decide +kernel
theorem dX6_init_129 : decode cX6_init 129 = .ok (.sipush 7776, 3) := by decide +kernel
theorem dX6_init_132 : decode cX6_init 132 = .ok (.newarray .int, 2) := by decide +kernel
theorem dX6_init_134 : decode cX6_init 134 = .ok (.putfield 42, 3) := by decide +kernel
theorem dX6_init_137 : decode cX6_init 137 = .ok (.aload_n 0, 1) := by decide +kernel
theorem dX6_init_138 : decode cX6_init 138 = .ok (.sipush 7776, 3) := by decide +kernel
theorem dX6_init_141 : decode cX6_init 141 = .ok (.newarray .int, 2) := by decide +kernel
theorem dX6_init_143 : decode cX6_init 143 = .ok (.putfield 45, 3) := by decide +kernel
theorem dX6_init_146 : decode cX6_init 146 = .ok (.aload_n 0, 1) := by decide +kernel
theorem dX6_init_147 : decode cX6_init 147 = .ok (.sipush 7776, 3) := by decide +kernel
theorem dX6_init_150 : decode cX6_init 150 = .ok (.newarray .boolean, 2) := by decide +kernel
theorem dX6_init_152 : decode cX6_init 152 = .ok (.putfield 48, 3) := by decide +kernel
theorem dX6_init_155 : decode cX6_init 155 = .ok (.aload_n 0, 1) := by decide +kernel
theorem dX6_init_156 : decode cX6_init 156 = .ok (.bipush 24, 2) := by decide +kernel
theorem dX6_init_158 : decode cX6_init 158 = .ok (.newarray .int, 2) := by decide +kernel
theorem dX6_init_160 : decode cX6_init 160 = .ok (.putfield 52, 3) := by decide +kernel
theorem dX6_init_163 : decode cX6_init 163 = .ok (.return_, 1) := by decide +kernel
theorem dX6_in_0 : decode cX6_in 0 = .ok (.lload_n 0, 1) := by decide +kernel
theorem dX6_in_1 : decode cX6_in 1 = .ok (.lload_n 2, 1) := by decide +kernel
theorem dX6_in_2 : decode cX6_in 2 = .ok (.lcmp, 1) := by decide +kernel
theorem dX6_in_3 : decode cX6_in 3 = .ok (.ifCond .lt 14, 3) := by decide +kernel
theorem dX6_in_6 : decode cX6_in 6 = .ok (.lload_n 0, 1) := by decide +kernel
theorem dX6_in_7 : decode cX6_in 7 = .ok (.lload 4, 2) := by decide +kernel
theorem dX6_in_9 : decode cX6_in 9 = .ok (.lcmp, 1) := by decide +kernel
theorem dX6_in_10 : decode cX6_in 10 = .ok (.ifCond .gt 7, 3) := by decide +kernel
theorem dX6_in_13 : decode cX6_in 13 = .ok (.iconst 1, 1) := by decide +kernel
theorem dX6_in_14 : decode cX6_in 14 = .ok (.goto 4, 3) := by decide +kernel
theorem dX6_in_17 : decode cX6_in 17 = .ok (.iconst 0, 1) := by decide +kernel
theorem dX6_in_18 : decode cX6_in 18 = .ok (.ireturn, 1) := by decide +kernel
theorem dX6_find_0 : decode cX6_find 0 = .ok (.aload_n 0, 1) := by decide +kernel
theorem dX6_find_1 : decode cX6_find 1 = .ok (.iload_n 1, 1) := by decide +kernel
theorem dX6_find_2 : decode cX6_find 2 = .ok (.putfield 55, 3) := by decide +kernel
theorem dX6_find_5 : decode cX6_find 5 = .ok (.ldc 58, 2) := by decide +kernel
theorem dX6_find_7 : decode cX6_find 7 = .ok (.iload_n 1, 1) := by decide +kernel
theorem dX6_find_8 : decode cX6_find 8 = .ok (.isub, 1) := by decide +kernel
theorem dX6_find_9 : decode cX6_find 9 = .ok (.ireturn, 1) := by decide +kernel
theorem dX6_give_0 : decode cX6_give 0 = .ok (.aload_n 0, 1) := by decide +kernel
theorem dX6_give_1 : decode cX6_give 1 = .ok (.iconst 0, 1) := by decide +kernel
theorem dX6_give_2 : decode cX6_give 2 = .ok (.putfield 55, 3) := by decide +kernel
theorem dX6_give_5 : decode cX6_give 5 = .ok (.iload_n 1, 1) := by decide +kernel
theorem dX6_give_6 : decode cX6_give 6 = .ok (.ireturn, 1) := by decide +kernel
theorem dX6_isRow_0 : decode cX6_isRow 0 = .ok (.iload_n 0, 1) := by decide +kernel
theorem dX6_isRow_1 : decode cX6_isRow 1 = .ok (.i2l, 1) := by decide +kernel
theorem dX6_isRow_2 : decode cX6_isRow 2 = .ok (.lconst 0, 1) := by decide +kernel
theorem dX6_isRow_3 : decode cX6_isRow 3 = .ok (.ldc2_w 59, 3) := by decide +kernel
theorem dX6_isRow_6 : decode cX6_isRow 6 = .ok (.invokestatic 61, 3) := by decide +kernel
theorem dX6_isRow_9 : decode cX6_isRow 9 = .ok (.ireturn, 1) := by decide +kernel
theorem dX6_row_0 : decode cX6_row 0 = .ok (.iload_n 1, 1) := by decide +kernel
theorem dX6_row_1 : decode cX6_row 1 = .ok (.invokestatic 65, 3) := by decide +kernel
theorem dX6_row_4 : decode cX6_row 4 = .ok (.ifCond .eq 21, 3) := by decide +kernel
theorem dX6_row_7 : decode cX6_row 7 = .ok (.iload_n 2, 1) := by decide +kernel
theorem dX6_row_8 : decode cX6_row 8 = .ok (.i2l, 1) := by decide +kernel
theorem dX6_row_9 : decode cX6_row 9 = .ok (.lconst 0, 1) := by decide +kernel
theorem dX6_row_10 : decode cX6_row 10 = .ok (.ldc2_w 69, 3) := by decide +kernel
theorem dX6_row_13 : decode cX6_row 13 = .ok (.invokestatic 61, 3) := by decide +kernel
theorem dX6_row_16 : decode cX6_row 16 = .ok (.ifCond .eq 9, 3) := by decide +kernel
theorem dX6_row_19 : decode cX6_row 19 = .ok (.iload_n 3, 1) := by decide +kernel
theorem dX6_row_20 : decode cX6_row 20 = .ok (.bipush 40, 2) := by decide +kernel
theorem dX6_row_22 : decode cX6_row 22 = .ok (.if_icmp .le 6, 3) := by decide +kernel
theorem dX6_row_25 : decode cX6_row 25 = .ok (.ldc 71, 2) := by decide +kernel
theorem dX6_row_27 : decode cX6_row 27 = .ok (.ireturn, 1) := by decide +kernel
theorem dX6_row_28 : decode cX6_row 28 = .ok (.iload_n 3, 1) := by decide +kernel
theorem dX6_row_29 : decode cX6_row 29 = .ok (.ifCond .ge 9, 3) := by decide +kernel
theorem dX6_row_32 : decode cX6_row 32 = .ok (.aload_n 0, 1) := by decide +kernel
theorem dX6_row_33 : decode cX6_row 33 = .ok (.iconst 4, 1) := by decide +kernel
theorem dX6_row_34 : decode cX6_row 34 = .ok (.invokevirtual 72, 3) := by decide +kernel
theorem dX6_row_37 : decode cX6_row 37 = .ok (.ireturn, 1) := by decide +kernel
theorem dX6_row_38 : decode cX6_row 38 = .ok (.aload_n 0, 1) := by decide +kernel
theorem dX6_row_39 : decode cX6_row 39 = .ok (.getfield 20, 3) := by decide +kernel
theorem dX6_row_42 : decode cX6_row 42 = .ok (.iload_n 1, 1) := by decide +kernel
theorem dX6_row_43 : decode cX6_row 43 = .ok (.iload_n 2, 1) := by decide +kernel
theorem dX6_row_44 : decode cX6_row 44 = .ok (.iastore, 1) := by decide +kernel
theorem dX6_row_45 : decode cX6_row 45 = .ok (.aload_n 0, 1) := by decide +kernel
theorem dX6_row_46 : decode cX6_row 46 = .ok (.getfield 23, 3) := by decide +kernel
theorem dX6_row_49 : decode cX6_row 49 = .ok (.iload_n 1, 1) := by decide +kernel
theorem dX6_row_50 : decode cX6_row 50 = .ok (.iload_n 3, 1) := by decide +kernel
theorem dX6_row_51 : decode cX6_row 51 = .ok (.iastore, 1) := by decide +kernel
theorem dX6_row_52 : decode cX6_row 52 = .ok (.iconst 0, 1) := by decide +kernel
theorem dX6_row_53 : decode cX6_row 53 = .ok (.istore 4, 2) := by decide +kernel
theorem dX6_row_55 : decode cX6_row 55 = .ok (.iload 4, 2) := by decide +kernel
theorem dX6_row_57 : decode cX6_row 57 = .ok (.iload_n 3, 1) := by decide +kernel
theorem dX6_row_58 : decode cX6_row 58 = .ok (.if_icmp .ge 22, 3) := by decide +kernel
theorem dX6_row_61 : decode cX6_row 61 = .ok (.aload_n 0, 1) := by decide +kernel
theorem dX6_row_62 : decode cX6_row 62 = .ok (.getfield 26, 3) := by decide +kernel
theorem dX6_row_65 : decode cX6_row 65 = .ok (.bipush 40, 2) := by decide +kernel
theorem dX6_row_67 : decode cX6_row 67 = .ok (.iload_n 1, 1) := by decide +kernel
theorem dX6_row_68 : decode cX6_row 68 = .ok (.imul, 1) := by decide +kernel
theorem dX6_row_69 : decode cX6_row 69 = .ok (.iload 4, 2) := by decide +kernel
theorem dX6_row_71 : decode cX6_row 71 = .ok (.iadd, 1) := by decide +kernel
theorem dX6_row_72 : decode cX6_row 72 = .ok (.iconst 0, 1) := by decide +kernel
theorem dX6_row_73 : decode cX6_row 73 = .ok (.iastore, 1) := by decide +kernel
theorem dX6_row_74 : decode cX6_row 74 = .ok (.iinc 4 1, 3) := by decide +kernel
theorem dX6_row_77 : decode cX6_row 77 = .ok (.goto (-22), 3) := by decide +kernel
theorem dX6_row_80 : decode cX6_row 80 = .ok (.aload_n 0, 1) := by decide +kernel
theorem dX6_row_81 : decode cX6_row 81 = .ok (.iload_n 3, 1) := by decide +kernel
theorem dX6_row_82 : decode cX6_row 82 = .ok (.invokevirtual 76, 3) := by decide +kernel
theorem dX6_row_85 : decode cX6_row 85 = .ok (.ireturn, 1) := by decide +kernel
theorem dX6_set_0 : decode cX6_set 0 = .ok (.iload_n 1, 1) := by decide +kernel
theorem dX6_set_1 : decode cX6_set 1 = .ok (.invokestatic 65, 3) := by decide +kernel
theorem dX6_set_4 : decode cX6_set 4 = .ok (.ifCond .ne 6, 3) := by decide +kernel
theorem dX6_set_7 : decode cX6_set 7 = .ok (.ldc 71, 2) := by decide +kernel
theorem dX6_set_9 : decode cX6_set 9 = .ok (.ireturn, 1) := by decide +kernel
theorem dX6_set_10 : decode cX6_set 10 = .ok (.aload_n 0, 1) := by decide +kernel
theorem dX6_set_11 : decode cX6_set 11 = .ok (.getfield 20, 3) := by decide +kernel
theorem dX6_set_14 : decode cX6_set 14 = .ok (.iload_n 1, 1) := by decide +kernel
theorem dX6_set_15 : decode cX6_set 15 = .ok (.iaload, 1) := by decide +kernel
theorem dX6_set_16 : decode cX6_set 16 = .ok (.ldc 19, 2) := by decide +kernel
theorem dX6_set_18 : decode cX6_set 18 = .ok (.if_icmp .ne 9, 3) := by decide +kernel
theorem dX6_set_21 : decode cX6_set 21 = .ok (.aload_n 0, 1) := by decide +kernel
theorem dX6_set_22 : decode cX6_set 22 = .ok (.iconst 1, 1) := by decide +kernel
theorem dX6_set_23 : decode cX6_set 23 = .ok (.invokevirtual 72, 3) := by decide +kernel
theorem dX6_set_26 : decode cX6_set 26 = .ok (.ireturn, 1) := by decide +kernel
theorem dX6_set_27 : decode cX6_set 27 = .ok (.iload_n 2, 1) := by decide +kernel
theorem dX6_set_28 : decode cX6_set 28 = .ok (.i2l, 1) := by decide +kernel
theorem dX6_set_29 : decode cX6_set 29 = .ok (.lconst 0, 1) := by decide +kernel
theorem dX6_set_30 : decode cX6_set 30 = .ok (.aload_n 0, 1) := by decide +kernel
theorem dX6_set_31 : decode cX6_set 31 = .ok (.getfield 23, 3) := by decide +kernel
theorem dX6_set_34 : decode cX6_set 34 = .ok (.iload_n 1, 1) := by decide +kernel
theorem dX6_set_35 : decode cX6_set 35 = .ok (.iaload, 1) := by decide +kernel
theorem dX6_set_36 : decode cX6_set 36 = .ok (.iconst 1, 1) := by decide +kernel
theorem dX6_set_37 : decode cX6_set 37 = .ok (.isub, 1) := by decide +kernel
theorem dX6_set_38 : decode cX6_set 38 = .ok (.i2l, 1) := by decide +kernel
theorem dX6_set_39 : decode cX6_set 39 = .ok (.invokestatic 61, 3) := by decide +kernel
theorem dX6_set_42 : decode cX6_set 42 = .ok (.ifCond .ne 9, 3) := by decide +kernel
theorem dX6_set_45 : decode cX6_set 45 = .ok (.aload_n 0, 1) := by decide +kernel
theorem dX6_set_46 : decode cX6_set 46 = .ok (.iconst 2, 1) := by decide +kernel
theorem dX6_set_47 : decode cX6_set 47 = .ok (.invokevirtual 72, 3) := by decide +kernel
theorem dX6_set_50 : decode cX6_set 50 = .ok (.ireturn, 1) := by decide +kernel
theorem dX6_set_51 : decode cX6_set 51 = .ok (.aload_n 0, 1) := by decide +kernel
theorem dX6_set_52 : decode cX6_set 52 = .ok (.getfield 26, 3) := by decide +kernel
theorem dX6_set_55 : decode cX6_set 55 = .ok (.bipush 40, 2) := by decide +kernel
theorem dX6_set_57 : decode cX6_set 57 = .ok (.iload_n 1, 1) := by decide +kernel
theorem dX6_set_58 : decode cX6_set 58 = .ok (.imul, 1) := by decide +kernel
theorem dX6_set_59 : decode cX6_set 59 = .ok (.iload_n 2, 1) := by decide +kernel
theorem dX6_set_60 : decode cX6_set 60 = .ok (.iadd, 1) := by decide +kernel
theorem dX6_set_61 : decode cX6_set 61 = .ok (.aload_n 0, 1) := by decide +kernel
theorem dX6_set_62 : decode cX6_set 62 = .ok (.getfield 20, 3) := by decide +kernel
theorem dX6_set_65 : decode cX6_set 65 = .ok (.iload_n 1, 1) := by decide +kernel
theorem dX6_set_66 : decode cX6_set 66 = .ok (.iaload, 1) := by decide +kernel
theorem dX6_set_67 : decode cX6_set 67 = .ok (.ifCond .ne 8, 3) := by decide +kernel
theorem dX6_set_70 : decode cX6_set 70 = .ok (.iload_n 3, 1) := by decide +kernel
theorem dX6_set_71 : decode cX6_set 71 = .ok (.i2b, 1) := by decide +kernel
theorem dX6_set_72 : decode cX6_set 72 = .ok (.goto 19, 3) := by decide +kernel
theorem dX6_set_75 : decode cX6_set 75 = .ok (.aload_n 0, 1) := by decide +kernel
theorem dX6_set_76 : decode cX6_set 76 = .ok (.getfield 20, 3) := by decide +kernel
theorem dX6_set_79 : decode cX6_set 79 = .ok (.iload_n 1, 1) := by decide +kernel
theorem dX6_set_80 : decode cX6_set 80 = .ok (.iaload, 1) := by decide +kernel
theorem dX6_set_81 : decode cX6_set 81 = .ok (.iconst 1, 1) := by decide +kernel
theorem dX6_set_82 : decode cX6_set 82 = .ok (.if_icmp .ne 8, 3) := by decide +kernel
theorem dX6_set_85 : decode cX6_set 85 = .ok (.iload_n 3, 1) := by decide +kernel
theorem dX6_set_86 : decode cX6_set 86 = .ok (.i2s, 1) := by decide +kernel
theorem dX6_set_87 : decode cX6_set 87 = .ok (.goto 4, 3) := by decide +kernel
theorem dX6_set_90 : decode cX6_set 90 = .ok (.iload_n 3, 1) := by decide +kernel
theorem dX6_set_91 : decode cX6_set 91 = .ok (.iastore, 1) := by decide +kernel
theorem dX6_set_92 : decode cX6_set 92 = .ok (.aload_n 0, 1) := by decide +kernel
theorem dX6_set_93 : decode cX6_set 93 = .ok (.aload_n 0, 1) := by decide +kernel
theorem dX6_set_94 : decode cX6_set 94 = .ok (.getfield 26, 3) := by decide +kernel
theorem dX6_set_97 : decode cX6_set 97 = .ok (.bipush 40, 2) := by decide +kernel
theorem dX6_set_99 : decode cX6_set 99 = .ok (.iload_n 1, 1) := by decide +kernel
theorem dX6_set_100 : decode cX6_set 100 = .ok (.imul, 1) := by decide +kernel
theorem dX6_set_101 : decode cX6_set 101 = .ok (.iload_n 2, 1) := by decide +kernel
theorem dX6_set_102 : decode cX6_set 102 = .ok (.iadd, 1) := by decide +kernel
theorem dX6_set_103 : decode cX6_set 103 = .ok (.iaload, 1) := by decide +kernel
theorem dX6_set_104 : decode cX6_set 104 = .ok (.invokevirtual 76, 3) := by decide +kernel
theorem dX6_set_107 : decode cX6_set 107 = .ok (.ireturn, 1) := by decide +kernel
theorem dX6_isSpan_0 : decode cX6_isSpan 0 = .ok (.iload_n 2, 1) := by decide +kernel
theorem dX6_isSpan_1 : decode cX6_isSpan 1 = .ok (.ifCond .lt 27, 3) := by decide +kernel
theorem dX6_isSpan_4 : decode cX6_isSpan 4 = .ok (.iload_n 3, 1) := by decide +kernel
theorem dX6_isSpan_5 : decode cX6_isSpan 5 = .ok (.ifCond .lt 23, 3) := by decide +kernel
theorem dX6_isSpan_8 : decode cX6_isSpan 8 = .ok (.iload_n 2, 1) := by decide +kernel
theorem dX6_isSpan_9 : decode cX6_isSpan 9 = .ok (.i2l, 1) := by decide +kernel
theorem dX6_isSpan_10 : decode cX6_isSpan 10 = .ok (.iload_n 3, 1) := by decide +kernel
theorem dX6_isSpan_11 : decode cX6_isSpan 11 = .ok (.i2l, 1) := by decide +kernel
theorem dX6_isSpan_12 : decode cX6_isSpan 12 = .ok (.ladd, 1) := by decide +kernel
theorem dX6_isSpan_13 : decode cX6_isSpan 13 = .ok (.aload_n 0, 1) := by decide +kernel
theorem dX6_isSpan_14 : decode cX6_isSpan 14 = .ok (.getfield 23, 3) := by decide +kernel
theorem dX6_isSpan_17 : decode cX6_isSpan 17 = .ok (.iload_n 1, 1) := by decide +kernel
theorem dX6_isSpan_18 : decode cX6_isSpan 18 = .ok (.iaload, 1) := by decide +kernel
theorem dX6_isSpan_19 : decode cX6_isSpan 19 = .ok (.i2l, 1) := by decide +kernel
theorem dX6_isSpan_20 : decode cX6_isSpan 20 = .ok (.lcmp, 1) := by decide +kernel
theorem dX6_isSpan_21 : decode cX6_isSpan 21 = .ok (.ifCond .gt 7, 3) := by decide +kernel
theorem dX6_isSpan_24 : decode cX6_isSpan 24 = .ok (.iconst 1, 1) := by decide +kernel
theorem dX6_isSpan_25 : decode cX6_isSpan 25 = .ok (.goto 4, 3) := by decide +kernel
theorem dX6_isSpan_28 : decode cX6_isSpan 28 = .ok (.iconst 0, 1) := by decide +kernel
theorem dX6_isSpan_29 : decode cX6_isSpan 29 = .ok (.ireturn, 1) := by decide +kernel
theorem dX6_copy_0 : decode cX6_copy 0 = .ok (.iload_n 1, 1) := by decide +kernel
theorem dX6_copy_1 : decode cX6_copy 1 = .ok (.invokestatic 65, 3) := by decide +kernel
theorem dX6_copy_4 : decode cX6_copy 4 = .ok (.ifCond .eq 10, 3) := by decide +kernel
theorem dX6_copy_7 : decode cX6_copy 7 = .ok (.iload_n 3, 1) := by decide +kernel
theorem dX6_copy_8 : decode cX6_copy 8 = .ok (.invokestatic 65, 3) := by decide +kernel
theorem dX6_copy_11 : decode cX6_copy 11 = .ok (.ifCond .ne 6, 3) := by decide +kernel
theorem dX6_copy_14 : decode cX6_copy 14 = .ok (.ldc 71, 2) := by decide +kernel
theorem dX6_copy_16 : decode cX6_copy 16 = .ok (.ireturn, 1) := by decide +kernel
theorem dX6_copy_17 : decode cX6_copy 17 = .ok (.aload_n 0, 1) := by decide +kernel
theorem dX6_copy_18 : decode cX6_copy 18 = .ok (.getfield 20, 3) := by decide +kernel
theorem dX6_copy_21 : decode cX6_copy 21 = .ok (.iload_n 1, 1) := by decide +kernel
theorem dX6_copy_22 : decode cX6_copy 22 = .ok (.iaload, 1) := by decide +kernel
theorem dX6_copy_23 : decode cX6_copy 23 = .ok (.ldc 19, 2) := by decide +kernel
theorem dX6_copy_25 : decode cX6_copy 25 = .ok (.if_icmp .eq 14, 3) := by decide +kernel
theorem dX6_copy_28 : decode cX6_copy 28 = .ok (.aload_n 0, 1) := by decide +kernel
theorem dX6_copy_29 : decode cX6_copy 29 = .ok (.getfield 20, 3) := by decide +kernel
theorem dX6_copy_32 : decode cX6_copy 32 = .ok (.iload_n 3, 1) := by decide +kernel
theorem dX6_copy_33 : decode cX6_copy 33 = .ok (.iaload, 1) := by decide +kernel
theorem dX6_copy_34 : decode cX6_copy 34 = .ok (.ldc 19, 2) := by decide +kernel
theorem dX6_copy_36 : decode cX6_copy 36 = .ok (.if_icmp .ne 9, 3) := by decide +kernel
theorem dX6_copy_39 : decode cX6_copy 39 = .ok (.aload_n 0, 1) := by decide +kernel
theorem dX6_copy_40 : decode cX6_copy 40 = .ok (.iconst 1, 1) := by decide +kernel
theorem dX6_copy_41 : decode cX6_copy 41 = .ok (.invokevirtual 72, 3) := by decide +kernel
theorem dX6_copy_44 : decode cX6_copy 44 = .ok (.ireturn, 1) := by decide +kernel
theorem dX6_copy_45 : decode cX6_copy 45 = .ok (.aload_n 0, 1) := by decide +kernel
theorem dX6_copy_46 : decode cX6_copy 46 = .ok (.getfield 20, 3) := by decide +kernel
theorem dX6_copy_49 : decode cX6_copy 49 = .ok (.iload_n 1, 1) := by decide +kernel
theorem dX6_copy_50 : decode cX6_copy 50 = .ok (.iaload, 1) := by decide +kernel
theorem dX6_copy_51 : decode cX6_copy 51 = .ok (.aload_n 0, 1) := by decide +kernel
theorem dX6_copy_52 : decode cX6_copy 52 = .ok (.getfield 20, 3) := by decide +kernel
theorem dX6_copy_55 : decode cX6_copy 55 = .ok (.iload_n 3, 1) := by decide +kernel
theorem dX6_copy_56 : decode cX6_copy 56 = .ok (.iaload, 1) := by decide +kernel
theorem dX6_copy_57 : decode cX6_copy 57 = .ok (.if_icmp .eq 9, 3) := by decide +kernel
theorem dX6_copy_60 : decode cX6_copy 60 = .ok (.aload_n 0, 1) := by decide +kernel
theorem dX6_copy_61 : decode cX6_copy 61 = .ok (.iconst 5, 1) := by decide +kernel
theorem dX6_copy_62 : decode cX6_copy 62 = .ok (.invokevirtual 72, 3) := by decide +kernel
theorem dX6_copy_65 : decode cX6_copy 65 = .ok (.ireturn, 1) := by decide +kernel
theorem dX6_copy_66 : decode cX6_copy 66 = .ok (.aload_n 0, 1) := by decide +kernel
theorem dX6_copy_67 : decode cX6_copy 67 = .ok (.iload_n 1, 1) := by decide +kernel
theorem dX6_copy_68 : decode cX6_copy 68 = .ok (.iload_n 2, 1) := by decide +kernel
theorem dX6_copy_69 : decode cX6_copy 69 = .ok (.iload 5, 2) := by decide +kernel
theorem dX6_copy_71 : decode cX6_copy 71 = .ok (.invokevirtual 79, 3) := by decide +kernel
theorem dX6_copy_74 : decode cX6_copy 74 = .ok (.ifCond .eq 15, 3) := by decide +kernel
theorem dX6_copy_77 : decode cX6_copy 77 = .ok (.aload_n 0, 1) := by decide +kernel
theorem dX6_copy_78 : decode cX6_copy 78 = .ok (.iload_n 3, 1) := by decide +kernel
theorem dX6_copy_79 : decode cX6_copy 79 = .ok (.iload 4, 2) := by decide +kernel
theorem dX6_copy_81 : decode cX6_copy 81 = .ok (.iload 5, 2) := by decide +kernel
theorem dX6_copy_83 : decode cX6_copy 83 = .ok (.invokevirtual 79, 3) := by decide +kernel
theorem dX6_copy_86 : decode cX6_copy 86 = .ok (.ifCond .ne 9, 3) := by decide +kernel
theorem dX6_copy_89 : decode cX6_copy 89 = .ok (.aload_n 0, 1) := by decide +kernel
theorem dX6_copy_90 : decode cX6_copy 90 = .ok (.iconst 2, 1) := by decide +kernel
theorem dX6_copy_91 : decode cX6_copy 91 = .ok (.invokevirtual 72, 3) := by decide +kernel
theorem dX6_copy_94 : decode cX6_copy 94 = .ok (.ireturn, 1) := by decide +kernel
theorem dX6_copy_95 : decode cX6_copy 95 = .ok (.iconst 0, 1) := by decide +kernel
theorem dX6_copy_96 : decode cX6_copy 96 = .ok (.istore 6, 2) := by decide +kernel
theorem dX6_copy_98 : decode cX6_copy 98 = .ok (.iload 6, 2) := by decide +kernel
theorem dX6_copy_100 : decode cX6_copy 100 = .ok (.iload 5, 2) := by decide +kernel
theorem dX6_copy_102 : decode cX6_copy 102 = .ok (.if_icmp .ge 63, 3) := by decide +kernel
theorem dX6_copy_105 : decode cX6_copy 105 = .ok (.iload_n 1, 1) := by decide +kernel
theorem dX6_copy_106 : decode cX6_copy 106 = .ok (.iload_n 3, 1) := by decide +kernel
theorem dX6_copy_107 : decode cX6_copy 107 = .ok (.if_icmp .ne 19, 3) := by decide +kernel
theorem dX6_copy_110 : decode cX6_copy 110 = .ok (.iload_n 2, 1) := by decide +kernel
theorem dX6_copy_111 : decode cX6_copy 111 = .ok (.iload 4, 2) := by decide +kernel
theorem dX6_copy_113 : decode cX6_copy 113 = .ok (.if_icmp .ge 13, 3) := by decide +kernel
theorem dX6_copy_116 : decode cX6_copy 116 = .ok (.iload 5, 2) := by decide +kernel
theorem dX6_copy_118 : decode cX6_copy 118 = .ok (.iconst 1, 1) := by decide +kernel
theorem dX6_copy_119 : decode cX6_copy 119 = .ok (.isub, 1) := by decide +kernel
theorem dX6_copy_120 : decode cX6_copy 120 = .ok (.iload 6, 2) := by decide +kernel
theorem dX6_copy_122 : decode cX6_copy 122 = .ok (.isub, 1) := by decide +kernel
theorem dX6_copy_123 : decode cX6_copy 123 = .ok (.goto 5, 3) := by decide +kernel
theorem dX6_copy_126 : decode cX6_copy 126 = .ok (.iload 6, 2) := by decide +kernel
theorem dX6_copy_128 : decode cX6_copy 128 = .ok (.istore 7, 2) := by decide +kernel
theorem dX6_copy_130 : decode cX6_copy 130 = .ok (.aload_n 0, 1) := by decide +kernel
theorem dX6_copy_131 : decode cX6_copy 131 = .ok (.getfield 26, 3) := by decide +kernel
theorem dX6_copy_134 : decode cX6_copy 134 = .ok (.bipush 40, 2) := by decide +kernel
theorem dX6_copy_136 : decode cX6_copy 136 = .ok (.iload_n 3, 1) := by decide +kernel
theorem dX6_copy_137 : decode cX6_copy 137 = .ok (.imul, 1) := by decide +kernel
theorem dX6_copy_138 : decode cX6_copy 138 = .ok (.iload 4, 2) := by decide +kernel
theorem dX6_copy_140 : decode cX6_copy 140 = .ok (.iadd, 1) := by decide +kernel
theorem dX6_copy_141 : decode cX6_copy 141 = .ok (.iload 7, 2) := by decide +kernel
theorem dX6_copy_143 : decode cX6_copy 143 = .ok (.iadd, 1) := by decide +kernel
theorem dX6_copy_144 : decode cX6_copy 144 = .ok (.aload_n 0, 1) := by decide +kernel
theorem dX6_copy_145 : decode cX6_copy 145 = .ok (.getfield 26, 3) := by decide +kernel
theorem dX6_copy_148 : decode cX6_copy 148 = .ok (.bipush 40, 2) := by decide +kernel
theorem dX6_copy_150 : decode cX6_copy 150 = .ok (.iload_n 1, 1) := by decide +kernel
theorem dX6_copy_151 : decode cX6_copy 151 = .ok (.imul, 1) := by decide +kernel
theorem dX6_copy_152 : decode cX6_copy 152 = .ok (.iload_n 2, 1) := by decide +kernel
theorem dX6_copy_153 : decode cX6_copy 153 = .ok (.iadd, 1) := by decide +kernel
theorem dX6_copy_154 : decode cX6_copy 154 = .ok (.iload 7, 2) := by decide +kernel
theorem dX6_copy_156 : decode cX6_copy 156 = .ok (.iadd, 1) := by decide +kernel
theorem dX6_copy_157 : decode cX6_copy 157 = .ok (.iaload, 1) := by decide +kernel
theorem dX6_copy_158 : decode cX6_copy 158 = .ok (.iastore, 1) := by decide +kernel
theorem dX6_copy_159 : decode cX6_copy 159 = .ok (.iinc 6 1, 3) := by decide +kernel
theorem dX6_copy_162 : decode cX6_copy 162 = .ok (.goto (-64), 3) := by decide +kernel
theorem dX6_copy_165 : decode cX6_copy 165 = .ok (.aload_n 0, 1) := by decide +kernel
theorem dX6_copy_166 : decode cX6_copy 166 = .ok (.iload 5, 2) := by decide +kernel
theorem dX6_copy_168 : decode cX6_copy 168 = .ok (.invokevirtual 76, 3) := by decide +kernel
theorem dX6_copy_171 : decode cX6_copy 171 = .ok (.ireturn, 1) := by decide +kernel
theorem dX6_drop_0 : decode cX6_drop 0 = .ok (.iload_n 1, 1) := by decide +kernel
theorem dX6_drop_1 : decode cX6_drop 1 = .ok (.invokestatic 65, 3) := by decide +kernel
theorem dX6_drop_4 : decode cX6_drop 4 = .ok (.ifCond .ne 6, 3) := by decide +kernel
theorem dX6_drop_7 : decode cX6_drop 7 = .ok (.ldc 71, 2) := by decide +kernel
theorem dX6_drop_9 : decode cX6_drop 9 = .ok (.ireturn, 1) := by decide +kernel
theorem dX6_drop_10 : decode cX6_drop 10 = .ok (.aload_n 0, 1) := by decide +kernel
theorem dX6_drop_11 : decode cX6_drop 11 = .ok (.getfield 20, 3) := by decide +kernel
theorem dX6_drop_14 : decode cX6_drop 14 = .ok (.iload_n 1, 1) := by decide +kernel
theorem dX6_drop_15 : decode cX6_drop 15 = .ok (.iaload, 1) := by decide +kernel
theorem dX6_drop_16 : decode cX6_drop 16 = .ok (.ldc 19, 2) := by decide +kernel
theorem dX6_drop_18 : decode cX6_drop 18 = .ok (.if_icmp .ne 9, 3) := by decide +kernel
theorem dX6_drop_21 : decode cX6_drop 21 = .ok (.aload_n 0, 1) := by decide +kernel
theorem dX6_drop_22 : decode cX6_drop 22 = .ok (.iconst 1, 1) := by decide +kernel
theorem dX6_drop_23 : decode cX6_drop 23 = .ok (.invokevirtual 72, 3) := by decide +kernel
theorem dX6_drop_26 : decode cX6_drop 26 = .ok (.ireturn, 1) := by decide +kernel
theorem dX6_drop_27 : decode cX6_drop 27 = .ok (.aload_n 0, 1) := by decide +kernel
theorem dX6_drop_28 : decode cX6_drop 28 = .ok (.getfield 20, 3) := by decide +kernel
theorem dX6_drop_31 : decode cX6_drop 31 = .ok (.iload_n 1, 1) := by decide +kernel
theorem dX6_drop_32 : decode cX6_drop 32 = .ok (.ldc 19, 2) := by decide +kernel
theorem dX6_drop_34 : decode cX6_drop 34 = .ok (.iastore, 1) := by decide +kernel
theorem dX6_drop_35 : decode cX6_drop 35 = .ok (.aload_n 0, 1) := by decide +kernel
theorem dX6_drop_36 : decode cX6_drop 36 = .ok (.aload_n 0, 1) := by decide +kernel
theorem dX6_drop_37 : decode cX6_drop 37 = .ok (.getfield 23, 3) := by decide +kernel
theorem dX6_drop_40 : decode cX6_drop 40 = .ok (.iload_n 1, 1) := by decide +kernel
theorem dX6_drop_41 : decode cX6_drop 41 = .ok (.iaload, 1) := by decide +kernel
theorem dX6_drop_42 : decode cX6_drop 42 = .ok (.invokevirtual 76, 3) := by decide +kernel
theorem dX6_drop_45 : decode cX6_drop 45 = .ok (.ireturn, 1) := by decide +kernel
theorem dX6_feed_0 : decode cX6_feed 0 = .ok (.iload_n 3, 1) := by decide +kernel
theorem dX6_feed_1 : decode cX6_feed 1 = .ok (.i2l, 1) := by decide +kernel
theorem dX6_feed_2 : decode cX6_feed 2 = .ok (.lconst 1, 1) := by decide +kernel
theorem dX6_feed_3 : decode cX6_feed 3 = .ok (.ldc2_w 83, 3) := by decide +kernel
theorem dX6_feed_6 : decode cX6_feed 6 = .ok (.invokestatic 61, 3) := by decide +kernel
theorem dX6_feed_9 : decode cX6_feed 9 = .ok (.ifCond .ne 6, 3) := by decide +kernel
theorem dX6_feed_12 : decode cX6_feed 12 = .ok (.ldc 71, 2) := by decide +kernel
theorem dX6_feed_14 : decode cX6_feed 14 = .ok (.ireturn, 1) := by decide +kernel
theorem dX6_feed_15 : decode cX6_feed 15 = .ok (.aload_n 0, 1) := by decide +kernel
theorem dX6_feed_16 : decode cX6_feed 16 = .ok (.getfield 85, 3) := by decide +kernel
theorem dX6_feed_19 : decode cX6_feed 19 = .ok (.iload_n 3, 1) := by decide +kernel
theorem dX6_feed_20 : decode cX6_feed 20 = .ok (.iadd, 1) := by decide +kernel
theorem dX6_feed_21 : decode cX6_feed 21 = .ok (.sipush 400, 3) := by decide +kernel
theorem dX6_feed_24 : decode cX6_feed 24 = .ok (.if_icmp .le 6, 3) := by decide +kernel
theorem dX6_feed_27 : decode cX6_feed 27 = .ok (.ldc 88, 2) := by decide +kernel
theorem dX6_feed_29 : decode cX6_feed 29 = .ok (.ireturn, 1) := by decide +kernel
theorem dX6_feed_30 : decode cX6_feed 30 = .ok (.iload_n 3, 1) := by decide +kernel
theorem dX6_feed_31 : decode cX6_feed 31 = .ok (.iconst 1, 1) := by decide +kernel
theorem dX6_feed_32 : decode cX6_feed 32 = .ok (.isub, 1) := by decide +kernel
theorem dX6_feed_33 : decode cX6_feed 33 = .ok (.istore 4, 2) := by decide +kernel
theorem dX6_feed_35 : decode cX6_feed 35 = .ok (.iload 4, 2) := by decide +kernel
theorem dX6_feed_37 : decode cX6_feed 37 = .ok (.ifCond .lt 40, 3) := by decide +kernel
theorem dX6_feed_40 : decode cX6_feed 40 = .ok (.aload_n 0, 1) := by decide +kernel
theorem dX6_feed_41 : decode cX6_feed 41 = .ok (.getfield 16, 3) := by decide +kernel
theorem dX6_feed_44 : decode cX6_feed 44 = .ok (.aload_n 0, 1) := by decide +kernel
theorem dX6_feed_45 : decode cX6_feed 45 = .ok (.getfield 85, 3) := by decide +kernel
theorem dX6_feed_48 : decode cX6_feed 48 = .ok (.lload_n 1, 1) := by decide +kernel
theorem dX6_feed_49 : decode cX6_feed 49 = .ok (.bipush 8, 2) := by decide +kernel
theorem dX6_feed_51 : decode cX6_feed 51 = .ok (.iload 4, 2) := by decide +kernel
theorem dX6_feed_53 : decode cX6_feed 53 = .ok (.imul, 1) := by decide +kernel
theorem dX6_feed_54 : decode cX6_feed 54 = .ok (.lshr, 1) := by decide +kernel
theorem dX6_feed_55 : decode cX6_feed 55 = .ok (.ldc2_w 89, 3) := by decide +kernel
theorem dX6_feed_58 : decode cX6_feed 58 = .ok (.land, 1) := by decide +kernel
theorem dX6_feed_59 : decode cX6_feed 59 = .ok (.l2i, 1) := by decide +kernel
theorem dX6_feed_60 : decode cX6_feed 60 = .ok (.iastore, 1) := by decide +kernel
theorem dX6_feed_61 : decode cX6_feed 61 = .ok (.aload_n 0, 1) := by decide +kernel
theorem dX6_feed_62 : decode cX6_feed 62 = .ok (.dup, 1) := by decide +kernel
theorem dX6_feed_63 : decode cX6_feed 63 = .ok (.getfield 85, 3) := by decide +kernel
theorem dX6_feed_66 : decode cX6_feed 66 = .ok (.iconst 1, 1) := by decide +kernel
theorem dX6_feed_67 : decode cX6_feed 67 = .ok (.iadd, 1) := by decide +kernel
theorem dX6_feed_68 : decode cX6_feed 68 = .ok (.putfield 85, 3) := by decide +kernel
theorem dX6_feed_71 : decode cX6_feed 71 = .ok (.iinc 4 (-1), 3) := by decide +kernel
theorem dX6_feed_74 : decode cX6_feed 74 = .ok (.goto (-39), 3) := by decide +kernel
theorem dX6_feed_77 : decode cX6_feed 77 = .ok (.aload_n 0, 1) := by decide +kernel
theorem dX6_feed_78 : decode cX6_feed 78 = .ok (.getfield 85, 3) := by decide +kernel
theorem dX6_feed_81 : decode cX6_feed 81 = .ok (.ireturn, 1) := by decide +kernel
theorem dX6_sort_0 : decode cX6_sort 0 = .ok (.iload_n 0, 1) := by decide +kernel
theorem dX6_sort_1 : decode cX6_sort 1 = .ok (.bipush 97, 2) := by decide +kernel
theorem dX6_sort_3 : decode cX6_sort 3 = .ok (.if_icmp .lt 13, 3) := by decide +kernel
theorem dX6_sort_6 : decode cX6_sort 6 = .ok (.iload_n 0, 1) := by decide +kernel
theorem dX6_sort_7 : decode cX6_sort 7 = .ok (.bipush 122, 2) := by decide +kernel
theorem dX6_sort_9 : decode cX6_sort 9 = .ok (.if_icmp .gt 7, 3) := by decide +kernel
theorem dX6_sort_12 : decode cX6_sort 12 = .ok (.iconst 1, 1) := by decide +kernel
theorem dX6_sort_13 : decode cX6_sort 13 = .ok (.goto 20, 3) := by decide +kernel
theorem dX6_sort_16 : decode cX6_sort 16 = .ok (.iload_n 0, 1) := by decide +kernel
theorem dX6_sort_17 : decode cX6_sort 17 = .ok (.bipush 48, 2) := by decide +kernel
theorem dX6_sort_19 : decode cX6_sort 19 = .ok (.if_icmp .lt 13, 3) := by decide +kernel
theorem dX6_sort_22 : decode cX6_sort 22 = .ok (.iload_n 0, 1) := by decide +kernel
theorem dX6_sort_23 : decode cX6_sort 23 = .ok (.bipush 57, 2) := by decide +kernel
theorem dX6_sort_25 : decode cX6_sort 25 = .ok (.if_icmp .gt 7, 3) := by decide +kernel
theorem dX6_sort_28 : decode cX6_sort 28 = .ok (.iconst 2, 1) := by decide +kernel
theorem dX6_sort_29 : decode cX6_sort 29 = .ok (.goto 4, 3) := by decide +kernel
theorem dX6_sort_32 : decode cX6_sort 32 = .ok (.iconst 0, 1) := by decide +kernel
theorem dX6_sort_33 : decode cX6_sort 33 = .ok (.ireturn, 1) := by decide +kernel
theorem dX6_token_0 : decode cX6_token 0 = .ok (.aload_n 0, 1) := by decide +kernel
theorem dX6_token_1 : decode cX6_token 1 = .ok (.getfield 91, 3) := by decide +kernel
theorem dX6_token_4 : decode cX6_token 4 = .ok (.aload_n 0, 1) := by decide +kernel
theorem dX6_token_5 : decode cX6_token 5 = .ok (.getfield 85, 3) := by decide +kernel
theorem dX6_token_8 : decode cX6_token 8 = .ok (.if_icmp .ge 44, 3) := by decide +kernel
theorem dX6_token_11 : decode cX6_token 11 = .ok (.aload_n 0, 1) := by decide +kernel
theorem dX6_token_12 : decode cX6_token 12 = .ok (.getfield 16, 3) := by decide +kernel
theorem dX6_token_15 : decode cX6_token 15 = .ok (.aload_n 0, 1) := by decide +kernel
theorem dX6_token_16 : decode cX6_token 16 = .ok (.getfield 91, 3) := by decide +kernel
theorem dX6_token_19 : decode cX6_token 19 = .ok (.iaload, 1) := by decide +kernel
theorem dX6_token_20 : decode cX6_token 20 = .ok (.bipush 32, 2) := by decide +kernel
theorem dX6_token_22 : decode cX6_token 22 = .ok (.if_icmp .eq 17, 3) := by decide +kernel
theorem dX6_token_25 : decode cX6_token 25 = .ok (.aload_n 0, 1) := by decide +kernel
theorem dX6_token_26 : decode cX6_token 26 = .ok (.getfield 16, 3) := by decide +kernel
theorem dX6_token_29 : decode cX6_token 29 = .ok (.aload_n 0, 1) := by decide +kernel
theorem dX6_token_30 : decode cX6_token 30 = .ok (.getfield 91, 3) := by decide +kernel
theorem dX6_token_33 : decode cX6_token 33 = .ok (.iaload, 1) := by decide +kernel
theorem dX6_token_34 : decode cX6_token 34 = .ok (.bipush 10, 2) := by decide +kernel
theorem dX6_token_36 : decode cX6_token 36 = .ok (.if_icmp .ne 16, 3) := by decide +kernel
theorem dX6_token_39 : decode cX6_token 39 = .ok (.aload_n 0, 1) := by decide +kernel
theorem dX6_token_40 : decode cX6_token 40 = .ok (.dup, 1) := by decide +kernel
theorem dX6_token_41 : decode cX6_token 41 = .ok (.getfield 91, 3) := by decide +kernel
theorem dX6_token_44 : decode cX6_token 44 = .ok (.iconst 1, 1) := by decide +kernel
theorem dX6_token_45 : decode cX6_token 45 = .ok (.iadd, 1) := by decide +kernel
theorem dX6_token_46 : decode cX6_token 46 = .ok (.putfield 91, 3) := by decide +kernel
theorem dX6_token_49 : decode cX6_token 49 = .ok (.goto (-49), 3) := by decide +kernel
theorem dX6_token_52 : decode cX6_token 52 = .ok (.aload_n 0, 1) := by decide +kernel
theorem dX6_token_53 : decode cX6_token 53 = .ok (.aload_n 0, 1) := by decide +kernel
theorem dX6_token_54 : decode cX6_token 54 = .ok (.getfield 91, 3) := by decide +kernel
theorem dX6_token_57 : decode cX6_token 57 = .ok (.putfield 94, 3) := by decide +kernel
theorem dX6_token_60 : decode cX6_token 60 = .ok (.aload_n 0, 1) := by decide +kernel
theorem dX6_token_61 : decode cX6_token 61 = .ok (.dup, 1) := by decide +kernel
theorem dX6_token_62 : decode cX6_token 62 = .ok (.getfield 91, 3) := by decide +kernel
theorem dX6_token_65 : decode cX6_token 65 = .ok (.aload_n 0, 1) := by decide +kernel
theorem dX6_token_66 : decode cX6_token 66 = .ok (.getfield 91, 3) := by decide +kernel
theorem dX6_token_69 : decode cX6_token 69 = .ok (.aload_n 0, 1) := by decide +kernel
theorem dX6_token_70 : decode cX6_token 70 = .ok (.getfield 85, 3) := by decide +kernel
theorem dX6_token_73 : decode cX6_token 73 = .ok (.if_icmp .ge 7, 3) := by decide +kernel
theorem dX6_token_76 : decode cX6_token 76 = .ok (.iconst 1, 1) := by decide +kernel
theorem dX6_token_77 : decode cX6_token 77 = .ok (.goto 4, 3) := by decide +kernel
theorem dX6_token_80 : decode cX6_token 80 = .ok (.iconst 0, 1) := by decide +kernel
theorem dX6_token_81 : decode cX6_token 81 = .ok (.iadd, 1) := by decide +kernel
theorem dX6_token_82 : decode cX6_token 82 = .ok (.putfield 91, 3) := by decide +kernel
theorem dX6_token_85 : decode cX6_token 85 = .ok (.aload_n 0, 1) := by decide +kernel
theorem dX6_token_86 : decode cX6_token 86 = .ok (.getfield 91, 3) := by decide +kernel
theorem dX6_token_89 : decode cX6_token 89 = .ok (.aload_n 0, 1) := by decide +kernel
theorem dX6_token_90 : decode cX6_token 90 = .ok (.getfield 85, 3) := by decide +kernel
theorem dX6_token_93 : decode cX6_token 93 = .ok (.if_icmp .ge 58, 3) := by decide +kernel
theorem dX6_token_96 : decode cX6_token 96 = .ok (.aload_n 0, 1) := by decide +kernel
theorem dX6_token_97 : decode cX6_token 97 = .ok (.getfield 16, 3) := by decide +kernel
theorem dX6_token_100 : decode cX6_token 100 = .ok (.aload_n 0, 1) := by decide +kernel
theorem dX6_token_101 : decode cX6_token 101 = .ok (.getfield 94, 3) := by decide +kernel
theorem dX6_token_104 : decode cX6_token 104 = .ok (.iaload, 1) := by decide +kernel
theorem dX6_token_105 : decode cX6_token 105 = .ok (.invokestatic 97, 3) := by decide +kernel
theorem dX6_token_108 : decode cX6_token 108 = .ok (.ifCond .le 43, 3) := by decide +kernel
theorem dX6_token_111 : decode cX6_token 111 = .ok (.aload_n 0, 1) := by decide +kernel
theorem dX6_token_112 : decode cX6_token 112 = .ok (.getfield 16, 3) := by decide +kernel
theorem dX6_token_115 : decode cX6_token 115 = .ok (.aload_n 0, 1) := by decide +kernel
theorem dX6_token_116 : decode cX6_token 116 = .ok (.getfield 91, 3) := by decide +kernel
theorem dX6_token_119 : decode cX6_token 119 = .ok (.iaload, 1) := by decide +kernel
theorem dX6_token_120 : decode cX6_token 120 = .ok (.invokestatic 97, 3) := by decide +kernel
theorem dX6_token_123 : decode cX6_token 123 = .ok (.aload_n 0, 1) := by decide +kernel
theorem dX6_token_124 : decode cX6_token 124 = .ok (.getfield 16, 3) := by decide +kernel
theorem dX6_token_127 : decode cX6_token 127 = .ok (.aload_n 0, 1) := by decide +kernel
theorem dX6_token_128 : decode cX6_token 128 = .ok (.getfield 94, 3) := by decide +kernel
theorem dX6_token_131 : decode cX6_token 131 = .ok (.iaload, 1) := by decide +kernel
theorem dX6_token_132 : decode cX6_token 132 = .ok (.invokestatic 97, 3) := by decide +kernel
theorem dX6_token_135 : decode cX6_token 135 = .ok (.if_icmp .ne 16, 3) := by decide +kernel
theorem dX6_token_138 : decode cX6_token 138 = .ok (.aload_n 0, 1) := by decide +kernel
theorem dX6_token_139 : decode cX6_token 139 = .ok (.dup, 1) := by decide +kernel
theorem dX6_token_140 : decode cX6_token 140 = .ok (.getfield 91, 3) := by decide +kernel
theorem dX6_token_143 : decode cX6_token 143 = .ok (.iconst 1, 1) := by decide +kernel
theorem dX6_token_144 : decode cX6_token 144 = .ok (.iadd, 1) := by decide +kernel
theorem dX6_token_145 : decode cX6_token 145 = .ok (.putfield 91, 3) := by decide +kernel
theorem dX6_token_148 : decode cX6_token 148 = .ok (.goto (-63), 3) := by decide +kernel
theorem dX6_token_151 : decode cX6_token 151 = .ok (.aload_n 0, 1) := by decide +kernel
theorem dX6_token_152 : decode cX6_token 152 = .ok (.aload_n 0, 1) := by decide +kernel
theorem dX6_token_153 : decode cX6_token 153 = .ok (.getfield 91, 3) := by decide +kernel
theorem dX6_token_156 : decode cX6_token 156 = .ok (.putfield 100, 3) := by decide +kernel
theorem dX6_token_159 : decode cX6_token 159 = .ok (.return_, 1) := by decide +kernel
theorem dX6_isWord_0 : decode cX6_isWord 0 = .ok (.aload_n 0, 1) := by decide +kernel
theorem dX6_isWord_1 : decode cX6_isWord 1 = .ok (.getfield 100, 3) := by decide +kernel
theorem dX6_isWord_4 : decode cX6_isWord 4 = .ok (.aload_n 0, 1) := by decide +kernel
theorem dX6_isWord_5 : decode cX6_isWord 5 = .ok (.getfield 94, 3) := by decide +kernel
theorem dX6_isWord_8 : decode cX6_isWord 8 = .ok (.isub, 1) := by decide +kernel
theorem dX6_isWord_9 : decode cX6_isWord 9 = .ok (.iload_n 2, 1) := by decide +kernel
theorem dX6_isWord_10 : decode cX6_isWord 10 = .ok (.if_icmp .ne 7, 3) := by decide +kernel
theorem dX6_isWord_13 : decode cX6_isWord 13 = .ok (.iconst 1, 1) := by decide +kernel
theorem dX6_isWord_14 : decode cX6_isWord 14 = .ok (.goto 4, 3) := by decide +kernel
theorem dX6_isWord_17 : decode cX6_isWord 17 = .ok (.iconst 0, 1) := by decide +kernel
theorem dX6_isWord_18 : decode cX6_isWord 18 = .ok (.istore_n 3, 1) := by decide +kernel
theorem dX6_isWord_19 : decode cX6_isWord 19 = .ok (.iconst 0, 1) := by decide +kernel
theorem dX6_isWord_20 : decode cX6_isWord 20 = .ok (.istore 4, 2) := by decide +kernel
theorem dX6_isWord_22 : decode cX6_isWord 22 = .ok (.iload_n 3, 1) := by decide +kernel
theorem dX6_isWord_23 : decode cX6_isWord 23 = .ok (.ifCond .eq 48, 3) := by decide +kernel
theorem dX6_isWord_26 : decode cX6_isWord 26 = .ok (.iload 4, 2) := by decide +kernel
theorem dX6_isWord_28 : decode cX6_isWord 28 = .ok (.iload_n 2, 1) := by decide +kernel
theorem dX6_isWord_29 : decode cX6_isWord 29 = .ok (.if_icmp .ge 42, 3) := by decide +kernel
theorem dX6_isWord_32 : decode cX6_isWord 32 = .ok (.aload_n 0, 1) := by decide +kernel
theorem dX6_isWord_33 : decode cX6_isWord 33 = .ok (.getfield 16, 3) := by decide +kernel
theorem dX6_isWord_36 : decode cX6_isWord 36 = .ok (.aload_n 0, 1) := by decide +kernel
theorem dX6_isWord_37 : decode cX6_isWord 37 = .ok (.getfield 94, 3) := by decide +kernel
theorem dX6_isWord_40 : decode cX6_isWord 40 = .ok (.iload 4, 2) := by decide +kernel
theorem dX6_isWord_42 : decode cX6_isWord 42 = .ok (.iadd, 1) := by decide +kernel
theorem dX6_isWord_43 : decode cX6_isWord 43 = .ok (.iaload, 1) := by decide +kernel
theorem dX6_isWord_44 : decode cX6_isWord 44 = .ok (.bipush 96, 2) := by decide +kernel
theorem dX6_isWord_46 : decode cX6_isWord 46 = .ok (.iload_n 1, 1) := by decide +kernel
theorem dX6_isWord_47 : decode cX6_isWord 47 = .ok (.iconst 5, 1) := by decide +kernel
theorem dX6_isWord_48 : decode cX6_isWord 48 = .ok (.iload 4, 2) := by decide +kernel
theorem dX6_isWord_50 : decode cX6_isWord 50 = .ok (.imul, 1) := by decide +kernel
theorem dX6_isWord_51 : decode cX6_isWord 51 = .ok (.ishr, 1) := by decide +kernel
theorem dX6_isWord_52 : decode cX6_isWord 52 = .ok (.bipush 31, 2) := by decide +kernel
theorem dX6_isWord_54 : decode cX6_isWord 54 = .ok (.iand, 1) := by decide +kernel
theorem dX6_isWord_55 : decode cX6_isWord 55 = .ok (.iadd, 1) := by decide +kernel
theorem dX6_isWord_56 : decode cX6_isWord 56 = .ok (.if_icmp .ne 7, 3) := by decide +kernel
theorem dX6_isWord_59 : decode cX6_isWord 59 = .ok (.iconst 1, 1) := by decide +kernel
theorem dX6_isWord_60 : decode cX6_isWord 60 = .ok (.goto 4, 3) := by decide +kernel
theorem dX6_isWord_63 : decode cX6_isWord 63 = .ok (.iconst 0, 1) := by decide +kernel
theorem dX6_isWord_64 : decode cX6_isWord 64 = .ok (.istore_n 3, 1) := by decide +kernel
theorem dX6_isWord_65 : decode cX6_isWord 65 = .ok (.iinc 4 1, 3) := by decide +kernel
theorem dX6_isWord_68 : decode cX6_isWord 68 = .ok (.goto (-46), 3) := by decide +kernel
theorem dX6_isWord_71 : decode cX6_isWord 71 = .ok (.iload_n 3, 1) := by decide +kernel
theorem dX6_isWord_72 : decode cX6_isWord 72 = .ok (.ireturn, 1) := by decide +kernel
theorem dX6_hurdleWord_0 : decode cX6_hurdleWord 0 = .ok (.aload_n 0, 1) := by decide +kernel
theorem dX6_hurdleWord_1 : decode cX6_hurdleWord 1 = .ok (.ldc 103, 2) := by decide +kernel
theorem dX6_hurdleWord_3 : decode cX6_hurdleWord 3 = .ok (.iconst 5, 1) := by decide +kernel
theorem dX6_hurdleWord_4 : decode cX6_hurdleWord 4 = .ok (.invokevirtual 104, 3) := by decide +kernel
theorem dX6_hurdleWord_7 : decode cX6_hurdleWord 7 = .ok (.ifCond .eq 7, 3) := by decide +kernel
theorem dX6_hurdleWord_10 : decode cX6_hurdleWord 10 = .ok (.iconst 0, 1) := by decide +kernel
theorem dX6_hurdleWord_11 : decode cX6_hurdleWord 11 = .ok (.goto 33, 3) := by decide +kernel
theorem dX6_hurdleWord_14 : decode cX6_hurdleWord 14 = .ok (.aload_n 0, 1) := by decide +kernel
theorem dX6_hurdleWord_15 : decode cX6_hurdleWord 15 = .ok (.ldc 108, 2) := by decide +kernel
theorem dX6_hurdleWord_17 : decode cX6_hurdleWord 17 = .ok (.iconst 5, 1) := by decide +kernel
theorem dX6_hurdleWord_18 : decode cX6_hurdleWord 18 = .ok (.invokevirtual 104, 3) := by decide +kernel
theorem dX6_hurdleWord_21 : decode cX6_hurdleWord 21 = .ok (.ifCond .eq 7, 3) := by decide +kernel
theorem dX6_hurdleWord_24 : decode cX6_hurdleWord 24 = .ok (.iconst 1, 1) := by decide +kernel
theorem dX6_hurdleWord_25 : decode cX6_hurdleWord 25 = .ok (.goto 19, 3) := by decide +kernel
theorem dX6_hurdleWord_28 : decode cX6_hurdleWord 28 = .ok (.aload_n 0, 1) := by decide +kernel
theorem dX6_hurdleWord_29 : decode cX6_hurdleWord 29 = .ok (.ldc 109, 2) := by decide +kernel
theorem dX6_hurdleWord_31 : decode cX6_hurdleWord 31 = .ok (.iconst 4, 1) := by decide +kernel
theorem dX6_hurdleWord_32 : decode cX6_hurdleWord 32 = .ok (.invokevirtual 104, 3) := by decide +kernel
theorem dX6_hurdleWord_35 : decode cX6_hurdleWord 35 = .ok (.ifCond .eq 7, 3) := by decide +kernel
theorem dX6_hurdleWord_38 : decode cX6_hurdleWord 38 = .ok (.iconst 2, 1) := by decide +kernel
theorem dX6_hurdleWord_39 : decode cX6_hurdleWord 39 = .ok (.goto 5, 3) := by decide +kernel
theorem dX6_hurdleWord_42 : decode cX6_hurdleWord 42 = .ok (.ldc 19, 2) := by decide +kernel
theorem dX6_hurdleWord_44 : decode cX6_hurdleWord 44 = .ok (.ireturn, 1) := by decide +kernel
theorem dX6_beastWord_0 : decode cX6_beastWord 0 = .ok (.aload_n 0, 1) := by decide +kernel
theorem dX6_beastWord_1 : decode cX6_beastWord 1 = .ok (.sipush 5861, 3) := by decide +kernel
theorem dX6_beastWord_4 : decode cX6_beastWord 4 = .ok (.iconst 3, 1) := by decide +kernel
theorem dX6_beastWord_5 : decode cX6_beastWord 5 = .ok (.invokevirtual 104, 3) := by decide +kernel
theorem dX6_beastWord_8 : decode cX6_beastWord 8 = .ok (.ifCond .eq 7, 3) := by decide +kernel
theorem dX6_beastWord_11 : decode cX6_beastWord 11 = .ok (.iconst 1, 1) := by decide +kernel
theorem dX6_beastWord_12 : decode cX6_beastWord 12 = .ok (.goto 63, 3) := by decide +kernel
theorem dX6_beastWord_15 : decode cX6_beastWord 15 = .ok (.aload_n 0, 1) := by decide +kernel
theorem dX6_beastWord_16 : decode cX6_beastWord 16 = .ok (.sipush 13362, 3) := by decide +kernel
theorem dX6_beastWord_19 : decode cX6_beastWord 19 = .ok (.iconst 3, 1) := by decide +kernel
theorem dX6_beastWord_20 : decode cX6_beastWord 20 = .ok (.invokevirtual 104, 3) := by decide +kernel
theorem dX6_beastWord_23 : decode cX6_beastWord 23 = .ok (.ifCond .eq 7, 3) := by decide +kernel
theorem dX6_beastWord_26 : decode cX6_beastWord 26 = .ok (.iconst 2, 1) := by decide +kernel
theorem dX6_beastWord_27 : decode cX6_beastWord 27 = .ok (.goto 48, 3) := by decide +kernel
theorem dX6_beastWord_30 : decode cX6_beastWord 30 = .ok (.aload_n 0, 1) := by decide +kernel
theorem dX6_beastWord_31 : decode cX6_beastWord 31 = .ok (.ldc 110, 2) := by decide +kernel
theorem dX6_beastWord_33 : decode cX6_beastWord 33 = .ok (.iconst 4, 1) := by decide +kernel
theorem dX6_beastWord_34 : decode cX6_beastWord 34 = .ok (.invokevirtual 104, 3) := by decide +kernel
theorem dX6_beastWord_37 : decode cX6_beastWord 37 = .ok (.ifCond .eq 7, 3) := by decide +kernel
theorem dX6_beastWord_40 : decode cX6_beastWord 40 = .ok (.iconst 3, 1) := by decide +kernel
theorem dX6_beastWord_41 : decode cX6_beastWord 41 = .ok (.goto 34, 3) := by decide +kernel
theorem dX6_beastWord_44 : decode cX6_beastWord 44 = .ok (.aload_n 0, 1) := by decide +kernel
theorem dX6_beastWord_45 : decode cX6_beastWord 45 = .ok (.ldc 111, 2) := by decide +kernel
theorem dX6_beastWord_47 : decode cX6_beastWord 47 = .ok (.iconst 5, 1) := by decide +kernel
theorem dX6_beastWord_48 : decode cX6_beastWord 48 = .ok (.invokevirtual 104, 3) := by decide +kernel
theorem dX6_beastWord_51 : decode cX6_beastWord 51 = .ok (.ifCond .eq 7, 3) := by decide +kernel
theorem dX6_beastWord_54 : decode cX6_beastWord 54 = .ok (.iconst 4, 1) := by decide +kernel
theorem dX6_beastWord_55 : decode cX6_beastWord 55 = .ok (.goto 20, 3) := by decide +kernel
theorem dX6_beastWord_58 : decode cX6_beastWord 58 = .ok (.aload_n 0, 1) := by decide +kernel
theorem dX6_beastWord_59 : decode cX6_beastWord 59 = .ok (.ldc 112, 2) := by decide +kernel
theorem dX6_beastWord_61 : decode cX6_beastWord 61 = .ok (.bipush 6, 2) := by decide +kernel
theorem dX6_beastWord_63 : decode cX6_beastWord 63 = .ok (.invokevirtual 104, 3) := by decide +kernel
theorem dX6_beastWord_66 : decode cX6_beastWord 66 = .ok (.ifCond .eq 7, 3) := by decide +kernel
theorem dX6_beastWord_69 : decode cX6_beastWord 69 = .ok (.iconst 5, 1) := by decide +kernel
theorem dX6_beastWord_70 : decode cX6_beastWord 70 = .ok (.goto 5, 3) := by decide +kernel
theorem dX6_beastWord_73 : decode cX6_beastWord 73 = .ok (.ldc 19, 2) := by decide +kernel
theorem dX6_beastWord_75 : decode cX6_beastWord 75 = .ok (.ireturn, 1) := by decide +kernel
theorem dX6_numberHere_0 : decode cX6_numberHere 0 = .ok (.aload_n 0, 1) := by decide +kernel
theorem dX6_numberHere_1 : decode cX6_numberHere 1 = .ok (.getfield 94, 3) := by decide +kernel
theorem dX6_numberHere_4 : decode cX6_numberHere 4 = .ok (.aload_n 0, 1) := by decide +kernel
theorem dX6_numberHere_5 : decode cX6_numberHere 5 = .ok (.getfield 85, 3) := by decide +kernel
theorem dX6_numberHere_8 : decode cX6_numberHere 8 = .ok (.if_icmp .eq 32, 3) := by decide +kernel
theorem dX6_numberHere_11 : decode cX6_numberHere 11 = .ok (.aload_n 0, 1) := by decide +kernel
theorem dX6_numberHere_12 : decode cX6_numberHere 12 = .ok (.getfield 16, 3) := by decide +kernel
theorem dX6_numberHere_15 : decode cX6_numberHere 15 = .ok (.aload_n 0, 1) := by decide +kernel
theorem dX6_numberHere_16 : decode cX6_numberHere 16 = .ok (.getfield 94, 3) := by decide +kernel
theorem dX6_numberHere_19 : decode cX6_numberHere 19 = .ok (.iaload, 1) := by decide +kernel
theorem dX6_numberHere_20 : decode cX6_numberHere 20 = .ok (.invokestatic 97, 3) := by decide +kernel
theorem dX6_numberHere_23 : decode cX6_numberHere 23 = .ok (.iconst 2, 1) := by decide +kernel
theorem dX6_numberHere_24 : decode cX6_numberHere 24 = .ok (.if_icmp .ne 16, 3) := by decide +kernel
theorem dX6_numberHere_27 : decode cX6_numberHere 27 = .ok (.aload_n 0, 1) := by decide +kernel
theorem dX6_numberHere_28 : decode cX6_numberHere 28 = .ok (.getfield 100, 3) := by decide +kernel
theorem dX6_numberHere_31 : decode cX6_numberHere 31 = .ok (.aload_n 0, 1) := by decide +kernel
theorem dX6_numberHere_32 : decode cX6_numberHere 32 = .ok (.getfield 94, 3) := by decide +kernel
theorem dX6_numberHere_35 : decode cX6_numberHere 35 = .ok (.isub, 1) := by decide +kernel
theorem dX6_numberHere_36 : decode cX6_numberHere 36 = .ok (.iconst 3, 1) := by decide +kernel
theorem dX6_numberHere_37 : decode cX6_numberHere 37 = .ok (.if_icmp .le 11, 3) := by decide +kernel
theorem dX6_numberHere_40 : decode cX6_numberHere 40 = .ok (.aload_n 0, 1) := by decide +kernel
theorem dX6_numberHere_41 : decode cX6_numberHere 41 = .ok (.iconst 1, 1) := by decide +kernel
theorem dX6_numberHere_42 : decode cX6_numberHere 42 = .ok (.putfield 113, 3) := by decide +kernel
theorem dX6_numberHere_45 : decode cX6_numberHere 45 = .ok (.ldc 19, 2) := by decide +kernel
theorem dX6_numberHere_47 : decode cX6_numberHere 47 = .ok (.ireturn, 1) := by decide +kernel
theorem dX6_numberHere_48 : decode cX6_numberHere 48 = .ok (.iconst 0, 1) := by decide +kernel
theorem dX6_numberHere_49 : decode cX6_numberHere 49 = .ok (.istore_n 3, 1) := by decide +kernel
theorem dX6_numberHere_50 : decode cX6_numberHere 50 = .ok (.aload_n 0, 1) := by decide +kernel
theorem dX6_numberHere_51 : decode cX6_numberHere 51 = .ok (.getfield 94, 3) := by decide +kernel
theorem dX6_numberHere_54 : decode cX6_numberHere 54 = .ok (.istore 4, 2) := by decide +kernel
theorem dX6_numberHere_56 : decode cX6_numberHere 56 = .ok (.iload 4, 2) := by decide +kernel
theorem dX6_numberHere_58 : decode cX6_numberHere 58 = .ok (.aload_n 0, 1) := by decide +kernel
theorem dX6_numberHere_59 : decode cX6_numberHere 59 = .ok (.getfield 100, 3) := by decide +kernel
theorem dX6_numberHere_62 : decode cX6_numberHere 62 = .ok (.if_icmp .ge 25, 3) := by decide +kernel
theorem dX6_numberHere_65 : decode cX6_numberHere 65 = .ok (.bipush 10, 2) := by decide +kernel
theorem dX6_numberHere_67 : decode cX6_numberHere 67 = .ok (.iload_n 3, 1) := by decide +kernel
theorem dX6_numberHere_68 : decode cX6_numberHere 68 = .ok (.imul, 1) := by decide +kernel
theorem dX6_numberHere_69 : decode cX6_numberHere 69 = .ok (.aload_n 0, 1) := by decide +kernel
theorem dX6_numberHere_70 : decode cX6_numberHere 70 = .ok (.getfield 16, 3) := by decide +kernel
theorem dX6_numberHere_73 : decode cX6_numberHere 73 = .ok (.iload 4, 2) := by decide +kernel
theorem dX6_numberHere_75 : decode cX6_numberHere 75 = .ok (.iaload, 1) := by decide +kernel
theorem dX6_numberHere_76 : decode cX6_numberHere 76 = .ok (.iadd, 1) := by decide +kernel
theorem dX6_numberHere_77 : decode cX6_numberHere 77 = .ok (.bipush 48, 2) := by decide +kernel
theorem dX6_numberHere_79 : decode cX6_numberHere 79 = .ok (.isub, 1) := by decide +kernel
theorem dX6_numberHere_80 : decode cX6_numberHere 80 = .ok (.istore_n 3, 1) := by decide +kernel
theorem dX6_numberHere_81 : decode cX6_numberHere 81 = .ok (.iinc 4 1, 3) := by decide +kernel
theorem dX6_numberHere_84 : decode cX6_numberHere 84 = .ok (.goto (-28), 3) := by decide +kernel
theorem dX6_numberHere_87 : decode cX6_numberHere 87 = .ok (.aload_n 0, 1) := by decide +kernel
theorem dX6_numberHere_88 : decode cX6_numberHere 88 = .ok (.iload_n 3, 1) := by decide +kernel
theorem dX6_numberHere_89 : decode cX6_numberHere 89 = .ok (.i2l, 1) := by decide +kernel
theorem dX6_numberHere_90 : decode cX6_numberHere 90 = .ok (.iload_n 1, 1) := by decide +kernel
theorem dX6_numberHere_91 : decode cX6_numberHere 91 = .ok (.i2l, 1) := by decide +kernel
theorem dX6_numberHere_92 : decode cX6_numberHere 92 = .ok (.iload_n 2, 1) := by decide +kernel
theorem dX6_numberHere_93 : decode cX6_numberHere 93 = .ok (.i2l, 1) := by decide +kernel
theorem dX6_numberHere_94 : decode cX6_numberHere 94 = .ok (.invokestatic 61, 3) := by decide +kernel
theorem dX6_numberHere_97 : decode cX6_numberHere 97 = .ok (.ifCond .eq 10, 3) := by decide +kernel
theorem dX6_numberHere_100 : decode cX6_numberHere 100 = .ok (.aload_n 0, 1) := by decide +kernel
theorem dX6_numberHere_101 : decode cX6_numberHere 101 = .ok (.getfield 113, 3) := by decide +kernel
theorem dX6_numberHere_104 : decode cX6_numberHere 104 = .ok (.goto 4, 3) := by decide +kernel
theorem dX6_numberHere_107 : decode cX6_numberHere 107 = .ok (.iconst 2, 1) := by decide +kernel
theorem dX6_numberHere_108 : decode cX6_numberHere 108 = .ok (.putfield 113, 3) := by decide +kernel
theorem dX6_numberHere_111 : decode cX6_numberHere 111 = .ok (.iload_n 3, 1) := by decide +kernel
theorem dX6_numberHere_112 : decode cX6_numberHere 112 = .ok (.i2l, 1) := by decide +kernel
theorem dX6_numberHere_113 : decode cX6_numberHere 113 = .ok (.iload_n 1, 1) := by decide +kernel
theorem dX6_numberHere_114 : decode cX6_numberHere 114 = .ok (.i2l, 1) := by decide +kernel
theorem dX6_numberHere_115 : decode cX6_numberHere 115 = .ok (.iload_n 2, 1) := by decide +kernel
theorem dX6_numberHere_116 : decode cX6_numberHere 116 = .ok (.i2l, 1) := by decide +kernel
theorem dX6_numberHere_117 : decode cX6_numberHere 117 = .ok (.invokestatic 61, 3) := by decide +kernel
theorem dX6_numberHere_120 : decode cX6_numberHere 120 = .ok (.ifCond .eq 7, 3) := by decide +kernel
theorem dX6_numberHere_123 : decode cX6_numberHere 123 = .ok (.iload_n 3, 1) := by decide +kernel
theorem dX6_numberHere_124 : decode cX6_numberHere 124 = .ok (.goto 5, 3) := by decide +kernel
theorem dX6_numberHere_127 : decode cX6_numberHere 127 = .ok (.ldc 19, 2) := by decide +kernel
theorem dX6_numberHere_129 : decode cX6_numberHere 129 = .ok (.ireturn, 1) := by decide +kernel
theorem dX6_number_0 : decode cX6_number 0 = .ok (.aload_n 0, 1) := by decide +kernel
theorem dX6_number_1 : decode cX6_number 1 = .ok (.iload_n 1, 1) := by decide +kernel
theorem dX6_number_2 : decode cX6_number 2 = .ok (.iload_n 2, 1) := by decide +kernel
theorem dX6_number_3 : decode cX6_number 3 = .ok (.invokevirtual 116, 3) := by decide +kernel
theorem dX6_number_6 : decode cX6_number 6 = .ok (.istore_n 3, 1) := by decide +kernel
theorem dX6_number_7 : decode cX6_number 7 = .ok (.iload_n 3, 1) := by decide +kernel
theorem dX6_number_8 : decode cX6_number 8 = .ok (.ldc 19, 2) := by decide +kernel
theorem dX6_number_10 : decode cX6_number 10 = .ok (.if_icmp .eq 7, 3) := by decide +kernel
theorem dX6_number_13 : decode cX6_number 13 = .ok (.aload_n 0, 1) := by decide +kernel
theorem dX6_number_14 : decode cX6_number 14 = .ok (.invokevirtual 120, 3) := by decide +kernel
theorem dX6_number_17 : decode cX6_number 17 = .ok (.iload_n 3, 1) := by decide +kernel
theorem dX6_number_18 : decode cX6_number 18 = .ok (.ireturn, 1) := by decide +kernel
theorem dX6_readsSign_0 : decode cX6_readsSign 0 = .ok (.aload_n 0, 1) := by decide +kernel
theorem dX6_readsSign_1 : decode cX6_readsSign 1 = .ok (.getfield 94, 3) := by decide +kernel
theorem dX6_readsSign_4 : decode cX6_readsSign 4 = .ok (.aload_n 0, 1) := by decide +kernel
theorem dX6_readsSign_5 : decode cX6_readsSign 5 = .ok (.getfield 85, 3) := by decide +kernel
theorem dX6_readsSign_8 : decode cX6_readsSign 8 = .ok (.if_icmp .eq 17, 3) := by decide +kernel
theorem dX6_readsSign_11 : decode cX6_readsSign 11 = .ok (.aload_n 0, 1) := by decide +kernel
theorem dX6_readsSign_12 : decode cX6_readsSign 12 = .ok (.getfield 16, 3) := by decide +kernel
theorem dX6_readsSign_15 : decode cX6_readsSign 15 = .ok (.aload_n 0, 1) := by decide +kernel
theorem dX6_readsSign_16 : decode cX6_readsSign 16 = .ok (.getfield 94, 3) := by decide +kernel
theorem dX6_readsSign_19 : decode cX6_readsSign 19 = .ok (.iaload, 1) := by decide +kernel
theorem dX6_readsSign_20 : decode cX6_readsSign 20 = .ok (.bipush 59, 2) := by decide +kernel
theorem dX6_readsSign_22 : decode cX6_readsSign 22 = .ok (.if_icmp .eq 10, 3) := by decide +kernel
theorem dX6_readsSign_25 : decode cX6_readsSign 25 = .ok (.aload_n 0, 1) := by decide +kernel
theorem dX6_readsSign_26 : decode cX6_readsSign 26 = .ok (.iconst 1, 1) := by decide +kernel
theorem dX6_readsSign_27 : decode cX6_readsSign 27 = .ok (.putfield 113, 3) := by decide +kernel
theorem dX6_readsSign_30 : decode cX6_readsSign 30 = .ok (.iconst 0, 1) := by decide +kernel
theorem dX6_readsSign_31 : decode cX6_readsSign 31 = .ok (.ireturn, 1) := by decide +kernel
theorem dX6_readsSign_32 : decode cX6_readsSign 32 = .ok (.aload_n 0, 1) := by decide +kernel
theorem dX6_readsSign_33 : decode cX6_readsSign 33 = .ok (.invokevirtual 120, 3) := by decide +kernel
theorem dX6_readsSign_36 : decode cX6_readsSign 36 = .ok (.iconst 1, 1) := by decide +kernel
theorem dX6_readsSign_37 : decode cX6_readsSign 37 = .ok (.ireturn, 1) := by decide +kernel
theorem dX6_way_0 : decode cX6_way 0 = .ok (.aload_n 0, 1) := by decide +kernel
theorem dX6_way_1 : decode cX6_way 1 = .ok (.iconst 0, 1) := by decide +kernel
theorem dX6_way_2 : decode cX6_way 2 = .ok (.sipush 999, 3) := by decide +kernel
theorem dX6_way_5 : decode cX6_way 5 = .ok (.invokevirtual 116, 3) := by decide +kernel
theorem dX6_way_8 : decode cX6_way 8 = .ok (.istore_n 1, 1) := by decide +kernel
theorem dX6_way_9 : decode cX6_way 9 = .ok (.iload_n 1, 1) := by decide +kernel
theorem dX6_way_10 : decode cX6_way 10 = .ok (.ldc 19, 2) := by decide +kernel
theorem dX6_way_12 : decode cX6_way 12 = .ok (.if_icmp .ne 6, 3) := by decide +kernel
theorem dX6_way_15 : decode cX6_way 15 = .ok (.ldc 19, 2) := by decide +kernel
theorem dX6_way_17 : decode cX6_way 17 = .ok (.ireturn, 1) := by decide +kernel
theorem dX6_way_18 : decode cX6_way 18 = .ok (.iload_n 1, 1) := by decide +kernel
theorem dX6_way_19 : decode cX6_way 19 = .ok (.aload_n 0, 1) := by decide +kernel
theorem dX6_way_20 : decode cX6_way 20 = .ok (.getfield 123, 3) := by decide +kernel
theorem dX6_way_23 : decode cX6_way 23 = .ok (.if_icmp .lt 30, 3) := by decide +kernel
theorem dX6_way_26 : decode cX6_way 26 = .ok (.iload_n 1, 1) := by decide +kernel
theorem dX6_way_27 : decode cX6_way 27 = .ok (.i2l, 1) := by decide +kernel
theorem dX6_way_28 : decode cX6_way 28 = .ok (.ldc2_w 126, 3) := by decide +kernel
theorem dX6_way_31 : decode cX6_way 31 = .ok (.bipush 9, 2) := by decide +kernel
theorem dX6_way_33 : decode cX6_way 33 = .ok (.aload_n 0, 1) := by decide +kernel
theorem dX6_way_34 : decode cX6_way 34 = .ok (.getfield 128, 3) := by decide +kernel
theorem dX6_way_37 : decode cX6_way 37 = .ok (.iadd, 1) := by decide +kernel
theorem dX6_way_38 : decode cX6_way 38 = .ok (.i2l, 1) := by decide +kernel
theorem dX6_way_39 : decode cX6_way 39 = .ok (.invokestatic 61, 3) := by decide +kernel
theorem dX6_way_42 : decode cX6_way 42 = .ok (.ifCond .ne 11, 3) := by decide +kernel
theorem dX6_way_45 : decode cX6_way 45 = .ok (.aload_n 0, 1) := by decide +kernel
theorem dX6_way_46 : decode cX6_way 46 = .ok (.iconst 2, 1) := by decide +kernel
theorem dX6_way_47 : decode cX6_way 47 = .ok (.putfield 113, 3) := by decide +kernel
theorem dX6_way_50 : decode cX6_way 50 = .ok (.ldc 19, 2) := by decide +kernel
theorem dX6_way_52 : decode cX6_way 52 = .ok (.ireturn, 1) := by decide +kernel
theorem dX6_way_53 : decode cX6_way 53 = .ok (.aload_n 0, 1) := by decide +kernel
theorem dX6_way_54 : decode cX6_way 54 = .ok (.invokevirtual 120, 3) := by decide +kernel
theorem dX6_way_57 : decode cX6_way 57 = .ok (.iload_n 1, 1) := by decide +kernel
theorem dX6_way_58 : decode cX6_way 58 = .ok (.ireturn, 1) := by decide +kernel
theorem dX6_readsLaw_0 : decode cX6_readsLaw 0 = .ok (.aload_n 0, 1) := by decide +kernel
theorem dX6_readsLaw_1 : decode cX6_readsLaw 1 = .ok (.ldc 131, 2) := by decide +kernel
theorem dX6_readsLaw_3 : decode cX6_readsLaw 3 = .ok (.iconst 4, 1) := by decide +kernel
theorem dX6_readsLaw_4 : decode cX6_readsLaw 4 = .ok (.invokevirtual 104, 3) := by decide +kernel
theorem dX6_readsLaw_7 : decode cX6_readsLaw 7 = .ok (.ifCond .ne 10, 3) := by decide +kernel
theorem dX6_readsLaw_10 : decode cX6_readsLaw 10 = .ok (.aload_n 0, 1) := by decide +kernel
theorem dX6_readsLaw_11 : decode cX6_readsLaw 11 = .ok (.iconst 1, 1) := by decide +kernel
theorem dX6_readsLaw_12 : decode cX6_readsLaw 12 = .ok (.putfield 113, 3) := by decide +kernel
theorem dX6_readsLaw_15 : decode cX6_readsLaw 15 = .ok (.iconst 0, 1) := by decide +kernel
theorem dX6_readsLaw_16 : decode cX6_readsLaw 16 = .ok (.ireturn, 1) := by decide +kernel
theorem dX6_readsLaw_17 : decode cX6_readsLaw 17 = .ok (.aload_n 0, 1) := by decide +kernel
theorem dX6_readsLaw_18 : decode cX6_readsLaw 18 = .ok (.invokevirtual 120, 3) := by decide +kernel
theorem dX6_readsLaw_21 : decode cX6_readsLaw 21 = .ok (.aload_n 0, 1) := by decide +kernel
theorem dX6_readsLaw_22 : decode cX6_readsLaw 22 = .ok (.aload_n 0, 1) := by decide +kernel
theorem dX6_readsLaw_23 : decode cX6_readsLaw 23 = .ok (.iconst 1, 1) := by decide +kernel
theorem dX6_readsLaw_24 : decode cX6_readsLaw 24 = .ok (.bipush 6, 2) := by decide +kernel
theorem dX6_readsLaw_26 : decode cX6_readsLaw 26 = .ok (.invokevirtual 132, 3) := by decide +kernel
theorem dX6_readsLaw_29 : decode cX6_readsLaw 29 = .ok (.putfield 123, 3) := by decide +kernel
theorem dX6_readsLaw_32 : decode cX6_readsLaw 32 = .ok (.aload_n 0, 1) := by decide +kernel
theorem dX6_readsLaw_33 : decode cX6_readsLaw 33 = .ok (.getfield 123, 3) := by decide +kernel
theorem dX6_readsLaw_36 : decode cX6_readsLaw 36 = .ok (.ldc 19, 2) := by decide +kernel
theorem dX6_readsLaw_38 : decode cX6_readsLaw 38 = .ok (.if_icmp .eq 14, 3) := by decide +kernel
theorem dX6_readsLaw_41 : decode cX6_readsLaw 41 = .ok (.aload_n 0, 1) := by decide +kernel
theorem dX6_readsLaw_42 : decode cX6_readsLaw 42 = .ok (.invokevirtual 135, 3) := by decide +kernel
theorem dX6_readsLaw_45 : decode cX6_readsLaw 45 = .ok (.ifCond .eq 7, 3) := by decide +kernel
theorem dX6_readsLaw_48 : decode cX6_readsLaw 48 = .ok (.iconst 1, 1) := by decide +kernel
theorem dX6_readsLaw_49 : decode cX6_readsLaw 49 = .ok (.goto 4, 3) := by decide +kernel
theorem dX6_readsLaw_52 : decode cX6_readsLaw 52 = .ok (.iconst 0, 1) := by decide +kernel
theorem dX6_readsLaw_53 : decode cX6_readsLaw 53 = .ok (.ireturn, 1) := by decide +kernel
theorem dX6_readsHurdle_0 : decode cX6_readsHurdle 0 = .ok (.aload_n 0, 1) := by decide +kernel
theorem dX6_readsHurdle_1 : decode cX6_readsHurdle 1 = .ok (.getfield 128, 3) := by decide +kernel
theorem dX6_readsHurdle_4 : decode cX6_readsHurdle 4 = .ok (.iconst 5, 1) := by decide +kernel
theorem dX6_readsHurdle_5 : decode cX6_readsHurdle 5 = .ok (.if_icmp .ne 10, 3) := by decide +kernel
theorem dX6_readsHurdle_8 : decode cX6_readsHurdle 8 = .ok (.aload_n 0, 1) := by decide +kernel
theorem dX6_readsHurdle_9 : decode cX6_readsHurdle 9 = .ok (.iconst 3, 1) := by decide +kernel
theorem dX6_readsHurdle_10 : decode cX6_readsHurdle 10 = .ok (.putfield 113, 3) := by decide +kernel
theorem dX6_readsHurdle_13 : decode cX6_readsHurdle 13 = .ok (.iconst 0, 1) := by decide +kernel
theorem dX6_readsHurdle_14 : decode cX6_readsHurdle 14 = .ok (.ireturn, 1) := by decide +kernel
theorem dX6_readsHurdle_15 : decode cX6_readsHurdle 15 = .ok (.aload_n 0, 1) := by decide +kernel
theorem dX6_readsHurdle_16 : decode cX6_readsHurdle 16 = .ok (.invokevirtual 120, 3) := by decide +kernel
theorem dX6_readsHurdle_19 : decode cX6_readsHurdle 19 = .ok (.aload_n 0, 1) := by decide +kernel
theorem dX6_readsHurdle_20 : decode cX6_readsHurdle 20 = .ok (.invokevirtual 139, 3) := by decide +kernel
theorem dX6_readsHurdle_23 : decode cX6_readsHurdle 23 = .ok (.istore_n 1, 1) := by decide +kernel
theorem dX6_readsHurdle_24 : decode cX6_readsHurdle 24 = .ok (.iload_n 1, 1) := by decide +kernel
theorem dX6_readsHurdle_25 : decode cX6_readsHurdle 25 = .ok (.ldc 19, 2) := by decide +kernel
theorem dX6_readsHurdle_27 : decode cX6_readsHurdle 27 = .ok (.if_icmp .ne 10, 3) := by decide +kernel
theorem dX6_readsHurdle_30 : decode cX6_readsHurdle 30 = .ok (.aload_n 0, 1) := by decide +kernel
theorem dX6_readsHurdle_31 : decode cX6_readsHurdle 31 = .ok (.iconst 1, 1) := by decide +kernel
theorem dX6_readsHurdle_32 : decode cX6_readsHurdle 32 = .ok (.putfield 113, 3) := by decide +kernel
theorem dX6_readsHurdle_35 : decode cX6_readsHurdle 35 = .ok (.iconst 0, 1) := by decide +kernel
theorem dX6_readsHurdle_36 : decode cX6_readsHurdle 36 = .ok (.ireturn, 1) := by decide +kernel
theorem dX6_readsHurdle_37 : decode cX6_readsHurdle 37 = .ok (.aload_n 0, 1) := by decide +kernel
theorem dX6_readsHurdle_38 : decode cX6_readsHurdle 38 = .ok (.invokevirtual 120, 3) := by decide +kernel
theorem dX6_readsHurdle_41 : decode cX6_readsHurdle 41 = .ok (.aload_n 0, 1) := by decide +kernel
theorem dX6_readsHurdle_42 : decode cX6_readsHurdle 42 = .ok (.invokevirtual 143, 3) := by decide +kernel
theorem dX6_readsHurdle_45 : decode cX6_readsHurdle 45 = .ok (.istore_n 2, 1) := by decide +kernel
theorem dX6_readsHurdle_46 : decode cX6_readsHurdle 46 = .ok (.iload_n 2, 1) := by decide +kernel
theorem dX6_readsHurdle_47 : decode cX6_readsHurdle 47 = .ok (.ldc 19, 2) := by decide +kernel
theorem dX6_readsHurdle_49 : decode cX6_readsHurdle 49 = .ok (.if_icmp .ne 8, 3) := by decide +kernel
theorem dX6_readsHurdle_52 : decode cX6_readsHurdle 52 = .ok (.ldc 19, 2) := by decide +kernel
theorem dX6_readsHurdle_54 : decode cX6_readsHurdle 54 = .ok (.goto 7, 3) := by decide +kernel
theorem dX6_readsHurdle_57 : decode cX6_readsHurdle 57 = .ok (.aload_n 0, 1) := by decide +kernel
theorem dX6_readsHurdle_58 : decode cX6_readsHurdle 58 = .ok (.invokevirtual 143, 3) := by decide +kernel
theorem dX6_readsHurdle_61 : decode cX6_readsHurdle 61 = .ok (.istore_n 3, 1) := by decide +kernel
theorem dX6_readsHurdle_62 : decode cX6_readsHurdle 62 = .ok (.iload_n 3, 1) := by decide +kernel
theorem dX6_readsHurdle_63 : decode cX6_readsHurdle 63 = .ok (.ldc 19, 2) := by decide +kernel
theorem dX6_readsHurdle_65 : decode cX6_readsHurdle 65 = .ok (.if_icmp .ne 8, 3) := by decide +kernel
theorem dX6_readsHurdle_68 : decode cX6_readsHurdle 68 = .ok (.ldc 19, 2) := by decide +kernel
theorem dX6_readsHurdle_70 : decode cX6_readsHurdle 70 = .ok (.goto 12, 3) := by decide +kernel
theorem dX6_readsHurdle_73 : decode cX6_readsHurdle 73 = .ok (.aload_n 0, 1) := by decide +kernel
theorem dX6_readsHurdle_74 : decode cX6_readsHurdle 74 = .ok (.iconst 0, 1) := by decide +kernel
theorem dX6_readsHurdle_75 : decode cX6_readsHurdle 75 = .ok (.aload_n 0, 1) := by decide +kernel
theorem dX6_readsHurdle_76 : decode cX6_readsHurdle 76 = .ok (.getfield 128, 3) := by decide +kernel
theorem dX6_readsHurdle_79 : decode cX6_readsHurdle 79 = .ok (.invokevirtual 132, 3) := by decide +kernel
theorem dX6_readsHurdle_82 : decode cX6_readsHurdle 82 = .ok (.istore 4, 2) := by decide +kernel
theorem dX6_readsHurdle_84 : decode cX6_readsHurdle 84 = .ok (.iload 4, 2) := by decide +kernel
theorem dX6_readsHurdle_86 : decode cX6_readsHurdle 86 = .ok (.ldc 19, 2) := by decide +kernel
theorem dX6_readsHurdle_88 : decode cX6_readsHurdle 88 = .ok (.if_icmp .ne 5, 3) := by decide +kernel
theorem dX6_readsHurdle_91 : decode cX6_readsHurdle 91 = .ok (.iconst 0, 1) := by decide +kernel
theorem dX6_readsHurdle_92 : decode cX6_readsHurdle 92 = .ok (.ireturn, 1) := by decide +kernel
theorem dX6_readsHurdle_93 : decode cX6_readsHurdle 93 = .ok (.aload_n 0, 1) := by decide +kernel
theorem dX6_readsHurdle_94 : decode cX6_readsHurdle 94 = .ok (.getfield 36, 3) := by decide +kernel
theorem dX6_readsHurdle_97 : decode cX6_readsHurdle 97 = .ok (.iconst 4, 1) := by decide +kernel
theorem dX6_readsHurdle_98 : decode cX6_readsHurdle 98 = .ok (.aload_n 0, 1) := by decide +kernel
theorem dX6_readsHurdle_99 : decode cX6_readsHurdle 99 = .ok (.getfield 128, 3) := by decide +kernel
theorem dX6_readsHurdle_102 : decode cX6_readsHurdle 102 = .ok (.imul, 1) := by decide +kernel
theorem dX6_readsHurdle_103 : decode cX6_readsHurdle 103 = .ok (.iload_n 2, 1) := by decide +kernel
theorem dX6_readsHurdle_104 : decode cX6_readsHurdle 104 = .ok (.iastore, 1) := by decide +kernel
theorem dX6_readsHurdle_105 : decode cX6_readsHurdle 105 = .ok (.aload_n 0, 1) := by decide +kernel
theorem dX6_readsHurdle_106 : decode cX6_readsHurdle 106 = .ok (.getfield 36, 3) := by decide +kernel
theorem dX6_readsHurdle_109 : decode cX6_readsHurdle 109 = .ok (.iconst 4, 1) := by decide +kernel
theorem dX6_readsHurdle_110 : decode cX6_readsHurdle 110 = .ok (.aload_n 0, 1) := by decide +kernel
theorem dX6_readsHurdle_111 : decode cX6_readsHurdle 111 = .ok (.getfield 128, 3) := by decide +kernel
theorem dX6_readsHurdle_114 : decode cX6_readsHurdle 114 = .ok (.imul, 1) := by decide +kernel
theorem dX6_readsHurdle_115 : decode cX6_readsHurdle 115 = .ok (.iconst 1, 1) := by decide +kernel
theorem dX6_readsHurdle_116 : decode cX6_readsHurdle 116 = .ok (.iadd, 1) := by decide +kernel
theorem dX6_readsHurdle_117 : decode cX6_readsHurdle 117 = .ok (.iload_n 3, 1) := by decide +kernel
theorem dX6_readsHurdle_118 : decode cX6_readsHurdle 118 = .ok (.iastore, 1) := by decide +kernel
theorem dX6_readsHurdle_119 : decode cX6_readsHurdle 119 = .ok (.aload_n 0, 1) := by decide +kernel
theorem dX6_readsHurdle_120 : decode cX6_readsHurdle 120 = .ok (.getfield 36, 3) := by decide +kernel
theorem dX6_readsHurdle_123 : decode cX6_readsHurdle 123 = .ok (.iconst 4, 1) := by decide +kernel
theorem dX6_readsHurdle_124 : decode cX6_readsHurdle 124 = .ok (.aload_n 0, 1) := by decide +kernel
theorem dX6_readsHurdle_125 : decode cX6_readsHurdle 125 = .ok (.getfield 128, 3) := by decide +kernel
theorem dX6_readsHurdle_128 : decode cX6_readsHurdle 128 = .ok (.imul, 1) := by decide +kernel
theorem dX6_readsHurdle_129 : decode cX6_readsHurdle 129 = .ok (.iconst 2, 1) := by decide +kernel
theorem dX6_readsHurdle_130 : decode cX6_readsHurdle 130 = .ok (.iadd, 1) := by decide +kernel
theorem dX6_readsHurdle_131 : decode cX6_readsHurdle 131 = .ok (.iload 4, 2) := by decide +kernel
theorem dX6_readsHurdle_133 : decode cX6_readsHurdle 133 = .ok (.iastore, 1) := by decide +kernel
theorem dX6_readsHurdle_134 : decode cX6_readsHurdle 134 = .ok (.aload_n 0, 1) := by decide +kernel
theorem dX6_readsHurdle_135 : decode cX6_readsHurdle 135 = .ok (.getfield 36, 3) := by decide +kernel
theorem dX6_readsHurdle_138 : decode cX6_readsHurdle 138 = .ok (.iconst 4, 1) := by decide +kernel
theorem dX6_readsHurdle_139 : decode cX6_readsHurdle 139 = .ok (.aload_n 0, 1) := by decide +kernel
theorem dX6_readsHurdle_140 : decode cX6_readsHurdle 140 = .ok (.getfield 128, 3) := by decide +kernel
theorem dX6_readsHurdle_143 : decode cX6_readsHurdle 143 = .ok (.imul, 1) := by decide +kernel
theorem dX6_readsHurdle_144 : decode cX6_readsHurdle 144 = .ok (.iconst 3, 1) := by decide +kernel
theorem dX6_readsHurdle_145 : decode cX6_readsHurdle 145 = .ok (.iadd, 1) := by decide +kernel
theorem dX6_readsHurdle_146 : decode cX6_readsHurdle 146 = .ok (.iload_n 1, 1) := by decide +kernel
theorem dX6_readsHurdle_147 : decode cX6_readsHurdle 147 = .ok (.iastore, 1) := by decide +kernel
theorem dX6_readsHurdle_148 : decode cX6_readsHurdle 148 = .ok (.aload_n 0, 1) := by decide +kernel
theorem dX6_readsHurdle_149 : decode cX6_readsHurdle 149 = .ok (.dup, 1) := by decide +kernel
theorem dX6_readsHurdle_150 : decode cX6_readsHurdle 150 = .ok (.getfield 128, 3) := by decide +kernel
theorem dX6_readsHurdle_153 : decode cX6_readsHurdle 153 = .ok (.iconst 1, 1) := by decide +kernel
theorem dX6_readsHurdle_154 : decode cX6_readsHurdle 154 = .ok (.iadd, 1) := by decide +kernel
theorem dX6_readsHurdle_155 : decode cX6_readsHurdle 155 = .ok (.putfield 128, 3) := by decide +kernel
theorem dX6_readsHurdle_158 : decode cX6_readsHurdle 158 = .ok (.aload_n 0, 1) := by decide +kernel
theorem dX6_readsHurdle_159 : decode cX6_readsHurdle 159 = .ok (.invokevirtual 135, 3) := by decide +kernel
theorem dX6_readsHurdle_162 : decode cX6_readsHurdle 162 = .ok (.ireturn, 1) := by decide +kernel
theorem dX6_readsBeast_0 : decode cX6_readsBeast 0 = .ok (.aload_n 0, 1) := by decide +kernel
theorem dX6_readsBeast_1 : decode cX6_readsBeast 1 = .ok (.getfield 146, 3) := by decide +kernel
theorem dX6_readsBeast_4 : decode cX6_readsBeast 4 = .ok (.bipush 8, 2) := by decide +kernel
theorem dX6_readsBeast_6 : decode cX6_readsBeast 6 = .ok (.if_icmp .ne 10, 3) := by decide +kernel
theorem dX6_readsBeast_9 : decode cX6_readsBeast 9 = .ok (.aload_n 0, 1) := by decide +kernel
theorem dX6_readsBeast_10 : decode cX6_readsBeast 10 = .ok (.iconst 3, 1) := by decide +kernel
theorem dX6_readsBeast_11 : decode cX6_readsBeast 11 = .ok (.putfield 113, 3) := by decide +kernel
theorem dX6_readsBeast_14 : decode cX6_readsBeast 14 = .ok (.iconst 0, 1) := by decide +kernel
theorem dX6_readsBeast_15 : decode cX6_readsBeast 15 = .ok (.ireturn, 1) := by decide +kernel
theorem dX6_readsBeast_16 : decode cX6_readsBeast 16 = .ok (.aload_n 0, 1) := by decide +kernel
theorem dX6_readsBeast_17 : decode cX6_readsBeast 17 = .ok (.invokevirtual 120, 3) := by decide +kernel
theorem dX6_readsBeast_20 : decode cX6_readsBeast 20 = .ok (.aload_n 0, 1) := by decide +kernel
theorem dX6_readsBeast_21 : decode cX6_readsBeast 21 = .ok (.invokevirtual 149, 3) := by decide +kernel
theorem dX6_readsBeast_24 : decode cX6_readsBeast 24 = .ok (.istore_n 1, 1) := by decide +kernel
theorem dX6_readsBeast_25 : decode cX6_readsBeast 25 = .ok (.iload_n 1, 1) := by decide +kernel
theorem dX6_readsBeast_26 : decode cX6_readsBeast 26 = .ok (.ldc 19, 2) := by decide +kernel
theorem dX6_readsBeast_28 : decode cX6_readsBeast 28 = .ok (.if_icmp .ne 10, 3) := by decide +kernel
theorem dX6_readsBeast_31 : decode cX6_readsBeast 31 = .ok (.aload_n 0, 1) := by decide +kernel
theorem dX6_readsBeast_32 : decode cX6_readsBeast 32 = .ok (.iconst 1, 1) := by decide +kernel
theorem dX6_readsBeast_33 : decode cX6_readsBeast 33 = .ok (.putfield 113, 3) := by decide +kernel
theorem dX6_readsBeast_36 : decode cX6_readsBeast 36 = .ok (.iconst 0, 1) := by decide +kernel
theorem dX6_readsBeast_37 : decode cX6_readsBeast 37 = .ok (.ireturn, 1) := by decide +kernel
theorem dX6_readsBeast_38 : decode cX6_readsBeast 38 = .ok (.aload_n 0, 1) := by decide +kernel
theorem dX6_readsBeast_39 : decode cX6_readsBeast 39 = .ok (.invokevirtual 120, 3) := by decide +kernel
theorem dX6_readsBeast_42 : decode cX6_readsBeast 42 = .ok (.aload_n 0, 1) := by decide +kernel
theorem dX6_readsBeast_43 : decode cX6_readsBeast 43 = .ok (.iconst 1, 1) := by decide +kernel
theorem dX6_readsBeast_44 : decode cX6_readsBeast 44 = .ok (.bipush 99, 2) := by decide +kernel
theorem dX6_readsBeast_46 : decode cX6_readsBeast 46 = .ok (.invokevirtual 132, 3) := by decide +kernel
theorem dX6_readsBeast_49 : decode cX6_readsBeast 49 = .ok (.istore_n 2, 1) := by decide +kernel
theorem dX6_readsBeast_50 : decode cX6_readsBeast 50 = .ok (.iload_n 2, 1) := by decide +kernel
theorem dX6_readsBeast_51 : decode cX6_readsBeast 51 = .ok (.ldc 19, 2) := by decide +kernel
theorem dX6_readsBeast_53 : decode cX6_readsBeast 53 = .ok (.if_icmp .ne 5, 3) := by decide +kernel
theorem dX6_readsBeast_56 : decode cX6_readsBeast 56 = .ok (.iconst 0, 1) := by decide +kernel
theorem dX6_readsBeast_57 : decode cX6_readsBeast 57 = .ok (.ireturn, 1) := by decide +kernel
theorem dX6_readsBeast_58 : decode cX6_readsBeast 58 = .ok (.aload_n 0, 1) := by decide +kernel
theorem dX6_readsBeast_59 : decode cX6_readsBeast 59 = .ok (.getfield 39, 3) := by decide +kernel
theorem dX6_readsBeast_62 : decode cX6_readsBeast 62 = .ok (.iconst 2, 1) := by decide +kernel
theorem dX6_readsBeast_63 : decode cX6_readsBeast 63 = .ok (.aload_n 0, 1) := by decide +kernel
theorem dX6_readsBeast_64 : decode cX6_readsBeast 64 = .ok (.getfield 146, 3) := by decide +kernel
theorem dX6_readsBeast_67 : decode cX6_readsBeast 67 = .ok (.imul, 1) := by decide +kernel
theorem dX6_readsBeast_68 : decode cX6_readsBeast 68 = .ok (.iload_n 1, 1) := by decide +kernel
theorem dX6_readsBeast_69 : decode cX6_readsBeast 69 = .ok (.iastore, 1) := by decide +kernel
theorem dX6_readsBeast_70 : decode cX6_readsBeast 70 = .ok (.aload_n 0, 1) := by decide +kernel
theorem dX6_readsBeast_71 : decode cX6_readsBeast 71 = .ok (.getfield 39, 3) := by decide +kernel
theorem dX6_readsBeast_74 : decode cX6_readsBeast 74 = .ok (.iconst 2, 1) := by decide +kernel
theorem dX6_readsBeast_75 : decode cX6_readsBeast 75 = .ok (.aload_n 0, 1) := by decide +kernel
theorem dX6_readsBeast_76 : decode cX6_readsBeast 76 = .ok (.getfield 146, 3) := by decide +kernel
theorem dX6_readsBeast_79 : decode cX6_readsBeast 79 = .ok (.imul, 1) := by decide +kernel
theorem dX6_readsBeast_80 : decode cX6_readsBeast 80 = .ok (.iconst 1, 1) := by decide +kernel
theorem dX6_readsBeast_81 : decode cX6_readsBeast 81 = .ok (.iadd, 1) := by decide +kernel
theorem dX6_readsBeast_82 : decode cX6_readsBeast 82 = .ok (.iload_n 2, 1) := by decide +kernel
theorem dX6_readsBeast_83 : decode cX6_readsBeast 83 = .ok (.iastore, 1) := by decide +kernel
theorem dX6_readsBeast_84 : decode cX6_readsBeast 84 = .ok (.aload_n 0, 1) := by decide +kernel
theorem dX6_readsBeast_85 : decode cX6_readsBeast 85 = .ok (.dup, 1) := by decide +kernel
theorem dX6_readsBeast_86 : decode cX6_readsBeast 86 = .ok (.getfield 146, 3) := by decide +kernel
theorem dX6_readsBeast_89 : decode cX6_readsBeast 89 = .ok (.iconst 1, 1) := by decide +kernel
theorem dX6_readsBeast_90 : decode cX6_readsBeast 90 = .ok (.iadd, 1) := by decide +kernel
theorem dX6_readsBeast_91 : decode cX6_readsBeast 91 = .ok (.putfield 146, 3) := by decide +kernel
theorem dX6_readsBeast_94 : decode cX6_readsBeast 94 = .ok (.aload_n 0, 1) := by decide +kernel
theorem dX6_readsBeast_95 : decode cX6_readsBeast 95 = .ok (.invokevirtual 135, 3) := by decide +kernel
theorem dX6_readsBeast_98 : decode cX6_readsBeast 98 = .ok (.ireturn, 1) := by decide +kernel
theorem dX6_readsAll_0 : decode cX6_readsAll 0 = .ok (.aload_n 0, 1) := by decide +kernel
theorem dX6_readsAll_1 : decode cX6_readsAll 1 = .ok (.iconst 0, 1) := by decide +kernel
theorem dX6_readsAll_2 : decode cX6_readsAll 2 = .ok (.putfield 91, 3) := by decide +kernel
theorem dX6_readsAll_5 : decode cX6_readsAll 5 = .ok (.aload_n 0, 1) := by decide +kernel
theorem dX6_readsAll_6 : decode cX6_readsAll 6 = .ok (.iconst 0, 1) := by decide +kernel
theorem dX6_readsAll_7 : decode cX6_readsAll 7 = .ok (.putfield 128, 3) := by decide +kernel
theorem dX6_readsAll_10 : decode cX6_readsAll 10 = .ok (.aload_n 0, 1) := by decide +kernel
theorem dX6_readsAll_11 : decode cX6_readsAll 11 = .ok (.iconst 0, 1) := by decide +kernel
theorem dX6_readsAll_12 : decode cX6_readsAll 12 = .ok (.putfield 146, 3) := by decide +kernel
theorem dX6_readsAll_15 : decode cX6_readsAll 15 = .ok (.aload_n 0, 1) := by decide +kernel
theorem dX6_readsAll_16 : decode cX6_readsAll 16 = .ok (.invokevirtual 120, 3) := by decide +kernel
theorem dX6_readsAll_19 : decode cX6_readsAll 19 = .ok (.aload_n 0, 1) := by decide +kernel
theorem dX6_readsAll_20 : decode cX6_readsAll 20 = .ok (.invokevirtual 152, 3) := by decide +kernel
theorem dX6_readsAll_23 : decode cX6_readsAll 23 = .ok (.ifCond .ne 5, 3) := by decide +kernel
theorem dX6_readsAll_26 : decode cX6_readsAll 26 = .ok (.iconst 0, 1) := by decide +kernel
theorem dX6_readsAll_27 : decode cX6_readsAll 27 = .ok (.ireturn, 1) := by decide +kernel
theorem dX6_readsAll_28 : decode cX6_readsAll 28 = .ok (.aload_n 0, 1) := by decide +kernel
theorem dX6_readsAll_29 : decode cX6_readsAll 29 = .ok (.ldc 155, 2) := by decide +kernel
theorem dX6_readsAll_31 : decode cX6_readsAll 31 = .ok (.bipush 6, 2) := by decide +kernel
theorem dX6_readsAll_33 : decode cX6_readsAll 33 = .ok (.invokevirtual 104, 3) := by decide +kernel
theorem dX6_readsAll_36 : decode cX6_readsAll 36 = .ok (.ifCond .eq 12, 3) := by decide +kernel
theorem dX6_readsAll_39 : decode cX6_readsAll 39 = .ok (.aload_n 0, 1) := by decide +kernel
theorem dX6_readsAll_40 : decode cX6_readsAll 40 = .ok (.invokevirtual 156, 3) := by decide +kernel
theorem dX6_readsAll_43 : decode cX6_readsAll 43 = .ok (.ifCond .ne (-15), 3) := by decide +kernel
theorem dX6_readsAll_46 : decode cX6_readsAll 46 = .ok (.iconst 0, 1) := by decide +kernel
theorem dX6_readsAll_47 : decode cX6_readsAll 47 = .ok (.ireturn, 1) := by decide +kernel
theorem dX6_readsAll_48 : decode cX6_readsAll 48 = .ok (.aload_n 0, 1) := by decide +kernel
theorem dX6_readsAll_49 : decode cX6_readsAll 49 = .ok (.getfield 128, 3) := by decide +kernel
theorem dX6_readsAll_52 : decode cX6_readsAll 52 = .ok (.ifCond .le 22, 3) := by decide +kernel
theorem dX6_readsAll_55 : decode cX6_readsAll 55 = .ok (.aload_n 0, 1) := by decide +kernel
theorem dX6_readsAll_56 : decode cX6_readsAll 56 = .ok (.ldc 159, 2) := by decide +kernel
theorem dX6_readsAll_58 : decode cX6_readsAll 58 = .ok (.iconst 5, 1) := by decide +kernel
theorem dX6_readsAll_59 : decode cX6_readsAll 59 = .ok (.invokevirtual 104, 3) := by decide +kernel
theorem dX6_readsAll_62 : decode cX6_readsAll 62 = .ok (.ifCond .eq 12, 3) := by decide +kernel
theorem dX6_readsAll_65 : decode cX6_readsAll 65 = .ok (.aload_n 0, 1) := by decide +kernel
theorem dX6_readsAll_66 : decode cX6_readsAll 66 = .ok (.invokevirtual 160, 3) := by decide +kernel
theorem dX6_readsAll_69 : decode cX6_readsAll 69 = .ok (.ifCond .ne (-21), 3) := by decide +kernel
theorem dX6_readsAll_72 : decode cX6_readsAll 72 = .ok (.iconst 0, 1) := by decide +kernel
theorem dX6_readsAll_73 : decode cX6_readsAll 73 = .ok (.ireturn, 1) := by decide +kernel
theorem dX6_readsAll_74 : decode cX6_readsAll 74 = .ok (.aload_n 0, 1) := by decide +kernel
theorem dX6_readsAll_75 : decode cX6_readsAll 75 = .ok (.getfield 128, 3) := by decide +kernel
theorem dX6_readsAll_78 : decode cX6_readsAll 78 = .ok (.ifCond .eq 14, 3) := by decide +kernel
theorem dX6_readsAll_81 : decode cX6_readsAll 81 = .ok (.aload_n 0, 1) := by decide +kernel
theorem dX6_readsAll_82 : decode cX6_readsAll 82 = .ok (.getfield 94, 3) := by decide +kernel
theorem dX6_readsAll_85 : decode cX6_readsAll 85 = .ok (.aload_n 0, 1) := by decide +kernel
theorem dX6_readsAll_86 : decode cX6_readsAll 86 = .ok (.getfield 85, 3) := by decide +kernel
theorem dX6_readsAll_89 : decode cX6_readsAll 89 = .ok (.if_icmp .ge 10, 3) := by decide +kernel
theorem dX6_readsAll_92 : decode cX6_readsAll 92 = .ok (.aload_n 0, 1) := by decide +kernel
theorem dX6_readsAll_93 : decode cX6_readsAll 93 = .ok (.iconst 1, 1) := by decide +kernel
theorem dX6_readsAll_94 : decode cX6_readsAll 94 = .ok (.putfield 113, 3) := by decide +kernel
theorem dX6_readsAll_97 : decode cX6_readsAll 97 = .ok (.iconst 0, 1) := by decide +kernel
theorem dX6_readsAll_98 : decode cX6_readsAll 98 = .ok (.ireturn, 1) := by decide +kernel
theorem dX6_readsAll_99 : decode cX6_readsAll 99 = .ok (.iconst 1, 1) := by decide +kernel
theorem dX6_readsAll_100 : decode cX6_readsAll 100 = .ok (.ireturn, 1) := by decide +kernel
theorem dX6_fold_0 : decode cX6_fold 0 = .ok (.aload_n 0, 1) := by decide +kernel
theorem dX6_fold_1 : decode cX6_fold 1 = .ok (.invokevirtual 163, 3) := by decide +kernel
theorem dX6_fold_4 : decode cX6_fold 4 = .ok (.istore_n 1, 1) := by decide +kernel
theorem dX6_fold_5 : decode cX6_fold 5 = .ok (.aload_n 0, 1) := by decide +kernel
theorem dX6_fold_6 : decode cX6_fold 6 = .ok (.getfield 94, 3) := by decide +kernel
theorem dX6_fold_9 : decode cX6_fold 9 = .ok (.istore_n 2, 1) := by decide +kernel
theorem dX6_fold_10 : decode cX6_fold 10 = .ok (.aload_n 0, 1) := by decide +kernel
theorem dX6_fold_11 : decode cX6_fold 11 = .ok (.iconst 0, 1) := by decide +kernel
theorem dX6_fold_12 : decode cX6_fold 12 = .ok (.putfield 85, 3) := by decide +kernel
theorem dX6_fold_15 : decode cX6_fold 15 = .ok (.iload_n 1, 1) := by decide +kernel
theorem dX6_fold_16 : decode cX6_fold 16 = .ok (.ifCond .ne 8, 3) := by decide +kernel
theorem dX6_fold_19 : decode cX6_fold 19 = .ok (.ldc 166, 2) := by decide +kernel
theorem dX6_fold_21 : decode cX6_fold 21 = .ok (.iload_n 2, 1) := by decide +kernel
theorem dX6_fold_22 : decode cX6_fold 22 = .ok (.isub, 1) := by decide +kernel
theorem dX6_fold_23 : decode cX6_fold 23 = .ok (.ireturn, 1) := by decide +kernel
theorem dX6_fold_24 : decode cX6_fold 24 = .ok (.aload_n 0, 1) := by decide +kernel
theorem dX6_fold_25 : decode cX6_fold 25 = .ok (.getfield 7, 3) := by decide +kernel
theorem dX6_fold_28 : decode cX6_fold 28 = .ok (.iconst 0, 1) := by decide +kernel
theorem dX6_fold_29 : decode cX6_fold 29 = .ok (.iconst 1, 1) := by decide +kernel
theorem dX6_fold_30 : decode cX6_fold 30 = .ok (.iastore, 1) := by decide +kernel
theorem dX6_fold_31 : decode cX6_fold 31 = .ok (.aload_n 0, 1) := by decide +kernel
theorem dX6_fold_32 : decode cX6_fold 32 = .ok (.getfield 7, 3) := by decide +kernel
theorem dX6_fold_35 : decode cX6_fold 35 = .ok (.iconst 1, 1) := by decide +kernel
theorem dX6_fold_36 : decode cX6_fold 36 = .ok (.aload_n 0, 1) := by decide +kernel
theorem dX6_fold_37 : decode cX6_fold 37 = .ok (.getfield 123, 3) := by decide +kernel
theorem dX6_fold_40 : decode cX6_fold 40 = .ok (.iastore, 1) := by decide +kernel
theorem dX6_fold_41 : decode cX6_fold 41 = .ok (.aload_n 0, 1) := by decide +kernel
theorem dX6_fold_42 : decode cX6_fold 42 = .ok (.getfield 7, 3) := by decide +kernel
theorem dX6_fold_45 : decode cX6_fold 45 = .ok (.iconst 2, 1) := by decide +kernel
theorem dX6_fold_46 : decode cX6_fold 46 = .ok (.aload_n 0, 1) := by decide +kernel
theorem dX6_fold_47 : decode cX6_fold 47 = .ok (.getfield 128, 3) := by decide +kernel
theorem dX6_fold_50 : decode cX6_fold 50 = .ok (.iastore, 1) := by decide +kernel
theorem dX6_fold_51 : decode cX6_fold 51 = .ok (.aload_n 0, 1) := by decide +kernel
theorem dX6_fold_52 : decode cX6_fold 52 = .ok (.getfield 7, 3) := by decide +kernel
theorem dX6_fold_55 : decode cX6_fold 55 = .ok (.iconst 3, 1) := by decide +kernel
theorem dX6_fold_56 : decode cX6_fold 56 = .ok (.aload_n 0, 1) := by decide +kernel
theorem dX6_fold_57 : decode cX6_fold 57 = .ok (.getfield 146, 3) := by decide +kernel
theorem dX6_fold_60 : decode cX6_fold 60 = .ok (.iastore, 1) := by decide +kernel
theorem dX6_fold_61 : decode cX6_fold 61 = .ok (.iconst 0, 1) := by decide +kernel
theorem dX6_fold_62 : decode cX6_fold 62 = .ok (.istore_n 3, 1) := by decide +kernel
theorem dX6_fold_63 : decode cX6_fold 63 = .ok (.iload_n 3, 1) := by decide +kernel
theorem dX6_fold_64 : decode cX6_fold 64 = .ok (.bipush 20, 2) := by decide +kernel
theorem dX6_fold_66 : decode cX6_fold 66 = .ok (.if_icmp .ge 23, 3) := by decide +kernel
theorem dX6_fold_69 : decode cX6_fold 69 = .ok (.aload_n 0, 1) := by decide +kernel
theorem dX6_fold_70 : decode cX6_fold 70 = .ok (.getfield 7, 3) := by decide +kernel
theorem dX6_fold_73 : decode cX6_fold 73 = .ok (.iconst 4, 1) := by decide +kernel
theorem dX6_fold_74 : decode cX6_fold 74 = .ok (.iload_n 3, 1) := by decide +kernel
theorem dX6_fold_75 : decode cX6_fold 75 = .ok (.iadd, 1) := by decide +kernel
theorem dX6_fold_76 : decode cX6_fold 76 = .ok (.aload_n 0, 1) := by decide +kernel
theorem dX6_fold_77 : decode cX6_fold 77 = .ok (.getfield 36, 3) := by decide +kernel
theorem dX6_fold_80 : decode cX6_fold 80 = .ok (.iload_n 3, 1) := by decide +kernel
theorem dX6_fold_81 : decode cX6_fold 81 = .ok (.iaload, 1) := by decide +kernel
theorem dX6_fold_82 : decode cX6_fold 82 = .ok (.iastore, 1) := by decide +kernel
theorem dX6_fold_83 : decode cX6_fold 83 = .ok (.iinc 3 1, 3) := by decide +kernel
theorem dX6_fold_86 : decode cX6_fold 86 = .ok (.goto (-23), 3) := by decide +kernel
theorem dX6_fold_89 : decode cX6_fold 89 = .ok (.iconst 0, 1) := by decide +kernel
theorem dX6_fold_90 : decode cX6_fold 90 = .ok (.istore_n 3, 1) := by decide +kernel
theorem dX6_fold_91 : decode cX6_fold 91 = .ok (.iload_n 3, 1) := by decide +kernel
theorem dX6_fold_92 : decode cX6_fold 92 = .ok (.bipush 16, 2) := by decide +kernel
theorem dX6_fold_94 : decode cX6_fold 94 = .ok (.if_icmp .ge 24, 3) := by decide +kernel
theorem dX6_fold_97 : decode cX6_fold 97 = .ok (.aload_n 0, 1) := by decide +kernel
theorem dX6_fold_98 : decode cX6_fold 98 = .ok (.getfield 7, 3) := by decide +kernel
theorem dX6_fold_101 : decode cX6_fold 101 = .ok (.bipush 24, 2) := by decide +kernel
theorem dX6_fold_103 : decode cX6_fold 103 = .ok (.iload_n 3, 1) := by decide +kernel
theorem dX6_fold_104 : decode cX6_fold 104 = .ok (.iadd, 1) := by decide +kernel
theorem dX6_fold_105 : decode cX6_fold 105 = .ok (.aload_n 0, 1) := by decide +kernel
theorem dX6_fold_106 : decode cX6_fold 106 = .ok (.getfield 39, 3) := by decide +kernel
theorem dX6_fold_109 : decode cX6_fold 109 = .ok (.iload_n 3, 1) := by decide +kernel
theorem dX6_fold_110 : decode cX6_fold 110 = .ok (.iaload, 1) := by decide +kernel
theorem dX6_fold_111 : decode cX6_fold 111 = .ok (.iastore, 1) := by decide +kernel
theorem dX6_fold_112 : decode cX6_fold 112 = .ok (.iinc 3 1, 3) := by decide +kernel
theorem dX6_fold_115 : decode cX6_fold 115 = .ok (.goto (-24), 3) := by decide +kernel
theorem dX6_fold_118 : decode cX6_fold 118 = .ok (.iconst 0, 1) := by decide +kernel
theorem dX6_fold_119 : decode cX6_fold 119 = .ok (.istore_n 3, 1) := by decide +kernel
theorem dX6_fold_120 : decode cX6_fold 120 = .ok (.iload_n 3, 1) := by decide +kernel
theorem dX6_fold_121 : decode cX6_fold 121 = .ok (.bipush 18, 2) := by decide +kernel
theorem dX6_fold_123 : decode cX6_fold 123 = .ok (.if_icmp .ge 19, 3) := by decide +kernel
theorem dX6_fold_126 : decode cX6_fold 126 = .ok (.aload_n 0, 1) := by decide +kernel
theorem dX6_fold_127 : decode cX6_fold 127 = .ok (.getfield 7, 3) := by decide +kernel
theorem dX6_fold_130 : decode cX6_fold 130 = .ok (.bipush 40, 2) := by decide +kernel
theorem dX6_fold_132 : decode cX6_fold 132 = .ok (.iload_n 3, 1) := by decide +kernel
theorem dX6_fold_133 : decode cX6_fold 133 = .ok (.iadd, 1) := by decide +kernel
theorem dX6_fold_134 : decode cX6_fold 134 = .ok (.iconst 0, 1) := by decide +kernel
theorem dX6_fold_135 : decode cX6_fold 135 = .ok (.iastore, 1) := by decide +kernel
theorem dX6_fold_136 : decode cX6_fold 136 = .ok (.iinc 3 1, 3) := by decide +kernel
theorem dX6_fold_139 : decode cX6_fold 139 = .ok (.goto (-19), 3) := by decide +kernel
theorem dX6_fold_142 : decode cX6_fold 142 = .ok (.aload_n 0, 1) := by decide +kernel
theorem dX6_fold_143 : decode cX6_fold 143 = .ok (.iconst 0, 1) := by decide +kernel
theorem dX6_fold_144 : decode cX6_fold 144 = .ok (.putfield 167, 3) := by decide +kernel
theorem dX6_fold_147 : decode cX6_fold 147 = .ok (.aload_n 0, 1) := by decide +kernel
theorem dX6_fold_148 : decode cX6_fold 148 = .ok (.getfield 128, 3) := by decide +kernel
theorem dX6_fold_151 : decode cX6_fold 151 = .ok (.ireturn, 1) := by decide +kernel
theorem dX6_fault_0 : decode cX6_fault 0 = .ok (.aload_n 0, 1) := by decide +kernel
theorem dX6_fault_1 : decode cX6_fault 1 = .ok (.getfield 113, 3) := by decide +kernel
theorem dX6_fault_4 : decode cX6_fault 4 = .ok (.ireturn, 1) := by decide +kernel
theorem dX6_isBeast_0 : decode cX6_isBeast 0 = .ok (.iload_n 1, 1) := by decide +kernel
theorem dX6_isBeast_1 : decode cX6_isBeast 1 = .ok (.i2l, 1) := by decide +kernel
theorem dX6_isBeast_2 : decode cX6_isBeast 2 = .ok (.lconst 0, 1) := by decide +kernel
theorem dX6_isBeast_3 : decode cX6_isBeast 3 = .ok (.aload_n 0, 1) := by decide +kernel
theorem dX6_isBeast_4 : decode cX6_isBeast 4 = .ok (.getfield 7, 3) := by decide +kernel
theorem dX6_isBeast_7 : decode cX6_isBeast 7 = .ok (.iconst 3, 1) := by decide +kernel
theorem dX6_isBeast_8 : decode cX6_isBeast 8 = .ok (.iaload, 1) := by decide +kernel
theorem dX6_isBeast_9 : decode cX6_isBeast 9 = .ok (.iconst 1, 1) := by decide +kernel
theorem dX6_isBeast_10 : decode cX6_isBeast 10 = .ok (.isub, 1) := by decide +kernel
theorem dX6_isBeast_11 : decode cX6_isBeast 11 = .ok (.i2l, 1) := by decide +kernel
theorem dX6_isBeast_12 : decode cX6_isBeast 12 = .ok (.invokestatic 61, 3) := by decide +kernel
theorem dX6_isBeast_15 : decode cX6_isBeast 15 = .ok (.ireturn, 1) := by decide +kernel
theorem dX6_isPen_0 : decode cX6_isPen 0 = .ok (.iload_n 1, 1) := by decide +kernel
theorem dX6_isPen_1 : decode cX6_isPen 1 = .ok (.i2l, 1) := by decide +kernel
theorem dX6_isPen_2 : decode cX6_isPen 2 = .ok (.lconst 0, 1) := by decide +kernel
theorem dX6_isPen_3 : decode cX6_isPen 3 = .ok (.aload_n 0, 1) := by decide +kernel
theorem dX6_isPen_4 : decode cX6_isPen 4 = .ok (.getfield 7, 3) := by decide +kernel
theorem dX6_isPen_7 : decode cX6_isPen 7 = .ok (.iconst 1, 1) := by decide +kernel
theorem dX6_isPen_8 : decode cX6_isPen 8 = .ok (.iaload, 1) := by decide +kernel
theorem dX6_isPen_9 : decode cX6_isPen 9 = .ok (.iconst 1, 1) := by decide +kernel
theorem dX6_isPen_10 : decode cX6_isPen 10 = .ok (.isub, 1) := by decide +kernel
theorem dX6_isPen_11 : decode cX6_isPen 11 = .ok (.i2l, 1) := by decide +kernel
theorem dX6_isPen_12 : decode cX6_isPen 12 = .ok (.invokestatic 61, 3) := by decide +kernel
theorem dX6_isPen_15 : decode cX6_isPen 15 = .ok (.ireturn, 1) := by decide +kernel
theorem dX6_areStands_0 : decode cX6_areStands 0 = .ok (.iload_n 1, 1) := by decide +kernel
theorem dX6_areStands_1 : decode cX6_areStands 1 = .ok (.i2l, 1) := by decide +kernel
theorem dX6_areStands_2 : decode cX6_areStands 2 = .ok (.lconst 0, 1) := by decide +kernel
theorem dX6_areStands_3 : decode cX6_areStands 3 = .ok (.iconst 1, 1) := by decide +kernel
theorem dX6_areStands_4 : decode cX6_areStands 4 = .ok (.aload_n 0, 1) := by decide +kernel
theorem dX6_areStands_5 : decode cX6_areStands 5 = .ok (.getfield 7, 3) := by decide +kernel
theorem dX6_areStands_8 : decode cX6_areStands 8 = .ok (.iconst 2, 1) := by decide +kernel
theorem dX6_areStands_9 : decode cX6_areStands 9 = .ok (.iaload, 1) := by decide +kernel
theorem dX6_areStands_10 : decode cX6_areStands 10 = .ok (.ishl, 1) := by decide +kernel
theorem dX6_areStands_11 : decode cX6_areStands 11 = .ok (.iconst 1, 1) := by decide +kernel
theorem dX6_areStands_12 : decode cX6_areStands 12 = .ok (.isub, 1) := by decide +kernel
theorem dX6_areStands_13 : decode cX6_areStands 13 = .ok (.i2l, 1) := by decide +kernel
theorem dX6_areStands_14 : decode cX6_areStands 14 = .ok (.invokestatic 61, 3) := by decide +kernel
theorem dX6_areStands_17 : decode cX6_areStands 17 = .ok (.ireturn, 1) := by decide +kernel
theorem dX6_sortOf_0 : decode cX6_sortOf 0 = .ok (.iload_n 1, 1) := by decide +kernel
theorem dX6_sortOf_1 : decode cX6_sortOf 1 = .ok (.aload_n 0, 1) := by decide +kernel
theorem dX6_sortOf_2 : decode cX6_sortOf 2 = .ok (.getfield 32, 3) := by decide +kernel
theorem dX6_sortOf_5 : decode cX6_sortOf 5 = .ok (.if_icmp .ne 7, 3) := by decide +kernel
theorem dX6_sortOf_8 : decode cX6_sortOf 8 = .ok (.iconst 2, 1) := by decide +kernel
theorem dX6_sortOf_9 : decode cX6_sortOf 9 = .ok (.goto 15, 3) := by decide +kernel
theorem dX6_sortOf_12 : decode cX6_sortOf 12 = .ok (.aload_n 0, 1) := by decide +kernel
theorem dX6_sortOf_13 : decode cX6_sortOf 13 = .ok (.getfield 7, 3) := by decide +kernel
theorem dX6_sortOf_16 : decode cX6_sortOf 16 = .ok (.iconst 4, 1) := by decide +kernel
theorem dX6_sortOf_17 : decode cX6_sortOf 17 = .ok (.iconst 4, 1) := by decide +kernel
theorem dX6_sortOf_18 : decode cX6_sortOf 18 = .ok (.iload_n 1, 1) := by decide +kernel
theorem dX6_sortOf_19 : decode cX6_sortOf 19 = .ok (.imul, 1) := by decide +kernel
theorem dX6_sortOf_20 : decode cX6_sortOf 20 = .ok (.iadd, 1) := by decide +kernel
theorem dX6_sortOf_21 : decode cX6_sortOf 21 = .ok (.iconst 3, 1) := by decide +kernel
theorem dX6_sortOf_22 : decode cX6_sortOf 22 = .ok (.iadd, 1) := by decide +kernel
theorem dX6_sortOf_23 : decode cX6_sortOf 23 = .ok (.iaload, 1) := by decide +kernel
theorem dX6_sortOf_24 : decode cX6_sortOf 24 = .ok (.ireturn, 1) := by decide +kernel
theorem dX6_push_0 : decode cX6_push 0 = .ok (.aload_n 0, 1) := by decide +kernel
theorem dX6_push_1 : decode cX6_push 1 = .ok (.getfield 7, 3) := by decide +kernel
theorem dX6_push_4 : decode cX6_push 4 = .ok (.iload_n 1, 1) := by decide +kernel
theorem dX6_push_5 : decode cX6_push 5 = .ok (.bipush 41, 2) := by decide +kernel
theorem dX6_push_7 : decode cX6_push 7 = .ok (.iadd, 1) := by decide +kernel
theorem dX6_push_8 : decode cX6_push 8 = .ok (.iload_n 2, 1) := by decide +kernel
theorem dX6_push_9 : decode cX6_push 9 = .ok (.iadd, 1) := by decide +kernel
theorem dX6_push_10 : decode cX6_push 10 = .ok (.dup2, 1) := by decide +kernel
theorem dX6_push_11 : decode cX6_push 11 = .ok (.iaload, 1) := by decide +kernel
theorem dX6_push_12 : decode cX6_push 12 = .ok (.iconst 1, 1) := by decide +kernel
theorem dX6_push_13 : decode cX6_push 13 = .ok (.iadd, 1) := by decide +kernel
theorem dX6_push_14 : decode cX6_push 14 = .ok (.iastore, 1) := by decide +kernel
theorem dX6_push_15 : decode cX6_push 15 = .ok (.aload_n 0, 1) := by decide +kernel
theorem dX6_push_16 : decode cX6_push 16 = .ok (.iload_n 2, 1) := by decide +kernel
theorem dX6_push_17 : decode cX6_push 17 = .ok (.invokevirtual 170, 3) := by decide +kernel
theorem dX6_push_20 : decode cX6_push 20 = .ok (.istore_n 3, 1) := by decide +kernel
theorem dX6_push_21 : decode cX6_push 21 = .ok (.iload_n 3, 1) := by decide +kernel
theorem dX6_push_22 : decode cX6_push 22 = .ok (.ifCond .eq 24, 3) := by decide +kernel
theorem dX6_push_25 : decode cX6_push 25 = .ok (.iload_n 3, 1) := by decide +kernel
theorem dX6_push_26 : decode cX6_push 26 = .ok (.iconst 1, 1) := by decide +kernel
theorem dX6_push_27 : decode cX6_push 27 = .ok (.if_icmp .ne 23, 3) := by decide +kernel
theorem dX6_push_30 : decode cX6_push 30 = .ok (.aload_n 0, 1) := by decide +kernel
theorem dX6_push_31 : decode cX6_push 31 = .ok (.getfield 7, 3) := by decide +kernel
theorem dX6_push_34 : decode cX6_push 34 = .ok (.iload_n 1, 1) := by decide +kernel
theorem dX6_push_35 : decode cX6_push 35 = .ok (.bipush 41, 2) := by decide +kernel
theorem dX6_push_37 : decode cX6_push 37 = .ok (.iadd, 1) := by decide +kernel
theorem dX6_push_38 : decode cX6_push 38 = .ok (.iload_n 2, 1) := by decide +kernel
theorem dX6_push_39 : decode cX6_push 39 = .ok (.iadd, 1) := by decide +kernel
theorem dX6_push_40 : decode cX6_push 40 = .ok (.iaload, 1) := by decide +kernel
theorem dX6_push_41 : decode cX6_push 41 = .ok (.iconst 3, 1) := by decide +kernel
theorem dX6_push_42 : decode cX6_push 42 = .ok (.irem, 1) := by decide +kernel
theorem dX6_push_43 : decode cX6_push 43 = .ok (.ifCond .ne 7, 3) := by decide +kernel
theorem dX6_push_46 : decode cX6_push 46 = .ok (.iconst 1, 1) := by decide +kernel
theorem dX6_push_47 : decode cX6_push 47 = .ok (.goto 4, 3) := by decide +kernel
theorem dX6_push_50 : decode cX6_push 50 = .ok (.iconst 0, 1) := by decide +kernel
theorem dX6_push_51 : decode cX6_push 51 = .ok (.ireturn, 1) := by decide +kernel
theorem dX6_turn_0 : decode cX6_turn 0 = .ok (.aload_n 0, 1) := by decide +kernel
theorem dX6_turn_1 : decode cX6_turn 1 = .ok (.getfield 7, 3) := by decide +kernel
theorem dX6_turn_4 : decode cX6_turn 4 = .ok (.iload_n 1, 1) := by decide +kernel
theorem dX6_turn_5 : decode cX6_turn 5 = .ok (.bipush 40, 2) := by decide +kernel
theorem dX6_turn_7 : decode cX6_turn 7 = .ok (.iadd, 1) := by decide +kernel
theorem dX6_turn_8 : decode cX6_turn 8 = .ok (.dup2, 1) := by decide +kernel
theorem dX6_turn_9 : decode cX6_turn 9 = .ok (.iaload, 1) := by decide +kernel
theorem dX6_turn_10 : decode cX6_turn 10 = .ok (.iconst 1, 1) := by decide +kernel
theorem dX6_turn_11 : decode cX6_turn 11 = .ok (.iload_n 2, 1) := by decide +kernel
theorem dX6_turn_12 : decode cX6_turn 12 = .ok (.ishl, 1) := by decide +kernel
theorem dX6_turn_13 : decode cX6_turn 13 = .ok (.ixor, 1) := by decide +kernel
theorem dX6_turn_14 : decode cX6_turn 14 = .ok (.iastore, 1) := by decide +kernel
theorem dX6_turn_15 : decode cX6_turn 15 = .ok (.aload_n 0, 1) := by decide +kernel
theorem dX6_turn_16 : decode cX6_turn 16 = .ok (.getfield 7, 3) := by decide +kernel
theorem dX6_turn_19 : decode cX6_turn 19 = .ok (.iconst 4, 1) := by decide +kernel
theorem dX6_turn_20 : decode cX6_turn 20 = .ok (.iconst 4, 1) := by decide +kernel
theorem dX6_turn_21 : decode cX6_turn 21 = .ok (.iload_n 2, 1) := by decide +kernel
theorem dX6_turn_22 : decode cX6_turn 22 = .ok (.imul, 1) := by decide +kernel
theorem dX6_turn_23 : decode cX6_turn 23 = .ok (.iadd, 1) := by decide +kernel
theorem dX6_turn_24 : decode cX6_turn 24 = .ok (.iconst 2, 1) := by decide +kernel
theorem dX6_turn_25 : decode cX6_turn 25 = .ok (.iadd, 1) := by decide +kernel
theorem dX6_turn_26 : decode cX6_turn 26 = .ok (.iaload, 1) := by decide +kernel
theorem dX6_turn_27 : decode cX6_turn 27 = .ok (.istore_n 3, 1) := by decide +kernel
theorem dX6_turn_28 : decode cX6_turn 28 = .ok (.iload_n 3, 1) := by decide +kernel
theorem dX6_turn_29 : decode cX6_turn 29 = .ok (.ifCond .le 31, 3) := by decide +kernel
theorem dX6_turn_32 : decode cX6_turn 32 = .ok (.aload_n 0, 1) := by decide +kernel
theorem dX6_turn_33 : decode cX6_turn 33 = .ok (.iload_n 3, 1) := by decide +kernel
theorem dX6_turn_34 : decode cX6_turn 34 = .ok (.iconst 1, 1) := by decide +kernel
theorem dX6_turn_35 : decode cX6_turn 35 = .ok (.isub, 1) := by decide +kernel
theorem dX6_turn_36 : decode cX6_turn 36 = .ok (.invokevirtual 170, 3) := by decide +kernel
theorem dX6_turn_39 : decode cX6_turn 39 = .ok (.iconst 2, 1) := by decide +kernel
theorem dX6_turn_40 : decode cX6_turn 40 = .ok (.if_icmp .eq 20, 3) := by decide +kernel
theorem dX6_turn_43 : decode cX6_turn 43 = .ok (.aload_n 0, 1) := by decide +kernel
theorem dX6_turn_44 : decode cX6_turn 44 = .ok (.getfield 7, 3) := by decide +kernel
theorem dX6_turn_47 : decode cX6_turn 47 = .ok (.iload_n 1, 1) := by decide +kernel
theorem dX6_turn_48 : decode cX6_turn 48 = .ok (.bipush 40, 2) := by decide +kernel
theorem dX6_turn_50 : decode cX6_turn 50 = .ok (.iadd, 1) := by decide +kernel
theorem dX6_turn_51 : decode cX6_turn 51 = .ok (.dup2, 1) := by decide +kernel
theorem dX6_turn_52 : decode cX6_turn 52 = .ok (.iaload, 1) := by decide +kernel
theorem dX6_turn_53 : decode cX6_turn 53 = .ok (.iconst 1, 1) := by decide +kernel
theorem dX6_turn_54 : decode cX6_turn 54 = .ok (.iload_n 3, 1) := by decide +kernel
theorem dX6_turn_55 : decode cX6_turn 55 = .ok (.iconst 1, 1) := by decide +kernel
theorem dX6_turn_56 : decode cX6_turn 56 = .ok (.isub, 1) := by decide +kernel
theorem dX6_turn_57 : decode cX6_turn 57 = .ok (.ishl, 1) := by decide +kernel
theorem dX6_turn_58 : decode cX6_turn 58 = .ok (.ixor, 1) := by decide +kernel
theorem dX6_turn_59 : decode cX6_turn 59 = .ok (.iastore, 1) := by decide +kernel
theorem dX6_turn_60 : decode cX6_turn 60 = .ok (.return_, 1) := by decide +kernel
theorem dX6_pass_0 : decode cX6_pass 0 = .ok (.aload_n 0, 1) := by decide +kernel
theorem dX6_pass_1 : decode cX6_pass 1 = .ok (.getfield 7, 3) := by decide +kernel
theorem dX6_pass_4 : decode cX6_pass 4 = .ok (.iload_n 1, 1) := by decide +kernel
theorem dX6_pass_5 : decode cX6_pass 5 = .ok (.bipush 40, 2) := by decide +kernel
theorem dX6_pass_7 : decode cX6_pass 7 = .ok (.iadd, 1) := by decide +kernel
theorem dX6_pass_8 : decode cX6_pass 8 = .ok (.iaload, 1) := by decide +kernel
theorem dX6_pass_9 : decode cX6_pass 9 = .ok (.iload_n 2, 1) := by decide +kernel
theorem dX6_pass_10 : decode cX6_pass 10 = .ok (.ishr, 1) := by decide +kernel
theorem dX6_pass_11 : decode cX6_pass 11 = .ok (.iconst 1, 1) := by decide +kernel
theorem dX6_pass_12 : decode cX6_pass 12 = .ok (.iand, 1) := by decide +kernel
theorem dX6_pass_13 : decode cX6_pass 13 = .ok (.istore 4, 2) := by decide +kernel
theorem dX6_pass_15 : decode cX6_pass 15 = .ok (.aload_n 0, 1) := by decide +kernel
theorem dX6_pass_16 : decode cX6_pass 16 = .ok (.iload_n 2, 1) := by decide +kernel
theorem dX6_pass_17 : decode cX6_pass 17 = .ok (.invokevirtual 170, 3) := by decide +kernel
theorem dX6_pass_20 : decode cX6_pass 20 = .ok (.iconst 2, 1) := by decide +kernel
theorem dX6_pass_21 : decode cX6_pass 21 = .ok (.if_icmp .ne 7, 3) := by decide +kernel
theorem dX6_pass_24 : decode cX6_pass 24 = .ok (.iconst 1, 1) := by decide +kernel
theorem dX6_pass_25 : decode cX6_pass 25 = .ok (.goto 4, 3) := by decide +kernel
theorem dX6_pass_28 : decode cX6_pass 28 = .ok (.iconst 0, 1) := by decide +kernel
theorem dX6_pass_29 : decode cX6_pass 29 = .ok (.istore 5, 2) := by decide +kernel
theorem dX6_pass_31 : decode cX6_pass 31 = .ok (.iload 5, 2) := by decide +kernel
theorem dX6_pass_33 : decode cX6_pass 33 = .ok (.ifCond .eq 8, 3) := by decide +kernel
theorem dX6_pass_36 : decode cX6_pass 36 = .ok (.iload 4, 2) := by decide +kernel
theorem dX6_pass_38 : decode cX6_pass 38 = .ok (.goto 35, 3) := by decide +kernel
theorem dX6_pass_41 : decode cX6_pass 41 = .ok (.iload_n 3, 1) := by decide +kernel
theorem dX6_pass_42 : decode cX6_pass 42 = .ok (.iconst 2, 1) := by decide +kernel
theorem dX6_pass_43 : decode cX6_pass 43 = .ok (.if_icmp .ne 10, 3) := by decide +kernel
theorem dX6_pass_46 : decode cX6_pass 46 = .ok (.iconst 1, 1) := by decide +kernel
theorem dX6_pass_47 : decode cX6_pass 47 = .ok (.iload 4, 2) := by decide +kernel
theorem dX6_pass_49 : decode cX6_pass 49 = .ok (.isub, 1) := by decide +kernel
theorem dX6_pass_50 : decode cX6_pass 50 = .ok (.goto 23, 3) := by decide +kernel
theorem dX6_pass_53 : decode cX6_pass 53 = .ok (.iload_n 3, 1) := by decide +kernel
theorem dX6_pass_54 : decode cX6_pass 54 = .ok (.iconst 4, 1) := by decide +kernel
theorem dX6_pass_55 : decode cX6_pass 55 = .ok (.if_icmp .ne 7, 3) := by decide +kernel
theorem dX6_pass_58 : decode cX6_pass 58 = .ok (.iconst 0, 1) := by decide +kernel
theorem dX6_pass_59 : decode cX6_pass 59 = .ok (.goto 14, 3) := by decide +kernel
theorem dX6_pass_62 : decode cX6_pass 62 = .ok (.iload_n 3, 1) := by decide +kernel
theorem dX6_pass_63 : decode cX6_pass 63 = .ok (.iconst 5, 1) := by decide +kernel
theorem dX6_pass_64 : decode cX6_pass 64 = .ok (.if_icmp .ne 7, 3) := by decide +kernel
theorem dX6_pass_67 : decode cX6_pass 67 = .ok (.iconst 1, 1) := by decide +kernel
theorem dX6_pass_68 : decode cX6_pass 68 = .ok (.goto 5, 3) := by decide +kernel
theorem dX6_pass_71 : decode cX6_pass 71 = .ok (.iload 4, 2) := by decide +kernel
theorem dX6_pass_73 : decode cX6_pass 73 = .ok (.istore 6, 2) := by decide +kernel
theorem dX6_pass_75 : decode cX6_pass 75 = .ok (.iload_n 3, 1) := by decide +kernel
theorem dX6_pass_76 : decode cX6_pass 76 = .ok (.iconst 1, 1) := by decide +kernel
theorem dX6_pass_77 : decode cX6_pass 77 = .ok (.if_icmp .ne 12, 3) := by decide +kernel
theorem dX6_pass_80 : decode cX6_pass 80 = .ok (.aload_n 0, 1) := by decide +kernel
theorem dX6_pass_81 : decode cX6_pass 81 = .ok (.iload_n 1, 1) := by decide +kernel
theorem dX6_pass_82 : decode cX6_pass 82 = .ok (.iload_n 2, 1) := by decide +kernel
theorem dX6_pass_83 : decode cX6_pass 83 = .ok (.invokevirtual 173, 3) := by decide +kernel
theorem dX6_pass_86 : decode cX6_pass 86 = .ok (.goto 15, 3) := by decide +kernel
theorem dX6_pass_89 : decode cX6_pass 89 = .ok (.iload 6, 2) := by decide +kernel
theorem dX6_pass_91 : decode cX6_pass 91 = .ok (.iload 4, 2) := by decide +kernel
theorem dX6_pass_93 : decode cX6_pass 93 = .ok (.if_icmp .eq 7, 3) := by decide +kernel
theorem dX6_pass_96 : decode cX6_pass 96 = .ok (.iconst 1, 1) := by decide +kernel
theorem dX6_pass_97 : decode cX6_pass 97 = .ok (.goto 4, 3) := by decide +kernel
theorem dX6_pass_100 : decode cX6_pass 100 = .ok (.iconst 0, 1) := by decide +kernel
theorem dX6_pass_101 : decode cX6_pass 101 = .ok (.istore 7, 2) := by decide +kernel
theorem dX6_pass_103 : decode cX6_pass 103 = .ok (.iload 7, 2) := by decide +kernel
theorem dX6_pass_105 : decode cX6_pass 105 = .ok (.ifCond .eq 9, 3) := by decide +kernel
theorem dX6_pass_108 : decode cX6_pass 108 = .ok (.aload_n 0, 1) := by decide +kernel
theorem dX6_pass_109 : decode cX6_pass 109 = .ok (.iload_n 1, 1) := by decide +kernel
theorem dX6_pass_110 : decode cX6_pass 110 = .ok (.iload_n 2, 1) := by decide +kernel
theorem dX6_pass_111 : decode cX6_pass 111 = .ok (.invokevirtual 176, 3) := by decide +kernel
theorem dX6_pass_114 : decode cX6_pass 114 = .ok (.iload 6, 2) := by decide +kernel
theorem dX6_pass_116 : decode cX6_pass 116 = .ok (.ireturn, 1) := by decide +kernel
theorem dX6_go_0 : decode cX6_go 0 = .ok (.aload_n 0, 1) := by decide +kernel
theorem dX6_go_1 : decode cX6_go 1 = .ok (.getfield 7, 3) := by decide +kernel
theorem dX6_go_4 : decode cX6_go 4 = .ok (.iconst 2, 1) := by decide +kernel
theorem dX6_go_5 : decode cX6_go 5 = .ok (.iaload, 1) := by decide +kernel
theorem dX6_go_6 : decode cX6_go 6 = .ok (.iconst 1, 1) := by decide +kernel
theorem dX6_go_7 : decode cX6_go 7 = .ok (.isub, 1) := by decide +kernel
theorem dX6_go_8 : decode cX6_go 8 = .ok (.istore_n 3, 1) := by decide +kernel
theorem dX6_go_9 : decode cX6_go 9 = .ok (.bipush 10, 2) := by decide +kernel
theorem dX6_go_11 : decode cX6_go 11 = .ok (.iload_n 3, 1) := by decide +kernel
theorem dX6_go_12 : decode cX6_go 12 = .ok (.iadd, 1) := by decide +kernel
theorem dX6_go_13 : decode cX6_go 13 = .ok (.istore 4, 2) := by decide +kernel
theorem dX6_go_15 : decode cX6_go 15 = .ok (.iload 4, 2) := by decide +kernel
theorem dX6_go_17 : decode cX6_go 17 = .ok (.bipush 10, 2) := by decide +kernel
theorem dX6_go_19 : decode cX6_go 19 = .ok (.if_icmp .lt 42, 3) := by decide +kernel
theorem dX6_go_22 : decode cX6_go 22 = .ok (.iload 4, 2) := by decide +kernel
theorem dX6_go_24 : decode cX6_go 24 = .ok (.bipush 10, 2) := by decide +kernel
theorem dX6_go_26 : decode cX6_go 26 = .ok (.isub, 1) := by decide +kernel
theorem dX6_go_27 : decode cX6_go 27 = .ok (.istore_n 3, 1) := by decide +kernel
theorem dX6_go_28 : decode cX6_go 28 = .ok (.aload_n 0, 1) := by decide +kernel
theorem dX6_go_29 : decode cX6_go 29 = .ok (.getfield 7, 3) := by decide +kernel
theorem dX6_go_32 : decode cX6_go 32 = .ok (.iconst 4, 1) := by decide +kernel
theorem dX6_go_33 : decode cX6_go 33 = .ok (.iconst 4, 1) := by decide +kernel
theorem dX6_go_34 : decode cX6_go 34 = .ok (.iload_n 3, 1) := by decide +kernel
theorem dX6_go_35 : decode cX6_go 35 = .ok (.imul, 1) := by decide +kernel
theorem dX6_go_36 : decode cX6_go 36 = .ok (.iadd, 1) := by decide +kernel
theorem dX6_go_37 : decode cX6_go 37 = .ok (.aload_n 0, 1) := by decide +kernel
theorem dX6_go_38 : decode cX6_go 38 = .ok (.iload_n 1, 1) := by decide +kernel
theorem dX6_go_39 : decode cX6_go 39 = .ok (.iload_n 3, 1) := by decide +kernel
theorem dX6_go_40 : decode cX6_go 40 = .ok (.aload_n 0, 1) := by decide +kernel
theorem dX6_go_41 : decode cX6_go 41 = .ok (.getfield 7, 3) := by decide +kernel
theorem dX6_go_44 : decode cX6_go 44 = .ok (.bipush 24, 2) := by decide +kernel
theorem dX6_go_46 : decode cX6_go 46 = .ok (.iconst 2, 1) := by decide +kernel
theorem dX6_go_47 : decode cX6_go 47 = .ok (.iload_n 2, 1) := by decide +kernel
theorem dX6_go_48 : decode cX6_go 48 = .ok (.imul, 1) := by decide +kernel
theorem dX6_go_49 : decode cX6_go 49 = .ok (.iadd, 1) := by decide +kernel
theorem dX6_go_50 : decode cX6_go 50 = .ok (.iaload, 1) := by decide +kernel
theorem dX6_go_51 : decode cX6_go 51 = .ok (.invokevirtual 180, 3) := by decide +kernel
theorem dX6_go_54 : decode cX6_go 54 = .ok (.iadd, 1) := by decide +kernel
theorem dX6_go_55 : decode cX6_go 55 = .ok (.iaload, 1) := by decide +kernel
theorem dX6_go_56 : decode cX6_go 56 = .ok (.istore 4, 2) := by decide +kernel
theorem dX6_go_58 : decode cX6_go 58 = .ok (.goto (-43), 3) := by decide +kernel
theorem dX6_go_61 : decode cX6_go 61 = .ok (.iload 4, 2) := by decide +kernel
theorem dX6_go_63 : decode cX6_go 63 = .ok (.ireturn, 1) := by decide +kernel
theorem dX6_inPens_0 : decode cX6_inPens 0 = .ok (.iconst 0, 1) := by decide +kernel
theorem dX6_inPens_1 : decode cX6_inPens 1 = .ok (.istore_n 1, 1) := by decide +kernel
theorem dX6_inPens_2 : decode cX6_inPens 2 = .ok (.iconst 0, 1) := by decide +kernel
theorem dX6_inPens_3 : decode cX6_inPens 3 = .ok (.istore_n 2, 1) := by decide +kernel
theorem dX6_inPens_4 : decode cX6_inPens 4 = .ok (.iload_n 2, 1) := by decide +kernel
theorem dX6_inPens_5 : decode cX6_inPens 5 = .ok (.bipush 6, 2) := by decide +kernel
theorem dX6_inPens_7 : decode cX6_inPens 7 = .ok (.if_icmp .ge 21, 3) := by decide +kernel
theorem dX6_inPens_10 : decode cX6_inPens 10 = .ok (.iload_n 1, 1) := by decide +kernel
theorem dX6_inPens_11 : decode cX6_inPens 11 = .ok (.aload_n 0, 1) := by decide +kernel
theorem dX6_inPens_12 : decode cX6_inPens 12 = .ok (.getfield 7, 3) := by decide +kernel
theorem dX6_inPens_15 : decode cX6_inPens 15 = .ok (.bipush 46, 2) := by decide +kernel
theorem dX6_inPens_17 : decode cX6_inPens 17 = .ok (.iload_n 2, 1) := by decide +kernel
theorem dX6_inPens_18 : decode cX6_inPens 18 = .ok (.iadd, 1) := by decide +kernel
theorem dX6_inPens_19 : decode cX6_inPens 19 = .ok (.iaload, 1) := by decide +kernel
theorem dX6_inPens_20 : decode cX6_inPens 20 = .ok (.iadd, 1) := by decide +kernel
theorem dX6_inPens_21 : decode cX6_inPens 21 = .ok (.istore_n 1, 1) := by decide +kernel
theorem dX6_inPens_22 : decode cX6_inPens 22 = .ok (.iinc 2 1, 3) := by decide +kernel
theorem dX6_inPens_25 : decode cX6_inPens 25 = .ok (.goto (-21), 3) := by decide +kernel
theorem dX6_inPens_28 : decode cX6_inPens 28 = .ok (.iload_n 1, 1) := by decide +kernel
theorem dX6_inPens_29 : decode cX6_inPens 29 = .ok (.ireturn, 1) := by decide +kernel
theorem dX6_keepPast_0 : decode cX6_keepPast 0 = .ok (.iconst 0, 1) := by decide +kernel
theorem dX6_keepPast_1 : decode cX6_keepPast 1 = .ok (.istore_n 1, 1) := by decide +kernel
theorem dX6_keepPast_2 : decode cX6_keepPast 2 = .ok (.iload_n 1, 1) := by decide +kernel
theorem dX6_keepPast_3 : decode cX6_keepPast 3 = .ok (.sipush 414, 3) := by decide +kernel
theorem dX6_keepPast_6 : decode cX6_keepPast 6 = .ok (.if_icmp .ge 33, 3) := by decide +kernel
theorem dX6_keepPast_9 : decode cX6_keepPast 9 = .ok (.aload_n 0, 1) := by decide +kernel
theorem dX6_keepPast_10 : decode cX6_keepPast 10 = .ok (.getfield 167, 3) := by decide +kernel
theorem dX6_keepPast_13 : decode cX6_keepPast 13 = .ok (.bipush 24, 2) := by decide +kernel
theorem dX6_keepPast_15 : decode cX6_keepPast 15 = .ok (.if_icmp .ne 24, 3) := by decide +kernel
theorem dX6_keepPast_18 : decode cX6_keepPast 18 = .ok (.aload_n 0, 1) := by decide +kernel
theorem dX6_keepPast_19 : decode cX6_keepPast 19 = .ok (.getfield 13, 3) := by decide +kernel
theorem dX6_keepPast_22 : decode cX6_keepPast 22 = .ok (.iload_n 1, 1) := by decide +kernel
theorem dX6_keepPast_23 : decode cX6_keepPast 23 = .ok (.aload_n 0, 1) := by decide +kernel
theorem dX6_keepPast_24 : decode cX6_keepPast 24 = .ok (.getfield 13, 3) := by decide +kernel
theorem dX6_keepPast_27 : decode cX6_keepPast 27 = .ok (.iload_n 1, 1) := by decide +kernel
theorem dX6_keepPast_28 : decode cX6_keepPast 28 = .ok (.bipush 18, 2) := by decide +kernel
theorem dX6_keepPast_30 : decode cX6_keepPast 30 = .ok (.iadd, 1) := by decide +kernel
theorem dX6_keepPast_31 : decode cX6_keepPast 31 = .ok (.iaload, 1) := by decide +kernel
theorem dX6_keepPast_32 : decode cX6_keepPast 32 = .ok (.iastore, 1) := by decide +kernel
theorem dX6_keepPast_33 : decode cX6_keepPast 33 = .ok (.iinc 1 1, 3) := by decide +kernel
theorem dX6_keepPast_36 : decode cX6_keepPast 36 = .ok (.goto (-34), 3) := by decide +kernel
theorem dX6_keepPast_39 : decode cX6_keepPast 39 = .ok (.aload_n 0, 1) := by decide +kernel
theorem dX6_keepPast_40 : decode cX6_keepPast 40 = .ok (.dup, 1) := by decide +kernel
theorem dX6_keepPast_41 : decode cX6_keepPast 41 = .ok (.getfield 167, 3) := by decide +kernel
theorem dX6_keepPast_44 : decode cX6_keepPast 44 = .ok (.aload_n 0, 1) := by decide +kernel
theorem dX6_keepPast_45 : decode cX6_keepPast 45 = .ok (.getfield 167, 3) := by decide +kernel
theorem dX6_keepPast_48 : decode cX6_keepPast 48 = .ok (.bipush 24, 2) := by decide +kernel
theorem dX6_keepPast_50 : decode cX6_keepPast 50 = .ok (.if_icmp .ne 7, 3) := by decide +kernel
theorem dX6_keepPast_53 : decode cX6_keepPast 53 = .ok (.iconst 1, 1) := by decide +kernel
theorem dX6_keepPast_54 : decode cX6_keepPast 54 = .ok (.goto 4, 3) := by decide +kernel
theorem dX6_keepPast_57 : decode cX6_keepPast 57 = .ok (.iconst 0, 1) := by decide +kernel
theorem dX6_keepPast_58 : decode cX6_keepPast 58 = .ok (.isub, 1) := by decide +kernel
theorem dX6_keepPast_59 : decode cX6_keepPast 59 = .ok (.putfield 167, 3) := by decide +kernel
theorem dX6_keepPast_62 : decode cX6_keepPast 62 = .ok (.iconst 0, 1) := by decide +kernel
theorem dX6_keepPast_63 : decode cX6_keepPast 63 = .ok (.istore_n 1, 1) := by decide +kernel
theorem dX6_keepPast_64 : decode cX6_keepPast 64 = .ok (.iload_n 1, 1) := by decide +kernel
theorem dX6_keepPast_65 : decode cX6_keepPast 65 = .ok (.bipush 18, 2) := by decide +kernel
theorem dX6_keepPast_67 : decode cX6_keepPast 67 = .ok (.if_icmp .ge 32, 3) := by decide +kernel
theorem dX6_keepPast_70 : decode cX6_keepPast 70 = .ok (.aload_n 0, 1) := by decide +kernel
theorem dX6_keepPast_71 : decode cX6_keepPast 71 = .ok (.getfield 13, 3) := by decide +kernel
theorem dX6_keepPast_74 : decode cX6_keepPast 74 = .ok (.bipush 18, 2) := by decide +kernel
theorem dX6_keepPast_76 : decode cX6_keepPast 76 = .ok (.aload_n 0, 1) := by decide +kernel
theorem dX6_keepPast_77 : decode cX6_keepPast 77 = .ok (.getfield 167, 3) := by decide +kernel
theorem dX6_keepPast_80 : decode cX6_keepPast 80 = .ok (.imul, 1) := by decide +kernel
theorem dX6_keepPast_81 : decode cX6_keepPast 81 = .ok (.iload_n 1, 1) := by decide +kernel
theorem dX6_keepPast_82 : decode cX6_keepPast 82 = .ok (.iadd, 1) := by decide +kernel
theorem dX6_keepPast_83 : decode cX6_keepPast 83 = .ok (.aload_n 0, 1) := by decide +kernel
theorem dX6_keepPast_84 : decode cX6_keepPast 84 = .ok (.getfield 7, 3) := by decide +kernel
theorem dX6_keepPast_87 : decode cX6_keepPast 87 = .ok (.bipush 40, 2) := by decide +kernel
theorem dX6_keepPast_89 : decode cX6_keepPast 89 = .ok (.iload_n 1, 1) := by decide +kernel
theorem dX6_keepPast_90 : decode cX6_keepPast 90 = .ok (.iadd, 1) := by decide +kernel
theorem dX6_keepPast_91 : decode cX6_keepPast 91 = .ok (.iaload, 1) := by decide +kernel
theorem dX6_keepPast_92 : decode cX6_keepPast 92 = .ok (.iastore, 1) := by decide +kernel
theorem dX6_keepPast_93 : decode cX6_keepPast 93 = .ok (.iinc 1 1, 3) := by decide +kernel
theorem dX6_keepPast_96 : decode cX6_keepPast 96 = .ok (.goto (-32), 3) := by decide +kernel
theorem dX6_keepPast_99 : decode cX6_keepPast 99 = .ok (.aload_n 0, 1) := by decide +kernel
theorem dX6_keepPast_100 : decode cX6_keepPast 100 = .ok (.dup, 1) := by decide +kernel
theorem dX6_keepPast_101 : decode cX6_keepPast 101 = .ok (.getfield 167, 3) := by decide +kernel
theorem dX6_keepPast_104 : decode cX6_keepPast 104 = .ok (.iconst 1, 1) := by decide +kernel
theorem dX6_keepPast_105 : decode cX6_keepPast 105 = .ok (.iadd, 1) := by decide +kernel
theorem dX6_keepPast_106 : decode cX6_keepPast 106 = .ok (.putfield 167, 3) := by decide +kernel
theorem dX6_keepPast_109 : decode cX6_keepPast 109 = .ok (.return_, 1) := by decide +kernel
theorem dX6_runOne_0 : decode cX6_runOne 0 = .ok (.aload_n 0, 1) := by decide +kernel
theorem dX6_runOne_1 : decode cX6_runOne 1 = .ok (.invokevirtual 184, 3) := by decide +kernel
theorem dX6_runOne_4 : decode cX6_runOne 4 = .ok (.aload_n 0, 1) := by decide +kernel
theorem dX6_runOne_5 : decode cX6_runOne 5 = .ok (.iconst 0, 1) := by decide +kernel
theorem dX6_runOne_6 : decode cX6_runOne 6 = .ok (.iload_n 1, 1) := by decide +kernel
theorem dX6_runOne_7 : decode cX6_runOne 7 = .ok (.invokevirtual 187, 3) := by decide +kernel
theorem dX6_runOne_10 : decode cX6_runOne 10 = .ok (.istore_n 2, 1) := by decide +kernel
theorem dX6_runOne_11 : decode cX6_runOne 11 = .ok (.aload_n 0, 1) := by decide +kernel
theorem dX6_runOne_12 : decode cX6_runOne 12 = .ok (.getfield 7, 3) := by decide +kernel
theorem dX6_runOne_15 : decode cX6_runOne 15 = .ok (.bipush 46, 2) := by decide +kernel
theorem dX6_runOne_17 : decode cX6_runOne 17 = .ok (.iload_n 2, 1) := by decide +kernel
theorem dX6_runOne_18 : decode cX6_runOne 18 = .ok (.iadd, 1) := by decide +kernel
theorem dX6_runOne_19 : decode cX6_runOne 19 = .ok (.dup2, 1) := by decide +kernel
theorem dX6_runOne_20 : decode cX6_runOne 20 = .ok (.iaload, 1) := by decide +kernel
theorem dX6_runOne_21 : decode cX6_runOne 21 = .ok (.iconst 1, 1) := by decide +kernel
theorem dX6_runOne_22 : decode cX6_runOne 22 = .ok (.iadd, 1) := by decide +kernel
theorem dX6_runOne_23 : decode cX6_runOne 23 = .ok (.iastore, 1) := by decide +kernel
theorem dX6_runOne_24 : decode cX6_runOne 24 = .ok (.aload_n 0, 1) := by decide +kernel
theorem dX6_runOne_25 : decode cX6_runOne 25 = .ok (.getfield 7, 3) := by decide +kernel
theorem dX6_runOne_28 : decode cX6_runOne 28 = .ok (.bipush 52, 2) := by decide +kernel
theorem dX6_runOne_30 : decode cX6_runOne 30 = .ok (.iload_n 2, 1) := by decide +kernel
theorem dX6_runOne_31 : decode cX6_runOne 31 = .ok (.iadd, 1) := by decide +kernel
theorem dX6_runOne_32 : decode cX6_runOne 32 = .ok (.dup2, 1) := by decide +kernel
theorem dX6_runOne_33 : decode cX6_runOne 33 = .ok (.iaload, 1) := by decide +kernel
theorem dX6_runOne_34 : decode cX6_runOne 34 = .ok (.aload_n 0, 1) := by decide +kernel
theorem dX6_runOne_35 : decode cX6_runOne 35 = .ok (.getfield 7, 3) := by decide +kernel
theorem dX6_runOne_38 : decode cX6_runOne 38 = .ok (.bipush 24, 2) := by decide +kernel
theorem dX6_runOne_40 : decode cX6_runOne 40 = .ok (.iconst 2, 1) := by decide +kernel
theorem dX6_runOne_41 : decode cX6_runOne 41 = .ok (.iload_n 1, 1) := by decide +kernel
theorem dX6_runOne_42 : decode cX6_runOne 42 = .ok (.imul, 1) := by decide +kernel
theorem dX6_runOne_43 : decode cX6_runOne 43 = .ok (.iadd, 1) := by decide +kernel
theorem dX6_runOne_44 : decode cX6_runOne 44 = .ok (.iconst 1, 1) := by decide +kernel
theorem dX6_runOne_45 : decode cX6_runOne 45 = .ok (.iadd, 1) := by decide +kernel
theorem dX6_runOne_46 : decode cX6_runOne 46 = .ok (.iaload, 1) := by decide +kernel
theorem dX6_runOne_47 : decode cX6_runOne 47 = .ok (.iadd, 1) := by decide +kernel
theorem dX6_runOne_48 : decode cX6_runOne 48 = .ok (.iastore, 1) := by decide +kernel
theorem dX6_runOne_49 : decode cX6_runOne 49 = .ok (.iload_n 2, 1) := by decide +kernel
theorem dX6_runOne_50 : decode cX6_runOne 50 = .ok (.ireturn, 1) := by decide +kernel
theorem dX6_run_0 : decode cX6_run 0 = .ok (.aload_n 0, 1) := by decide +kernel
theorem dX6_run_1 : decode cX6_run 1 = .ok (.iload_n 1, 1) := by decide +kernel
theorem dX6_run_2 : decode cX6_run 2 = .ok (.invokevirtual 190, 3) := by decide +kernel
theorem dX6_run_5 : decode cX6_run 5 = .ok (.ifCond .ne 8, 3) := by decide +kernel
theorem dX6_run_8 : decode cX6_run 8 = .ok (.ldc 71, 2) := by decide +kernel
theorem dX6_run_10 : decode cX6_run 10 = .ok (.goto 23, 3) := by decide +kernel
theorem dX6_run_13 : decode cX6_run 13 = .ok (.aload_n 0, 1) := by decide +kernel
theorem dX6_run_14 : decode cX6_run 14 = .ok (.invokevirtual 193, 3) := by decide +kernel
theorem dX6_run_17 : decode cX6_run 17 = .ok (.sipush 9999, 3) := by decide +kernel
theorem dX6_run_20 : decode cX6_run 20 = .ok (.if_icmp .ne 8, 3) := by decide +kernel
theorem dX6_run_23 : decode cX6_run 23 = .ok (.ldc 88, 2) := by decide +kernel
theorem dX6_run_25 : decode cX6_run 25 = .ok (.goto 8, 3) := by decide +kernel
theorem dX6_run_28 : decode cX6_run 28 = .ok (.aload_n 0, 1) := by decide +kernel
theorem dX6_run_29 : decode cX6_run 29 = .ok (.iload_n 1, 1) := by decide +kernel
theorem dX6_run_30 : decode cX6_run 30 = .ok (.invokevirtual 196, 3) := by decide +kernel
theorem dX6_run_33 : decode cX6_run 33 = .ok (.ireturn, 1) := by decide +kernel
theorem dX6_refused_0 : decode cX6_refused 0 = .ok (.aload_n 0, 1) := by decide +kernel
theorem dX6_refused_1 : decode cX6_refused 1 = .ok (.getfield 20, 3) := by decide +kernel
theorem dX6_refused_4 : decode cX6_refused 4 = .ok (.iload_n 1, 1) := by decide +kernel
theorem dX6_refused_5 : decode cX6_refused 5 = .ok (.iaload, 1) := by decide +kernel
theorem dX6_refused_6 : decode cX6_refused 6 = .ok (.ldc 19, 2) := by decide +kernel
theorem dX6_refused_8 : decode cX6_refused 8 = .ok (.if_icmp .ne 11, 3) := by decide +kernel
theorem dX6_refused_11 : decode cX6_refused 11 = .ok (.aload_n 0, 1) := by decide +kernel
theorem dX6_refused_12 : decode cX6_refused 12 = .ok (.iconst 1, 1) := by decide +kernel
theorem dX6_refused_13 : decode cX6_refused 13 = .ok (.invokevirtual 72, 3) := by decide +kernel
theorem dX6_refused_16 : decode cX6_refused 16 = .ok (.goto 22, 3) := by decide +kernel
theorem dX6_refused_19 : decode cX6_refused 19 = .ok (.aload_n 0, 1) := by decide +kernel
theorem dX6_refused_20 : decode cX6_refused 20 = .ok (.iload_n 1, 1) := by decide +kernel
theorem dX6_refused_21 : decode cX6_refused 21 = .ok (.iload_n 2, 1) := by decide +kernel
theorem dX6_refused_22 : decode cX6_refused 22 = .ok (.iload_n 3, 1) := by decide +kernel
theorem dX6_refused_23 : decode cX6_refused 23 = .ok (.invokevirtual 79, 3) := by decide +kernel
theorem dX6_refused_26 : decode cX6_refused 26 = .ok (.ifCond .ne 11, 3) := by decide +kernel
theorem dX6_refused_29 : decode cX6_refused 29 = .ok (.aload_n 0, 1) := by decide +kernel
theorem dX6_refused_30 : decode cX6_refused 30 = .ok (.iconst 2, 1) := by decide +kernel
theorem dX6_refused_31 : decode cX6_refused 31 = .ok (.invokevirtual 72, 3) := by decide +kernel
theorem dX6_refused_34 : decode cX6_refused 34 = .ok (.goto 4, 3) := by decide +kernel
theorem dX6_refused_37 : decode cX6_refused 37 = .ok (.iconst 0, 1) := by decide +kernel
theorem dX6_refused_38 : decode cX6_refused 38 = .ok (.ireturn, 1) := by decide +kernel
theorem dX6_areBeasts_0 : decode cX6_areBeasts 0 = .ok (.iconst 1, 1) := by decide +kernel
theorem dX6_areBeasts_1 : decode cX6_areBeasts 1 = .ok (.istore_n 3, 1) := by decide +kernel
theorem dX6_areBeasts_2 : decode cX6_areBeasts 2 = .ok (.iconst 0, 1) := by decide +kernel
theorem dX6_areBeasts_3 : decode cX6_areBeasts 3 = .ok (.istore 4, 2) := by decide +kernel
theorem dX6_areBeasts_5 : decode cX6_areBeasts 5 = .ok (.iload 4, 2) := by decide +kernel
theorem dX6_areBeasts_7 : decode cX6_areBeasts 7 = .ok (.iload_n 2, 1) := by decide +kernel
theorem dX6_areBeasts_8 : decode cX6_areBeasts 8 = .ok (.if_icmp .ge 35, 3) := by decide +kernel
theorem dX6_areBeasts_11 : decode cX6_areBeasts 11 = .ok (.iload_n 3, 1) := by decide +kernel
theorem dX6_areBeasts_12 : decode cX6_areBeasts 12 = .ok (.ifCond .eq 23, 3) := by decide +kernel
theorem dX6_areBeasts_15 : decode cX6_areBeasts 15 = .ok (.aload_n 0, 1) := by decide +kernel
theorem dX6_areBeasts_16 : decode cX6_areBeasts 16 = .ok (.aload_n 0, 1) := by decide +kernel
theorem dX6_areBeasts_17 : decode cX6_areBeasts 17 = .ok (.getfield 26, 3) := by decide +kernel
theorem dX6_areBeasts_20 : decode cX6_areBeasts 20 = .ok (.iload_n 1, 1) := by decide +kernel
theorem dX6_areBeasts_21 : decode cX6_areBeasts 21 = .ok (.iload 4, 2) := by decide +kernel
theorem dX6_areBeasts_23 : decode cX6_areBeasts 23 = .ok (.iadd, 1) := by decide +kernel
theorem dX6_areBeasts_24 : decode cX6_areBeasts 24 = .ok (.iaload, 1) := by decide +kernel
theorem dX6_areBeasts_25 : decode cX6_areBeasts 25 = .ok (.invokevirtual 190, 3) := by decide +kernel
theorem dX6_areBeasts_28 : decode cX6_areBeasts 28 = .ok (.ifCond .eq 7, 3) := by decide +kernel
theorem dX6_areBeasts_31 : decode cX6_areBeasts 31 = .ok (.iconst 1, 1) := by decide +kernel
theorem dX6_areBeasts_32 : decode cX6_areBeasts 32 = .ok (.goto 4, 3) := by decide +kernel
theorem dX6_areBeasts_35 : decode cX6_areBeasts 35 = .ok (.iconst 0, 1) := by decide +kernel
theorem dX6_areBeasts_36 : decode cX6_areBeasts 36 = .ok (.istore_n 3, 1) := by decide +kernel
theorem dX6_areBeasts_37 : decode cX6_areBeasts 37 = .ok (.iinc 4 1, 3) := by decide +kernel
theorem dX6_areBeasts_40 : decode cX6_areBeasts 40 = .ok (.goto (-35), 3) := by decide +kernel
theorem dX6_areBeasts_43 : decode cX6_areBeasts 43 = .ok (.iload_n 3, 1) := by decide +kernel
theorem dX6_areBeasts_44 : decode cX6_areBeasts 44 = .ok (.ireturn, 1) := by decide +kernel
theorem dX6_arePairs_0 : decode cX6_arePairs 0 = .ok (.iconst 1, 1) := by decide +kernel
theorem dX6_arePairs_1 : decode cX6_arePairs 1 = .ok (.istore_n 3, 1) := by decide +kernel
theorem dX6_arePairs_2 : decode cX6_arePairs 2 = .ok (.iconst 0, 1) := by decide +kernel
theorem dX6_arePairs_3 : decode cX6_arePairs 3 = .ok (.istore 4, 2) := by decide +kernel
theorem dX6_arePairs_5 : decode cX6_arePairs 5 = .ok (.iload 4, 2) := by decide +kernel
theorem dX6_arePairs_7 : decode cX6_arePairs 7 = .ok (.iload_n 2, 1) := by decide +kernel
theorem dX6_arePairs_8 : decode cX6_arePairs 8 = .ok (.if_icmp .ge 57, 3) := by decide +kernel
theorem dX6_arePairs_11 : decode cX6_arePairs 11 = .ok (.iload_n 3, 1) := by decide +kernel
theorem dX6_arePairs_12 : decode cX6_arePairs 12 = .ok (.ifCond .eq 45, 3) := by decide +kernel
theorem dX6_arePairs_15 : decode cX6_arePairs 15 = .ok (.aload_n 0, 1) := by decide +kernel
theorem dX6_arePairs_16 : decode cX6_arePairs 16 = .ok (.aload_n 0, 1) := by decide +kernel
theorem dX6_arePairs_17 : decode cX6_arePairs 17 = .ok (.getfield 26, 3) := by decide +kernel
theorem dX6_arePairs_20 : decode cX6_arePairs 20 = .ok (.iload_n 1, 1) := by decide +kernel
theorem dX6_arePairs_21 : decode cX6_arePairs 21 = .ok (.iconst 2, 1) := by decide +kernel
theorem dX6_arePairs_22 : decode cX6_arePairs 22 = .ok (.iload 4, 2) := by decide +kernel
theorem dX6_arePairs_24 : decode cX6_arePairs 24 = .ok (.imul, 1) := by decide +kernel
theorem dX6_arePairs_25 : decode cX6_arePairs 25 = .ok (.iadd, 1) := by decide +kernel
theorem dX6_arePairs_26 : decode cX6_arePairs 26 = .ok (.iaload, 1) := by decide +kernel
theorem dX6_arePairs_27 : decode cX6_arePairs 27 = .ok (.invokevirtual 190, 3) := by decide +kernel
theorem dX6_arePairs_30 : decode cX6_arePairs 30 = .ok (.ifCond .eq 27, 3) := by decide +kernel
theorem dX6_arePairs_33 : decode cX6_arePairs 33 = .ok (.aload_n 0, 1) := by decide +kernel
theorem dX6_arePairs_34 : decode cX6_arePairs 34 = .ok (.aload_n 0, 1) := by decide +kernel
theorem dX6_arePairs_35 : decode cX6_arePairs 35 = .ok (.getfield 26, 3) := by decide +kernel
theorem dX6_arePairs_38 : decode cX6_arePairs 38 = .ok (.iload_n 1, 1) := by decide +kernel
theorem dX6_arePairs_39 : decode cX6_arePairs 39 = .ok (.iconst 2, 1) := by decide +kernel
theorem dX6_arePairs_40 : decode cX6_arePairs 40 = .ok (.iload 4, 2) := by decide +kernel
theorem dX6_arePairs_42 : decode cX6_arePairs 42 = .ok (.imul, 1) := by decide +kernel
theorem dX6_arePairs_43 : decode cX6_arePairs 43 = .ok (.iadd, 1) := by decide +kernel
theorem dX6_arePairs_44 : decode cX6_arePairs 44 = .ok (.iconst 1, 1) := by decide +kernel
theorem dX6_arePairs_45 : decode cX6_arePairs 45 = .ok (.iadd, 1) := by decide +kernel
theorem dX6_arePairs_46 : decode cX6_arePairs 46 = .ok (.iaload, 1) := by decide +kernel
theorem dX6_arePairs_47 : decode cX6_arePairs 47 = .ok (.invokevirtual 199, 3) := by decide +kernel
theorem dX6_arePairs_50 : decode cX6_arePairs 50 = .ok (.ifCond .eq 7, 3) := by decide +kernel
theorem dX6_arePairs_53 : decode cX6_arePairs 53 = .ok (.iconst 1, 1) := by decide +kernel
theorem dX6_arePairs_54 : decode cX6_arePairs 54 = .ok (.goto 4, 3) := by decide +kernel
theorem dX6_arePairs_57 : decode cX6_arePairs 57 = .ok (.iconst 0, 1) := by decide +kernel
theorem dX6_arePairs_58 : decode cX6_arePairs 58 = .ok (.istore_n 3, 1) := by decide +kernel
theorem dX6_arePairs_59 : decode cX6_arePairs 59 = .ok (.iinc 4 1, 3) := by decide +kernel
theorem dX6_arePairs_62 : decode cX6_arePairs 62 = .ok (.goto (-57), 3) := by decide +kernel
theorem dX6_arePairs_65 : decode cX6_arePairs 65 = .ok (.iload_n 3, 1) := by decide +kernel
theorem dX6_arePairs_66 : decode cX6_arePairs 66 = .ok (.ireturn, 1) := by decide +kernel
theorem dX6_runs_0 : decode cX6_runs 0 = .ok (.aload_n 0, 1) := by decide +kernel
theorem dX6_runs_1 : decode cX6_runs 1 = .ok (.getfield 7, 3) := by decide +kernel
theorem dX6_runs_4 : decode cX6_runs 4 = .ok (.iconst 0, 1) := by decide +kernel
theorem dX6_runs_5 : decode cX6_runs 5 = .ok (.iaload, 1) := by decide +kernel
theorem dX6_runs_6 : decode cX6_runs 6 = .ok (.ifCond .ne 6, 3) := by decide +kernel
theorem dX6_runs_9 : decode cX6_runs 9 = .ok (.ldc 202, 2) := by decide +kernel
theorem dX6_runs_11 : decode cX6_runs 11 = .ok (.ireturn, 1) := by decide +kernel
theorem dX6_runs_12 : decode cX6_runs 12 = .ok (.iload_n 1, 1) := by decide +kernel
theorem dX6_runs_13 : decode cX6_runs 13 = .ok (.invokestatic 65, 3) := by decide +kernel
theorem dX6_runs_16 : decode cX6_runs 16 = .ok (.ifCond .eq 15, 3) := by decide +kernel
theorem dX6_runs_19 : decode cX6_runs 19 = .ok (.iload_n 3, 1) := by decide +kernel
theorem dX6_runs_20 : decode cX6_runs 20 = .ok (.i2l, 1) := by decide +kernel
theorem dX6_runs_21 : decode cX6_runs 21 = .ok (.lconst 1, 1) := by decide +kernel
theorem dX6_runs_22 : decode cX6_runs 22 = .ok (.ldc2_w 203, 3) := by decide +kernel
theorem dX6_runs_25 : decode cX6_runs 25 = .ok (.invokestatic 61, 3) := by decide +kernel
theorem dX6_runs_28 : decode cX6_runs 28 = .ok (.ifCond .ne 6, 3) := by decide +kernel
theorem dX6_runs_31 : decode cX6_runs 31 = .ok (.ldc 71, 2) := by decide +kernel
theorem dX6_runs_33 : decode cX6_runs 33 = .ok (.ireturn, 1) := by decide +kernel
theorem dX6_runs_34 : decode cX6_runs 34 = .ok (.aload_n 0, 1) := by decide +kernel
theorem dX6_runs_35 : decode cX6_runs 35 = .ok (.iload_n 1, 1) := by decide +kernel
theorem dX6_runs_36 : decode cX6_runs 36 = .ok (.iload_n 2, 1) := by decide +kernel
theorem dX6_runs_37 : decode cX6_runs 37 = .ok (.iload_n 3, 1) := by decide +kernel
theorem dX6_runs_38 : decode cX6_runs 38 = .ok (.invokevirtual 205, 3) := by decide +kernel
theorem dX6_runs_41 : decode cX6_runs 41 = .ok (.istore 4, 2) := by decide +kernel
theorem dX6_runs_43 : decode cX6_runs 43 = .ok (.iload 4, 2) := by decide +kernel
theorem dX6_runs_45 : decode cX6_runs 45 = .ok (.ifCond .eq 6, 3) := by decide +kernel
theorem dX6_runs_48 : decode cX6_runs 48 = .ok (.iload 4, 2) := by decide +kernel
theorem dX6_runs_50 : decode cX6_runs 50 = .ok (.ireturn, 1) := by decide +kernel
theorem dX6_runs_51 : decode cX6_runs 51 = .ok (.aload_n 0, 1) := by decide +kernel
theorem dX6_runs_52 : decode cX6_runs 52 = .ok (.bipush 40, 2) := by decide +kernel
theorem dX6_runs_54 : decode cX6_runs 54 = .ok (.iload_n 1, 1) := by decide +kernel
theorem dX6_runs_55 : decode cX6_runs 55 = .ok (.imul, 1) := by decide +kernel
theorem dX6_runs_56 : decode cX6_runs 56 = .ok (.iload_n 2, 1) := by decide +kernel
theorem dX6_runs_57 : decode cX6_runs 57 = .ok (.iadd, 1) := by decide +kernel
theorem dX6_runs_58 : decode cX6_runs 58 = .ok (.iload_n 3, 1) := by decide +kernel
theorem dX6_runs_59 : decode cX6_runs 59 = .ok (.invokevirtual 208, 3) := by decide +kernel
theorem dX6_runs_62 : decode cX6_runs 62 = .ok (.ifCond .ne 6, 3) := by decide +kernel
theorem dX6_runs_65 : decode cX6_runs 65 = .ok (.ldc 71, 2) := by decide +kernel
theorem dX6_runs_67 : decode cX6_runs 67 = .ok (.ireturn, 1) := by decide +kernel
theorem dX6_runs_68 : decode cX6_runs 68 = .ok (.aload_n 0, 1) := by decide +kernel
theorem dX6_runs_69 : decode cX6_runs 69 = .ok (.invokevirtual 193, 3) := by decide +kernel
theorem dX6_runs_72 : decode cX6_runs 72 = .ok (.iload_n 3, 1) := by decide +kernel
theorem dX6_runs_73 : decode cX6_runs 73 = .ok (.iadd, 1) := by decide +kernel
theorem dX6_runs_74 : decode cX6_runs 74 = .ok (.sipush 9999, 3) := by decide +kernel
theorem dX6_runs_77 : decode cX6_runs 77 = .ok (.if_icmp .le 6, 3) := by decide +kernel
theorem dX6_runs_80 : decode cX6_runs 80 = .ok (.ldc 88, 2) := by decide +kernel
theorem dX6_runs_82 : decode cX6_runs 82 = .ok (.ireturn, 1) := by decide +kernel
theorem dX6_runs_83 : decode cX6_runs 83 = .ok (.ldc 19, 2) := by decide +kernel
theorem dX6_runs_85 : decode cX6_runs 85 = .ok (.istore 5, 2) := by decide +kernel
theorem dX6_runs_87 : decode cX6_runs 87 = .ok (.iconst 0, 1) := by decide +kernel
theorem dX6_runs_88 : decode cX6_runs 88 = .ok (.istore 6, 2) := by decide +kernel
theorem dX6_runs_90 : decode cX6_runs 90 = .ok (.iload 6, 2) := by decide +kernel
theorem dX6_runs_92 : decode cX6_runs 92 = .ok (.iload_n 3, 1) := by decide +kernel
theorem dX6_runs_93 : decode cX6_runs 93 = .ok (.if_icmp .ge 29, 3) := by decide +kernel
theorem dX6_runs_96 : decode cX6_runs 96 = .ok (.aload_n 0, 1) := by decide +kernel
theorem dX6_runs_97 : decode cX6_runs 97 = .ok (.aload_n 0, 1) := by decide +kernel
theorem dX6_runs_98 : decode cX6_runs 98 = .ok (.getfield 26, 3) := by decide +kernel
theorem dX6_runs_101 : decode cX6_runs 101 = .ok (.bipush 40, 2) := by decide +kernel
theorem dX6_runs_103 : decode cX6_runs 103 = .ok (.iload_n 1, 1) := by decide +kernel
theorem dX6_runs_104 : decode cX6_runs 104 = .ok (.imul, 1) := by decide +kernel
theorem dX6_runs_105 : decode cX6_runs 105 = .ok (.iload_n 2, 1) := by decide +kernel
theorem dX6_runs_106 : decode cX6_runs 106 = .ok (.iadd, 1) := by decide +kernel
theorem dX6_runs_107 : decode cX6_runs 107 = .ok (.iload 6, 2) := by decide +kernel
theorem dX6_runs_109 : decode cX6_runs 109 = .ok (.iadd, 1) := by decide +kernel
theorem dX6_runs_110 : decode cX6_runs 110 = .ok (.iaload, 1) := by decide +kernel
theorem dX6_runs_111 : decode cX6_runs 111 = .ok (.invokevirtual 196, 3) := by decide +kernel
theorem dX6_runs_114 : decode cX6_runs 114 = .ok (.istore 5, 2) := by decide +kernel
theorem dX6_runs_116 : decode cX6_runs 116 = .ok (.iinc 6 1, 3) := by decide +kernel
theorem dX6_runs_119 : decode cX6_runs 119 = .ok (.goto (-29), 3) := by decide +kernel
theorem dX6_runs_122 : decode cX6_runs 122 = .ok (.aload_n 0, 1) := by decide +kernel
theorem dX6_runs_123 : decode cX6_runs 123 = .ok (.iload 5, 2) := by decide +kernel
theorem dX6_runs_125 : decode cX6_runs 125 = .ok (.invokevirtual 76, 3) := by decide +kernel
theorem dX6_runs_128 : decode cX6_runs 128 = .ok (.ireturn, 1) := by decide +kernel
theorem dX6_dawn_0 : decode cX6_dawn 0 = .ok (.aload_n 0, 1) := by decide +kernel
theorem dX6_dawn_1 : decode cX6_dawn 1 = .ok (.getfield 7, 3) := by decide +kernel
theorem dX6_dawn_4 : decode cX6_dawn 4 = .ok (.iconst 0, 1) := by decide +kernel
theorem dX6_dawn_5 : decode cX6_dawn 5 = .ok (.iaload, 1) := by decide +kernel
theorem dX6_dawn_6 : decode cX6_dawn 6 = .ok (.ifCond .ne 6, 3) := by decide +kernel
theorem dX6_dawn_9 : decode cX6_dawn 9 = .ok (.ldc 202, 2) := by decide +kernel
theorem dX6_dawn_11 : decode cX6_dawn 11 = .ok (.ireturn, 1) := by decide +kernel
theorem dX6_dawn_12 : decode cX6_dawn 12 = .ok (.aload_n 0, 1) := by decide +kernel
theorem dX6_dawn_13 : decode cX6_dawn 13 = .ok (.iload_n 1, 1) := by decide +kernel
theorem dX6_dawn_14 : decode cX6_dawn 14 = .ok (.invokevirtual 211, 3) := by decide +kernel
theorem dX6_dawn_17 : decode cX6_dawn 17 = .ok (.ifCond .ne 6, 3) := by decide +kernel
theorem dX6_dawn_20 : decode cX6_dawn 20 = .ok (.ldc 71, 2) := by decide +kernel
theorem dX6_dawn_22 : decode cX6_dawn 22 = .ok (.ireturn, 1) := by decide +kernel
theorem dX6_dawn_23 : decode cX6_dawn 23 = .ok (.aload_n 0, 1) := by decide +kernel
theorem dX6_dawn_24 : decode cX6_dawn 24 = .ok (.invokevirtual 184, 3) := by decide +kernel
theorem dX6_dawn_27 : decode cX6_dawn 27 = .ok (.aload_n 0, 1) := by decide +kernel
theorem dX6_dawn_28 : decode cX6_dawn 28 = .ok (.getfield 7, 3) := by decide +kernel
theorem dX6_dawn_31 : decode cX6_dawn 31 = .ok (.bipush 40, 2) := by decide +kernel
theorem dX6_dawn_33 : decode cX6_dawn 33 = .ok (.iaload, 1) := by decide +kernel
theorem dX6_dawn_34 : decode cX6_dawn 34 = .ok (.istore_n 2, 1) := by decide +kernel
theorem dX6_dawn_35 : decode cX6_dawn 35 = .ok (.iconst 0, 1) := by decide +kernel
theorem dX6_dawn_36 : decode cX6_dawn 36 = .ok (.istore_n 3, 1) := by decide +kernel
theorem dX6_dawn_37 : decode cX6_dawn 37 = .ok (.iload_n 3, 1) := by decide +kernel
theorem dX6_dawn_38 : decode cX6_dawn 38 = .ok (.bipush 18, 2) := by decide +kernel
theorem dX6_dawn_40 : decode cX6_dawn 40 = .ok (.if_icmp .ge 19, 3) := by decide +kernel
theorem dX6_dawn_43 : decode cX6_dawn 43 = .ok (.aload_n 0, 1) := by decide +kernel
theorem dX6_dawn_44 : decode cX6_dawn 44 = .ok (.getfield 7, 3) := by decide +kernel
theorem dX6_dawn_47 : decode cX6_dawn 47 = .ok (.bipush 40, 2) := by decide +kernel
theorem dX6_dawn_49 : decode cX6_dawn 49 = .ok (.iload_n 3, 1) := by decide +kernel
theorem dX6_dawn_50 : decode cX6_dawn 50 = .ok (.iadd, 1) := by decide +kernel
theorem dX6_dawn_51 : decode cX6_dawn 51 = .ok (.iconst 0, 1) := by decide +kernel
theorem dX6_dawn_52 : decode cX6_dawn 52 = .ok (.iastore, 1) := by decide +kernel
theorem dX6_dawn_53 : decode cX6_dawn 53 = .ok (.iinc 3 1, 3) := by decide +kernel
theorem dX6_dawn_56 : decode cX6_dawn 56 = .ok (.goto (-19), 3) := by decide +kernel
theorem dX6_dawn_59 : decode cX6_dawn 59 = .ok (.aload_n 0, 1) := by decide +kernel
theorem dX6_dawn_60 : decode cX6_dawn 60 = .ok (.getfield 7, 3) := by decide +kernel
theorem dX6_dawn_63 : decode cX6_dawn 63 = .ok (.bipush 40, 2) := by decide +kernel
theorem dX6_dawn_65 : decode cX6_dawn 65 = .ok (.iload_n 1, 1) := by decide +kernel
theorem dX6_dawn_66 : decode cX6_dawn 66 = .ok (.iastore, 1) := by decide +kernel
theorem dX6_dawn_67 : decode cX6_dawn 67 = .ok (.iload_n 2, 1) := by decide +kernel
theorem dX6_dawn_68 : decode cX6_dawn 68 = .ok (.ireturn, 1) := by decide +kernel
theorem dX6_undo_0 : decode cX6_undo 0 = .ok (.aload_n 0, 1) := by decide +kernel
theorem dX6_undo_1 : decode cX6_undo 1 = .ok (.getfield 167, 3) := by decide +kernel
theorem dX6_undo_4 : decode cX6_undo 4 = .ok (.ifCond .ne 6, 3) := by decide +kernel
theorem dX6_undo_7 : decode cX6_undo 7 = .ok (.ldc 202, 2) := by decide +kernel
theorem dX6_undo_9 : decode cX6_undo 9 = .ok (.ireturn, 1) := by decide +kernel
theorem dX6_undo_10 : decode cX6_undo 10 = .ok (.aload_n 0, 1) := by decide +kernel
theorem dX6_undo_11 : decode cX6_undo 11 = .ok (.dup, 1) := by decide +kernel
theorem dX6_undo_12 : decode cX6_undo 12 = .ok (.getfield 167, 3) := by decide +kernel
theorem dX6_undo_15 : decode cX6_undo 15 = .ok (.iconst 1, 1) := by decide +kernel
theorem dX6_undo_16 : decode cX6_undo 16 = .ok (.isub, 1) := by decide +kernel
theorem dX6_undo_17 : decode cX6_undo 17 = .ok (.putfield 167, 3) := by decide +kernel
theorem dX6_undo_20 : decode cX6_undo 20 = .ok (.iconst 0, 1) := by decide +kernel
theorem dX6_undo_21 : decode cX6_undo 21 = .ok (.istore_n 1, 1) := by decide +kernel
theorem dX6_undo_22 : decode cX6_undo 22 = .ok (.iload_n 1, 1) := by decide +kernel
theorem dX6_undo_23 : decode cX6_undo 23 = .ok (.bipush 18, 2) := by decide +kernel
theorem dX6_undo_25 : decode cX6_undo 25 = .ok (.if_icmp .ge 32, 3) := by decide +kernel
theorem dX6_undo_28 : decode cX6_undo 28 = .ok (.aload_n 0, 1) := by decide +kernel
theorem dX6_undo_29 : decode cX6_undo 29 = .ok (.getfield 7, 3) := by decide +kernel
theorem dX6_undo_32 : decode cX6_undo 32 = .ok (.bipush 40, 2) := by decide +kernel
theorem dX6_undo_34 : decode cX6_undo 34 = .ok (.iload_n 1, 1) := by decide +kernel
theorem dX6_undo_35 : decode cX6_undo 35 = .ok (.iadd, 1) := by decide +kernel
theorem dX6_undo_36 : decode cX6_undo 36 = .ok (.aload_n 0, 1) := by decide +kernel
theorem dX6_undo_37 : decode cX6_undo 37 = .ok (.getfield 13, 3) := by decide +kernel
theorem dX6_undo_40 : decode cX6_undo 40 = .ok (.bipush 18, 2) := by decide +kernel
theorem dX6_undo_42 : decode cX6_undo 42 = .ok (.aload_n 0, 1) := by decide +kernel
theorem dX6_undo_43 : decode cX6_undo 43 = .ok (.getfield 167, 3) := by decide +kernel
theorem dX6_undo_46 : decode cX6_undo 46 = .ok (.imul, 1) := by decide +kernel
theorem dX6_undo_47 : decode cX6_undo 47 = .ok (.iload_n 1, 1) := by decide +kernel
theorem dX6_undo_48 : decode cX6_undo 48 = .ok (.iadd, 1) := by decide +kernel
theorem dX6_undo_49 : decode cX6_undo 49 = .ok (.iaload, 1) := by decide +kernel
theorem dX6_undo_50 : decode cX6_undo 50 = .ok (.iastore, 1) := by decide +kernel
theorem dX6_undo_51 : decode cX6_undo 51 = .ok (.iinc 1 1, 3) := by decide +kernel
theorem dX6_undo_54 : decode cX6_undo 54 = .ok (.goto (-32), 3) := by decide +kernel
theorem dX6_undo_57 : decode cX6_undo 57 = .ok (.aload_n 0, 1) := by decide +kernel
theorem dX6_undo_58 : decode cX6_undo 58 = .ok (.getfield 167, 3) := by decide +kernel
theorem dX6_undo_61 : decode cX6_undo 61 = .ok (.ireturn, 1) := by decide +kernel
theorem dX6_hurdle_0 : decode cX6_hurdle 0 = .ok (.iload_n 1, 1) := by decide +kernel
theorem dX6_hurdle_1 : decode cX6_hurdle 1 = .ok (.i2l, 1) := by decide +kernel
theorem dX6_hurdle_2 : decode cX6_hurdle 2 = .ok (.lconst 0, 1) := by decide +kernel
theorem dX6_hurdle_3 : decode cX6_hurdle 3 = .ok (.aload_n 0, 1) := by decide +kernel
theorem dX6_hurdle_4 : decode cX6_hurdle 4 = .ok (.getfield 7, 3) := by decide +kernel
theorem dX6_hurdle_7 : decode cX6_hurdle 7 = .ok (.iconst 2, 1) := by decide +kernel
theorem dX6_hurdle_8 : decode cX6_hurdle 8 = .ok (.iaload, 1) := by decide +kernel
theorem dX6_hurdle_9 : decode cX6_hurdle 9 = .ok (.iconst 1, 1) := by decide +kernel
theorem dX6_hurdle_10 : decode cX6_hurdle 10 = .ok (.isub, 1) := by decide +kernel
theorem dX6_hurdle_11 : decode cX6_hurdle 11 = .ok (.i2l, 1) := by decide +kernel
theorem dX6_hurdle_12 : decode cX6_hurdle 12 = .ok (.invokestatic 61, 3) := by decide +kernel
theorem dX6_hurdle_15 : decode cX6_hurdle 15 = .ok (.ifCond .ne 6, 3) := by decide +kernel
theorem dX6_hurdle_18 : decode cX6_hurdle 18 = .ok (.ldc 71, 2) := by decide +kernel
theorem dX6_hurdle_20 : decode cX6_hurdle 20 = .ok (.ireturn, 1) := by decide +kernel
theorem dX6_hurdle_21 : decode cX6_hurdle 21 = .ok (.iload_n 2, 1) := by decide +kernel
theorem dX6_hurdle_22 : decode cX6_hurdle 22 = .ok (.i2l, 1) := by decide +kernel
theorem dX6_hurdle_23 : decode cX6_hurdle 23 = .ok (.lconst 0, 1) := by decide +kernel
theorem dX6_hurdle_24 : decode cX6_hurdle 24 = .ok (.ldc2_w 214, 3) := by decide +kernel
theorem dX6_hurdle_27 : decode cX6_hurdle 27 = .ok (.invokestatic 61, 3) := by decide +kernel
theorem dX6_hurdle_30 : decode cX6_hurdle 30 = .ok (.ifCond .eq 18, 3) := by decide +kernel
theorem dX6_hurdle_33 : decode cX6_hurdle 33 = .ok (.aload_n 0, 1) := by decide +kernel
theorem dX6_hurdle_34 : decode cX6_hurdle 34 = .ok (.getfield 7, 3) := by decide +kernel
theorem dX6_hurdle_37 : decode cX6_hurdle 37 = .ok (.iconst 4, 1) := by decide +kernel
theorem dX6_hurdle_38 : decode cX6_hurdle 38 = .ok (.iconst 4, 1) := by decide +kernel
theorem dX6_hurdle_39 : decode cX6_hurdle 39 = .ok (.iload_n 1, 1) := by decide +kernel
theorem dX6_hurdle_40 : decode cX6_hurdle 40 = .ok (.imul, 1) := by decide +kernel
theorem dX6_hurdle_41 : decode cX6_hurdle 41 = .ok (.iadd, 1) := by decide +kernel
theorem dX6_hurdle_42 : decode cX6_hurdle 42 = .ok (.iload_n 2, 1) := by decide +kernel
theorem dX6_hurdle_43 : decode cX6_hurdle 43 = .ok (.iadd, 1) := by decide +kernel
theorem dX6_hurdle_44 : decode cX6_hurdle 44 = .ok (.iaload, 1) := by decide +kernel
theorem dX6_hurdle_45 : decode cX6_hurdle 45 = .ok (.goto 41, 3) := by decide +kernel
theorem dX6_hurdle_48 : decode cX6_hurdle 48 = .ok (.iload_n 2, 1) := by decide +kernel
theorem dX6_hurdle_49 : decode cX6_hurdle 49 = .ok (.iconst 4, 1) := by decide +kernel
theorem dX6_hurdle_50 : decode cX6_hurdle 50 = .ok (.if_icmp .ne 17, 3) := by decide +kernel
theorem dX6_hurdle_53 : decode cX6_hurdle 53 = .ok (.aload_n 0, 1) := by decide +kernel
theorem dX6_hurdle_54 : decode cX6_hurdle 54 = .ok (.getfield 7, 3) := by decide +kernel
theorem dX6_hurdle_57 : decode cX6_hurdle 57 = .ok (.bipush 40, 2) := by decide +kernel
theorem dX6_hurdle_59 : decode cX6_hurdle 59 = .ok (.iaload, 1) := by decide +kernel
theorem dX6_hurdle_60 : decode cX6_hurdle 60 = .ok (.iload_n 1, 1) := by decide +kernel
theorem dX6_hurdle_61 : decode cX6_hurdle 61 = .ok (.ishr, 1) := by decide +kernel
theorem dX6_hurdle_62 : decode cX6_hurdle 62 = .ok (.iconst 1, 1) := by decide +kernel
theorem dX6_hurdle_63 : decode cX6_hurdle 63 = .ok (.iand, 1) := by decide +kernel
theorem dX6_hurdle_64 : decode cX6_hurdle 64 = .ok (.goto 22, 3) := by decide +kernel
theorem dX6_hurdle_67 : decode cX6_hurdle 67 = .ok (.iload_n 2, 1) := by decide +kernel
theorem dX6_hurdle_68 : decode cX6_hurdle 68 = .ok (.iconst 5, 1) := by decide +kernel
theorem dX6_hurdle_69 : decode cX6_hurdle 69 = .ok (.if_icmp .ne 15, 3) := by decide +kernel
theorem dX6_hurdle_72 : decode cX6_hurdle 72 = .ok (.aload_n 0, 1) := by decide +kernel
theorem dX6_hurdle_73 : decode cX6_hurdle 73 = .ok (.getfield 7, 3) := by decide +kernel
theorem dX6_hurdle_76 : decode cX6_hurdle 76 = .ok (.bipush 41, 2) := by decide +kernel
theorem dX6_hurdle_78 : decode cX6_hurdle 78 = .ok (.iload_n 1, 1) := by decide +kernel
theorem dX6_hurdle_79 : decode cX6_hurdle 79 = .ok (.iadd, 1) := by decide +kernel
theorem dX6_hurdle_80 : decode cX6_hurdle 80 = .ok (.iaload, 1) := by decide +kernel
theorem dX6_hurdle_81 : decode cX6_hurdle 81 = .ok (.goto 5, 3) := by decide +kernel
theorem dX6_hurdle_84 : decode cX6_hurdle 84 = .ok (.ldc 71, 2) := by decide +kernel
theorem dX6_hurdle_86 : decode cX6_hurdle 86 = .ok (.ireturn, 1) := by decide +kernel
theorem dX6_heavy_0 : decode cX6_heavy 0 = .ok (.aload_n 0, 1) := by decide +kernel
theorem dX6_heavy_1 : decode cX6_heavy 1 = .ok (.iload_n 1, 1) := by decide +kernel
theorem dX6_heavy_2 : decode cX6_heavy 2 = .ok (.invokevirtual 190, 3) := by decide +kernel
theorem dX6_heavy_5 : decode cX6_heavy 5 = .ok (.ifCond .eq 19, 3) := by decide +kernel
theorem dX6_heavy_8 : decode cX6_heavy 8 = .ok (.aload_n 0, 1) := by decide +kernel
theorem dX6_heavy_9 : decode cX6_heavy 9 = .ok (.getfield 7, 3) := by decide +kernel
theorem dX6_heavy_12 : decode cX6_heavy 12 = .ok (.bipush 24, 2) := by decide +kernel
theorem dX6_heavy_14 : decode cX6_heavy 14 = .ok (.iconst 2, 1) := by decide +kernel
theorem dX6_heavy_15 : decode cX6_heavy 15 = .ok (.iload_n 1, 1) := by decide +kernel
theorem dX6_heavy_16 : decode cX6_heavy 16 = .ok (.imul, 1) := by decide +kernel
theorem dX6_heavy_17 : decode cX6_heavy 17 = .ok (.iadd, 1) := by decide +kernel
theorem dX6_heavy_18 : decode cX6_heavy 18 = .ok (.iconst 1, 1) := by decide +kernel
theorem dX6_heavy_19 : decode cX6_heavy 19 = .ok (.iadd, 1) := by decide +kernel
theorem dX6_heavy_20 : decode cX6_heavy 20 = .ok (.iaload, 1) := by decide +kernel
theorem dX6_heavy_21 : decode cX6_heavy 21 = .ok (.goto 5, 3) := by decide +kernel
theorem dX6_heavy_24 : decode cX6_heavy 24 = .ok (.ldc 71, 2) := by decide +kernel
theorem dX6_heavy_26 : decode cX6_heavy 26 = .ok (.ireturn, 1) := by decide +kernel
theorem dX6_pen_0 : decode cX6_pen 0 = .ok (.aload_n 0, 1) := by decide +kernel
theorem dX6_pen_1 : decode cX6_pen 1 = .ok (.iload_n 1, 1) := by decide +kernel
theorem dX6_pen_2 : decode cX6_pen 2 = .ok (.invokevirtual 199, 3) := by decide +kernel
theorem dX6_pen_5 : decode cX6_pen 5 = .ok (.ifCond .ne 8, 3) := by decide +kernel
theorem dX6_pen_8 : decode cX6_pen 8 = .ok (.ldc 71, 2) := by decide +kernel
theorem dX6_pen_10 : decode cX6_pen 10 = .ok (.goto 38, 3) := by decide +kernel
theorem dX6_pen_13 : decode cX6_pen 13 = .ok (.iload_n 2, 1) := by decide +kernel
theorem dX6_pen_14 : decode cX6_pen 14 = .ok (.ifCond .ne 15, 3) := by decide +kernel
theorem dX6_pen_17 : decode cX6_pen 17 = .ok (.aload_n 0, 1) := by decide +kernel
theorem dX6_pen_18 : decode cX6_pen 18 = .ok (.getfield 7, 3) := by decide +kernel
theorem dX6_pen_21 : decode cX6_pen 21 = .ok (.bipush 46, 2) := by decide +kernel
theorem dX6_pen_23 : decode cX6_pen 23 = .ok (.iload_n 1, 1) := by decide +kernel
theorem dX6_pen_24 : decode cX6_pen 24 = .ok (.iadd, 1) := by decide +kernel
theorem dX6_pen_25 : decode cX6_pen 25 = .ok (.iaload, 1) := by decide +kernel
theorem dX6_pen_26 : decode cX6_pen 26 = .ok (.goto 22, 3) := by decide +kernel
theorem dX6_pen_29 : decode cX6_pen 29 = .ok (.iload_n 2, 1) := by decide +kernel
theorem dX6_pen_30 : decode cX6_pen 30 = .ok (.iconst 1, 1) := by decide +kernel
theorem dX6_pen_31 : decode cX6_pen 31 = .ok (.if_icmp .ne 15, 3) := by decide +kernel
theorem dX6_pen_34 : decode cX6_pen 34 = .ok (.aload_n 0, 1) := by decide +kernel
theorem dX6_pen_35 : decode cX6_pen 35 = .ok (.getfield 7, 3) := by decide +kernel
theorem dX6_pen_38 : decode cX6_pen 38 = .ok (.bipush 52, 2) := by decide +kernel
theorem dX6_pen_40 : decode cX6_pen 40 = .ok (.iload_n 1, 1) := by decide +kernel
theorem dX6_pen_41 : decode cX6_pen 41 = .ok (.iadd, 1) := by decide +kernel
theorem dX6_pen_42 : decode cX6_pen 42 = .ok (.iaload, 1) := by decide +kernel
theorem dX6_pen_43 : decode cX6_pen 43 = .ok (.goto 5, 3) := by decide +kernel
theorem dX6_pen_46 : decode cX6_pen 46 = .ok (.ldc 71, 2) := by decide +kernel
theorem dX6_pen_48 : decode cX6_pen 48 = .ok (.ireturn, 1) := by decide +kernel
theorem dX6_copyRow_0 : decode cX6_copyRow 0 = .ok (.iconst 0, 1) := by decide +kernel
theorem dX6_copyRow_1 : decode cX6_copyRow 1 = .ok (.istore_n 3, 1) := by decide +kernel
theorem dX6_copyRow_2 : decode cX6_copyRow 2 = .ok (.iload_n 3, 1) := by decide +kernel
theorem dX6_copyRow_3 : decode cX6_copyRow 3 = .ok (.bipush 58, 2) := by decide +kernel
theorem dX6_copyRow_5 : decode cX6_copyRow 5 = .ok (.if_icmp .ge 25, 3) := by decide +kernel
theorem dX6_copyRow_8 : decode cX6_copyRow 8 = .ok (.aload_n 0, 1) := by decide +kernel
theorem dX6_copyRow_9 : decode cX6_copyRow 9 = .ok (.getfield 7, 3) := by decide +kernel
theorem dX6_copyRow_12 : decode cX6_copyRow 12 = .ok (.iload_n 2, 1) := by decide +kernel
theorem dX6_copyRow_13 : decode cX6_copyRow 13 = .ok (.iload_n 3, 1) := by decide +kernel
theorem dX6_copyRow_14 : decode cX6_copyRow 14 = .ok (.iadd, 1) := by decide +kernel
theorem dX6_copyRow_15 : decode cX6_copyRow 15 = .ok (.aload_n 0, 1) := by decide +kernel
theorem dX6_copyRow_16 : decode cX6_copyRow 16 = .ok (.getfield 7, 3) := by decide +kernel
theorem dX6_copyRow_19 : decode cX6_copyRow 19 = .ok (.iload_n 1, 1) := by decide +kernel
theorem dX6_copyRow_20 : decode cX6_copyRow 20 = .ok (.iload_n 3, 1) := by decide +kernel
theorem dX6_copyRow_21 : decode cX6_copyRow 21 = .ok (.iadd, 1) := by decide +kernel
theorem dX6_copyRow_22 : decode cX6_copyRow 22 = .ok (.iaload, 1) := by decide +kernel
theorem dX6_copyRow_23 : decode cX6_copyRow 23 = .ok (.iastore, 1) := by decide +kernel
theorem dX6_copyRow_24 : decode cX6_copyRow 24 = .ok (.iinc 3 1, 3) := by decide +kernel
theorem dX6_copyRow_27 : decode cX6_copyRow 27 = .ok (.goto (-25), 3) := by decide +kernel
theorem dX6_copyRow_30 : decode cX6_copyRow 30 = .ok (.return_, 1) := by decide +kernel
theorem dX6_comeSo_0 : decode cX6_comeSo 0 = .ok (.iconst 1, 1) := by decide +kernel
theorem dX6_comeSo_1 : decode cX6_comeSo 1 = .ok (.istore_n 3, 1) := by decide +kernel
theorem dX6_comeSo_2 : decode cX6_comeSo 2 = .ok (.iconst 0, 1) := by decide +kernel
theorem dX6_comeSo_3 : decode cX6_comeSo 3 = .ok (.istore 4, 2) := by decide +kernel
theorem dX6_comeSo_5 : decode cX6_comeSo 5 = .ok (.iload_n 3, 1) := by decide +kernel
theorem dX6_comeSo_6 : decode cX6_comeSo 6 = .ok (.ifCond .eq 55, 3) := by decide +kernel
theorem dX6_comeSo_9 : decode cX6_comeSo 9 = .ok (.iload 4, 2) := by decide +kernel
theorem dX6_comeSo_11 : decode cX6_comeSo 11 = .ok (.iload_n 2, 1) := by decide +kernel
theorem dX6_comeSo_12 : decode cX6_comeSo 12 = .ok (.if_icmp .ge 49, 3) := by decide +kernel
theorem dX6_comeSo_15 : decode cX6_comeSo 15 = .ok (.aload_n 0, 1) := by decide +kernel
theorem dX6_comeSo_16 : decode cX6_comeSo 16 = .ok (.sipush 174, 3) := by decide +kernel
theorem dX6_comeSo_19 : decode cX6_comeSo 19 = .ok (.aload_n 0, 1) := by decide +kernel
theorem dX6_comeSo_20 : decode cX6_comeSo 20 = .ok (.getfield 26, 3) := by decide +kernel
theorem dX6_comeSo_23 : decode cX6_comeSo 23 = .ok (.iload_n 1, 1) := by decide +kernel
theorem dX6_comeSo_24 : decode cX6_comeSo 24 = .ok (.iconst 2, 1) := by decide +kernel
theorem dX6_comeSo_25 : decode cX6_comeSo 25 = .ok (.iload 4, 2) := by decide +kernel
theorem dX6_comeSo_27 : decode cX6_comeSo 27 = .ok (.imul, 1) := by decide +kernel
theorem dX6_comeSo_28 : decode cX6_comeSo 28 = .ok (.iadd, 1) := by decide +kernel
theorem dX6_comeSo_29 : decode cX6_comeSo 29 = .ok (.iaload, 1) := by decide +kernel
theorem dX6_comeSo_30 : decode cX6_comeSo 30 = .ok (.invokevirtual 187, 3) := by decide +kernel
theorem dX6_comeSo_33 : decode cX6_comeSo 33 = .ok (.aload_n 0, 1) := by decide +kernel
theorem dX6_comeSo_34 : decode cX6_comeSo 34 = .ok (.getfield 26, 3) := by decide +kernel
theorem dX6_comeSo_37 : decode cX6_comeSo 37 = .ok (.iload_n 1, 1) := by decide +kernel
theorem dX6_comeSo_38 : decode cX6_comeSo 38 = .ok (.iconst 2, 1) := by decide +kernel
theorem dX6_comeSo_39 : decode cX6_comeSo 39 = .ok (.iload 4, 2) := by decide +kernel
theorem dX6_comeSo_41 : decode cX6_comeSo 41 = .ok (.imul, 1) := by decide +kernel
theorem dX6_comeSo_42 : decode cX6_comeSo 42 = .ok (.iadd, 1) := by decide +kernel
theorem dX6_comeSo_43 : decode cX6_comeSo 43 = .ok (.iconst 1, 1) := by decide +kernel
theorem dX6_comeSo_44 : decode cX6_comeSo 44 = .ok (.iadd, 1) := by decide +kernel
theorem dX6_comeSo_45 : decode cX6_comeSo 45 = .ok (.iaload, 1) := by decide +kernel
theorem dX6_comeSo_46 : decode cX6_comeSo 46 = .ok (.if_icmp .ne 7, 3) := by decide +kernel
theorem dX6_comeSo_49 : decode cX6_comeSo 49 = .ok (.iconst 1, 1) := by decide +kernel
theorem dX6_comeSo_50 : decode cX6_comeSo 50 = .ok (.goto 4, 3) := by decide +kernel
theorem dX6_comeSo_53 : decode cX6_comeSo 53 = .ok (.iconst 0, 1) := by decide +kernel
theorem dX6_comeSo_54 : decode cX6_comeSo 54 = .ok (.istore_n 3, 1) := by decide +kernel
theorem dX6_comeSo_55 : decode cX6_comeSo 55 = .ok (.iinc 4 1, 3) := by decide +kernel
theorem dX6_comeSo_58 : decode cX6_comeSo 58 = .ok (.goto (-53), 3) := by decide +kernel
theorem dX6_comeSo_61 : decode cX6_comeSo 61 = .ok (.iload_n 3, 1) := by decide +kernel
theorem dX6_comeSo_62 : decode cX6_comeSo 62 = .ok (.ireturn, 1) := by decide +kernel
theorem dX6_refusedPairs_0 : decode cX6_refusedPairs 0 = .ok (.aload_n 0, 1) := by decide +kernel
theorem dX6_refusedPairs_1 : decode cX6_refusedPairs 1 = .ok (.iload_n 1, 1) := by decide +kernel
theorem dX6_refusedPairs_2 : decode cX6_refusedPairs 2 = .ok (.iload_n 2, 1) := by decide +kernel
theorem dX6_refusedPairs_3 : decode cX6_refusedPairs 3 = .ok (.iconst 2, 1) := by decide +kernel
theorem dX6_refusedPairs_4 : decode cX6_refusedPairs 4 = .ok (.iload_n 3, 1) := by decide +kernel
theorem dX6_refusedPairs_5 : decode cX6_refusedPairs 5 = .ok (.imul, 1) := by decide +kernel
theorem dX6_refusedPairs_6 : decode cX6_refusedPairs 6 = .ok (.invokevirtual 205, 3) := by decide +kernel
theorem dX6_refusedPairs_9 : decode cX6_refusedPairs 9 = .ok (.istore 4, 2) := by decide +kernel
theorem dX6_refusedPairs_11 : decode cX6_refusedPairs 11 = .ok (.iload 4, 2) := by decide +kernel
theorem dX6_refusedPairs_13 : decode cX6_refusedPairs 13 = .ok (.ifCond .eq 8, 3) := by decide +kernel
theorem dX6_refusedPairs_16 : decode cX6_refusedPairs 16 = .ok (.iload 4, 2) := by decide +kernel
theorem dX6_refusedPairs_18 : decode cX6_refusedPairs 18 = .ok (.goto 23, 3) := by decide +kernel
theorem dX6_refusedPairs_21 : decode cX6_refusedPairs 21 = .ok (.aload_n 0, 1) := by decide +kernel
theorem dX6_refusedPairs_22 : decode cX6_refusedPairs 22 = .ok (.bipush 40, 2) := by decide +kernel
theorem dX6_refusedPairs_24 : decode cX6_refusedPairs 24 = .ok (.iload_n 1, 1) := by decide +kernel
theorem dX6_refusedPairs_25 : decode cX6_refusedPairs 25 = .ok (.imul, 1) := by decide +kernel
theorem dX6_refusedPairs_26 : decode cX6_refusedPairs 26 = .ok (.iload_n 2, 1) := by decide +kernel
theorem dX6_refusedPairs_27 : decode cX6_refusedPairs 27 = .ok (.iadd, 1) := by decide +kernel
theorem dX6_refusedPairs_28 : decode cX6_refusedPairs 28 = .ok (.iload_n 3, 1) := by decide +kernel
theorem dX6_refusedPairs_29 : decode cX6_refusedPairs 29 = .ok (.invokevirtual 216, 3) := by decide +kernel
theorem dX6_refusedPairs_32 : decode cX6_refusedPairs 32 = .ok (.ifCond .eq 7, 3) := by decide +kernel
theorem dX6_refusedPairs_35 : decode cX6_refusedPairs 35 = .ok (.iconst 0, 1) := by decide +kernel
theorem dX6_refusedPairs_36 : decode cX6_refusedPairs 36 = .ok (.goto 5, 3) := by decide +kernel
theorem dX6_refusedPairs_39 : decode cX6_refusedPairs 39 = .ok (.ldc 71, 2) := by decide +kernel
theorem dX6_refusedPairs_41 : decode cX6_refusedPairs 41 = .ok (.ireturn, 1) := by decide +kernel
theorem dX6_stood_0 : decode cX6_stood 0 = .ok (.aload_n 0, 1) := by decide +kernel
theorem dX6_stood_1 : decode cX6_stood 1 = .ok (.getfield 7, 3) := by decide +kernel
theorem dX6_stood_4 : decode cX6_stood 4 = .ok (.iconst 0, 1) := by decide +kernel
theorem dX6_stood_5 : decode cX6_stood 5 = .ok (.iaload, 1) := by decide +kernel
theorem dX6_stood_6 : decode cX6_stood 6 = .ok (.ifCond .ne 6, 3) := by decide +kernel
theorem dX6_stood_9 : decode cX6_stood 9 = .ok (.ldc 202, 2) := by decide +kernel
theorem dX6_stood_11 : decode cX6_stood 11 = .ok (.ireturn, 1) := by decide +kernel
theorem dX6_stood_12 : decode cX6_stood 12 = .ok (.iload_n 1, 1) := by decide +kernel
theorem dX6_stood_13 : decode cX6_stood 13 = .ok (.invokestatic 65, 3) := by decide +kernel
theorem dX6_stood_16 : decode cX6_stood 16 = .ok (.ifCond .eq 26, 3) := by decide +kernel
theorem dX6_stood_19 : decode cX6_stood 19 = .ok (.iload_n 3, 1) := by decide +kernel
theorem dX6_stood_20 : decode cX6_stood 20 = .ok (.i2l, 1) := by decide +kernel
theorem dX6_stood_21 : decode cX6_stood 21 = .ok (.lconst 0, 1) := by decide +kernel
theorem dX6_stood_22 : decode cX6_stood 22 = .ok (.ldc2_w 219, 3) := by decide +kernel
theorem dX6_stood_25 : decode cX6_stood 25 = .ok (.invokestatic 61, 3) := by decide +kernel
theorem dX6_stood_28 : decode cX6_stood 28 = .ok (.ifCond .eq 14, 3) := by decide +kernel
theorem dX6_stood_31 : decode cX6_stood 31 = .ok (.iload 4, 2) := by decide +kernel
theorem dX6_stood_33 : decode cX6_stood 33 = .ok (.i2l, 1) := by decide +kernel
theorem dX6_stood_34 : decode cX6_stood 34 = .ok (.lconst 0, 1) := by decide +kernel
theorem dX6_stood_35 : decode cX6_stood 35 = .ok (.lconst 1, 1) := by decide +kernel
theorem dX6_stood_36 : decode cX6_stood 36 = .ok (.invokestatic 61, 3) := by decide +kernel
theorem dX6_stood_39 : decode cX6_stood 39 = .ok (.ifCond .ne 6, 3) := by decide +kernel
theorem dX6_stood_42 : decode cX6_stood 42 = .ok (.ldc 71, 2) := by decide +kernel
theorem dX6_stood_44 : decode cX6_stood 44 = .ok (.ireturn, 1) := by decide +kernel
theorem dX6_stood_45 : decode cX6_stood 45 = .ok (.aload_n 0, 1) := by decide +kernel
theorem dX6_stood_46 : decode cX6_stood 46 = .ok (.iload_n 1, 1) := by decide +kernel
theorem dX6_stood_47 : decode cX6_stood 47 = .ok (.iload_n 2, 1) := by decide +kernel
theorem dX6_stood_48 : decode cX6_stood 48 = .ok (.iload_n 3, 1) := by decide +kernel
theorem dX6_stood_49 : decode cX6_stood 49 = .ok (.invokevirtual 221, 3) := by decide +kernel
theorem dX6_stood_52 : decode cX6_stood 52 = .ok (.istore 5, 2) := by decide +kernel
theorem dX6_stood_54 : decode cX6_stood 54 = .ok (.iload 5, 2) := by decide +kernel
theorem dX6_stood_56 : decode cX6_stood 56 = .ok (.ifCond .eq 6, 3) := by decide +kernel
theorem dX6_stood_59 : decode cX6_stood 59 = .ok (.iload 5, 2) := by decide +kernel
theorem dX6_stood_61 : decode cX6_stood 61 = .ok (.ireturn, 1) := by decide +kernel
theorem dX6_stood_62 : decode cX6_stood 62 = .ok (.iconst 0, 1) := by decide +kernel
theorem dX6_stood_63 : decode cX6_stood 63 = .ok (.istore 6, 2) := by decide +kernel
theorem dX6_stood_65 : decode cX6_stood 65 = .ok (.ldc 19, 2) := by decide +kernel
theorem dX6_stood_67 : decode cX6_stood 67 = .ok (.istore 7, 2) := by decide +kernel
theorem dX6_stood_69 : decode cX6_stood 69 = .ok (.iconst 0, 1) := by decide +kernel
theorem dX6_stood_70 : decode cX6_stood 70 = .ok (.istore 8, 2) := by decide +kernel
theorem dX6_stood_72 : decode cX6_stood 72 = .ok (.aload_n 0, 1) := by decide +kernel
theorem dX6_stood_73 : decode cX6_stood 73 = .ok (.iload 8, 2) := by decide +kernel
theorem dX6_stood_75 : decode cX6_stood 75 = .ok (.invokevirtual 211, 3) := by decide +kernel
theorem dX6_stood_78 : decode cX6_stood 78 = .ok (.ifCond .eq 85, 3) := by decide +kernel
theorem dX6_stood_81 : decode cX6_stood 81 = .ok (.aload_n 0, 1) := by decide +kernel
theorem dX6_stood_82 : decode cX6_stood 82 = .ok (.iconst 0, 1) := by decide +kernel
theorem dX6_stood_83 : decode cX6_stood 83 = .ok (.sipush 174, 3) := by decide +kernel
theorem dX6_stood_86 : decode cX6_stood 86 = .ok (.invokevirtual 224, 3) := by decide +kernel
theorem dX6_stood_89 : decode cX6_stood 89 = .ok (.iconst 0, 1) := by decide +kernel
theorem dX6_stood_90 : decode cX6_stood 90 = .ok (.istore 9, 2) := by decide +kernel
theorem dX6_stood_92 : decode cX6_stood 92 = .ok (.iload 9, 2) := by decide +kernel
theorem dX6_stood_94 : decode cX6_stood 94 = .ok (.iconst 5, 1) := by decide +kernel
theorem dX6_stood_95 : decode cX6_stood 95 = .ok (.if_icmp .ge 21, 3) := by decide +kernel
theorem dX6_stood_98 : decode cX6_stood 98 = .ok (.aload_n 0, 1) := by decide +kernel
theorem dX6_stood_99 : decode cX6_stood 99 = .ok (.getfield 7, 3) := by decide +kernel
theorem dX6_stood_102 : decode cX6_stood 102 = .ok (.sipush 215, 3) := by decide +kernel
theorem dX6_stood_105 : decode cX6_stood 105 = .ok (.iload 9, 2) := by decide +kernel
theorem dX6_stood_107 : decode cX6_stood 107 = .ok (.iadd, 1) := by decide +kernel
theorem dX6_stood_108 : decode cX6_stood 108 = .ok (.iconst 0, 1) := by decide +kernel
theorem dX6_stood_109 : decode cX6_stood 109 = .ok (.iastore, 1) := by decide +kernel
theorem dX6_stood_110 : decode cX6_stood 110 = .ok (.iinc 9 1, 3) := by decide +kernel
theorem dX6_stood_113 : decode cX6_stood 113 = .ok (.goto (-21), 3) := by decide +kernel
theorem dX6_stood_116 : decode cX6_stood 116 = .ok (.aload_n 0, 1) := by decide +kernel
theorem dX6_stood_117 : decode cX6_stood 117 = .ok (.getfield 7, 3) := by decide +kernel
theorem dX6_stood_120 : decode cX6_stood 120 = .ok (.sipush 214, 3) := by decide +kernel
theorem dX6_stood_123 : decode cX6_stood 123 = .ok (.iload 8, 2) := by decide +kernel
theorem dX6_stood_125 : decode cX6_stood 125 = .ok (.iastore, 1) := by decide +kernel
theorem dX6_stood_126 : decode cX6_stood 126 = .ok (.aload_n 0, 1) := by decide +kernel
theorem dX6_stood_127 : decode cX6_stood 127 = .ok (.bipush 40, 2) := by decide +kernel
theorem dX6_stood_129 : decode cX6_stood 129 = .ok (.iload_n 1, 1) := by decide +kernel
theorem dX6_stood_130 : decode cX6_stood 130 = .ok (.imul, 1) := by decide +kernel
theorem dX6_stood_131 : decode cX6_stood 131 = .ok (.iload_n 2, 1) := by decide +kernel
theorem dX6_stood_132 : decode cX6_stood 132 = .ok (.iadd, 1) := by decide +kernel
theorem dX6_stood_133 : decode cX6_stood 133 = .ok (.iload_n 3, 1) := by decide +kernel
theorem dX6_stood_134 : decode cX6_stood 134 = .ok (.invokevirtual 227, 3) := by decide +kernel
theorem dX6_stood_137 : decode cX6_stood 137 = .ok (.ifCond .eq 20, 3) := by decide +kernel
theorem dX6_stood_140 : decode cX6_stood 140 = .ok (.iload 6, 2) := by decide +kernel
theorem dX6_stood_142 : decode cX6_stood 142 = .ok (.ifCond .ne 8, 3) := by decide +kernel
theorem dX6_stood_145 : decode cX6_stood 145 = .ok (.iload 8, 2) := by decide +kernel
theorem dX6_stood_147 : decode cX6_stood 147 = .ok (.goto 5, 3) := by decide +kernel
theorem dX6_stood_150 : decode cX6_stood 150 = .ok (.iload 7, 2) := by decide +kernel
theorem dX6_stood_152 : decode cX6_stood 152 = .ok (.istore 7, 2) := by decide +kernel
theorem dX6_stood_154 : decode cX6_stood 154 = .ok (.iinc 6 1, 3) := by decide +kernel
theorem dX6_stood_157 : decode cX6_stood 157 = .ok (.iinc 8 1, 3) := by decide +kernel
theorem dX6_stood_160 : decode cX6_stood 160 = .ok (.goto (-88), 3) := by decide +kernel
theorem dX6_stood_163 : decode cX6_stood 163 = .ok (.aload_n 0, 1) := by decide +kernel
theorem dX6_stood_164 : decode cX6_stood 164 = .ok (.iload 4, 2) := by decide +kernel
theorem dX6_stood_166 : decode cX6_stood 166 = .ok (.ifCond .ne 8, 3) := by decide +kernel
theorem dX6_stood_169 : decode cX6_stood 169 = .ok (.iload 6, 2) := by decide +kernel
theorem dX6_stood_171 : decode cX6_stood 171 = .ok (.goto 5, 3) := by decide +kernel
theorem dX6_stood_174 : decode cX6_stood 174 = .ok (.iload 7, 2) := by decide +kernel
theorem dX6_stood_176 : decode cX6_stood 176 = .ok (.invokevirtual 76, 3) := by decide +kernel
theorem dX6_stood_179 : decode cX6_stood 179 = .ok (.ireturn, 1) := by decide +kernel
theorem dX6_wouldCome_0 : decode cX6_wouldCome 0 = .ok (.aload_n 0, 1) := by decide +kernel
theorem dX6_wouldCome_1 : decode cX6_wouldCome 1 = .ok (.getfield 7, 3) := by decide +kernel
theorem dX6_wouldCome_4 : decode cX6_wouldCome 4 = .ok (.sipush 214, 3) := by decide +kernel
theorem dX6_wouldCome_7 : decode cX6_wouldCome 7 = .ok (.iaload, 1) := by decide +kernel
theorem dX6_wouldCome_8 : decode cX6_wouldCome 8 = .ok (.istore_n 2, 1) := by decide +kernel
theorem dX6_wouldCome_9 : decode cX6_wouldCome 9 = .ok (.iconst 0, 1) := by decide +kernel
theorem dX6_wouldCome_10 : decode cX6_wouldCome 10 = .ok (.istore_n 3, 1) := by decide +kernel
theorem dX6_wouldCome_11 : decode cX6_wouldCome 11 = .ok (.iload_n 3, 1) := by decide +kernel
theorem dX6_wouldCome_12 : decode cX6_wouldCome 12 = .ok (.iconst 5, 1) := by decide +kernel
theorem dX6_wouldCome_13 : decode cX6_wouldCome 13 = .ok (.if_icmp .ge 29, 3) := by decide +kernel
theorem dX6_wouldCome_16 : decode cX6_wouldCome 16 = .ok (.aload_n 0, 1) := by decide +kernel
theorem dX6_wouldCome_17 : decode cX6_wouldCome 17 = .ok (.getfield 7, 3) := by decide +kernel
theorem dX6_wouldCome_20 : decode cX6_wouldCome 20 = .ok (.sipush 220, 3) := by decide +kernel
theorem dX6_wouldCome_23 : decode cX6_wouldCome 23 = .ok (.iload_n 3, 1) := by decide +kernel
theorem dX6_wouldCome_24 : decode cX6_wouldCome 24 = .ok (.iadd, 1) := by decide +kernel
theorem dX6_wouldCome_25 : decode cX6_wouldCome 25 = .ok (.aload_n 0, 1) := by decide +kernel
theorem dX6_wouldCome_26 : decode cX6_wouldCome 26 = .ok (.getfield 7, 3) := by decide +kernel
theorem dX6_wouldCome_29 : decode cX6_wouldCome 29 = .ok (.sipush 215, 3) := by decide +kernel
theorem dX6_wouldCome_32 : decode cX6_wouldCome 32 = .ok (.iload_n 3, 1) := by decide +kernel
theorem dX6_wouldCome_33 : decode cX6_wouldCome 33 = .ok (.iadd, 1) := by decide +kernel
theorem dX6_wouldCome_34 : decode cX6_wouldCome 34 = .ok (.iaload, 1) := by decide +kernel
theorem dX6_wouldCome_35 : decode cX6_wouldCome 35 = .ok (.iastore, 1) := by decide +kernel
theorem dX6_wouldCome_36 : decode cX6_wouldCome 36 = .ok (.iinc 3 1, 3) := by decide +kernel
theorem dX6_wouldCome_39 : decode cX6_wouldCome 39 = .ok (.goto (-28), 3) := by decide +kernel
theorem dX6_wouldCome_42 : decode cX6_wouldCome 42 = .ok (.aload_n 0, 1) := by decide +kernel
theorem dX6_wouldCome_43 : decode cX6_wouldCome 43 = .ok (.sipush 174, 3) := by decide +kernel
theorem dX6_wouldCome_46 : decode cX6_wouldCome 46 = .ok (.iload_n 1, 1) := by decide +kernel
theorem dX6_wouldCome_47 : decode cX6_wouldCome 47 = .ok (.invokevirtual 187, 3) := by decide +kernel
theorem dX6_wouldCome_50 : decode cX6_wouldCome 50 = .ok (.istore_n 3, 1) := by decide +kernel
theorem dX6_wouldCome_51 : decode cX6_wouldCome 51 = .ok (.aload_n 0, 1) := by decide +kernel
theorem dX6_wouldCome_52 : decode cX6_wouldCome 52 = .ok (.getfield 7, 3) := by decide +kernel
theorem dX6_wouldCome_55 : decode cX6_wouldCome 55 = .ok (.sipush 214, 3) := by decide +kernel
theorem dX6_wouldCome_58 : decode cX6_wouldCome 58 = .ok (.iload_n 2, 1) := by decide +kernel
theorem dX6_wouldCome_59 : decode cX6_wouldCome 59 = .ok (.iastore, 1) := by decide +kernel
theorem dX6_wouldCome_60 : decode cX6_wouldCome 60 = .ok (.iconst 0, 1) := by decide +kernel
theorem dX6_wouldCome_61 : decode cX6_wouldCome 61 = .ok (.istore 4, 2) := by decide +kernel
theorem dX6_wouldCome_63 : decode cX6_wouldCome 63 = .ok (.iload 4, 2) := by decide +kernel
theorem dX6_wouldCome_65 : decode cX6_wouldCome 65 = .ok (.iconst 5, 1) := by decide +kernel
theorem dX6_wouldCome_66 : decode cX6_wouldCome 66 = .ok (.if_icmp .ge 31, 3) := by decide +kernel
theorem dX6_wouldCome_69 : decode cX6_wouldCome 69 = .ok (.aload_n 0, 1) := by decide +kernel
theorem dX6_wouldCome_70 : decode cX6_wouldCome 70 = .ok (.getfield 7, 3) := by decide +kernel
theorem dX6_wouldCome_73 : decode cX6_wouldCome 73 = .ok (.sipush 215, 3) := by decide +kernel
theorem dX6_wouldCome_76 : decode cX6_wouldCome 76 = .ok (.iload 4, 2) := by decide +kernel
theorem dX6_wouldCome_78 : decode cX6_wouldCome 78 = .ok (.iadd, 1) := by decide +kernel
theorem dX6_wouldCome_79 : decode cX6_wouldCome 79 = .ok (.aload_n 0, 1) := by decide +kernel
theorem dX6_wouldCome_80 : decode cX6_wouldCome 80 = .ok (.getfield 7, 3) := by decide +kernel
theorem dX6_wouldCome_83 : decode cX6_wouldCome 83 = .ok (.sipush 220, 3) := by decide +kernel
theorem dX6_wouldCome_86 : decode cX6_wouldCome 86 = .ok (.iload 4, 2) := by decide +kernel
theorem dX6_wouldCome_88 : decode cX6_wouldCome 88 = .ok (.iadd, 1) := by decide +kernel
theorem dX6_wouldCome_89 : decode cX6_wouldCome 89 = .ok (.iaload, 1) := by decide +kernel
theorem dX6_wouldCome_90 : decode cX6_wouldCome 90 = .ok (.iastore, 1) := by decide +kernel
theorem dX6_wouldCome_91 : decode cX6_wouldCome 91 = .ok (.iinc 4 1, 3) := by decide +kernel
theorem dX6_wouldCome_94 : decode cX6_wouldCome 94 = .ok (.goto (-31), 3) := by decide +kernel
theorem dX6_wouldCome_97 : decode cX6_wouldCome 97 = .ok (.iload_n 3, 1) := by decide +kernel
theorem dX6_wouldCome_98 : decode cX6_wouldCome 98 = .ok (.ireturn, 1) := by decide +kernel
theorem dX6_ahead_0 : decode cX6_ahead 0 = .ok (.aload_n 0, 1) := by decide +kernel
theorem dX6_ahead_1 : decode cX6_ahead 1 = .ok (.iload_n 1, 1) := by decide +kernel
theorem dX6_ahead_2 : decode cX6_ahead 2 = .ok (.invokevirtual 190, 3) := by decide +kernel
theorem dX6_ahead_5 : decode cX6_ahead 5 = .ok (.ifCond .eq 19, 3) := by decide +kernel
theorem dX6_ahead_8 : decode cX6_ahead 8 = .ok (.aload_n 0, 1) := by decide +kernel
theorem dX6_ahead_9 : decode cX6_ahead 9 = .ok (.iload_n 2, 1) := by decide +kernel
theorem dX6_ahead_10 : decode cX6_ahead 10 = .ok (.invokevirtual 190, 3) := by decide +kernel
theorem dX6_ahead_13 : decode cX6_ahead 13 = .ok (.ifCond .eq 11, 3) := by decide +kernel
theorem dX6_ahead_16 : decode cX6_ahead 16 = .ok (.aload_n 0, 1) := by decide +kernel
theorem dX6_ahead_17 : decode cX6_ahead 17 = .ok (.iload_n 3, 1) := by decide +kernel
theorem dX6_ahead_18 : decode cX6_ahead 18 = .ok (.invokevirtual 199, 3) := by decide +kernel
theorem dX6_ahead_21 : decode cX6_ahead 21 = .ok (.ifCond .ne 6, 3) := by decide +kernel
theorem dX6_ahead_24 : decode cX6_ahead 24 = .ok (.ldc 71, 2) := by decide +kernel
theorem dX6_ahead_26 : decode cX6_ahead 26 = .ok (.ireturn, 1) := by decide +kernel
theorem dX6_ahead_27 : decode cX6_ahead 27 = .ok (.aload_n 0, 1) := by decide +kernel
theorem dX6_ahead_28 : decode cX6_ahead 28 = .ok (.iconst 0, 1) := by decide +kernel
theorem dX6_ahead_29 : decode cX6_ahead 29 = .ok (.sipush 174, 3) := by decide +kernel
theorem dX6_ahead_32 : decode cX6_ahead 32 = .ok (.invokevirtual 224, 3) := by decide +kernel
theorem dX6_ahead_35 : decode cX6_ahead 35 = .ok (.iconst 0, 1) := by decide +kernel
theorem dX6_ahead_36 : decode cX6_ahead 36 = .ok (.istore 4, 2) := by decide +kernel
theorem dX6_ahead_38 : decode cX6_ahead 38 = .ok (.iload 4, 2) := by decide +kernel
theorem dX6_ahead_40 : decode cX6_ahead 40 = .ok (.bipush 60, 2) := by decide +kernel
theorem dX6_ahead_42 : decode cX6_ahead 42 = .ok (.if_icmp .gt 30, 3) := by decide +kernel
theorem dX6_ahead_45 : decode cX6_ahead 45 = .ok (.aload_n 0, 1) := by decide +kernel
theorem dX6_ahead_46 : decode cX6_ahead 46 = .ok (.iload_n 2, 1) := by decide +kernel
theorem dX6_ahead_47 : decode cX6_ahead 47 = .ok (.invokevirtual 230, 3) := by decide +kernel
theorem dX6_ahead_50 : decode cX6_ahead 50 = .ok (.iload_n 3, 1) := by decide +kernel
theorem dX6_ahead_51 : decode cX6_ahead 51 = .ok (.if_icmp .ne 6, 3) := by decide +kernel
theorem dX6_ahead_54 : decode cX6_ahead 54 = .ok (.iload 4, 2) := by decide +kernel
theorem dX6_ahead_56 : decode cX6_ahead 56 = .ok (.ireturn, 1) := by decide +kernel
theorem dX6_ahead_57 : decode cX6_ahead 57 = .ok (.aload_n 0, 1) := by decide +kernel
theorem dX6_ahead_58 : decode cX6_ahead 58 = .ok (.sipush 174, 3) := by decide +kernel
theorem dX6_ahead_61 : decode cX6_ahead 61 = .ok (.iload_n 1, 1) := by decide +kernel
theorem dX6_ahead_62 : decode cX6_ahead 62 = .ok (.invokevirtual 187, 3) := by decide +kernel
theorem dX6_ahead_65 : decode cX6_ahead 65 = .ok (.pop, 1) := by decide +kernel
theorem dX6_ahead_66 : decode cX6_ahead 66 = .ok (.iinc 4 1, 3) := by decide +kernel
theorem dX6_ahead_69 : decode cX6_ahead 69 = .ok (.goto (-31), 3) := by decide +kernel
theorem dX6_ahead_72 : decode cX6_ahead 72 = .ok (.ldc 19, 2) := by decide +kernel
theorem dX6_ahead_74 : decode cX6_ahead 74 = .ok (.ireturn, 1) := by decide +kernel
theorem dX6_number__0 : decode cX6_number_ 0 = .ok (.iconst 0, 1) := by decide +kernel
theorem dX6_number__1 : decode cX6_number_ 1 = .ok (.istore_n 1, 1) := by decide +kernel
theorem dX6_number__2 : decode cX6_number_ 2 = .ok (.iconst 4, 1) := by decide +kernel
theorem dX6_number__3 : decode cX6_number_ 3 = .ok (.istore_n 2, 1) := by decide +kernel
theorem dX6_number__4 : decode cX6_number_ 4 = .ok (.iload_n 2, 1) := by decide +kernel
theorem dX6_number__5 : decode cX6_number_ 5 = .ok (.ifCond .lt 66, 3) := by decide +kernel
theorem dX6_number__8 : decode cX6_number_ 8 = .ok (.iload_n 2, 1) := by decide +kernel
theorem dX6_number__9 : decode cX6_number_ 9 = .ok (.aload_n 0, 1) := by decide +kernel
theorem dX6_number__10 : decode cX6_number_ 10 = .ok (.getfield 7, 3) := by decide +kernel
theorem dX6_number__13 : decode cX6_number_ 13 = .ok (.iconst 2, 1) := by decide +kernel
theorem dX6_number__14 : decode cX6_number_ 14 = .ok (.iaload, 1) := by decide +kernel
theorem dX6_number__15 : decode cX6_number_ 15 = .ok (.if_icmp .ge 23, 3) := by decide +kernel
theorem dX6_number__18 : decode cX6_number_ 18 = .ok (.aload_n 0, 1) := by decide +kernel
theorem dX6_number__19 : decode cX6_number_ 19 = .ok (.getfield 7, 3) := by decide +kernel
theorem dX6_number__22 : decode cX6_number_ 22 = .ok (.iconst 4, 1) := by decide +kernel
theorem dX6_number__23 : decode cX6_number_ 23 = .ok (.iconst 4, 1) := by decide +kernel
theorem dX6_number__24 : decode cX6_number_ 24 = .ok (.iload_n 2, 1) := by decide +kernel
theorem dX6_number__25 : decode cX6_number_ 25 = .ok (.imul, 1) := by decide +kernel
theorem dX6_number__26 : decode cX6_number_ 26 = .ok (.iadd, 1) := by decide +kernel
theorem dX6_number__27 : decode cX6_number_ 27 = .ok (.iconst 3, 1) := by decide +kernel
theorem dX6_number__28 : decode cX6_number_ 28 = .ok (.iadd, 1) := by decide +kernel
theorem dX6_number__29 : decode cX6_number_ 29 = .ok (.iaload, 1) := by decide +kernel
theorem dX6_number__30 : decode cX6_number_ 30 = .ok (.iconst 1, 1) := by decide +kernel
theorem dX6_number__31 : decode cX6_number_ 31 = .ok (.if_icmp .ne 7, 3) := by decide +kernel
theorem dX6_number__34 : decode cX6_number_ 34 = .ok (.iconst 1, 1) := by decide +kernel
theorem dX6_number__35 : decode cX6_number_ 35 = .ok (.goto 4, 3) := by decide +kernel
theorem dX6_number__38 : decode cX6_number_ 38 = .ok (.iconst 0, 1) := by decide +kernel
theorem dX6_number__39 : decode cX6_number_ 39 = .ok (.istore_n 3, 1) := by decide +kernel
theorem dX6_number__40 : decode cX6_number_ 40 = .ok (.iconst 3, 1) := by decide +kernel
theorem dX6_number__41 : decode cX6_number_ 41 = .ok (.iload_n 1, 1) := by decide +kernel
theorem dX6_number__42 : decode cX6_number_ 42 = .ok (.imul, 1) := by decide +kernel
theorem dX6_number__43 : decode cX6_number_ 43 = .ok (.iload_n 3, 1) := by decide +kernel
theorem dX6_number__44 : decode cX6_number_ 44 = .ok (.ifCond .eq 18, 3) := by decide +kernel
theorem dX6_number__47 : decode cX6_number_ 47 = .ok (.aload_n 0, 1) := by decide +kernel
theorem dX6_number__48 : decode cX6_number_ 48 = .ok (.getfield 7, 3) := by decide +kernel
theorem dX6_number__51 : decode cX6_number_ 51 = .ok (.sipush 215, 3) := by decide +kernel
theorem dX6_number__54 : decode cX6_number_ 54 = .ok (.iload_n 2, 1) := by decide +kernel
theorem dX6_number__55 : decode cX6_number_ 55 = .ok (.iadd, 1) := by decide +kernel
theorem dX6_number__56 : decode cX6_number_ 56 = .ok (.iaload, 1) := by decide +kernel
theorem dX6_number__57 : decode cX6_number_ 57 = .ok (.iconst 3, 1) := by decide +kernel
theorem dX6_number__58 : decode cX6_number_ 58 = .ok (.irem, 1) := by decide +kernel
theorem dX6_number__59 : decode cX6_number_ 59 = .ok (.goto 4, 3) := by decide +kernel
theorem dX6_number__62 : decode cX6_number_ 62 = .ok (.iconst 0, 1) := by decide +kernel
theorem dX6_number__63 : decode cX6_number_ 63 = .ok (.iadd, 1) := by decide +kernel
theorem dX6_number__64 : decode cX6_number_ 64 = .ok (.istore_n 1, 1) := by decide +kernel
theorem dX6_number__65 : decode cX6_number_ 65 = .ok (.iinc 2 (-1), 3) := by decide +kernel
theorem dX6_number__68 : decode cX6_number_ 68 = .ok (.goto (-64), 3) := by decide +kernel
theorem dX6_number__71 : decode cX6_number_ 71 = .ok (.bipush 32, 2) := by decide +kernel
theorem dX6_number__73 : decode cX6_number_ 73 = .ok (.iload_n 1, 1) := by decide +kernel
theorem dX6_number__74 : decode cX6_number_ 74 = .ok (.imul, 1) := by decide +kernel
theorem dX6_number__75 : decode cX6_number_ 75 = .ok (.aload_n 0, 1) := by decide +kernel
theorem dX6_number__76 : decode cX6_number_ 76 = .ok (.getfield 7, 3) := by decide +kernel
theorem dX6_number__79 : decode cX6_number_ 79 = .ok (.sipush 214, 3) := by decide +kernel
theorem dX6_number__82 : decode cX6_number_ 82 = .ok (.iaload, 1) := by decide +kernel
theorem dX6_number__83 : decode cX6_number_ 83 = .ok (.iadd, 1) := by decide +kernel
theorem dX6_number__84 : decode cX6_number_ 84 = .ok (.ireturn, 1) := by decide +kernel
theorem dX6_takeOut_0 : decode cX6_takeOut 0 = .ok (.aload_n 0, 1) := by decide +kernel
theorem dX6_takeOut_1 : decode cX6_takeOut 1 = .ok (.getfield 7, 3) := by decide +kernel
theorem dX6_takeOut_4 : decode cX6_takeOut 4 = .ok (.sipush 214, 3) := by decide +kernel
theorem dX6_takeOut_7 : decode cX6_takeOut 7 = .ok (.iload_n 1, 1) := by decide +kernel
theorem dX6_takeOut_8 : decode cX6_takeOut 8 = .ok (.bipush 32, 2) := by decide +kernel
theorem dX6_takeOut_10 : decode cX6_takeOut 10 = .ok (.irem, 1) := by decide +kernel
theorem dX6_takeOut_11 : decode cX6_takeOut 11 = .ok (.iastore, 1) := by decide +kernel
theorem dX6_takeOut_12 : decode cX6_takeOut 12 = .ok (.iload_n 1, 1) := by decide +kernel
theorem dX6_takeOut_13 : decode cX6_takeOut 13 = .ok (.bipush 32, 2) := by decide +kernel
theorem dX6_takeOut_15 : decode cX6_takeOut 15 = .ok (.idiv, 1) := by decide +kernel
theorem dX6_takeOut_16 : decode cX6_takeOut 16 = .ok (.istore_n 2, 1) := by decide +kernel
theorem dX6_takeOut_17 : decode cX6_takeOut 17 = .ok (.iconst 0, 1) := by decide +kernel
theorem dX6_takeOut_18 : decode cX6_takeOut 18 = .ok (.istore_n 3, 1) := by decide +kernel
theorem dX6_takeOut_19 : decode cX6_takeOut 19 = .ok (.iload_n 3, 1) := by decide +kernel
theorem dX6_takeOut_20 : decode cX6_takeOut 20 = .ok (.iconst 5, 1) := by decide +kernel
theorem dX6_takeOut_21 : decode cX6_takeOut 21 = .ok (.if_icmp .ge 26, 3) := by decide +kernel
theorem dX6_takeOut_24 : decode cX6_takeOut 24 = .ok (.aload_n 0, 1) := by decide +kernel
theorem dX6_takeOut_25 : decode cX6_takeOut 25 = .ok (.getfield 7, 3) := by decide +kernel
theorem dX6_takeOut_28 : decode cX6_takeOut 28 = .ok (.sipush 215, 3) := by decide +kernel
theorem dX6_takeOut_31 : decode cX6_takeOut 31 = .ok (.iload_n 3, 1) := by decide +kernel
theorem dX6_takeOut_32 : decode cX6_takeOut 32 = .ok (.iadd, 1) := by decide +kernel
theorem dX6_takeOut_33 : decode cX6_takeOut 33 = .ok (.iload_n 2, 1) := by decide +kernel
theorem dX6_takeOut_34 : decode cX6_takeOut 34 = .ok (.iconst 3, 1) := by decide +kernel
theorem dX6_takeOut_35 : decode cX6_takeOut 35 = .ok (.irem, 1) := by decide +kernel
theorem dX6_takeOut_36 : decode cX6_takeOut 36 = .ok (.iastore, 1) := by decide +kernel
theorem dX6_takeOut_37 : decode cX6_takeOut 37 = .ok (.iload_n 2, 1) := by decide +kernel
theorem dX6_takeOut_38 : decode cX6_takeOut 38 = .ok (.iconst 3, 1) := by decide +kernel
theorem dX6_takeOut_39 : decode cX6_takeOut 39 = .ok (.idiv, 1) := by decide +kernel
theorem dX6_takeOut_40 : decode cX6_takeOut 40 = .ok (.istore_n 2, 1) := by decide +kernel
theorem dX6_takeOut_41 : decode cX6_takeOut 41 = .ok (.iinc 3 1, 3) := by decide +kernel
theorem dX6_takeOut_44 : decode cX6_takeOut 44 = .ok (.goto (-25), 3) := by decide +kernel
theorem dX6_takeOut_47 : decode cX6_takeOut 47 = .ok (.return_, 1) := by decide +kernel
theorem dX6_put_0 : decode cX6_put 0 = .ok (.aload_n 0, 1) := by decide +kernel
theorem dX6_put_1 : decode cX6_put 1 = .ok (.getfield 42, 3) := by decide +kernel
theorem dX6_put_4 : decode cX6_put 4 = .ok (.iload_n 1, 1) := by decide +kernel
theorem dX6_put_5 : decode cX6_put 5 = .ok (.iaload, 1) := by decide +kernel
theorem dX6_put_6 : decode cX6_put 6 = .ok (.ldc 19, 2) := by decide +kernel
theorem dX6_put_8 : decode cX6_put 8 = .ok (.if_icmp .ne 30, 3) := by decide +kernel
theorem dX6_put_11 : decode cX6_put 11 = .ok (.aload_n 0, 1) := by decide +kernel
theorem dX6_put_12 : decode cX6_put 12 = .ok (.getfield 42, 3) := by decide +kernel
theorem dX6_put_15 : decode cX6_put 15 = .ok (.iload_n 1, 1) := by decide +kernel
theorem dX6_put_16 : decode cX6_put 16 = .ok (.iload_n 2, 1) := by decide +kernel
theorem dX6_put_17 : decode cX6_put 17 = .ok (.iastore, 1) := by decide +kernel
theorem dX6_put_18 : decode cX6_put 18 = .ok (.aload_n 0, 1) := by decide +kernel
theorem dX6_put_19 : decode cX6_put 19 = .ok (.getfield 45, 3) := by decide +kernel
theorem dX6_put_22 : decode cX6_put 22 = .ok (.aload_n 0, 1) := by decide +kernel
theorem dX6_put_23 : decode cX6_put 23 = .ok (.getfield 233, 3) := by decide +kernel
theorem dX6_put_26 : decode cX6_put 26 = .ok (.iload_n 1, 1) := by decide +kernel
theorem dX6_put_27 : decode cX6_put 27 = .ok (.iastore, 1) := by decide +kernel
theorem dX6_put_28 : decode cX6_put 28 = .ok (.aload_n 0, 1) := by decide +kernel
theorem dX6_put_29 : decode cX6_put 29 = .ok (.dup, 1) := by decide +kernel
theorem dX6_put_30 : decode cX6_put 30 = .ok (.getfield 233, 3) := by decide +kernel
theorem dX6_put_33 : decode cX6_put 33 = .ok (.iconst 1, 1) := by decide +kernel
theorem dX6_put_34 : decode cX6_put 34 = .ok (.iadd, 1) := by decide +kernel
theorem dX6_put_35 : decode cX6_put 35 = .ok (.putfield 233, 3) := by decide +kernel
theorem dX6_put_38 : decode cX6_put 38 = .ok (.return_, 1) := by decide +kernel
theorem dX6_layFars_0 : decode cX6_layFars 0 = .ok (.iconst 0, 1) := by decide +kernel
theorem dX6_layFars_1 : decode cX6_layFars 1 = .ok (.istore_n 1, 1) := by decide +kernel
theorem dX6_layFars_2 : decode cX6_layFars 2 = .ok (.iload_n 1, 1) := by decide +kernel
theorem dX6_layFars_3 : decode cX6_layFars 3 = .ok (.sipush 7776, 3) := by decide +kernel
theorem dX6_layFars_6 : decode cX6_layFars 6 = .ok (.if_icmp .ge 17, 3) := by decide +kernel
theorem dX6_layFars_9 : decode cX6_layFars 9 = .ok (.aload_n 0, 1) := by decide +kernel
theorem dX6_layFars_10 : decode cX6_layFars 10 = .ok (.getfield 42, 3) := by decide +kernel
theorem dX6_layFars_13 : decode cX6_layFars 13 = .ok (.iload_n 1, 1) := by decide +kernel
theorem dX6_layFars_14 : decode cX6_layFars 14 = .ok (.ldc 19, 2) := by decide +kernel
theorem dX6_layFars_16 : decode cX6_layFars 16 = .ok (.iastore, 1) := by decide +kernel
theorem dX6_layFars_17 : decode cX6_layFars 17 = .ok (.iinc 1 1, 3) := by decide +kernel
theorem dX6_layFars_20 : decode cX6_layFars 20 = .ok (.goto (-18), 3) := by decide +kernel
theorem dX6_layFars_23 : decode cX6_layFars 23 = .ok (.aload_n 0, 1) := by decide +kernel
theorem dX6_layFars_24 : decode cX6_layFars 24 = .ok (.iconst 0, 1) := by decide +kernel
theorem dX6_layFars_25 : decode cX6_layFars 25 = .ok (.putfield 233, 3) := by decide +kernel
theorem dX6_layFars_28 : decode cX6_layFars 28 = .ok (.aload_n 0, 1) := by decide +kernel
theorem dX6_layFars_29 : decode cX6_layFars 29 = .ok (.iconst 0, 1) := by decide +kernel
theorem dX6_layFars_30 : decode cX6_layFars 30 = .ok (.sipush 174, 3) := by decide +kernel
theorem dX6_layFars_33 : decode cX6_layFars 33 = .ok (.invokevirtual 224, 3) := by decide +kernel
theorem dX6_layFars_36 : decode cX6_layFars 36 = .ok (.aload_n 0, 1) := by decide +kernel
theorem dX6_layFars_37 : decode cX6_layFars 37 = .ok (.aload_n 0, 1) := by decide +kernel
theorem dX6_layFars_38 : decode cX6_layFars 38 = .ok (.invokevirtual 236, 3) := by decide +kernel
theorem dX6_layFars_41 : decode cX6_layFars 41 = .ok (.iconst 0, 1) := by decide +kernel
theorem dX6_layFars_42 : decode cX6_layFars 42 = .ok (.invokevirtual 238, 3) := by decide +kernel
theorem dX6_layFars_45 : decode cX6_layFars 45 = .ok (.iconst 0, 1) := by decide +kernel
theorem dX6_layFars_46 : decode cX6_layFars 46 = .ok (.istore_n 1, 1) := by decide +kernel
theorem dX6_layFars_47 : decode cX6_layFars 47 = .ok (.iload_n 1, 1) := by decide +kernel
theorem dX6_layFars_48 : decode cX6_layFars 48 = .ok (.aload_n 0, 1) := by decide +kernel
theorem dX6_layFars_49 : decode cX6_layFars 49 = .ok (.getfield 233, 3) := by decide +kernel
theorem dX6_layFars_52 : decode cX6_layFars 52 = .ok (.if_icmp .ge 55, 3) := by decide +kernel
theorem dX6_layFars_55 : decode cX6_layFars 55 = .ok (.iconst 0, 1) := by decide +kernel
theorem dX6_layFars_56 : decode cX6_layFars 56 = .ok (.istore_n 2, 1) := by decide +kernel
theorem dX6_layFars_57 : decode cX6_layFars 57 = .ok (.iload_n 2, 1) := by decide +kernel
theorem dX6_layFars_58 : decode cX6_layFars 58 = .ok (.aload_n 0, 1) := by decide +kernel
theorem dX6_layFars_59 : decode cX6_layFars 59 = .ok (.getfield 7, 3) := by decide +kernel
theorem dX6_layFars_62 : decode cX6_layFars 62 = .ok (.iconst 3, 1) := by decide +kernel
theorem dX6_layFars_63 : decode cX6_layFars 63 = .ok (.iaload, 1) := by decide +kernel
theorem dX6_layFars_64 : decode cX6_layFars 64 = .ok (.if_icmp .ge 37, 3) := by decide +kernel
theorem dX6_layFars_67 : decode cX6_layFars 67 = .ok (.aload_n 0, 1) := by decide +kernel
theorem dX6_layFars_68 : decode cX6_layFars 68 = .ok (.aload_n 0, 1) := by decide +kernel
theorem dX6_layFars_69 : decode cX6_layFars 69 = .ok (.aload_n 0, 1) := by decide +kernel
theorem dX6_layFars_70 : decode cX6_layFars 70 = .ok (.getfield 45, 3) := by decide +kernel
theorem dX6_layFars_73 : decode cX6_layFars 73 = .ok (.iload_n 1, 1) := by decide +kernel
theorem dX6_layFars_74 : decode cX6_layFars 74 = .ok (.iaload, 1) := by decide +kernel
theorem dX6_layFars_75 : decode cX6_layFars 75 = .ok (.iload_n 2, 1) := by decide +kernel
theorem dX6_layFars_76 : decode cX6_layFars 76 = .ok (.invokevirtual 241, 3) := by decide +kernel
theorem dX6_layFars_79 : decode cX6_layFars 79 = .ok (.aload_n 0, 1) := by decide +kernel
theorem dX6_layFars_80 : decode cX6_layFars 80 = .ok (.getfield 42, 3) := by decide +kernel
theorem dX6_layFars_83 : decode cX6_layFars 83 = .ok (.aload_n 0, 1) := by decide +kernel
theorem dX6_layFars_84 : decode cX6_layFars 84 = .ok (.getfield 45, 3) := by decide +kernel
theorem dX6_layFars_87 : decode cX6_layFars 87 = .ok (.iload_n 1, 1) := by decide +kernel
theorem dX6_layFars_88 : decode cX6_layFars 88 = .ok (.iaload, 1) := by decide +kernel
theorem dX6_layFars_89 : decode cX6_layFars 89 = .ok (.iaload, 1) := by decide +kernel
theorem dX6_layFars_90 : decode cX6_layFars 90 = .ok (.iconst 1, 1) := by decide +kernel
theorem dX6_layFars_91 : decode cX6_layFars 91 = .ok (.iadd, 1) := by decide +kernel
theorem dX6_layFars_92 : decode cX6_layFars 92 = .ok (.invokevirtual 238, 3) := by decide +kernel
theorem dX6_layFars_95 : decode cX6_layFars 95 = .ok (.iinc 2 1, 3) := by decide +kernel
theorem dX6_layFars_98 : decode cX6_layFars 98 = .ok (.goto (-41), 3) := by decide +kernel
theorem dX6_layFars_101 : decode cX6_layFars 101 = .ok (.iinc 1 1, 3) := by decide +kernel
theorem dX6_layFars_104 : decode cX6_layFars 104 = .ok (.goto (-57), 3) := by decide +kernel
theorem dX6_layFars_107 : decode cX6_layFars 107 = .ok (.return_, 1) := by decide +kernel
theorem dX6_after_0 : decode cX6_after 0 = .ok (.aload_n 0, 1) := by decide +kernel
theorem dX6_after_1 : decode cX6_after 1 = .ok (.iload_n 1, 1) := by decide +kernel
theorem dX6_after_2 : decode cX6_after 2 = .ok (.invokevirtual 244, 3) := by decide +kernel
theorem dX6_after_5 : decode cX6_after 5 = .ok (.aload_n 0, 1) := by decide +kernel
theorem dX6_after_6 : decode cX6_after 6 = .ok (.sipush 174, 3) := by decide +kernel
theorem dX6_after_9 : decode cX6_after 9 = .ok (.iload_n 2, 1) := by decide +kernel
theorem dX6_after_10 : decode cX6_after 10 = .ok (.invokevirtual 187, 3) := by decide +kernel
theorem dX6_after_13 : decode cX6_after 13 = .ok (.pop, 1) := by decide +kernel
theorem dX6_after_14 : decode cX6_after 14 = .ok (.aload_n 0, 1) := by decide +kernel
theorem dX6_after_15 : decode cX6_after 15 = .ok (.invokevirtual 236, 3) := by decide +kernel
theorem dX6_after_18 : decode cX6_after 18 = .ok (.ireturn, 1) := by decide +kernel
theorem dX6_soonest_0 : decode cX6_soonest 0 = .ok (.iconst 0, 1) := by decide +kernel
theorem dX6_soonest_1 : decode cX6_soonest 1 = .ok (.istore_n 2, 1) := by decide +kernel
theorem dX6_soonest_2 : decode cX6_soonest 2 = .ok (.iload_n 2, 1) := by decide +kernel
theorem dX6_soonest_3 : decode cX6_soonest 3 = .ok (.aload_n 0, 1) := by decide +kernel
theorem dX6_soonest_4 : decode cX6_soonest 4 = .ok (.getfield 233, 3) := by decide +kernel
theorem dX6_soonest_7 : decode cX6_soonest 7 = .ok (.if_icmp .ge 34, 3) := by decide +kernel
theorem dX6_soonest_10 : decode cX6_soonest 10 = .ok (.aload_n 0, 1) := by decide +kernel
theorem dX6_soonest_11 : decode cX6_soonest 11 = .ok (.getfield 45, 3) := by decide +kernel
theorem dX6_soonest_14 : decode cX6_soonest 14 = .ok (.iload_n 2, 1) := by decide +kernel
theorem dX6_soonest_15 : decode cX6_soonest 15 = .ok (.iaload, 1) := by decide +kernel
theorem dX6_soonest_16 : decode cX6_soonest 16 = .ok (.bipush 32, 2) := by decide +kernel
theorem dX6_soonest_18 : decode cX6_soonest 18 = .ok (.irem, 1) := by decide +kernel
theorem dX6_soonest_19 : decode cX6_soonest 19 = .ok (.iload_n 1, 1) := by decide +kernel
theorem dX6_soonest_20 : decode cX6_soonest 20 = .ok (.if_icmp .ne 15, 3) := by decide +kernel
theorem dX6_soonest_23 : decode cX6_soonest 23 = .ok (.aload_n 0, 1) := by decide +kernel
theorem dX6_soonest_24 : decode cX6_soonest 24 = .ok (.getfield 42, 3) := by decide +kernel
theorem dX6_soonest_27 : decode cX6_soonest 27 = .ok (.aload_n 0, 1) := by decide +kernel
theorem dX6_soonest_28 : decode cX6_soonest 28 = .ok (.getfield 45, 3) := by decide +kernel
theorem dX6_soonest_31 : decode cX6_soonest 31 = .ok (.iload_n 2, 1) := by decide +kernel
theorem dX6_soonest_32 : decode cX6_soonest 32 = .ok (.iaload, 1) := by decide +kernel
theorem dX6_soonest_33 : decode cX6_soonest 33 = .ok (.iaload, 1) := by decide +kernel
theorem dX6_soonest_34 : decode cX6_soonest 34 = .ok (.ireturn, 1) := by decide +kernel
theorem dX6_soonest_35 : decode cX6_soonest 35 = .ok (.iinc 2 1, 3) := by decide +kernel
theorem dX6_soonest_38 : decode cX6_soonest 38 = .ok (.goto (-36), 3) := by decide +kernel
theorem dX6_soonest_41 : decode cX6_soonest 41 = .ok (.ldc 19, 2) := by decide +kernel
theorem dX6_soonest_43 : decode cX6_soonest 43 = .ok (.ireturn, 1) := by decide +kernel
theorem dX6_leads_0 : decode cX6_leads 0 = .ok (.aload_n 0, 1) := by decide +kernel
theorem dX6_leads_1 : decode cX6_leads 1 = .ok (.iload_n 1, 1) := by decide +kernel
theorem dX6_leads_2 : decode cX6_leads 2 = .ok (.iload_n 2, 1) := by decide +kernel
theorem dX6_leads_3 : decode cX6_leads 3 = .ok (.invokevirtual 241, 3) := by decide +kernel
theorem dX6_leads_6 : decode cX6_leads 6 = .ok (.istore_n 3, 1) := by decide +kernel
theorem dX6_leads_7 : decode cX6_leads 7 = .ok (.aload_n 0, 1) := by decide +kernel
theorem dX6_leads_8 : decode cX6_leads 8 = .ok (.getfield 48, 3) := by decide +kernel
theorem dX6_leads_11 : decode cX6_leads 11 = .ok (.iload_n 3, 1) := by decide +kernel
theorem dX6_leads_12 : decode cX6_leads 12 = .ok (.baload, 1) := by decide +kernel
theorem dX6_leads_13 : decode cX6_leads 13 = .ok (.ifCond .eq 24, 3) := by decide +kernel
theorem dX6_leads_16 : decode cX6_leads 16 = .ok (.aload_n 0, 1) := by decide +kernel
theorem dX6_leads_17 : decode cX6_leads 17 = .ok (.getfield 42, 3) := by decide +kernel
theorem dX6_leads_20 : decode cX6_leads 20 = .ok (.iload_n 3, 1) := by decide +kernel
theorem dX6_leads_21 : decode cX6_leads 21 = .ok (.iaload, 1) := by decide +kernel
theorem dX6_leads_22 : decode cX6_leads 22 = .ok (.aload_n 0, 1) := by decide +kernel
theorem dX6_leads_23 : decode cX6_leads 23 = .ok (.getfield 42, 3) := by decide +kernel
theorem dX6_leads_26 : decode cX6_leads 26 = .ok (.iload_n 1, 1) := by decide +kernel
theorem dX6_leads_27 : decode cX6_leads 27 = .ok (.iaload, 1) := by decide +kernel
theorem dX6_leads_28 : decode cX6_leads 28 = .ok (.iconst 1, 1) := by decide +kernel
theorem dX6_leads_29 : decode cX6_leads 29 = .ok (.iadd, 1) := by decide +kernel
theorem dX6_leads_30 : decode cX6_leads 30 = .ok (.if_icmp .ne 7, 3) := by decide +kernel
theorem dX6_leads_33 : decode cX6_leads 33 = .ok (.iconst 1, 1) := by decide +kernel
theorem dX6_leads_34 : decode cX6_leads 34 = .ok (.goto 4, 3) := by decide +kernel
theorem dX6_leads_37 : decode cX6_leads 37 = .ok (.iconst 0, 1) := by decide +kernel
theorem dX6_leads_38 : decode cX6_leads 38 = .ok (.ireturn, 1) := by decide +kernel
theorem dX6_layWays_0 : decode cX6_layWays 0 = .ok (.iconst 0, 1) := by decide +kernel
theorem dX6_layWays_1 : decode cX6_layWays 1 = .ok (.istore_n 3, 1) := by decide +kernel
theorem dX6_layWays_2 : decode cX6_layWays 2 = .ok (.iload_n 3, 1) := by decide +kernel
theorem dX6_layWays_3 : decode cX6_layWays 3 = .ok (.sipush 7776, 3) := by decide +kernel
theorem dX6_layWays_6 : decode cX6_layWays 6 = .ok (.if_icmp .ge 16, 3) := by decide +kernel
theorem dX6_layWays_9 : decode cX6_layWays 9 = .ok (.aload_n 0, 1) := by decide +kernel
theorem dX6_layWays_10 : decode cX6_layWays 10 = .ok (.getfield 48, 3) := by decide +kernel
theorem dX6_layWays_13 : decode cX6_layWays 13 = .ok (.iload_n 3, 1) := by decide +kernel
theorem dX6_layWays_14 : decode cX6_layWays 14 = .ok (.iconst 0, 1) := by decide +kernel
theorem dX6_layWays_15 : decode cX6_layWays 15 = .ok (.bastore, 1) := by decide +kernel
theorem dX6_layWays_16 : decode cX6_layWays 16 = .ok (.iinc 3 1, 3) := by decide +kernel
theorem dX6_layWays_19 : decode cX6_layWays 19 = .ok (.goto (-17), 3) := by decide +kernel
theorem dX6_layWays_22 : decode cX6_layWays 22 = .ok (.aload_n 0, 1) := by decide +kernel
theorem dX6_layWays_23 : decode cX6_layWays 23 = .ok (.getfield 233, 3) := by decide +kernel
theorem dX6_layWays_26 : decode cX6_layWays 26 = .ok (.iconst 1, 1) := by decide +kernel
theorem dX6_layWays_27 : decode cX6_layWays 27 = .ok (.isub, 1) := by decide +kernel
theorem dX6_layWays_28 : decode cX6_layWays 28 = .ok (.istore_n 3, 1) := by decide +kernel
theorem dX6_layWays_29 : decode cX6_layWays 29 = .ok (.iload_n 3, 1) := by decide +kernel
theorem dX6_layWays_30 : decode cX6_layWays 30 = .ok (.ifCond .lt 99, 3) := by decide +kernel
theorem dX6_layWays_33 : decode cX6_layWays 33 = .ok (.aload_n 0, 1) := by decide +kernel
theorem dX6_layWays_34 : decode cX6_layWays 34 = .ok (.getfield 45, 3) := by decide +kernel
theorem dX6_layWays_37 : decode cX6_layWays 37 = .ok (.iload_n 3, 1) := by decide +kernel
theorem dX6_layWays_38 : decode cX6_layWays 38 = .ok (.iaload, 1) := by decide +kernel
theorem dX6_layWays_39 : decode cX6_layWays 39 = .ok (.istore 4, 2) := by decide +kernel
theorem dX6_layWays_41 : decode cX6_layWays 41 = .ok (.aload_n 0, 1) := by decide +kernel
theorem dX6_layWays_42 : decode cX6_layWays 42 = .ok (.getfield 42, 3) := by decide +kernel
theorem dX6_layWays_45 : decode cX6_layWays 45 = .ok (.iload 4, 2) := by decide +kernel
theorem dX6_layWays_47 : decode cX6_layWays 47 = .ok (.iaload, 1) := by decide +kernel
theorem dX6_layWays_48 : decode cX6_layWays 48 = .ok (.iload_n 2, 1) := by decide +kernel
theorem dX6_layWays_49 : decode cX6_layWays 49 = .ok (.if_icmp .ne 16, 3) := by decide +kernel
theorem dX6_layWays_52 : decode cX6_layWays 52 = .ok (.iload 4, 2) := by decide +kernel
theorem dX6_layWays_54 : decode cX6_layWays 54 = .ok (.bipush 32, 2) := by decide +kernel
theorem dX6_layWays_56 : decode cX6_layWays 56 = .ok (.irem, 1) := by decide +kernel
theorem dX6_layWays_57 : decode cX6_layWays 57 = .ok (.iload_n 1, 1) := by decide +kernel
theorem dX6_layWays_58 : decode cX6_layWays 58 = .ok (.if_icmp .ne 7, 3) := by decide +kernel
theorem dX6_layWays_61 : decode cX6_layWays 61 = .ok (.iconst 1, 1) := by decide +kernel
theorem dX6_layWays_62 : decode cX6_layWays 62 = .ok (.goto 4, 3) := by decide +kernel
theorem dX6_layWays_65 : decode cX6_layWays 65 = .ok (.iconst 0, 1) := by decide +kernel
theorem dX6_layWays_66 : decode cX6_layWays 66 = .ok (.istore 5, 2) := by decide +kernel
theorem dX6_layWays_68 : decode cX6_layWays 68 = .ok (.iconst 0, 1) := by decide +kernel
theorem dX6_layWays_69 : decode cX6_layWays 69 = .ok (.istore 6, 2) := by decide +kernel
theorem dX6_layWays_71 : decode cX6_layWays 71 = .ok (.iload 6, 2) := by decide +kernel
theorem dX6_layWays_73 : decode cX6_layWays 73 = .ok (.aload_n 0, 1) := by decide +kernel
theorem dX6_layWays_74 : decode cX6_layWays 74 = .ok (.getfield 7, 3) := by decide +kernel
theorem dX6_layWays_77 : decode cX6_layWays 77 = .ok (.iconst 3, 1) := by decide +kernel
theorem dX6_layWays_78 : decode cX6_layWays 78 = .ok (.iaload, 1) := by decide +kernel
theorem dX6_layWays_79 : decode cX6_layWays 79 = .ok (.if_icmp .ge 35, 3) := by decide +kernel
theorem dX6_layWays_82 : decode cX6_layWays 82 = .ok (.iload 5, 2) := by decide +kernel
theorem dX6_layWays_84 : decode cX6_layWays 84 = .ok (.ifCond .ne 30, 3) := by decide +kernel
theorem dX6_layWays_87 : decode cX6_layWays 87 = .ok (.aload_n 0, 1) := by decide +kernel
theorem dX6_layWays_88 : decode cX6_layWays 88 = .ok (.getfield 42, 3) := by decide +kernel
theorem dX6_layWays_91 : decode cX6_layWays 91 = .ok (.iload 4, 2) := by decide +kernel
theorem dX6_layWays_93 : decode cX6_layWays 93 = .ok (.iaload, 1) := by decide +kernel
theorem dX6_layWays_94 : decode cX6_layWays 94 = .ok (.iload_n 2, 1) := by decide +kernel
theorem dX6_layWays_95 : decode cX6_layWays 95 = .ok (.if_icmp .ge 19, 3) := by decide +kernel
theorem dX6_layWays_98 : decode cX6_layWays 98 = .ok (.aload_n 0, 1) := by decide +kernel
theorem dX6_layWays_99 : decode cX6_layWays 99 = .ok (.iload 4, 2) := by decide +kernel
theorem dX6_layWays_101 : decode cX6_layWays 101 = .ok (.iload 6, 2) := by decide +kernel
theorem dX6_layWays_103 : decode cX6_layWays 103 = .ok (.invokevirtual 248, 3) := by decide +kernel
theorem dX6_layWays_106 : decode cX6_layWays 106 = .ok (.istore 5, 2) := by decide +kernel
theorem dX6_layWays_108 : decode cX6_layWays 108 = .ok (.iinc 6 1, 3) := by decide +kernel
theorem dX6_layWays_111 : decode cX6_layWays 111 = .ok (.goto (-40), 3) := by decide +kernel
theorem dX6_layWays_114 : decode cX6_layWays 114 = .ok (.aload_n 0, 1) := by decide +kernel
theorem dX6_layWays_115 : decode cX6_layWays 115 = .ok (.getfield 48, 3) := by decide +kernel
theorem dX6_layWays_118 : decode cX6_layWays 118 = .ok (.iload 4, 2) := by decide +kernel
theorem dX6_layWays_120 : decode cX6_layWays 120 = .ok (.iload 5, 2) := by decide +kernel
theorem dX6_layWays_122 : decode cX6_layWays 122 = .ok (.bastore, 1) := by decide +kernel
theorem dX6_layWays_123 : decode cX6_layWays 123 = .ok (.iinc 3 (-1), 3) := by decide +kernel
theorem dX6_layWays_126 : decode cX6_layWays 126 = .ok (.goto (-97), 3) := by decide +kernel
theorem dX6_layWays_129 : decode cX6_layWays 129 = .ok (.return_, 1) := by decide +kernel
theorem dX6_reached_0 : decode cX6_reached 0 = .ok (.aload_n 0, 1) := by decide +kernel
theorem dX6_reached_1 : decode cX6_reached 1 = .ok (.getfield 7, 3) := by decide +kernel
theorem dX6_reached_4 : decode cX6_reached 4 = .ok (.iconst 0, 1) := by decide +kernel
theorem dX6_reached_5 : decode cX6_reached 5 = .ok (.iaload, 1) := by decide +kernel
theorem dX6_reached_6 : decode cX6_reached 6 = .ok (.ifCond .ne 6, 3) := by decide +kernel
theorem dX6_reached_9 : decode cX6_reached 9 = .ok (.ldc 202, 2) := by decide +kernel
theorem dX6_reached_11 : decode cX6_reached 11 = .ok (.ireturn, 1) := by decide +kernel
theorem dX6_reached_12 : decode cX6_reached 12 = .ok (.aload_n 0, 1) := by decide +kernel
theorem dX6_reached_13 : decode cX6_reached 13 = .ok (.iload_n 1, 1) := by decide +kernel
theorem dX6_reached_14 : decode cX6_reached 14 = .ok (.invokevirtual 211, 3) := by decide +kernel
theorem dX6_reached_17 : decode cX6_reached 17 = .ok (.ifCond .eq 8, 3) := by decide +kernel
theorem dX6_reached_20 : decode cX6_reached 20 = .ok (.iload_n 2, 1) := by decide +kernel
theorem dX6_reached_21 : decode cX6_reached 21 = .ok (.iconst (-1), 1) := by decide +kernel
theorem dX6_reached_22 : decode cX6_reached 22 = .ok (.if_icmp .ge 6, 3) := by decide +kernel
theorem dX6_reached_25 : decode cX6_reached 25 = .ok (.ldc 71, 2) := by decide +kernel
theorem dX6_reached_27 : decode cX6_reached 27 = .ok (.ireturn, 1) := by decide +kernel
theorem dX6_reached_28 : decode cX6_reached 28 = .ok (.aload_n 0, 1) := by decide +kernel
theorem dX6_reached_29 : decode cX6_reached 29 = .ok (.invokevirtual 251, 3) := by decide +kernel
theorem dX6_reached_32 : decode cX6_reached 32 = .ok (.aload_n 0, 1) := by decide +kernel
theorem dX6_reached_33 : decode cX6_reached 33 = .ok (.iload_n 1, 1) := by decide +kernel
theorem dX6_reached_34 : decode cX6_reached 34 = .ok (.invokevirtual 254, 3) := by decide +kernel
theorem dX6_reached_37 : decode cX6_reached 37 = .ok (.istore_n 3, 1) := by decide +kernel
theorem dX6_reached_38 : decode cX6_reached 38 = .ok (.iload_n 3, 1) := by decide +kernel
theorem dX6_reached_39 : decode cX6_reached 39 = .ok (.ldc 19, 2) := by decide +kernel
theorem dX6_reached_41 : decode cX6_reached 41 = .ok (.if_icmp .eq 8, 3) := by decide +kernel
theorem dX6_reached_44 : decode cX6_reached 44 = .ok (.iload_n 2, 1) := by decide +kernel
theorem dX6_reached_45 : decode cX6_reached 45 = .ok (.iconst (-1), 1) := by decide +kernel
theorem dX6_reached_46 : decode cX6_reached 46 = .ok (.if_icmp .ne 5, 3) := by decide +kernel
theorem dX6_reached_49 : decode cX6_reached 49 = .ok (.iload_n 3, 1) := by decide +kernel
theorem dX6_reached_50 : decode cX6_reached 50 = .ok (.ireturn, 1) := by decide +kernel
theorem dX6_reached_51 : decode cX6_reached 51 = .ok (.iload_n 2, 1) := by decide +kernel
theorem dX6_reached_52 : decode cX6_reached 52 = .ok (.iload_n 3, 1) := by decide +kernel
theorem dX6_reached_53 : decode cX6_reached 53 = .ok (.if_icmp .lt 6, 3) := by decide +kernel
theorem dX6_reached_56 : decode cX6_reached 56 = .ok (.ldc 19, 2) := by decide +kernel
theorem dX6_reached_58 : decode cX6_reached 58 = .ok (.ireturn, 1) := by decide +kernel
theorem dX6_reached_59 : decode cX6_reached 59 = .ok (.aload_n 0, 1) := by decide +kernel
theorem dX6_reached_60 : decode cX6_reached 60 = .ok (.iload_n 1, 1) := by decide +kernel
theorem dX6_reached_61 : decode cX6_reached 61 = .ok (.iload_n 3, 1) := by decide +kernel
theorem dX6_reached_62 : decode cX6_reached 62 = .ok (.invokevirtual 257, 3) := by decide +kernel
theorem dX6_reached_65 : decode cX6_reached 65 = .ok (.aload_n 0, 1) := by decide +kernel
theorem dX6_reached_66 : decode cX6_reached 66 = .ok (.getfield 45, 3) := by decide +kernel
theorem dX6_reached_69 : decode cX6_reached 69 = .ok (.iconst 0, 1) := by decide +kernel
theorem dX6_reached_70 : decode cX6_reached 70 = .ok (.iaload, 1) := by decide +kernel
theorem dX6_reached_71 : decode cX6_reached 71 = .ok (.istore 4, 2) := by decide +kernel
theorem dX6_reached_73 : decode cX6_reached 73 = .ok (.ldc 19, 2) := by decide +kernel
theorem dX6_reached_75 : decode cX6_reached 75 = .ok (.istore 5, 2) := by decide +kernel
theorem dX6_reached_77 : decode cX6_reached 77 = .ok (.iconst 0, 1) := by decide +kernel
theorem dX6_reached_78 : decode cX6_reached 78 = .ok (.istore 6, 2) := by decide +kernel
theorem dX6_reached_80 : decode cX6_reached 80 = .ok (.iload 6, 2) := by decide +kernel
theorem dX6_reached_82 : decode cX6_reached 82 = .ok (.iload_n 2, 1) := by decide +kernel
theorem dX6_reached_83 : decode cX6_reached 83 = .ok (.if_icmp .gt 39, 3) := by decide +kernel
theorem dX6_reached_86 : decode cX6_reached 86 = .ok (.iconst 0, 1) := by decide +kernel
theorem dX6_reached_87 : decode cX6_reached 87 = .ok (.istore 5, 2) := by decide +kernel
theorem dX6_reached_89 : decode cX6_reached 89 = .ok (.aload_n 0, 1) := by decide +kernel
theorem dX6_reached_90 : decode cX6_reached 90 = .ok (.iload 4, 2) := by decide +kernel
theorem dX6_reached_92 : decode cX6_reached 92 = .ok (.iload 5, 2) := by decide +kernel
theorem dX6_reached_94 : decode cX6_reached 94 = .ok (.invokevirtual 248, 3) := by decide +kernel
theorem dX6_reached_97 : decode cX6_reached 97 = .ok (.ifCond .ne 9, 3) := by decide +kernel
theorem dX6_reached_100 : decode cX6_reached 100 = .ok (.iinc 5 1, 3) := by decide +kernel
theorem dX6_reached_103 : decode cX6_reached 103 = .ok (.goto (-14), 3) := by decide +kernel
theorem dX6_reached_106 : decode cX6_reached 106 = .ok (.aload_n 0, 1) := by decide +kernel
theorem dX6_reached_107 : decode cX6_reached 107 = .ok (.iload 4, 2) := by decide +kernel
theorem dX6_reached_109 : decode cX6_reached 109 = .ok (.iload 5, 2) := by decide +kernel
theorem dX6_reached_111 : decode cX6_reached 111 = .ok (.invokevirtual 241, 3) := by decide +kernel
theorem dX6_reached_114 : decode cX6_reached 114 = .ok (.istore 4, 2) := by decide +kernel
theorem dX6_reached_116 : decode cX6_reached 116 = .ok (.iinc 6 1, 3) := by decide +kernel
theorem dX6_reached_119 : decode cX6_reached 119 = .ok (.goto (-39), 3) := by decide +kernel
theorem dX6_reached_122 : decode cX6_reached 122 = .ok (.iload 5, 2) := by decide +kernel
theorem dX6_reached_124 : decode cX6_reached 124 = .ok (.ireturn, 1) := by decide +kernel
theorem dX6_comes_0 : decode cX6_comes 0 = .ok (.aload_n 0, 1) := by decide +kernel
theorem dX6_comes_1 : decode cX6_comes 1 = .ok (.getfield 7, 3) := by decide +kernel
theorem dX6_comes_4 : decode cX6_comes 4 = .ok (.iconst 0, 1) := by decide +kernel
theorem dX6_comes_5 : decode cX6_comes 5 = .ok (.iaload, 1) := by decide +kernel
theorem dX6_comes_6 : decode cX6_comes 6 = .ok (.ifCond .ne 6, 3) := by decide +kernel
theorem dX6_comes_9 : decode cX6_comes 9 = .ok (.ldc 202, 2) := by decide +kernel
theorem dX6_comes_11 : decode cX6_comes 11 = .ok (.ireturn, 1) := by decide +kernel
theorem dX6_comes_12 : decode cX6_comes 12 = .ok (.aload_n 0, 1) := by decide +kernel
theorem dX6_comes_13 : decode cX6_comes 13 = .ok (.invokevirtual 251, 3) := by decide +kernel
theorem dX6_comes_16 : decode cX6_comes 16 = .ok (.iconst 0, 1) := by decide +kernel
theorem dX6_comes_17 : decode cX6_comes 17 = .ok (.istore_n 1, 1) := by decide +kernel
theorem dX6_comes_18 : decode cX6_comes 18 = .ok (.iconst 0, 1) := by decide +kernel
theorem dX6_comes_19 : decode cX6_comes 19 = .ok (.istore_n 2, 1) := by decide +kernel
theorem dX6_comes_20 : decode cX6_comes 20 = .ok (.aload_n 0, 1) := by decide +kernel
theorem dX6_comes_21 : decode cX6_comes 21 = .ok (.iload_n 2, 1) := by decide +kernel
theorem dX6_comes_22 : decode cX6_comes 22 = .ok (.invokevirtual 211, 3) := by decide +kernel
theorem dX6_comes_25 : decode cX6_comes 25 = .ok (.ifCond .eq 27, 3) := by decide +kernel
theorem dX6_comes_28 : decode cX6_comes 28 = .ok (.iload_n 1, 1) := by decide +kernel
theorem dX6_comes_29 : decode cX6_comes 29 = .ok (.aload_n 0, 1) := by decide +kernel
theorem dX6_comes_30 : decode cX6_comes 30 = .ok (.iload_n 2, 1) := by decide +kernel
theorem dX6_comes_31 : decode cX6_comes 31 = .ok (.invokevirtual 254, 3) := by decide +kernel
theorem dX6_comes_34 : decode cX6_comes 34 = .ok (.ldc 19, 2) := by decide +kernel
theorem dX6_comes_36 : decode cX6_comes 36 = .ok (.if_icmp .ne 7, 3) := by decide +kernel
theorem dX6_comes_39 : decode cX6_comes 39 = .ok (.iconst 0, 1) := by decide +kernel
theorem dX6_comes_40 : decode cX6_comes 40 = .ok (.goto 4, 3) := by decide +kernel
theorem dX6_comes_43 : decode cX6_comes 43 = .ok (.iconst 1, 1) := by decide +kernel
theorem dX6_comes_44 : decode cX6_comes 44 = .ok (.iadd, 1) := by decide +kernel
theorem dX6_comes_45 : decode cX6_comes 45 = .ok (.istore_n 1, 1) := by decide +kernel
theorem dX6_comes_46 : decode cX6_comes 46 = .ok (.iinc 2 1, 3) := by decide +kernel
theorem dX6_comes_49 : decode cX6_comes 49 = .ok (.goto (-29), 3) := by decide +kernel
theorem dX6_comes_52 : decode cX6_comes 52 = .ok (.iload_n 1, 1) := by decide +kernel
theorem dX6_comes_53 : decode cX6_comes 53 = .ok (.ireturn, 1) := by decide +kernel
theorem dX6_round_0 : decode cX6_round 0 = .ok (.aload_n 0, 1) := by decide +kernel
theorem dX6_round_1 : decode cX6_round 1 = .ok (.iload_n 1, 1) := by decide +kernel
theorem dX6_round_2 : decode cX6_round 2 = .ok (.invokevirtual 190, 3) := by decide +kernel
theorem dX6_round_5 : decode cX6_round 5 = .ok (.ifCond .eq 13, 3) := by decide +kernel
theorem dX6_round_8 : decode cX6_round 8 = .ok (.iload_n 2, 1) := by decide +kernel
theorem dX6_round_9 : decode cX6_round 9 = .ok (.i2l, 1) := by decide +kernel
theorem dX6_round_10 : decode cX6_round 10 = .ok (.lconst 0, 1) := by decide +kernel
theorem dX6_round_11 : decode cX6_round 11 = .ok (.lconst 1, 1) := by decide +kernel
theorem dX6_round_12 : decode cX6_round 12 = .ok (.invokestatic 61, 3) := by decide +kernel
theorem dX6_round_15 : decode cX6_round 15 = .ok (.ifCond .ne 6, 3) := by decide +kernel
theorem dX6_round_18 : decode cX6_round 18 = .ok (.ldc 71, 2) := by decide +kernel
theorem dX6_round_20 : decode cX6_round 20 = .ok (.ireturn, 1) := by decide +kernel
theorem dX6_round_21 : decode cX6_round 21 = .ok (.iconst 0, 1) := by decide +kernel
theorem dX6_round_22 : decode cX6_round 22 = .ok (.istore_n 3, 1) := by decide +kernel
theorem dX6_round_23 : decode cX6_round 23 = .ok (.iload_n 3, 1) := by decide +kernel
theorem dX6_round_24 : decode cX6_round 24 = .ok (.sipush 7776, 3) := by decide +kernel
theorem dX6_round_27 : decode cX6_round 27 = .ok (.if_icmp .ge 17, 3) := by decide +kernel
theorem dX6_round_30 : decode cX6_round 30 = .ok (.aload_n 0, 1) := by decide +kernel
theorem dX6_round_31 : decode cX6_round 31 = .ok (.getfield 42, 3) := by decide +kernel
theorem dX6_round_34 : decode cX6_round 34 = .ok (.iload_n 3, 1) := by decide +kernel
theorem dX6_round_35 : decode cX6_round 35 = .ok (.ldc 19, 2) := by decide +kernel
theorem dX6_round_37 : decode cX6_round 37 = .ok (.iastore, 1) := by decide +kernel
theorem dX6_round_38 : decode cX6_round 38 = .ok (.iinc 3 1, 3) := by decide +kernel
theorem dX6_round_41 : decode cX6_round 41 = .ok (.goto (-18), 3) := by decide +kernel
theorem dX6_round_44 : decode cX6_round 44 = .ok (.aload_n 0, 1) := by decide +kernel
theorem dX6_round_45 : decode cX6_round 45 = .ok (.iconst 0, 1) := by decide +kernel
theorem dX6_round_46 : decode cX6_round 46 = .ok (.sipush 174, 3) := by decide +kernel
theorem dX6_round_49 : decode cX6_round 49 = .ok (.invokevirtual 224, 3) := by decide +kernel
theorem dX6_round_52 : decode cX6_round 52 = .ok (.iconst 0, 1) := by decide +kernel
theorem dX6_round_53 : decode cX6_round 53 = .ok (.istore_n 3, 1) := by decide +kernel
theorem dX6_round_54 : decode cX6_round 54 = .ok (.aload_n 0, 1) := by decide +kernel
theorem dX6_round_55 : decode cX6_round 55 = .ok (.invokevirtual 236, 3) := by decide +kernel
theorem dX6_round_58 : decode cX6_round 58 = .ok (.istore 4, 2) := by decide +kernel
theorem dX6_round_60 : decode cX6_round 60 = .ok (.aload_n 0, 1) := by decide +kernel
theorem dX6_round_61 : decode cX6_round 61 = .ok (.getfield 42, 3) := by decide +kernel
theorem dX6_round_64 : decode cX6_round 64 = .ok (.iload 4, 2) := by decide +kernel
theorem dX6_round_66 : decode cX6_round 66 = .ok (.iaload, 1) := by decide +kernel
theorem dX6_round_67 : decode cX6_round 67 = .ok (.ldc 19, 2) := by decide +kernel
theorem dX6_round_69 : decode cX6_round 69 = .ok (.if_icmp .ne 26, 3) := by decide +kernel
theorem dX6_round_72 : decode cX6_round 72 = .ok (.aload_n 0, 1) := by decide +kernel
theorem dX6_round_73 : decode cX6_round 73 = .ok (.getfield 42, 3) := by decide +kernel
theorem dX6_round_76 : decode cX6_round 76 = .ok (.iload 4, 2) := by decide +kernel
theorem dX6_round_78 : decode cX6_round 78 = .ok (.iload_n 3, 1) := by decide +kernel
theorem dX6_round_79 : decode cX6_round 79 = .ok (.iastore, 1) := by decide +kernel
theorem dX6_round_80 : decode cX6_round 80 = .ok (.iinc 3 1, 3) := by decide +kernel
theorem dX6_round_83 : decode cX6_round 83 = .ok (.aload_n 0, 1) := by decide +kernel
theorem dX6_round_84 : decode cX6_round 84 = .ok (.iload 4, 2) := by decide +kernel
theorem dX6_round_86 : decode cX6_round 86 = .ok (.iload_n 1, 1) := by decide +kernel
theorem dX6_round_87 : decode cX6_round 87 = .ok (.invokevirtual 241, 3) := by decide +kernel
theorem dX6_round_90 : decode cX6_round 90 = .ok (.istore 4, 2) := by decide +kernel
theorem dX6_round_92 : decode cX6_round 92 = .ok (.goto (-32), 3) := by decide +kernel
theorem dX6_round_95 : decode cX6_round 95 = .ok (.iload_n 2, 1) := by decide +kernel
theorem dX6_round_96 : decode cX6_round 96 = .ok (.ifCond .ne 13, 3) := by decide +kernel
theorem dX6_round_99 : decode cX6_round 99 = .ok (.aload_n 0, 1) := by decide +kernel
theorem dX6_round_100 : decode cX6_round 100 = .ok (.getfield 42, 3) := by decide +kernel
theorem dX6_round_103 : decode cX6_round 103 = .ok (.iload 4, 2) := by decide +kernel
theorem dX6_round_105 : decode cX6_round 105 = .ok (.iaload, 1) := by decide +kernel
theorem dX6_round_106 : decode cX6_round 106 = .ok (.goto 12, 3) := by decide +kernel
theorem dX6_round_109 : decode cX6_round 109 = .ok (.iload_n 3, 1) := by decide +kernel
theorem dX6_round_110 : decode cX6_round 110 = .ok (.aload_n 0, 1) := by decide +kernel
theorem dX6_round_111 : decode cX6_round 111 = .ok (.getfield 42, 3) := by decide +kernel
theorem dX6_round_114 : decode cX6_round 114 = .ok (.iload 4, 2) := by decide +kernel
theorem dX6_round_116 : decode cX6_round 116 = .ok (.iaload, 1) := by decide +kernel
theorem dX6_round_117 : decode cX6_round 117 = .ok (.isub, 1) := by decide +kernel
theorem dX6_round_118 : decode cX6_round 118 = .ok (.ireturn, 1) := by decide +kernel
theorem dX6_sticks_0 : decode cX6_sticks 0 = .ok (.aload_n 0, 1) := by decide +kernel
theorem dX6_sticks_1 : decode cX6_sticks 1 = .ok (.getfield 7, 3) := by decide +kernel
theorem dX6_sticks_4 : decode cX6_sticks 4 = .ok (.iconst 0, 1) := by decide +kernel
theorem dX6_sticks_5 : decode cX6_sticks 5 = .ok (.iaload, 1) := by decide +kernel
theorem dX6_sticks_6 : decode cX6_sticks 6 = .ok (.ifCond .ne 6, 3) := by decide +kernel
theorem dX6_sticks_9 : decode cX6_sticks 9 = .ok (.ldc 202, 2) := by decide +kernel
theorem dX6_sticks_11 : decode cX6_sticks 11 = .ok (.ireturn, 1) := by decide +kernel
theorem dX6_sticks_12 : decode cX6_sticks 12 = .ok (.iload_n 1, 1) := by decide +kernel
theorem dX6_sticks_13 : decode cX6_sticks 13 = .ok (.invokestatic 65, 3) := by decide +kernel
theorem dX6_sticks_16 : decode cX6_sticks 16 = .ok (.ifCond .eq 15, 3) := by decide +kernel
theorem dX6_sticks_19 : decode cX6_sticks 19 = .ok (.iload_n 3, 1) := by decide +kernel
theorem dX6_sticks_20 : decode cX6_sticks 20 = .ok (.i2l, 1) := by decide +kernel
theorem dX6_sticks_21 : decode cX6_sticks 21 = .ok (.lconst 0, 1) := by decide +kernel
theorem dX6_sticks_22 : decode cX6_sticks 22 = .ok (.ldc2_w 219, 3) := by decide +kernel
theorem dX6_sticks_25 : decode cX6_sticks 25 = .ok (.invokestatic 61, 3) := by decide +kernel
theorem dX6_sticks_28 : decode cX6_sticks 28 = .ok (.ifCond .ne 6, 3) := by decide +kernel
theorem dX6_sticks_31 : decode cX6_sticks 31 = .ok (.ldc 71, 2) := by decide +kernel
theorem dX6_sticks_33 : decode cX6_sticks 33 = .ok (.ireturn, 1) := by decide +kernel
theorem dX6_sticks_34 : decode cX6_sticks 34 = .ok (.aload_n 0, 1) := by decide +kernel
theorem dX6_sticks_35 : decode cX6_sticks 35 = .ok (.iload_n 1, 1) := by decide +kernel
theorem dX6_sticks_36 : decode cX6_sticks 36 = .ok (.iload_n 2, 1) := by decide +kernel
theorem dX6_sticks_37 : decode cX6_sticks 37 = .ok (.iload_n 3, 1) := by decide +kernel
theorem dX6_sticks_38 : decode cX6_sticks 38 = .ok (.invokevirtual 221, 3) := by decide +kernel
theorem dX6_sticks_41 : decode cX6_sticks 41 = .ok (.istore 4, 2) := by decide +kernel
theorem dX6_sticks_43 : decode cX6_sticks 43 = .ok (.iload 4, 2) := by decide +kernel
theorem dX6_sticks_45 : decode cX6_sticks 45 = .ok (.ifCond .eq 6, 3) := by decide +kernel
theorem dX6_sticks_48 : decode cX6_sticks 48 = .ok (.iload 4, 2) := by decide +kernel
theorem dX6_sticks_50 : decode cX6_sticks 50 = .ok (.ireturn, 1) := by decide +kernel
theorem dX6_sticks_51 : decode cX6_sticks 51 = .ok (.iconst 0, 1) := by decide +kernel
theorem dX6_sticks_52 : decode cX6_sticks 52 = .ok (.istore 5, 2) := by decide +kernel
theorem dX6_sticks_54 : decode cX6_sticks 54 = .ok (.iconst 0, 1) := by decide +kernel
theorem dX6_sticks_55 : decode cX6_sticks 55 = .ok (.istore 6, 2) := by decide +kernel
theorem dX6_sticks_57 : decode cX6_sticks 57 = .ok (.iload 6, 2) := by decide +kernel
theorem dX6_sticks_59 : decode cX6_sticks 59 = .ok (.aload_n 0, 1) := by decide +kernel
theorem dX6_sticks_60 : decode cX6_sticks 60 = .ok (.getfield 7, 3) := by decide +kernel
theorem dX6_sticks_63 : decode cX6_sticks 63 = .ok (.iconst 2, 1) := by decide +kernel
theorem dX6_sticks_64 : decode cX6_sticks 64 = .ok (.iaload, 1) := by decide +kernel
theorem dX6_sticks_65 : decode cX6_sticks 65 = .ok (.if_icmp .ge 50, 3) := by decide +kernel
theorem dX6_sticks_68 : decode cX6_sticks 68 = .ok (.aload_n 0, 1) := by decide +kernel
theorem dX6_sticks_69 : decode cX6_sticks 69 = .ok (.iconst 0, 1) := by decide +kernel
theorem dX6_sticks_70 : decode cX6_sticks 70 = .ok (.sipush 174, 3) := by decide +kernel
theorem dX6_sticks_73 : decode cX6_sticks 73 = .ok (.invokevirtual 224, 3) := by decide +kernel
theorem dX6_sticks_76 : decode cX6_sticks 76 = .ok (.aload_n 0, 1) := by decide +kernel
theorem dX6_sticks_77 : decode cX6_sticks 77 = .ok (.iload 6, 2) := by decide +kernel
theorem dX6_sticks_79 : decode cX6_sticks 79 = .ok (.putfield 32, 3) := by decide +kernel
theorem dX6_sticks_82 : decode cX6_sticks 82 = .ok (.iload 5, 2) := by decide +kernel
theorem dX6_sticks_84 : decode cX6_sticks 84 = .ok (.aload_n 0, 1) := by decide +kernel
theorem dX6_sticks_85 : decode cX6_sticks 85 = .ok (.bipush 40, 2) := by decide +kernel
theorem dX6_sticks_87 : decode cX6_sticks 87 = .ok (.iload_n 1, 1) := by decide +kernel
theorem dX6_sticks_88 : decode cX6_sticks 88 = .ok (.imul, 1) := by decide +kernel
theorem dX6_sticks_89 : decode cX6_sticks 89 = .ok (.iload_n 2, 1) := by decide +kernel
theorem dX6_sticks_90 : decode cX6_sticks 90 = .ok (.iadd, 1) := by decide +kernel
theorem dX6_sticks_91 : decode cX6_sticks 91 = .ok (.iload_n 3, 1) := by decide +kernel
theorem dX6_sticks_92 : decode cX6_sticks 92 = .ok (.invokevirtual 227, 3) := by decide +kernel
theorem dX6_sticks_95 : decode cX6_sticks 95 = .ok (.ifCond .eq 10, 3) := by decide +kernel
theorem dX6_sticks_98 : decode cX6_sticks 98 = .ok (.iconst 1, 1) := by decide +kernel
theorem dX6_sticks_99 : decode cX6_sticks 99 = .ok (.iload 6, 2) := by decide +kernel
theorem dX6_sticks_101 : decode cX6_sticks 101 = .ok (.ishl, 1) := by decide +kernel
theorem dX6_sticks_102 : decode cX6_sticks 102 = .ok (.goto 4, 3) := by decide +kernel
theorem dX6_sticks_105 : decode cX6_sticks 105 = .ok (.iconst 0, 1) := by decide +kernel
theorem dX6_sticks_106 : decode cX6_sticks 106 = .ok (.ior, 1) := by decide +kernel
theorem dX6_sticks_107 : decode cX6_sticks 107 = .ok (.istore 5, 2) := by decide +kernel
theorem dX6_sticks_109 : decode cX6_sticks 109 = .ok (.iinc 6 1, 3) := by decide +kernel
theorem dX6_sticks_112 : decode cX6_sticks 112 = .ok (.goto (-55), 3) := by decide +kernel
theorem dX6_sticks_115 : decode cX6_sticks 115 = .ok (.aload_n 0, 1) := by decide +kernel
theorem dX6_sticks_116 : decode cX6_sticks 116 = .ok (.ldc 19, 2) := by decide +kernel
theorem dX6_sticks_118 : decode cX6_sticks 118 = .ok (.putfield 32, 3) := by decide +kernel
theorem dX6_sticks_121 : decode cX6_sticks 121 = .ok (.aload_n 0, 1) := by decide +kernel
theorem dX6_sticks_122 : decode cX6_sticks 122 = .ok (.iload 5, 2) := by decide +kernel
theorem dX6_sticks_124 : decode cX6_sticks 124 = .ok (.invokevirtual 76, 3) := by decide +kernel
theorem dX6_sticks_127 : decode cX6_sticks 127 = .ok (.ireturn, 1) := by decide +kernel
theorem dX6_layPens_0 : decode cX6_layPens 0 = .ok (.iconst 0, 1) := by decide +kernel
theorem dX6_layPens_1 : decode cX6_layPens 1 = .ok (.istore_n 3, 1) := by decide +kernel
theorem dX6_layPens_2 : decode cX6_layPens 2 = .ok (.iload_n 3, 1) := by decide +kernel
theorem dX6_layPens_3 : decode cX6_layPens 3 = .ok (.iload_n 2, 1) := by decide +kernel
theorem dX6_layPens_4 : decode cX6_layPens 4 = .ok (.if_icmp .ge 30, 3) := by decide +kernel
theorem dX6_layPens_7 : decode cX6_layPens 7 = .ok (.aload_n 0, 1) := by decide +kernel
theorem dX6_layPens_8 : decode cX6_layPens 8 = .ok (.getfield 52, 3) := by decide +kernel
theorem dX6_layPens_11 : decode cX6_layPens 11 = .ok (.iload_n 3, 1) := by decide +kernel
theorem dX6_layPens_12 : decode cX6_layPens 12 = .ok (.aload_n 0, 1) := by decide +kernel
theorem dX6_layPens_13 : decode cX6_layPens 13 = .ok (.sipush 174, 3) := by decide +kernel
theorem dX6_layPens_16 : decode cX6_layPens 16 = .ok (.aload_n 0, 1) := by decide +kernel
theorem dX6_layPens_17 : decode cX6_layPens 17 = .ok (.getfield 26, 3) := by decide +kernel
theorem dX6_layPens_20 : decode cX6_layPens 20 = .ok (.iload_n 1, 1) := by decide +kernel
theorem dX6_layPens_21 : decode cX6_layPens 21 = .ok (.iload_n 3, 1) := by decide +kernel
theorem dX6_layPens_22 : decode cX6_layPens 22 = .ok (.iadd, 1) := by decide +kernel
theorem dX6_layPens_23 : decode cX6_layPens 23 = .ok (.iaload, 1) := by decide +kernel
theorem dX6_layPens_24 : decode cX6_layPens 24 = .ok (.invokevirtual 187, 3) := by decide +kernel
theorem dX6_layPens_27 : decode cX6_layPens 27 = .ok (.iastore, 1) := by decide +kernel
theorem dX6_layPens_28 : decode cX6_layPens 28 = .ok (.iinc 3 1, 3) := by decide +kernel
theorem dX6_layPens_31 : decode cX6_layPens 31 = .ok (.goto (-29), 3) := by decide +kernel
theorem dX6_layPens_34 : decode cX6_layPens 34 = .ok (.return_, 1) := by decide +kernel
theorem dX6_theft_0 : decode cX6_theft 0 = .ok (.aload_n 0, 1) := by decide +kernel
theorem dX6_theft_1 : decode cX6_theft 1 = .ok (.getfield 7, 3) := by decide +kernel
theorem dX6_theft_4 : decode cX6_theft 4 = .ok (.iconst 0, 1) := by decide +kernel
theorem dX6_theft_5 : decode cX6_theft 5 = .ok (.iaload, 1) := by decide +kernel
theorem dX6_theft_6 : decode cX6_theft 6 = .ok (.ifCond .ne 6, 3) := by decide +kernel
theorem dX6_theft_9 : decode cX6_theft 9 = .ok (.ldc 202, 2) := by decide +kernel
theorem dX6_theft_11 : decode cX6_theft 11 = .ok (.ireturn, 1) := by decide +kernel
theorem dX6_theft_12 : decode cX6_theft 12 = .ok (.aload_n 0, 1) := by decide +kernel
theorem dX6_theft_13 : decode cX6_theft 13 = .ok (.iload_n 1, 1) := by decide +kernel
theorem dX6_theft_14 : decode cX6_theft 14 = .ok (.invokevirtual 190, 3) := by decide +kernel
theorem dX6_theft_17 : decode cX6_theft 17 = .ok (.ifCond .eq 23, 3) := by decide +kernel
theorem dX6_theft_20 : decode cX6_theft 20 = .ok (.iload_n 2, 1) := by decide +kernel
theorem dX6_theft_21 : decode cX6_theft 21 = .ok (.invokestatic 65, 3) := by decide +kernel
theorem dX6_theft_24 : decode cX6_theft 24 = .ok (.ifCond .eq 16, 3) := by decide +kernel
theorem dX6_theft_27 : decode cX6_theft 27 = .ok (.iload 4, 2) := by decide +kernel
theorem dX6_theft_29 : decode cX6_theft 29 = .ok (.i2l, 1) := by decide +kernel
theorem dX6_theft_30 : decode cX6_theft 30 = .ok (.lconst 0, 1) := by decide +kernel
theorem dX6_theft_31 : decode cX6_theft 31 = .ok (.ldc2_w 203, 3) := by decide +kernel
theorem dX6_theft_34 : decode cX6_theft 34 = .ok (.invokestatic 61, 3) := by decide +kernel
theorem dX6_theft_37 : decode cX6_theft 37 = .ok (.ifCond .ne 6, 3) := by decide +kernel
theorem dX6_theft_40 : decode cX6_theft 40 = .ok (.ldc 71, 2) := by decide +kernel
theorem dX6_theft_42 : decode cX6_theft 42 = .ok (.ireturn, 1) := by decide +kernel
theorem dX6_theft_43 : decode cX6_theft 43 = .ok (.aload_n 0, 1) := by decide +kernel
theorem dX6_theft_44 : decode cX6_theft 44 = .ok (.iload_n 2, 1) := by decide +kernel
theorem dX6_theft_45 : decode cX6_theft 45 = .ok (.iload_n 3, 1) := by decide +kernel
theorem dX6_theft_46 : decode cX6_theft 46 = .ok (.iload 4, 2) := by decide +kernel
theorem dX6_theft_48 : decode cX6_theft 48 = .ok (.invokevirtual 205, 3) := by decide +kernel
theorem dX6_theft_51 : decode cX6_theft 51 = .ok (.istore 5, 2) := by decide +kernel
theorem dX6_theft_53 : decode cX6_theft 53 = .ok (.iload 5, 2) := by decide +kernel
theorem dX6_theft_55 : decode cX6_theft 55 = .ok (.ifCond .eq 6, 3) := by decide +kernel
theorem dX6_theft_58 : decode cX6_theft 58 = .ok (.iload 5, 2) := by decide +kernel
theorem dX6_theft_60 : decode cX6_theft 60 = .ok (.ireturn, 1) := by decide +kernel
theorem dX6_theft_61 : decode cX6_theft 61 = .ok (.aload_n 0, 1) := by decide +kernel
theorem dX6_theft_62 : decode cX6_theft 62 = .ok (.bipush 40, 2) := by decide +kernel
theorem dX6_theft_64 : decode cX6_theft 64 = .ok (.iload_n 2, 1) := by decide +kernel
theorem dX6_theft_65 : decode cX6_theft 65 = .ok (.imul, 1) := by decide +kernel
theorem dX6_theft_66 : decode cX6_theft 66 = .ok (.iload_n 3, 1) := by decide +kernel
theorem dX6_theft_67 : decode cX6_theft 67 = .ok (.iadd, 1) := by decide +kernel
theorem dX6_theft_68 : decode cX6_theft 68 = .ok (.iload 4, 2) := by decide +kernel
theorem dX6_theft_70 : decode cX6_theft 70 = .ok (.invokevirtual 208, 3) := by decide +kernel
theorem dX6_theft_73 : decode cX6_theft 73 = .ok (.ifCond .ne 6, 3) := by decide +kernel
theorem dX6_theft_76 : decode cX6_theft 76 = .ok (.ldc 71, 2) := by decide +kernel
theorem dX6_theft_78 : decode cX6_theft 78 = .ok (.ireturn, 1) := by decide +kernel
theorem dX6_theft_79 : decode cX6_theft 79 = .ok (.aload_n 0, 1) := by decide +kernel
theorem dX6_theft_80 : decode cX6_theft 80 = .ok (.iconst 0, 1) := by decide +kernel
theorem dX6_theft_81 : decode cX6_theft 81 = .ok (.sipush 174, 3) := by decide +kernel
theorem dX6_theft_84 : decode cX6_theft 84 = .ok (.invokevirtual 224, 3) := by decide +kernel
theorem dX6_theft_87 : decode cX6_theft 87 = .ok (.aload_n 0, 1) := by decide +kernel
theorem dX6_theft_88 : decode cX6_theft 88 = .ok (.bipush 40, 2) := by decide +kernel
theorem dX6_theft_90 : decode cX6_theft 90 = .ok (.iload_n 2, 1) := by decide +kernel
theorem dX6_theft_91 : decode cX6_theft 91 = .ok (.imul, 1) := by decide +kernel
theorem dX6_theft_92 : decode cX6_theft 92 = .ok (.iload_n 3, 1) := by decide +kernel
theorem dX6_theft_93 : decode cX6_theft 93 = .ok (.iadd, 1) := by decide +kernel
theorem dX6_theft_94 : decode cX6_theft 94 = .ok (.iload 4, 2) := by decide +kernel
theorem dX6_theft_96 : decode cX6_theft 96 = .ok (.invokevirtual 260, 3) := by decide +kernel
theorem dX6_theft_99 : decode cX6_theft 99 = .ok (.aload_n 0, 1) := by decide +kernel
theorem dX6_theft_100 : decode cX6_theft 100 = .ok (.iconst 0, 1) := by decide +kernel
theorem dX6_theft_101 : decode cX6_theft 101 = .ok (.sipush 174, 3) := by decide +kernel
theorem dX6_theft_104 : decode cX6_theft 104 = .ok (.invokevirtual 224, 3) := by decide +kernel
theorem dX6_theft_107 : decode cX6_theft 107 = .ok (.aload_n 0, 1) := by decide +kernel
theorem dX6_theft_108 : decode cX6_theft 108 = .ok (.sipush 174, 3) := by decide +kernel
theorem dX6_theft_111 : decode cX6_theft 111 = .ok (.iload_n 1, 1) := by decide +kernel
theorem dX6_theft_112 : decode cX6_theft 112 = .ok (.invokevirtual 187, 3) := by decide +kernel
theorem dX6_theft_115 : decode cX6_theft 115 = .ok (.pop, 1) := by decide +kernel
theorem dX6_theft_116 : decode cX6_theft 116 = .ok (.iconst 0, 1) := by decide +kernel
theorem dX6_theft_117 : decode cX6_theft 117 = .ok (.istore 6, 2) := by decide +kernel
theorem dX6_theft_119 : decode cX6_theft 119 = .ok (.iconst 0, 1) := by decide +kernel
theorem dX6_theft_120 : decode cX6_theft 120 = .ok (.istore 7, 2) := by decide +kernel
theorem dX6_theft_122 : decode cX6_theft 122 = .ok (.iload 7, 2) := by decide +kernel
theorem dX6_theft_124 : decode cX6_theft 124 = .ok (.iload 4, 2) := by decide +kernel
theorem dX6_theft_126 : decode cX6_theft 126 = .ok (.if_icmp .ge 50, 3) := by decide +kernel
theorem dX6_theft_129 : decode cX6_theft 129 = .ok (.iload 6, 2) := by decide +kernel
theorem dX6_theft_131 : decode cX6_theft 131 = .ok (.aload_n 0, 1) := by decide +kernel
theorem dX6_theft_132 : decode cX6_theft 132 = .ok (.sipush 174, 3) := by decide +kernel
theorem dX6_theft_135 : decode cX6_theft 135 = .ok (.aload_n 0, 1) := by decide +kernel
theorem dX6_theft_136 : decode cX6_theft 136 = .ok (.getfield 26, 3) := by decide +kernel
theorem dX6_theft_139 : decode cX6_theft 139 = .ok (.bipush 40, 2) := by decide +kernel
theorem dX6_theft_141 : decode cX6_theft 141 = .ok (.iload_n 2, 1) := by decide +kernel
theorem dX6_theft_142 : decode cX6_theft 142 = .ok (.imul, 1) := by decide +kernel
theorem dX6_theft_143 : decode cX6_theft 143 = .ok (.iload_n 3, 1) := by decide +kernel
theorem dX6_theft_144 : decode cX6_theft 144 = .ok (.iadd, 1) := by decide +kernel
theorem dX6_theft_145 : decode cX6_theft 145 = .ok (.iload 7, 2) := by decide +kernel
theorem dX6_theft_147 : decode cX6_theft 147 = .ok (.iadd, 1) := by decide +kernel
theorem dX6_theft_148 : decode cX6_theft 148 = .ok (.iaload, 1) := by decide +kernel
theorem dX6_theft_149 : decode cX6_theft 149 = .ok (.invokevirtual 187, 3) := by decide +kernel
theorem dX6_theft_152 : decode cX6_theft 152 = .ok (.aload_n 0, 1) := by decide +kernel
theorem dX6_theft_153 : decode cX6_theft 153 = .ok (.getfield 52, 3) := by decide +kernel
theorem dX6_theft_156 : decode cX6_theft 156 = .ok (.iload 7, 2) := by decide +kernel
theorem dX6_theft_158 : decode cX6_theft 158 = .ok (.iaload, 1) := by decide +kernel
theorem dX6_theft_159 : decode cX6_theft 159 = .ok (.if_icmp .ne 7, 3) := by decide +kernel
theorem dX6_theft_162 : decode cX6_theft 162 = .ok (.iconst 0, 1) := by decide +kernel
theorem dX6_theft_163 : decode cX6_theft 163 = .ok (.goto 4, 3) := by decide +kernel
theorem dX6_theft_166 : decode cX6_theft 166 = .ok (.iconst 1, 1) := by decide +kernel
theorem dX6_theft_167 : decode cX6_theft 167 = .ok (.iadd, 1) := by decide +kernel
theorem dX6_theft_168 : decode cX6_theft 168 = .ok (.istore 6, 2) := by decide +kernel
theorem dX6_theft_170 : decode cX6_theft 170 = .ok (.iinc 7 1, 3) := by decide +kernel
theorem dX6_theft_173 : decode cX6_theft 173 = .ok (.goto (-51), 3) := by decide +kernel
theorem dX6_theft_176 : decode cX6_theft 176 = .ok (.aload_n 0, 1) := by decide +kernel
theorem dX6_theft_177 : decode cX6_theft 177 = .ok (.iload 6, 2) := by decide +kernel
theorem dX6_theft_179 : decode cX6_theft 179 = .ok (.invokevirtual 76, 3) := by decide +kernel
theorem dX6_theft_182 : decode cX6_theft 182 = .ok (.ireturn, 1) := by decide +kernel
theorem dX6_mixed_0 : decode cX6_mixed 0 = .ok (.aload_n 0, 1) := by decide +kernel
theorem dX6_mixed_1 : decode cX6_mixed 1 = .ok (.getfield 7, 3) := by decide +kernel
theorem dX6_mixed_4 : decode cX6_mixed 4 = .ok (.iconst 0, 1) := by decide +kernel
theorem dX6_mixed_5 : decode cX6_mixed 5 = .ok (.iaload, 1) := by decide +kernel
theorem dX6_mixed_6 : decode cX6_mixed 6 = .ok (.ifCond .ne 6, 3) := by decide +kernel
theorem dX6_mixed_9 : decode cX6_mixed 9 = .ok (.ldc 202, 2) := by decide +kernel
theorem dX6_mixed_11 : decode cX6_mixed 11 = .ok (.ireturn, 1) := by decide +kernel
theorem dX6_mixed_12 : decode cX6_mixed 12 = .ok (.iload_n 1, 1) := by decide +kernel
theorem dX6_mixed_13 : decode cX6_mixed 13 = .ok (.invokestatic 65, 3) := by decide +kernel
theorem dX6_mixed_16 : decode cX6_mixed 16 = .ok (.ifCond .eq 15, 3) := by decide +kernel
theorem dX6_mixed_19 : decode cX6_mixed 19 = .ok (.iload_n 3, 1) := by decide +kernel
theorem dX6_mixed_20 : decode cX6_mixed 20 = .ok (.i2l, 1) := by decide +kernel
theorem dX6_mixed_21 : decode cX6_mixed 21 = .ok (.lconst 0, 1) := by decide +kernel
theorem dX6_mixed_22 : decode cX6_mixed 22 = .ok (.ldc2_w 203, 3) := by decide +kernel
theorem dX6_mixed_25 : decode cX6_mixed 25 = .ok (.invokestatic 61, 3) := by decide +kernel
theorem dX6_mixed_28 : decode cX6_mixed 28 = .ok (.ifCond .ne 6, 3) := by decide +kernel
theorem dX6_mixed_31 : decode cX6_mixed 31 = .ok (.ldc 71, 2) := by decide +kernel
theorem dX6_mixed_33 : decode cX6_mixed 33 = .ok (.ireturn, 1) := by decide +kernel
theorem dX6_mixed_34 : decode cX6_mixed 34 = .ok (.aload_n 0, 1) := by decide +kernel
theorem dX6_mixed_35 : decode cX6_mixed 35 = .ok (.iload_n 1, 1) := by decide +kernel
theorem dX6_mixed_36 : decode cX6_mixed 36 = .ok (.iload_n 2, 1) := by decide +kernel
theorem dX6_mixed_37 : decode cX6_mixed 37 = .ok (.iload_n 3, 1) := by decide +kernel
theorem dX6_mixed_38 : decode cX6_mixed 38 = .ok (.invokevirtual 205, 3) := by decide +kernel
theorem dX6_mixed_41 : decode cX6_mixed 41 = .ok (.istore 4, 2) := by decide +kernel
theorem dX6_mixed_43 : decode cX6_mixed 43 = .ok (.iload 4, 2) := by decide +kernel
theorem dX6_mixed_45 : decode cX6_mixed 45 = .ok (.ifCond .eq 6, 3) := by decide +kernel
theorem dX6_mixed_48 : decode cX6_mixed 48 = .ok (.iload 4, 2) := by decide +kernel
theorem dX6_mixed_50 : decode cX6_mixed 50 = .ok (.ireturn, 1) := by decide +kernel
theorem dX6_mixed_51 : decode cX6_mixed 51 = .ok (.aload_n 0, 1) := by decide +kernel
theorem dX6_mixed_52 : decode cX6_mixed 52 = .ok (.bipush 40, 2) := by decide +kernel
theorem dX6_mixed_54 : decode cX6_mixed 54 = .ok (.iload_n 1, 1) := by decide +kernel
theorem dX6_mixed_55 : decode cX6_mixed 55 = .ok (.imul, 1) := by decide +kernel
theorem dX6_mixed_56 : decode cX6_mixed 56 = .ok (.iload_n 2, 1) := by decide +kernel
theorem dX6_mixed_57 : decode cX6_mixed 57 = .ok (.iadd, 1) := by decide +kernel
theorem dX6_mixed_58 : decode cX6_mixed 58 = .ok (.iload_n 3, 1) := by decide +kernel
theorem dX6_mixed_59 : decode cX6_mixed 59 = .ok (.invokevirtual 208, 3) := by decide +kernel
theorem dX6_mixed_62 : decode cX6_mixed 62 = .ok (.ifCond .ne 6, 3) := by decide +kernel
theorem dX6_mixed_65 : decode cX6_mixed 65 = .ok (.ldc 71, 2) := by decide +kernel
theorem dX6_mixed_67 : decode cX6_mixed 67 = .ok (.ireturn, 1) := by decide +kernel
theorem dX6_mixed_68 : decode cX6_mixed 68 = .ok (.aload_n 0, 1) := by decide +kernel
theorem dX6_mixed_69 : decode cX6_mixed 69 = .ok (.iconst 0, 1) := by decide +kernel
theorem dX6_mixed_70 : decode cX6_mixed 70 = .ok (.sipush 174, 3) := by decide +kernel
theorem dX6_mixed_73 : decode cX6_mixed 73 = .ok (.invokevirtual 224, 3) := by decide +kernel
theorem dX6_mixed_76 : decode cX6_mixed 76 = .ok (.aload_n 0, 1) := by decide +kernel
theorem dX6_mixed_77 : decode cX6_mixed 77 = .ok (.bipush 40, 2) := by decide +kernel
theorem dX6_mixed_79 : decode cX6_mixed 79 = .ok (.iload_n 1, 1) := by decide +kernel
theorem dX6_mixed_80 : decode cX6_mixed 80 = .ok (.imul, 1) := by decide +kernel
theorem dX6_mixed_81 : decode cX6_mixed 81 = .ok (.iload_n 2, 1) := by decide +kernel
theorem dX6_mixed_82 : decode cX6_mixed 82 = .ok (.iadd, 1) := by decide +kernel
theorem dX6_mixed_83 : decode cX6_mixed 83 = .ok (.iload_n 3, 1) := by decide +kernel
theorem dX6_mixed_84 : decode cX6_mixed 84 = .ok (.invokevirtual 260, 3) := by decide +kernel
theorem dX6_mixed_87 : decode cX6_mixed 87 = .ok (.iconst 0, 1) := by decide +kernel
theorem dX6_mixed_88 : decode cX6_mixed 88 = .ok (.istore 5, 2) := by decide +kernel
theorem dX6_mixed_90 : decode cX6_mixed 90 = .ok (.iconst 0, 1) := by decide +kernel
theorem dX6_mixed_91 : decode cX6_mixed 91 = .ok (.istore 6, 2) := by decide +kernel
theorem dX6_mixed_93 : decode cX6_mixed 93 = .ok (.iload 6, 2) := by decide +kernel
theorem dX6_mixed_95 : decode cX6_mixed 95 = .ok (.iload_n 3, 1) := by decide +kernel
theorem dX6_mixed_96 : decode cX6_mixed 96 = .ok (.if_icmp .ge 123, 3) := by decide +kernel
theorem dX6_mixed_99 : decode cX6_mixed 99 = .ok (.iconst 0, 1) := by decide +kernel
theorem dX6_mixed_100 : decode cX6_mixed 100 = .ok (.istore 7, 2) := by decide +kernel
theorem dX6_mixed_102 : decode cX6_mixed 102 = .ok (.iload 7, 2) := by decide +kernel
theorem dX6_mixed_104 : decode cX6_mixed 104 = .ok (.iload 6, 2) := by decide +kernel
theorem dX6_mixed_106 : decode cX6_mixed 106 = .ok (.if_icmp .ge 107, 3) := by decide +kernel
theorem dX6_mixed_109 : decode cX6_mixed 109 = .ok (.aload_n 0, 1) := by decide +kernel
theorem dX6_mixed_110 : decode cX6_mixed 110 = .ok (.getfield 7, 3) := by decide +kernel
theorem dX6_mixed_113 : decode cX6_mixed 113 = .ok (.bipush 24, 2) := by decide +kernel
theorem dX6_mixed_115 : decode cX6_mixed 115 = .ok (.iconst 2, 1) := by decide +kernel
theorem dX6_mixed_116 : decode cX6_mixed 116 = .ok (.aload_n 0, 1) := by decide +kernel
theorem dX6_mixed_117 : decode cX6_mixed 117 = .ok (.getfield 26, 3) := by decide +kernel
theorem dX6_mixed_120 : decode cX6_mixed 120 = .ok (.bipush 40, 2) := by decide +kernel
theorem dX6_mixed_122 : decode cX6_mixed 122 = .ok (.iload_n 1, 1) := by decide +kernel
theorem dX6_mixed_123 : decode cX6_mixed 123 = .ok (.imul, 1) := by decide +kernel
theorem dX6_mixed_124 : decode cX6_mixed 124 = .ok (.iload_n 2, 1) := by decide +kernel
theorem dX6_mixed_125 : decode cX6_mixed 125 = .ok (.iadd, 1) := by decide +kernel
theorem dX6_mixed_126 : decode cX6_mixed 126 = .ok (.iload 6, 2) := by decide +kernel
theorem dX6_mixed_128 : decode cX6_mixed 128 = .ok (.iadd, 1) := by decide +kernel
theorem dX6_mixed_129 : decode cX6_mixed 129 = .ok (.iaload, 1) := by decide +kernel
theorem dX6_mixed_130 : decode cX6_mixed 130 = .ok (.imul, 1) := by decide +kernel
theorem dX6_mixed_131 : decode cX6_mixed 131 = .ok (.iadd, 1) := by decide +kernel
theorem dX6_mixed_132 : decode cX6_mixed 132 = .ok (.iaload, 1) := by decide +kernel
theorem dX6_mixed_133 : decode cX6_mixed 133 = .ok (.aload_n 0, 1) := by decide +kernel
theorem dX6_mixed_134 : decode cX6_mixed 134 = .ok (.getfield 7, 3) := by decide +kernel
theorem dX6_mixed_137 : decode cX6_mixed 137 = .ok (.bipush 24, 2) := by decide +kernel
theorem dX6_mixed_139 : decode cX6_mixed 139 = .ok (.iconst 2, 1) := by decide +kernel
theorem dX6_mixed_140 : decode cX6_mixed 140 = .ok (.aload_n 0, 1) := by decide +kernel
theorem dX6_mixed_141 : decode cX6_mixed 141 = .ok (.getfield 26, 3) := by decide +kernel
theorem dX6_mixed_144 : decode cX6_mixed 144 = .ok (.bipush 40, 2) := by decide +kernel
theorem dX6_mixed_146 : decode cX6_mixed 146 = .ok (.iload_n 1, 1) := by decide +kernel
theorem dX6_mixed_147 : decode cX6_mixed 147 = .ok (.imul, 1) := by decide +kernel
theorem dX6_mixed_148 : decode cX6_mixed 148 = .ok (.iload_n 2, 1) := by decide +kernel
theorem dX6_mixed_149 : decode cX6_mixed 149 = .ok (.iadd, 1) := by decide +kernel
theorem dX6_mixed_150 : decode cX6_mixed 150 = .ok (.iload 7, 2) := by decide +kernel
theorem dX6_mixed_152 : decode cX6_mixed 152 = .ok (.iadd, 1) := by decide +kernel
theorem dX6_mixed_153 : decode cX6_mixed 153 = .ok (.iaload, 1) := by decide +kernel
theorem dX6_mixed_154 : decode cX6_mixed 154 = .ok (.imul, 1) := by decide +kernel
theorem dX6_mixed_155 : decode cX6_mixed 155 = .ok (.iadd, 1) := by decide +kernel
theorem dX6_mixed_156 : decode cX6_mixed 156 = .ok (.iaload, 1) := by decide +kernel
theorem dX6_mixed_157 : decode cX6_mixed 157 = .ok (.if_icmp .eq 7, 3) := by decide +kernel
theorem dX6_mixed_160 : decode cX6_mixed 160 = .ok (.iconst 1, 1) := by decide +kernel
theorem dX6_mixed_161 : decode cX6_mixed 161 = .ok (.goto 4, 3) := by decide +kernel
theorem dX6_mixed_164 : decode cX6_mixed 164 = .ok (.iconst 0, 1) := by decide +kernel
theorem dX6_mixed_165 : decode cX6_mixed 165 = .ok (.istore 8, 2) := by decide +kernel
theorem dX6_mixed_167 : decode cX6_mixed 167 = .ok (.iload 5, 2) := by decide +kernel
theorem dX6_mixed_169 : decode cX6_mixed 169 = .ok (.iload 8, 2) := by decide +kernel
theorem dX6_mixed_171 : decode cX6_mixed 171 = .ok (.ifCond .eq 32, 3) := by decide +kernel
theorem dX6_mixed_174 : decode cX6_mixed 174 = .ok (.aload_n 0, 1) := by decide +kernel
theorem dX6_mixed_175 : decode cX6_mixed 175 = .ok (.getfield 52, 3) := by decide +kernel
theorem dX6_mixed_178 : decode cX6_mixed 178 = .ok (.iload 6, 2) := by decide +kernel
theorem dX6_mixed_180 : decode cX6_mixed 180 = .ok (.iaload, 1) := by decide +kernel
theorem dX6_mixed_181 : decode cX6_mixed 181 = .ok (.aload_n 0, 1) := by decide +kernel
theorem dX6_mixed_182 : decode cX6_mixed 182 = .ok (.getfield 52, 3) := by decide +kernel
theorem dX6_mixed_185 : decode cX6_mixed 185 = .ok (.iload 7, 2) := by decide +kernel
theorem dX6_mixed_187 : decode cX6_mixed 187 = .ok (.iaload, 1) := by decide +kernel
theorem dX6_mixed_188 : decode cX6_mixed 188 = .ok (.if_icmp .ne 15, 3) := by decide +kernel
theorem dX6_mixed_191 : decode cX6_mixed 191 = .ok (.iconst 1, 1) := by decide +kernel
theorem dX6_mixed_192 : decode cX6_mixed 192 = .ok (.aload_n 0, 1) := by decide +kernel
theorem dX6_mixed_193 : decode cX6_mixed 193 = .ok (.getfield 52, 3) := by decide +kernel
theorem dX6_mixed_196 : decode cX6_mixed 196 = .ok (.iload 6, 2) := by decide +kernel
theorem dX6_mixed_198 : decode cX6_mixed 198 = .ok (.iaload, 1) := by decide +kernel
theorem dX6_mixed_199 : decode cX6_mixed 199 = .ok (.ishl, 1) := by decide +kernel
theorem dX6_mixed_200 : decode cX6_mixed 200 = .ok (.goto 4, 3) := by decide +kernel
theorem dX6_mixed_203 : decode cX6_mixed 203 = .ok (.iconst 0, 1) := by decide +kernel
theorem dX6_mixed_204 : decode cX6_mixed 204 = .ok (.ior, 1) := by decide +kernel
theorem dX6_mixed_205 : decode cX6_mixed 205 = .ok (.istore 5, 2) := by decide +kernel
theorem dX6_mixed_207 : decode cX6_mixed 207 = .ok (.iinc 7 1, 3) := by decide +kernel
theorem dX6_mixed_210 : decode cX6_mixed 210 = .ok (.goto (-108), 3) := by decide +kernel
theorem dX6_mixed_213 : decode cX6_mixed 213 = .ok (.iinc 6 1, 3) := by decide +kernel
theorem dX6_mixed_216 : decode cX6_mixed 216 = .ok (.goto (-123), 3) := by decide +kernel
theorem dX6_mixed_219 : decode cX6_mixed 219 = .ok (.aload_n 0, 1) := by decide +kernel
theorem dX6_mixed_220 : decode cX6_mixed 220 = .ok (.iload 5, 2) := by decide +kernel
theorem dX6_mixed_222 : decode cX6_mixed 222 = .ok (.invokevirtual 76, 3) := by decide +kernel
theorem dX6_mixed_225 : decode cX6_mixed 225 = .ok (.ireturn, 1) := by decide +kernel
theorem dX6_image_0 : decode cX6_image 0 = .ok (.iload_n 1, 1) := by decide +kernel
theorem dX6_image_1 : decode cX6_image 1 = .ok (.i2l, 1) := by decide +kernel
theorem dX6_image_2 : decode cX6_image 2 = .ok (.lconst 0, 1) := by decide +kernel
theorem dX6_image_3 : decode cX6_image 3 = .ok (.lconst 1, 1) := by decide +kernel
theorem dX6_image_4 : decode cX6_image 4 = .ok (.invokestatic 61, 3) := by decide +kernel
theorem dX6_image_7 : decode cX6_image 7 = .ok (.ifCond .ne 6, 3) := by decide +kernel
theorem dX6_image_10 : decode cX6_image 10 = .ok (.ldc 71, 2) := by decide +kernel
theorem dX6_image_12 : decode cX6_image 12 = .ok (.ireturn, 1) := by decide +kernel
theorem dX6_image_13 : decode cX6_image 13 = .ok (.aload_n 0, 1) := by decide +kernel
theorem dX6_image_14 : decode cX6_image 14 = .ok (.getfield 7, 3) := by decide +kernel
theorem dX6_image_17 : decode cX6_image 17 = .ok (.iconst 0, 1) := by decide +kernel
theorem dX6_image_18 : decode cX6_image 18 = .ok (.iaload, 1) := by decide +kernel
theorem dX6_image_19 : decode cX6_image 19 = .ok (.ifCond .ne 6, 3) := by decide +kernel
theorem dX6_image_22 : decode cX6_image 22 = .ok (.ldc 202, 2) := by decide +kernel
theorem dX6_image_24 : decode cX6_image 24 = .ok (.ireturn, 1) := by decide +kernel
theorem dX6_image_25 : decode cX6_image 25 = .ok (.aload_n 0, 1) := by decide +kernel
theorem dX6_image_26 : decode cX6_image 26 = .ok (.iconst 0, 1) := by decide +kernel
theorem dX6_image_27 : decode cX6_image 27 = .ok (.bipush 58, 2) := by decide +kernel
theorem dX6_image_29 : decode cX6_image 29 = .ok (.iconst 1, 1) := by decide +kernel
theorem dX6_image_30 : decode cX6_image 30 = .ok (.iload_n 1, 1) := by decide +kernel
theorem dX6_image_31 : decode cX6_image 31 = .ok (.iadd, 1) := by decide +kernel
theorem dX6_image_32 : decode cX6_image 32 = .ok (.imul, 1) := by decide +kernel
theorem dX6_image_33 : decode cX6_image 33 = .ok (.invokevirtual 224, 3) := by decide +kernel
theorem dX6_image_36 : decode cX6_image 36 = .ok (.iconst 1, 1) := by decide +kernel
theorem dX6_image_37 : decode cX6_image 37 = .ok (.ireturn, 1) := by decide +kernel
theorem dX6_restore_0 : decode cX6_restore 0 = .ok (.iload_n 1, 1) := by decide +kernel
theorem dX6_restore_1 : decode cX6_restore 1 = .ok (.i2l, 1) := by decide +kernel
theorem dX6_restore_2 : decode cX6_restore 2 = .ok (.lconst 0, 1) := by decide +kernel
theorem dX6_restore_3 : decode cX6_restore 3 = .ok (.lconst 1, 1) := by decide +kernel
theorem dX6_restore_4 : decode cX6_restore 4 = .ok (.invokestatic 61, 3) := by decide +kernel
theorem dX6_restore_7 : decode cX6_restore 7 = .ok (.ifCond .ne 6, 3) := by decide +kernel
theorem dX6_restore_10 : decode cX6_restore 10 = .ok (.ldc 71, 2) := by decide +kernel
theorem dX6_restore_12 : decode cX6_restore 12 = .ok (.ireturn, 1) := by decide +kernel
theorem dX6_restore_13 : decode cX6_restore 13 = .ok (.aload_n 0, 1) := by decide +kernel
theorem dX6_restore_14 : decode cX6_restore 14 = .ok (.getfield 7, 3) := by decide +kernel
theorem dX6_restore_17 : decode cX6_restore 17 = .ok (.bipush 58, 2) := by decide +kernel
theorem dX6_restore_19 : decode cX6_restore 19 = .ok (.iconst 1, 1) := by decide +kernel
theorem dX6_restore_20 : decode cX6_restore 20 = .ok (.iload_n 1, 1) := by decide +kernel
theorem dX6_restore_21 : decode cX6_restore 21 = .ok (.iadd, 1) := by decide +kernel
theorem dX6_restore_22 : decode cX6_restore 22 = .ok (.imul, 1) := by decide +kernel
theorem dX6_restore_23 : decode cX6_restore 23 = .ok (.iconst 0, 1) := by decide +kernel
theorem dX6_restore_24 : decode cX6_restore 24 = .ok (.iadd, 1) := by decide +kernel
theorem dX6_restore_25 : decode cX6_restore 25 = .ok (.iaload, 1) := by decide +kernel
theorem dX6_restore_26 : decode cX6_restore 26 = .ok (.ifCond .ne 6, 3) := by decide +kernel
theorem dX6_restore_29 : decode cX6_restore 29 = .ok (.ldc 202, 2) := by decide +kernel
theorem dX6_restore_31 : decode cX6_restore 31 = .ok (.ireturn, 1) := by decide +kernel
theorem dX6_restore_32 : decode cX6_restore 32 = .ok (.aload_n 0, 1) := by decide +kernel
theorem dX6_restore_33 : decode cX6_restore 33 = .ok (.bipush 58, 2) := by decide +kernel
theorem dX6_restore_35 : decode cX6_restore 35 = .ok (.iconst 1, 1) := by decide +kernel
theorem dX6_restore_36 : decode cX6_restore 36 = .ok (.iload_n 1, 1) := by decide +kernel
theorem dX6_restore_37 : decode cX6_restore 37 = .ok (.iadd, 1) := by decide +kernel
theorem dX6_restore_38 : decode cX6_restore 38 = .ok (.imul, 1) := by decide +kernel
theorem dX6_restore_39 : decode cX6_restore 39 = .ok (.iconst 0, 1) := by decide +kernel
theorem dX6_restore_40 : decode cX6_restore 40 = .ok (.invokevirtual 224, 3) := by decide +kernel
theorem dX6_restore_43 : decode cX6_restore 43 = .ok (.aload_n 0, 1) := by decide +kernel
theorem dX6_restore_44 : decode cX6_restore 44 = .ok (.iconst 0, 1) := by decide +kernel
theorem dX6_restore_45 : decode cX6_restore 45 = .ok (.putfield 167, 3) := by decide +kernel
theorem dX6_restore_48 : decode cX6_restore 48 = .ok (.iconst 1, 1) := by decide +kernel
theorem dX6_restore_49 : decode cX6_restore 49 = .ok (.ireturn, 1) := by decide +kernel
theorem dX6_kind_0 : decode cX6_kind 0 = .ok (.aload_n 0, 1) := by decide +kernel
theorem dX6_kind_1 : decode cX6_kind 1 = .ok (.iload_n 1, 1) := by decide +kernel
theorem dX6_kind_2 : decode cX6_kind 2 = .ok (.invokevirtual 190, 3) := by decide +kernel
theorem dX6_kind_5 : decode cX6_kind 5 = .ok (.ifCond .eq 17, 3) := by decide +kernel
theorem dX6_kind_8 : decode cX6_kind 8 = .ok (.aload_n 0, 1) := by decide +kernel
theorem dX6_kind_9 : decode cX6_kind 9 = .ok (.getfield 7, 3) := by decide +kernel
theorem dX6_kind_12 : decode cX6_kind 12 = .ok (.bipush 24, 2) := by decide +kernel
theorem dX6_kind_14 : decode cX6_kind 14 = .ok (.iconst 2, 1) := by decide +kernel
theorem dX6_kind_15 : decode cX6_kind 15 = .ok (.iload_n 1, 1) := by decide +kernel
theorem dX6_kind_16 : decode cX6_kind 16 = .ok (.imul, 1) := by decide +kernel
theorem dX6_kind_17 : decode cX6_kind 17 = .ok (.iadd, 1) := by decide +kernel
theorem dX6_kind_18 : decode cX6_kind 18 = .ok (.iaload, 1) := by decide +kernel
theorem dX6_kind_19 : decode cX6_kind 19 = .ok (.goto 5, 3) := by decide +kernel
theorem dX6_kind_22 : decode cX6_kind 22 = .ok (.ldc 71, 2) := by decide +kernel
theorem dX6_kind_24 : decode cX6_kind 24 = .ok (.ireturn, 1) := by decide +kernel
theorem dX6_isKind_0 : decode cX6_isKind 0 = .ok (.iload_n 0, 1) := by decide +kernel
theorem dX6_isKind_1 : decode cX6_isKind 1 = .ok (.iconst 1, 1) := by decide +kernel
theorem dX6_isKind_2 : decode cX6_isKind 2 = .ok (.if_icmp .eq 13, 3) := by decide +kernel
theorem dX6_isKind_5 : decode cX6_isKind 5 = .ok (.iload_n 0, 1) := by decide +kernel
theorem dX6_isKind_6 : decode cX6_isKind 6 = .ok (.iconst 2, 1) := by decide +kernel
theorem dX6_isKind_7 : decode cX6_isKind 7 = .ok (.if_icmp .eq 8, 3) := by decide +kernel
theorem dX6_isKind_10 : decode cX6_isKind 10 = .ok (.iload_n 0, 1) := by decide +kernel
theorem dX6_isKind_11 : decode cX6_isKind 11 = .ok (.iconst 3, 1) := by decide +kernel
theorem dX6_isKind_12 : decode cX6_isKind 12 = .ok (.if_icmp .ne 7, 3) := by decide +kernel
theorem dX6_isKind_15 : decode cX6_isKind 15 = .ok (.iconst 1, 1) := by decide +kernel
theorem dX6_isKind_16 : decode cX6_isKind 16 = .ok (.goto 4, 3) := by decide +kernel
theorem dX6_isKind_19 : decode cX6_isKind 19 = .ok (.iconst 0, 1) := by decide +kernel
theorem dX6_isKind_20 : decode cX6_isKind 20 = .ok (.istore_n 2, 1) := by decide +kernel
theorem dX6_isKind_21 : decode cX6_isKind 21 = .ok (.iload_n 1, 1) := by decide +kernel
theorem dX6_isKind_22 : decode cX6_isKind 22 = .ok (.ifCond .eq 27, 3) := by decide +kernel
theorem dX6_isKind_25 : decode cX6_isKind 25 = .ok (.iload_n 1, 1) := by decide +kernel
theorem dX6_isKind_26 : decode cX6_isKind 26 = .ok (.iload_n 0, 1) := by decide +kernel
theorem dX6_isKind_27 : decode cX6_isKind 27 = .ok (.if_icmp .eq 22, 3) := by decide +kernel
theorem dX6_isKind_30 : decode cX6_isKind 30 = .ok (.iload_n 1, 1) := by decide +kernel
theorem dX6_isKind_31 : decode cX6_isKind 31 = .ok (.iconst 1, 1) := by decide +kernel
theorem dX6_isKind_32 : decode cX6_isKind 32 = .ok (.if_icmp .ne 7, 3) := by decide +kernel
theorem dX6_isKind_35 : decode cX6_isKind 35 = .ok (.iload_n 2, 1) := by decide +kernel
theorem dX6_isKind_36 : decode cX6_isKind 36 = .ok (.ifCond .ne 13, 3) := by decide +kernel
theorem dX6_isKind_39 : decode cX6_isKind 39 = .ok (.iload_n 1, 1) := by decide +kernel
theorem dX6_isKind_40 : decode cX6_isKind 40 = .ok (.iconst 4, 1) := by decide +kernel
theorem dX6_isKind_41 : decode cX6_isKind 41 = .ok (.if_icmp .ne 12, 3) := by decide +kernel
theorem dX6_isKind_44 : decode cX6_isKind 44 = .ok (.iload_n 0, 1) := by decide +kernel
theorem dX6_isKind_45 : decode cX6_isKind 45 = .ok (.iconst 5, 1) := by decide +kernel
theorem dX6_isKind_46 : decode cX6_isKind 46 = .ok (.if_icmp .ne 7, 3) := by decide +kernel
theorem dX6_isKind_49 : decode cX6_isKind 49 = .ok (.iconst 1, 1) := by decide +kernel
theorem dX6_isKind_50 : decode cX6_isKind 50 = .ok (.goto 4, 3) := by decide +kernel
theorem dX6_isKind_53 : decode cX6_isKind 53 = .ok (.iconst 0, 1) := by decide +kernel
theorem dX6_isKind_54 : decode cX6_isKind 54 = .ok (.ireturn, 1) := by decide +kernel
theorem dX6_as_0 : decode cX6_as 0 = .ok (.aload_n 0, 1) := by decide +kernel
theorem dX6_as_1 : decode cX6_as 1 = .ok (.iload_n 1, 1) := by decide +kernel
theorem dX6_as_2 : decode cX6_as 2 = .ok (.invokevirtual 190, 3) := by decide +kernel
theorem dX6_as_5 : decode cX6_as 5 = .ok (.ifCond .eq 15, 3) := by decide +kernel
theorem dX6_as_8 : decode cX6_as 8 = .ok (.iload_n 2, 1) := by decide +kernel
theorem dX6_as_9 : decode cX6_as 9 = .ok (.i2l, 1) := by decide +kernel
theorem dX6_as_10 : decode cX6_as 10 = .ok (.lconst 0, 1) := by decide +kernel
theorem dX6_as_11 : decode cX6_as 11 = .ok (.ldc2_w 263, 3) := by decide +kernel
theorem dX6_as_14 : decode cX6_as 14 = .ok (.invokestatic 61, 3) := by decide +kernel
theorem dX6_as_17 : decode cX6_as 17 = .ok (.ifCond .ne 6, 3) := by decide +kernel
theorem dX6_as_20 : decode cX6_as 20 = .ok (.ldc 71, 2) := by decide +kernel
theorem dX6_as_22 : decode cX6_as 22 = .ok (.ireturn, 1) := by decide +kernel
theorem dX6_as_23 : decode cX6_as 23 = .ok (.aload_n 0, 1) := by decide +kernel
theorem dX6_as_24 : decode cX6_as 24 = .ok (.getfield 7, 3) := by decide +kernel
theorem dX6_as_27 : decode cX6_as 27 = .ok (.bipush 24, 2) := by decide +kernel
theorem dX6_as_29 : decode cX6_as 29 = .ok (.iconst 2, 1) := by decide +kernel
theorem dX6_as_30 : decode cX6_as 30 = .ok (.iload_n 1, 1) := by decide +kernel
theorem dX6_as_31 : decode cX6_as 31 = .ok (.imul, 1) := by decide +kernel
theorem dX6_as_32 : decode cX6_as 32 = .ok (.iadd, 1) := by decide +kernel
theorem dX6_as_33 : decode cX6_as 33 = .ok (.iaload, 1) := by decide +kernel
theorem dX6_as_34 : decode cX6_as 34 = .ok (.iload_n 2, 1) := by decide +kernel
theorem dX6_as_35 : decode cX6_as 35 = .ok (.invokestatic 265, 3) := by decide +kernel
theorem dX6_as_38 : decode cX6_as 38 = .ok (.ifCond .eq 11, 3) := by decide +kernel
theorem dX6_as_41 : decode cX6_as 41 = .ok (.aload_n 0, 1) := by decide +kernel
theorem dX6_as_42 : decode cX6_as 42 = .ok (.iload_n 1, 1) := by decide +kernel
theorem dX6_as_43 : decode cX6_as 43 = .ok (.invokevirtual 76, 3) := by decide +kernel
theorem dX6_as_46 : decode cX6_as 46 = .ok (.goto 8, 3) := by decide +kernel
theorem dX6_as_49 : decode cX6_as 49 = .ok (.aload_n 0, 1) := by decide +kernel
theorem dX6_as_50 : decode cX6_as 50 = .ok (.iconst 3, 1) := by decide +kernel
theorem dX6_as_51 : decode cX6_as 51 = .ok (.invokevirtual 72, 3) := by decide +kernel
theorem dX6_as_54 : decode cX6_as 54 = .ok (.ireturn, 1) := by decide +kernel
theorem dX6_leave_0 : decode cX6_leave 0 = .ok (.aload_n 0, 1) := by decide +kernel
theorem dX6_leave_1 : decode cX6_leave 1 = .ok (.getfield 268, 3) := by decide +kernel
theorem dX6_leave_4 : decode cX6_leave 4 = .ok (.bipush 16, 2) := by decide +kernel
theorem dX6_leave_6 : decode cX6_leave 6 = .ok (.if_icmp .ge 23, 3) := by decide +kernel
theorem dX6_leave_9 : decode cX6_leave 9 = .ok (.aload_n 0, 1) := by decide +kernel
theorem dX6_leave_10 : decode cX6_leave 10 = .ok (.getfield 29, 3) := by decide +kernel
theorem dX6_leave_13 : decode cX6_leave 13 = .ok (.aload_n 0, 1) := by decide +kernel
theorem dX6_leave_14 : decode cX6_leave 14 = .ok (.getfield 268, 3) := by decide +kernel
theorem dX6_leave_17 : decode cX6_leave 17 = .ok (.iload_n 1, 1) := by decide +kernel
theorem dX6_leave_18 : decode cX6_leave 18 = .ok (.iastore, 1) := by decide +kernel
theorem dX6_leave_19 : decode cX6_leave 19 = .ok (.aload_n 0, 1) := by decide +kernel
theorem dX6_leave_20 : decode cX6_leave 20 = .ok (.dup, 1) := by decide +kernel
theorem dX6_leave_21 : decode cX6_leave 21 = .ok (.getfield 268, 3) := by decide +kernel
theorem dX6_leave_24 : decode cX6_leave 24 = .ok (.iconst 1, 1) := by decide +kernel
theorem dX6_leave_25 : decode cX6_leave 25 = .ok (.iadd, 1) := by decide +kernel
theorem dX6_leave_26 : decode cX6_leave 26 = .ok (.putfield 268, 3) := by decide +kernel
theorem dX6_leave_29 : decode cX6_leave 29 = .ok (.return_, 1) := by decide +kernel
theorem dX6_heavyBody_0 : decode cX6_heavyBody 0 = .ok (.aload_n 0, 1) := by decide +kernel
theorem dX6_heavyBody_1 : decode cX6_heavyBody 1 = .ok (.bipush 10, 2) := by decide +kernel
theorem dX6_heavyBody_3 : decode cX6_heavyBody 3 = .ok (.invokevirtual 271, 3) := by decide +kernel
theorem dX6_heavyBody_6 : decode cX6_heavyBody 6 = .ok (.aload_n 0, 1) := by decide +kernel
theorem dX6_heavyBody_7 : decode cX6_heavyBody 7 = .ok (.getfield 7, 3) := by decide +kernel
theorem dX6_heavyBody_10 : decode cX6_heavyBody 10 = .ok (.bipush 24, 2) := by decide +kernel
theorem dX6_heavyBody_12 : decode cX6_heavyBody 12 = .ok (.iconst 2, 1) := by decide +kernel
theorem dX6_heavyBody_13 : decode cX6_heavyBody 13 = .ok (.iload_n 1, 1) := by decide +kernel
theorem dX6_heavyBody_14 : decode cX6_heavyBody 14 = .ok (.imul, 1) := by decide +kernel
theorem dX6_heavyBody_15 : decode cX6_heavyBody 15 = .ok (.iadd, 1) := by decide +kernel
theorem dX6_heavyBody_16 : decode cX6_heavyBody 16 = .ok (.iconst 1, 1) := by decide +kernel
theorem dX6_heavyBody_17 : decode cX6_heavyBody 17 = .ok (.iadd, 1) := by decide +kernel
theorem dX6_heavyBody_18 : decode cX6_heavyBody 18 = .ok (.iaload, 1) := by decide +kernel
theorem dX6_heavyBody_19 : decode cX6_heavyBody 19 = .ok (.ireturn, 1) := by decide +kernel
theorem dX6_numberBody_0 : decode cX6_numberBody 0 = .ok (.aload_n 0, 1) := by decide +kernel
theorem dX6_numberBody_1 : decode cX6_numberBody 1 = .ok (.bipush 20, 2) := by decide +kernel
theorem dX6_numberBody_3 : decode cX6_numberBody 3 = .ok (.invokevirtual 271, 3) := by decide +kernel
theorem dX6_numberBody_6 : decode cX6_numberBody 6 = .ok (.iload_n 1, 1) := by decide +kernel
theorem dX6_numberBody_7 : decode cX6_numberBody 7 = .ok (.ireturn, 1) := by decide +kernel
theorem dX6_penBody_0 : decode cX6_penBody 0 = .ok (.aload_n 0, 1) := by decide +kernel
theorem dX6_penBody_1 : decode cX6_penBody 1 = .ok (.bipush 21, 2) := by decide +kernel
theorem dX6_penBody_3 : decode cX6_penBody 3 = .ok (.invokevirtual 271, 3) := by decide +kernel
theorem dX6_penBody_6 : decode cX6_penBody 6 = .ok (.aload_n 0, 1) := by decide +kernel
theorem dX6_penBody_7 : decode cX6_penBody 7 = .ok (.iload_n 1, 1) := by decide +kernel
theorem dX6_penBody_8 : decode cX6_penBody 8 = .ok (.invokevirtual 274, 3) := by decide +kernel
theorem dX6_penBody_11 : decode cX6_penBody 11 = .ok (.istore_n 2, 1) := by decide +kernel
theorem dX6_penBody_12 : decode cX6_penBody 12 = .ok (.aload_n 0, 1) := by decide +kernel
theorem dX6_penBody_13 : decode cX6_penBody 13 = .ok (.iconst 0, 1) := by decide +kernel
theorem dX6_penBody_14 : decode cX6_penBody 14 = .ok (.sipush 174, 3) := by decide +kernel
theorem dX6_penBody_17 : decode cX6_penBody 17 = .ok (.invokevirtual 224, 3) := by decide +kernel
theorem dX6_penBody_20 : decode cX6_penBody 20 = .ok (.iload_n 2, 1) := by decide +kernel
theorem dX6_penBody_21 : decode cX6_penBody 21 = .ok (.aload_n 0, 1) := by decide +kernel
theorem dX6_penBody_22 : decode cX6_penBody 22 = .ok (.sipush 174, 3) := by decide +kernel
theorem dX6_penBody_25 : decode cX6_penBody 25 = .ok (.iload_n 1, 1) := by decide +kernel
theorem dX6_penBody_26 : decode cX6_penBody 26 = .ok (.invokevirtual 187, 3) := by decide +kernel
theorem dX6_penBody_29 : decode cX6_penBody 29 = .ok (.iadd, 1) := by decide +kernel
theorem dX6_penBody_30 : decode cX6_penBody 30 = .ok (.ireturn, 1) := by decide +kernel
theorem dX6_markOfEwe_0 : decode cX6_markOfEwe 0 = .ok (.aload_n 0, 1) := by decide +kernel
theorem dX6_markOfEwe_1 : decode cX6_markOfEwe 1 = .ok (.getfield 7, 3) := by decide +kernel
theorem dX6_markOfEwe_4 : decode cX6_markOfEwe 4 = .ok (.bipush 24, 2) := by decide +kernel
theorem dX6_markOfEwe_6 : decode cX6_markOfEwe 6 = .ok (.iconst 2, 1) := by decide +kernel
theorem dX6_markOfEwe_7 : decode cX6_markOfEwe 7 = .ok (.iload_n 1, 1) := by decide +kernel
theorem dX6_markOfEwe_8 : decode cX6_markOfEwe 8 = .ok (.imul, 1) := by decide +kernel
theorem dX6_markOfEwe_9 : decode cX6_markOfEwe 9 = .ok (.iadd, 1) := by decide +kernel
theorem dX6_markOfEwe_10 : decode cX6_markOfEwe 10 = .ok (.iaload, 1) := by decide +kernel
theorem dX6_markOfEwe_11 : decode cX6_markOfEwe 11 = .ok (.istore_n 2, 1) := by decide +kernel
theorem dX6_markOfEwe_12 : decode cX6_markOfEwe 12 = .ok (.iload_n 2, 1) := by decide +kernel
theorem dX6_markOfEwe_13 : decode cX6_markOfEwe 13 = .ok (.iconst 1, 1) := by decide +kernel
theorem dX6_markOfEwe_14 : decode cX6_markOfEwe 14 = .ok (.if_icmp .ne 9, 3) := by decide +kernel
theorem dX6_markOfEwe_17 : decode cX6_markOfEwe 17 = .ok (.aload_n 0, 1) := by decide +kernel
theorem dX6_markOfEwe_18 : decode cX6_markOfEwe 18 = .ok (.iload_n 1, 1) := by decide +kernel
theorem dX6_markOfEwe_19 : decode cX6_markOfEwe 19 = .ok (.invokevirtual 277, 3) := by decide +kernel
theorem dX6_markOfEwe_22 : decode cX6_markOfEwe 22 = .ok (.ireturn, 1) := by decide +kernel
theorem dX6_markOfEwe_23 : decode cX6_markOfEwe 23 = .ok (.aload_n 0, 1) := by decide +kernel
theorem dX6_markOfEwe_24 : decode cX6_markOfEwe 24 = .ok (.iload_n 2, 1) := by decide +kernel
theorem dX6_markOfEwe_25 : decode cX6_markOfEwe 25 = .ok (.iconst 3, 1) := by decide +kernel
theorem dX6_markOfEwe_26 : decode cX6_markOfEwe 26 = .ok (.if_icmp .ne 8, 3) := by decide +kernel
theorem dX6_markOfEwe_29 : decode cX6_markOfEwe 29 = .ok (.bipush 22, 2) := by decide +kernel
theorem dX6_markOfEwe_31 : decode cX6_markOfEwe 31 = .ok (.goto 5, 3) := by decide +kernel
theorem dX6_markOfEwe_34 : decode cX6_markOfEwe 34 = .ok (.bipush 24, 2) := by decide +kernel
theorem dX6_markOfEwe_36 : decode cX6_markOfEwe 36 = .ok (.invokevirtual 271, 3) := by decide +kernel
theorem dX6_markOfEwe_39 : decode cX6_markOfEwe 39 = .ok (.aload_n 0, 1) := by decide +kernel
theorem dX6_markOfEwe_40 : decode cX6_markOfEwe 40 = .ok (.iload_n 1, 1) := by decide +kernel
theorem dX6_markOfEwe_41 : decode cX6_markOfEwe 41 = .ok (.invokevirtual 277, 3) := by decide +kernel
theorem dX6_markOfEwe_44 : decode cX6_markOfEwe 44 = .ok (.istore_n 3, 1) := by decide +kernel
theorem dX6_markOfEwe_45 : decode cX6_markOfEwe 45 = .ok (.iload_n 2, 1) := by decide +kernel
theorem dX6_markOfEwe_46 : decode cX6_markOfEwe 46 = .ok (.iconst 3, 1) := by decide +kernel
theorem dX6_markOfEwe_47 : decode cX6_markOfEwe 47 = .ok (.if_icmp .ne 11, 3) := by decide +kernel
theorem dX6_markOfEwe_50 : decode cX6_markOfEwe 50 = .ok (.iload_n 3, 1) := by decide +kernel
theorem dX6_markOfEwe_51 : decode cX6_markOfEwe 51 = .ok (.sipush 1000, 3) := by decide +kernel
theorem dX6_markOfEwe_54 : decode cX6_markOfEwe 54 = .ok (.isub, 1) := by decide +kernel
theorem dX6_markOfEwe_55 : decode cX6_markOfEwe 55 = .ok (.goto 6, 3) := by decide +kernel
theorem dX6_markOfEwe_58 : decode cX6_markOfEwe 58 = .ok (.iconst 2, 1) := by decide +kernel
theorem dX6_markOfEwe_59 : decode cX6_markOfEwe 59 = .ok (.iload_n 3, 1) := by decide +kernel
theorem dX6_markOfEwe_60 : decode cX6_markOfEwe 60 = .ok (.imul, 1) := by decide +kernel
theorem dX6_markOfEwe_61 : decode cX6_markOfEwe 61 = .ok (.ireturn, 1) := by decide +kernel
theorem dX6_eweBody_0 : decode cX6_eweBody 0 = .ok (.aload_n 0, 1) := by decide +kernel
theorem dX6_eweBody_1 : decode cX6_eweBody 1 = .ok (.bipush 11, 2) := by decide +kernel
theorem dX6_eweBody_3 : decode cX6_eweBody 3 = .ok (.invokevirtual 271, 3) := by decide +kernel
theorem dX6_eweBody_6 : decode cX6_eweBody 6 = .ok (.aload_n 0, 1) := by decide +kernel
theorem dX6_eweBody_7 : decode cX6_eweBody 7 = .ok (.iload_n 1, 1) := by decide +kernel
theorem dX6_eweBody_8 : decode cX6_eweBody 8 = .ok (.invokevirtual 280, 3) := by decide +kernel
theorem dX6_eweBody_11 : decode cX6_eweBody 11 = .ok (.istore_n 2, 1) := by decide +kernel
theorem dX6_eweBody_12 : decode cX6_eweBody 12 = .ok (.iload_n 2, 1) := by decide +kernel
theorem dX6_eweBody_13 : decode cX6_eweBody 13 = .ok (.aload_n 0, 1) := by decide +kernel
theorem dX6_eweBody_14 : decode cX6_eweBody 14 = .ok (.iload_n 1, 1) := by decide +kernel
theorem dX6_eweBody_15 : decode cX6_eweBody 15 = .ok (.invokevirtual 283, 3) := by decide +kernel
theorem dX6_eweBody_18 : decode cX6_eweBody 18 = .ok (.iadd, 1) := by decide +kernel
theorem dX6_eweBody_19 : decode cX6_eweBody 19 = .ok (.ireturn, 1) := by decide +kernel
theorem dX6_blindBody_0 : decode cX6_blindBody 0 = .ok (.aload_n 0, 1) := by decide +kernel
theorem dX6_blindBody_1 : decode cX6_blindBody 1 = .ok (.bipush 13, 2) := by decide +kernel
theorem dX6_blindBody_3 : decode cX6_blindBody 3 = .ok (.invokevirtual 271, 3) := by decide +kernel
theorem dX6_blindBody_6 : decode cX6_blindBody 6 = .ok (.aload_n 0, 1) := by decide +kernel
theorem dX6_blindBody_7 : decode cX6_blindBody 7 = .ok (.iload_n 1, 1) := by decide +kernel
theorem dX6_blindBody_8 : decode cX6_blindBody 8 = .ok (.invokevirtual 280, 3) := by decide +kernel
theorem dX6_blindBody_11 : decode cX6_blindBody 11 = .ok (.bipush 100, 2) := by decide +kernel
theorem dX6_blindBody_13 : decode cX6_blindBody 13 = .ok (.isub, 1) := by decide +kernel
theorem dX6_blindBody_14 : decode cX6_blindBody 14 = .ok (.ireturn, 1) := by decide +kernel
theorem dX6_sizeOfBlind_0 : decode cX6_sizeOfBlind 0 = .ok (.aload_n 0, 1) := by decide +kernel
theorem dX6_sizeOfBlind_1 : decode cX6_sizeOfBlind 1 = .ok (.getfield 7, 3) := by decide +kernel
theorem dX6_sizeOfBlind_4 : decode cX6_sizeOfBlind 4 = .ok (.bipush 24, 2) := by decide +kernel
theorem dX6_sizeOfBlind_6 : decode cX6_sizeOfBlind 6 = .ok (.iconst 2, 1) := by decide +kernel
theorem dX6_sizeOfBlind_7 : decode cX6_sizeOfBlind 7 = .ok (.iload_n 1, 1) := by decide +kernel
theorem dX6_sizeOfBlind_8 : decode cX6_sizeOfBlind 8 = .ok (.imul, 1) := by decide +kernel
theorem dX6_sizeOfBlind_9 : decode cX6_sizeOfBlind 9 = .ok (.iadd, 1) := by decide +kernel
theorem dX6_sizeOfBlind_10 : decode cX6_sizeOfBlind 10 = .ok (.iaload, 1) := by decide +kernel
theorem dX6_sizeOfBlind_11 : decode cX6_sizeOfBlind 11 = .ok (.iconst 4, 1) := by decide +kernel
theorem dX6_sizeOfBlind_12 : decode cX6_sizeOfBlind 12 = .ok (.if_icmp .ne 9, 3) := by decide +kernel
theorem dX6_sizeOfBlind_15 : decode cX6_sizeOfBlind 15 = .ok (.aload_n 0, 1) := by decide +kernel
theorem dX6_sizeOfBlind_16 : decode cX6_sizeOfBlind 16 = .ok (.iload_n 1, 1) := by decide +kernel
theorem dX6_sizeOfBlind_17 : decode cX6_sizeOfBlind 17 = .ok (.invokevirtual 286, 3) := by decide +kernel
theorem dX6_sizeOfBlind_20 : decode cX6_sizeOfBlind 20 = .ok (.ireturn, 1) := by decide +kernel
theorem dX6_sizeOfBlind_21 : decode cX6_sizeOfBlind 21 = .ok (.aload_n 0, 1) := by decide +kernel
theorem dX6_sizeOfBlind_22 : decode cX6_sizeOfBlind 22 = .ok (.bipush 14, 2) := by decide +kernel
theorem dX6_sizeOfBlind_24 : decode cX6_sizeOfBlind 24 = .ok (.invokevirtual 271, 3) := by decide +kernel
theorem dX6_sizeOfBlind_27 : decode cX6_sizeOfBlind 27 = .ok (.iconst 2, 1) := by decide +kernel
theorem dX6_sizeOfBlind_28 : decode cX6_sizeOfBlind 28 = .ok (.aload_n 0, 1) := by decide +kernel
theorem dX6_sizeOfBlind_29 : decode cX6_sizeOfBlind 29 = .ok (.iload_n 1, 1) := by decide +kernel
theorem dX6_sizeOfBlind_30 : decode cX6_sizeOfBlind 30 = .ok (.invokevirtual 286, 3) := by decide +kernel
theorem dX6_sizeOfBlind_33 : decode cX6_sizeOfBlind 33 = .ok (.imul, 1) := by decide +kernel
theorem dX6_sizeOfBlind_34 : decode cX6_sizeOfBlind 34 = .ok (.ireturn, 1) := by decide +kernel
theorem dX6_sizeOfEwe_0 : decode cX6_sizeOfEwe 0 = .ok (.aload_n 0, 1) := by decide +kernel
theorem dX6_sizeOfEwe_1 : decode cX6_sizeOfEwe 1 = .ok (.getfield 7, 3) := by decide +kernel
theorem dX6_sizeOfEwe_4 : decode cX6_sizeOfEwe 4 = .ok (.bipush 24, 2) := by decide +kernel
theorem dX6_sizeOfEwe_6 : decode cX6_sizeOfEwe 6 = .ok (.iconst 2, 1) := by decide +kernel
theorem dX6_sizeOfEwe_7 : decode cX6_sizeOfEwe 7 = .ok (.iload_n 1, 1) := by decide +kernel
theorem dX6_sizeOfEwe_8 : decode cX6_sizeOfEwe 8 = .ok (.imul, 1) := by decide +kernel
theorem dX6_sizeOfEwe_9 : decode cX6_sizeOfEwe 9 = .ok (.iadd, 1) := by decide +kernel
theorem dX6_sizeOfEwe_10 : decode cX6_sizeOfEwe 10 = .ok (.iaload, 1) := by decide +kernel
theorem dX6_sizeOfEwe_11 : decode cX6_sizeOfEwe 11 = .ok (.iconst 2, 1) := by decide +kernel
theorem dX6_sizeOfEwe_12 : decode cX6_sizeOfEwe 12 = .ok (.if_icmp .eq 9, 3) := by decide +kernel
theorem dX6_sizeOfEwe_15 : decode cX6_sizeOfEwe 15 = .ok (.aload_n 0, 1) := by decide +kernel
theorem dX6_sizeOfEwe_16 : decode cX6_sizeOfEwe 16 = .ok (.iload_n 1, 1) := by decide +kernel
theorem dX6_sizeOfEwe_17 : decode cX6_sizeOfEwe 17 = .ok (.invokevirtual 289, 3) := by decide +kernel
theorem dX6_sizeOfEwe_20 : decode cX6_sizeOfEwe 20 = .ok (.ireturn, 1) := by decide +kernel
theorem dX6_sizeOfEwe_21 : decode cX6_sizeOfEwe 21 = .ok (.aload_n 0, 1) := by decide +kernel
theorem dX6_sizeOfEwe_22 : decode cX6_sizeOfEwe 22 = .ok (.bipush 12, 2) := by decide +kernel
theorem dX6_sizeOfEwe_24 : decode cX6_sizeOfEwe 24 = .ok (.invokevirtual 271, 3) := by decide +kernel
theorem dX6_sizeOfEwe_27 : decode cX6_sizeOfEwe 27 = .ok (.aload_n 0, 1) := by decide +kernel
theorem dX6_sizeOfEwe_28 : decode cX6_sizeOfEwe 28 = .ok (.iload_n 1, 1) := by decide +kernel
theorem dX6_sizeOfEwe_29 : decode cX6_sizeOfEwe 29 = .ok (.invokevirtual 289, 3) := by decide +kernel
theorem dX6_sizeOfEwe_32 : decode cX6_sizeOfEwe 32 = .ok (.ineg, 1) := by decide +kernel
theorem dX6_sizeOfEwe_33 : decode cX6_sizeOfEwe 33 = .ok (.ireturn, 1) := by decide +kernel
theorem dX6_markOfBlind_0 : decode cX6_markOfBlind 0 = .ok (.aload_n 0, 1) := by decide +kernel
theorem dX6_markOfBlind_1 : decode cX6_markOfBlind 1 = .ok (.bipush 23, 2) := by decide +kernel
theorem dX6_markOfBlind_3 : decode cX6_markOfBlind 3 = .ok (.invokevirtual 271, 3) := by decide +kernel
theorem dX6_markOfBlind_6 : decode cX6_markOfBlind 6 = .ok (.aload_n 0, 1) := by decide +kernel
theorem dX6_markOfBlind_7 : decode cX6_markOfBlind 7 = .ok (.iload_n 1, 1) := by decide +kernel
theorem dX6_markOfBlind_8 : decode cX6_markOfBlind 8 = .ok (.invokevirtual 274, 3) := by decide +kernel
theorem dX6_markOfBlind_11 : decode cX6_markOfBlind 11 = .ok (.istore_n 2, 1) := by decide +kernel
theorem dX6_markOfBlind_12 : decode cX6_markOfBlind 12 = .ok (.iload_n 2, 1) := by decide +kernel
theorem dX6_markOfBlind_13 : decode cX6_markOfBlind 13 = .ok (.aload_n 0, 1) := by decide +kernel
theorem dX6_markOfBlind_14 : decode cX6_markOfBlind 14 = .ok (.iload_n 1, 1) := by decide +kernel
theorem dX6_markOfBlind_15 : decode cX6_markOfBlind 15 = .ok (.invokevirtual 292, 3) := by decide +kernel
theorem dX6_markOfBlind_18 : decode cX6_markOfBlind 18 = .ok (.isub, 1) := by decide +kernel
theorem dX6_markOfBlind_19 : decode cX6_markOfBlind 19 = .ok (.ireturn, 1) := by decide +kernel
theorem dX6_ask_0 : decode cX6_ask 0 = .ok (.aload_n 0, 1) := by decide +kernel
theorem dX6_ask_1 : decode cX6_ask 1 = .ok (.iload_n 1, 1) := by decide +kernel
theorem dX6_ask_2 : decode cX6_ask 2 = .ok (.invokevirtual 190, 3) := by decide +kernel
theorem dX6_ask_5 : decode cX6_ask 5 = .ok (.ifCond .eq 13, 3) := by decide +kernel
theorem dX6_ask_8 : decode cX6_ask 8 = .ok (.iload_n 2, 1) := by decide +kernel
theorem dX6_ask_9 : decode cX6_ask 9 = .ok (.i2l, 1) := by decide +kernel
theorem dX6_ask_10 : decode cX6_ask 10 = .ok (.lconst 0, 1) := by decide +kernel
theorem dX6_ask_11 : decode cX6_ask 11 = .ok (.lconst 1, 1) := by decide +kernel
theorem dX6_ask_12 : decode cX6_ask 12 = .ok (.invokestatic 61, 3) := by decide +kernel
theorem dX6_ask_15 : decode cX6_ask 15 = .ok (.ifCond .ne 6, 3) := by decide +kernel
theorem dX6_ask_18 : decode cX6_ask 18 = .ok (.ldc 71, 2) := by decide +kernel
theorem dX6_ask_20 : decode cX6_ask 20 = .ok (.ireturn, 1) := by decide +kernel
theorem dX6_ask_21 : decode cX6_ask 21 = .ok (.aload_n 0, 1) := by decide +kernel
theorem dX6_ask_22 : decode cX6_ask 22 = .ok (.iconst 0, 1) := by decide +kernel
theorem dX6_ask_23 : decode cX6_ask 23 = .ok (.putfield 268, 3) := by decide +kernel
theorem dX6_ask_26 : decode cX6_ask 26 = .ok (.aload_n 0, 1) := by decide +kernel
theorem dX6_ask_27 : decode cX6_ask 27 = .ok (.getfield 7, 3) := by decide +kernel
theorem dX6_ask_30 : decode cX6_ask 30 = .ok (.bipush 24, 2) := by decide +kernel
theorem dX6_ask_32 : decode cX6_ask 32 = .ok (.iconst 2, 1) := by decide +kernel
theorem dX6_ask_33 : decode cX6_ask 33 = .ok (.iload_n 1, 1) := by decide +kernel
theorem dX6_ask_34 : decode cX6_ask 34 = .ok (.imul, 1) := by decide +kernel
theorem dX6_ask_35 : decode cX6_ask 35 = .ok (.iadd, 1) := by decide +kernel
theorem dX6_ask_36 : decode cX6_ask 36 = .ok (.iaload, 1) := by decide +kernel
theorem dX6_ask_37 : decode cX6_ask 37 = .ok (.iconst 1, 1) := by decide +kernel
theorem dX6_ask_38 : decode cX6_ask 38 = .ok (.invokestatic 265, 3) := by decide +kernel
theorem dX6_ask_41 : decode cX6_ask 41 = .ok (.istore_n 3, 1) := by decide +kernel
theorem dX6_ask_42 : decode cX6_ask 42 = .ok (.iload_n 2, 1) := by decide +kernel
theorem dX6_ask_43 : decode cX6_ask 43 = .ok (.ifCond .ne 23, 3) := by decide +kernel
theorem dX6_ask_46 : decode cX6_ask 46 = .ok (.iload_n 3, 1) := by decide +kernel
theorem dX6_ask_47 : decode cX6_ask 47 = .ok (.ifCond .eq 11, 3) := by decide +kernel
theorem dX6_ask_50 : decode cX6_ask 50 = .ok (.aload_n 0, 1) := by decide +kernel
theorem dX6_ask_51 : decode cX6_ask 51 = .ok (.iload_n 1, 1) := by decide +kernel
theorem dX6_ask_52 : decode cX6_ask 52 = .ok (.invokevirtual 295, 3) := by decide +kernel
theorem dX6_ask_55 : decode cX6_ask 55 = .ok (.goto 28, 3) := by decide +kernel
theorem dX6_ask_58 : decode cX6_ask 58 = .ok (.aload_n 0, 1) := by decide +kernel
theorem dX6_ask_59 : decode cX6_ask 59 = .ok (.iload_n 1, 1) := by decide +kernel
theorem dX6_ask_60 : decode cX6_ask 60 = .ok (.invokevirtual 292, 3) := by decide +kernel
theorem dX6_ask_63 : decode cX6_ask 63 = .ok (.goto 20, 3) := by decide +kernel
theorem dX6_ask_66 : decode cX6_ask 66 = .ok (.iload_n 3, 1) := by decide +kernel
theorem dX6_ask_67 : decode cX6_ask 67 = .ok (.ifCond .eq 11, 3) := by decide +kernel
theorem dX6_ask_70 : decode cX6_ask 70 = .ok (.aload_n 0, 1) := by decide +kernel
theorem dX6_ask_71 : decode cX6_ask 71 = .ok (.iload_n 1, 1) := by decide +kernel
theorem dX6_ask_72 : decode cX6_ask 72 = .ok (.invokevirtual 283, 3) := by decide +kernel
theorem dX6_ask_75 : decode cX6_ask 75 = .ok (.goto 8, 3) := by decide +kernel
theorem dX6_ask_78 : decode cX6_ask 78 = .ok (.aload_n 0, 1) := by decide +kernel
theorem dX6_ask_79 : decode cX6_ask 79 = .ok (.iload_n 1, 1) := by decide +kernel
theorem dX6_ask_80 : decode cX6_ask 80 = .ok (.invokevirtual 298, 3) := by decide +kernel
theorem dX6_ask_83 : decode cX6_ask 83 = .ok (.ireturn, 1) := by decide +kernel
theorem dX6_trace_0 : decode cX6_trace 0 = .ok (.iload_n 1, 1) := by decide +kernel
theorem dX6_trace_1 : decode cX6_trace 1 = .ok (.i2l, 1) := by decide +kernel
theorem dX6_trace_2 : decode cX6_trace 2 = .ok (.lconst 0, 1) := by decide +kernel
theorem dX6_trace_3 : decode cX6_trace 3 = .ok (.aload_n 0, 1) := by decide +kernel
theorem dX6_trace_4 : decode cX6_trace 4 = .ok (.getfield 268, 3) := by decide +kernel
theorem dX6_trace_7 : decode cX6_trace 7 = .ok (.iconst 1, 1) := by decide +kernel
theorem dX6_trace_8 : decode cX6_trace 8 = .ok (.isub, 1) := by decide +kernel
theorem dX6_trace_9 : decode cX6_trace 9 = .ok (.i2l, 1) := by decide +kernel
theorem dX6_trace_10 : decode cX6_trace 10 = .ok (.invokestatic 61, 3) := by decide +kernel
theorem dX6_trace_13 : decode cX6_trace 13 = .ok (.ifCond .eq 12, 3) := by decide +kernel
theorem dX6_trace_16 : decode cX6_trace 16 = .ok (.aload_n 0, 1) := by decide +kernel
theorem dX6_trace_17 : decode cX6_trace 17 = .ok (.getfield 29, 3) := by decide +kernel
theorem dX6_trace_20 : decode cX6_trace 20 = .ok (.iload_n 1, 1) := by decide +kernel
theorem dX6_trace_21 : decode cX6_trace 21 = .ok (.iaload, 1) := by decide +kernel
theorem dX6_trace_22 : decode cX6_trace 22 = .ok (.goto 5, 3) := by decide +kernel
theorem dX6_trace_25 : decode cX6_trace 25 = .ok (.ldc 19, 2) := by decide +kernel
theorem dX6_trace_27 : decode cX6_trace 27 = .ok (.ireturn, 1) := by decide +kernel
theorem dX6_count_0 : decode cX6_count 0 = .ok (.iconst 0, 1) := by decide +kernel
theorem dX6_count_1 : decode cX6_count 1 = .ok (.istore_n 2, 1) := by decide +kernel
theorem dX6_count_2 : decode cX6_count 2 = .ok (.iconst 0, 1) := by decide +kernel
theorem dX6_count_3 : decode cX6_count 3 = .ok (.istore_n 3, 1) := by decide +kernel
theorem dX6_count_4 : decode cX6_count 4 = .ok (.iload_n 3, 1) := by decide +kernel
theorem dX6_count_5 : decode cX6_count 5 = .ok (.bipush 8, 2) := by decide +kernel
theorem dX6_count_7 : decode cX6_count 7 = .ok (.if_icmp .ge 28, 3) := by decide +kernel
theorem dX6_count_10 : decode cX6_count 10 = .ok (.iload_n 2, 1) := by decide +kernel
theorem dX6_count_11 : decode cX6_count 11 = .ok (.aload_n 0, 1) := by decide +kernel
theorem dX6_count_12 : decode cX6_count 12 = .ok (.getfield 20, 3) := by decide +kernel
theorem dX6_count_15 : decode cX6_count 15 = .ok (.iload_n 3, 1) := by decide +kernel
theorem dX6_count_16 : decode cX6_count 16 = .ok (.iaload, 1) := by decide +kernel
theorem dX6_count_17 : decode cX6_count 17 = .ok (.ldc 19, 2) := by decide +kernel
theorem dX6_count_19 : decode cX6_count 19 = .ok (.if_icmp .ne 7, 3) := by decide +kernel
theorem dX6_count_22 : decode cX6_count 22 = .ok (.iconst 0, 1) := by decide +kernel
theorem dX6_count_23 : decode cX6_count 23 = .ok (.goto 4, 3) := by decide +kernel
theorem dX6_count_26 : decode cX6_count 26 = .ok (.iconst 1, 1) := by decide +kernel
theorem dX6_count_27 : decode cX6_count 27 = .ok (.iadd, 1) := by decide +kernel
theorem dX6_count_28 : decode cX6_count 28 = .ok (.istore_n 2, 1) := by decide +kernel
theorem dX6_count_29 : decode cX6_count 29 = .ok (.iinc 3 1, 3) := by decide +kernel
theorem dX6_count_32 : decode cX6_count 32 = .ok (.goto (-28), 3) := by decide +kernel
theorem dX6_count_35 : decode cX6_count 35 = .ok (.iload_n 1, 1) := by decide +kernel
theorem dX6_count_36 : decode cX6_count 36 = .ok (.tableswitch 94 0 7 #[48, 50, 57, 64, 71, 76, 84, 89], 48) := by decide +kernel
theorem dX6_count_84 : decode cX6_count 84 = .ok (.iload_n 2, 1) := by decide +kernel
theorem dX6_count_85 : decode cX6_count 85 = .ok (.ireturn, 1) := by decide +kernel
theorem dX6_count_86 : decode cX6_count 86 = .ok (.aload_n 0, 1) := by decide +kernel
theorem dX6_count_87 : decode cX6_count 87 = .ok (.getfield 7, 3) := by decide +kernel
theorem dX6_count_90 : decode cX6_count 90 = .ok (.iconst 2, 1) := by decide +kernel
theorem dX6_count_91 : decode cX6_count 91 = .ok (.iaload, 1) := by decide +kernel
theorem dX6_count_92 : decode cX6_count 92 = .ok (.ireturn, 1) := by decide +kernel
theorem dX6_count_93 : decode cX6_count 93 = .ok (.aload_n 0, 1) := by decide +kernel
theorem dX6_count_94 : decode cX6_count 94 = .ok (.getfield 7, 3) := by decide +kernel
theorem dX6_count_97 : decode cX6_count 97 = .ok (.iconst 3, 1) := by decide +kernel
theorem dX6_count_98 : decode cX6_count 98 = .ok (.iaload, 1) := by decide +kernel
theorem dX6_count_99 : decode cX6_count 99 = .ok (.ireturn, 1) := by decide +kernel
theorem dX6_count_100 : decode cX6_count 100 = .ok (.aload_n 0, 1) := by decide +kernel
theorem dX6_count_101 : decode cX6_count 101 = .ok (.getfield 7, 3) := by decide +kernel
theorem dX6_count_104 : decode cX6_count 104 = .ok (.iconst 1, 1) := by decide +kernel
theorem dX6_count_105 : decode cX6_count 105 = .ok (.iaload, 1) := by decide +kernel
theorem dX6_count_106 : decode cX6_count 106 = .ok (.ireturn, 1) := by decide +kernel
theorem dX6_count_107 : decode cX6_count 107 = .ok (.aload_n 0, 1) := by decide +kernel
theorem dX6_count_108 : decode cX6_count 108 = .ok (.getfield 167, 3) := by decide +kernel
theorem dX6_count_111 : decode cX6_count 111 = .ok (.ireturn, 1) := by decide +kernel
theorem dX6_count_112 : decode cX6_count 112 = .ok (.aload_n 0, 1) := by decide +kernel
theorem dX6_count_113 : decode cX6_count 113 = .ok (.getfield 7, 3) := by decide +kernel
theorem dX6_count_116 : decode cX6_count 116 = .ok (.bipush 40, 2) := by decide +kernel
theorem dX6_count_118 : decode cX6_count 118 = .ok (.iaload, 1) := by decide +kernel
theorem dX6_count_119 : decode cX6_count 119 = .ok (.ireturn, 1) := by decide +kernel
theorem dX6_count_120 : decode cX6_count 120 = .ok (.aload_n 0, 1) := by decide +kernel
theorem dX6_count_121 : decode cX6_count 121 = .ok (.invokevirtual 193, 3) := by decide +kernel
theorem dX6_count_124 : decode cX6_count 124 = .ok (.ireturn, 1) := by decide +kernel
theorem dX6_count_125 : decode cX6_count 125 = .ok (.aload_n 0, 1) := by decide +kernel
theorem dX6_count_126 : decode cX6_count 126 = .ok (.getfield 85, 3) := by decide +kernel
theorem dX6_count_129 : decode cX6_count 129 = .ok (.ireturn, 1) := by decide +kernel
theorem dX6_count_130 : decode cX6_count 130 = .ok (.ldc 71, 2) := by decide +kernel
theorem dX6_count_132 : decode cX6_count 132 = .ok (.ireturn, 1) := by decide +kernel
theorem dX6_status_0 : decode cX6_status 0 = .ok (.aload_n 0, 1) := by decide +kernel
theorem dX6_status_1 : decode cX6_status 1 = .ok (.getfield 55, 3) := by decide +kernel
theorem dX6_status_4 : decode cX6_status 4 = .ok (.ireturn, 1) := by decide +kernel
