theorem dX5_init_0 : decode cX5_init 0 = .ok (.aload_n 0, 1) := by decide +kernel
theorem dX5_init_1 : decode cX5_init 1 = .ok (.invokespecial 3, 3) := by decide +kernel
theorem dX5_init_4 : decode cX5_init 4 = .ok (.aload_n 0, 1) := by decide +kernel
theorem dX5_init_5 : decode cX5_init 5 = .ok (.bipush 8, 2) := by decide +kernel
theorem dX5_init_7 : decode cX5_init 7 = .ok (.anewarray 9, 3) := by decide +kernel
theorem dX5_init_10 : decode cX5_init 10 = .ok (.putfield 11, 3) := by decide +kernel
theorem dX5_init_13 : decode cX5_init 13 = .ok (.aload_n 0, 1) := by decide +kernel
theorem dX5_init_14 : decode cX5_init 14 = .ok (.new 15, 3) := by decide +kernel
theorem dX5_init_17 : decode cX5_init 17 = .ok (.dup, 1) := by decide +kernel
theorem dX5_init_18 : decode cX5_init 18 = .ok (.invokespecial 17, 3) := by decide +kernel
theorem dX5_init_21 : decode cX5_init 21 = .ok (.putfield 18, 3) := by decide +kernel
theorem dX5_init_24 : decode cX5_init 24 = .ok (.aload_n 0, 1) := by decide +kernel
theorem dX5_init_25 : decode cX5_init 25 = .ok (.bipush 24, 2) := by decide +kernel
theorem dX5_init_27 : decode cX5_init 27 = .ok (.anewarray 22, 3) := by decide +kernel
theorem dX5_init_30 : decode cX5_init 30 = .ok (.putfield 24, 3) := by decide +kernel
theorem dX5_init_33 : decode cX5_init 33 = .ok (.aload_n 0, 1) := by decide +kernel
theorem dX5_init_34 : decode cX5_init 34 = .ok (.iconst 0, 1) := by decide +kernel
theorem dX5_init_35 : decode cX5_init 35 = .ok (.putfield 28, 3) := by decide +kernel
theorem dX5_init_38 : decode cX5_init 38 = .ok (.aload_n 0, 1) := by decide +kernel
theorem dX5_init_39 : decode cX5_init 39 = .ok (.iconst 0, 1) := by decide +kernel
theorem dX5_init_40 : decode cX5_init 40 = .ok (.putfield 32, 3) := by decide +kernel
theorem dX5_init_43 : decode cX5_init 43 = .ok (.aload_n 0, 1) := by decide +kernel
theorem dX5_init_44 : decode cX5_init 44 = .ok (.iconst 2, 1) := by decide +kernel
theorem dX5_init_45 : decode cX5_init 45 = .ok (.anewarray 22, 3) := by decide +kernel
theorem dX5_init_48 : decode cX5_init 48 = .ok (.putfield 35, 3) := by decide +kernel
theorem dX5_init_51 : decode cX5_init 51 = .ok (.aload_n 0, 1) := by decide +kernel
theorem dX5_init_52 : decode cX5_init 52 = .ok (.aconst_null, 1) := by decide +kernel
theorem dX5_init_53 : decode cX5_init 53 = .ok (.putfield 38, 3) := by decide +kernel
theorem dX5_init_56 : decode cX5_init 56 = .ok (.aload_n 0, 1) := by decide +kernel
theorem dX5_init_57 : decode cX5_init 57 = .ok (.bipush 16, 2) := by decide +kernel
theorem dX5_init_59 : decode cX5_init 59 = .ok (.newarray .int, 2) := by decide +kernel
theorem dX5_init_61 : decode cX5_init 61 = .ok (.putfield 42, 3) := by decide +kernel
theorem dX5_init_64 : decode cX5_init 64 = .ok (.aload_n 0, 1) := by decide +kernel
theorem dX5_init_65 : decode cX5_init 65 = .ok (.iconst 0, 1) := by decide +kernel
theorem dX5_init_66 : decode cX5_init 66 = .ok (.putfield 46, 3) := by decide +kernel
theorem dX5_init_69 : decode cX5_init 69 = .ok (.aload_n 0, 1) := by decide +kernel
theorem dX5_init_70 : decode cX5_init 70 = .ok (.iconst 0, 1) := by decide +kernel
theorem dX5_init_71 : decode cX5_init 71 = .ok (.putfield 49, 3) := by decide +kernel
theorem dX5_init_74 : decode cX5_init 74 = .ok (.aload_n 0, 1) := by decide +kernel
theorem dX5_init_75 : decode cX5_init 75 = .ok (.iconst 0, 1) := by decide +kernel
theorem dX5_init_76 : decode cX5_init 76 = .ok (.putfield 52, 3) := by decide +kernel
theorem dX5_init_79 : decode cX5_init 79 = .ok (.new 55, 3) := by decide +kernel
theorem dX5_init_82 : decode cX5_init 82 = .ok (.dup, 1) := by decide +kernel
theorem dX5_init_83 : decode cX5_init 83 = .ok (.invokespecial 57, 3) := by decide +kernel
theorem dX5_init_86 : decode cX5_init 86 = .ok (.astore_n 1, 1) := by decide +kernel
theorem dX5_init_87 : decode cX5_init 87 = .ok (.aload_n 0, 1) := by decide +kernel
theorem dX5_init_88 : decode cX5_init 88 = .ok (.new 22, 3) := by decide +kernel
theorem dX5_init_91 : decode cX5_init 91 = .ok (.dup, 1) := by decide +kernel
theorem dX5_init_92 : decode cX5_init 92 = .ok (.aload_n 1, 1) := by decide +kernel
theorem dX5_init_93 : decode cX5_init 93 = .ok (.invokespecial 58, 3) := by decide +kernel
theorem dX5_init_96 : decode cX5_init 96 = .ok (.putfield 61, 3) := by decide +kernel
theorem dX5_init_99 : decode cX5_init 99 = .ok (.aload_n 0, 1) := by decide +kernel
theorem dX5_init_100 : decode cX5_init 100 = .ok (.new 22, 3) := by decide +kernel
theorem dX5_init_103 : decode cX5_init 103 = .ok (.dup, 1) := by decide +kernel
theorem dX5_init_104 : decode cX5_init 104 = .ok (.aload_n 1, 1) := by decide +kernel
theorem dX5_init_105 : decode cX5_init 105 = .ok (.invokespecial 58, 3) := by decide +kernel
theorem dX5_init_108 : decode cX5_init 108 = .ok (.putfield 65, 3) := by decide +kernel
theorem dX5_init_111 : decode cX5_init 111 = .ok (.aload_n 0, 1) := by decide +kernel
theorem dX5_init_112 : decode cX5_init 112 = .ok (.new 22, 3) := by decide +kernel
theorem dX5_init_115 : decode cX5_init 115 = .ok (.dup, 1) := by decide +kernel
theorem dX5_init_116 : decode cX5_init 116 = .ok (.aload_n 1, 1) := by decide +kernel
theorem dX5_init_117 : decode cX5_init 117 = .ok (.invokespecial 58, 3) := by decide +kernel
theorem dX5_init_120 : decode cX5_init 120 = .ok (.putfield 68, 3) := by decide +kernel
theorem dX5_init_123 : decode cX5_init 123 = .ok (.iconst 0, 1) := by decide +kernel
theorem dX5_init_124 : decode cX5_init 124 = .ok (.istore_n 2, 1) := by decide +kernel
theorem dX5_init_125 : decode cX5_init 125 = .ok (.iload_n 2, 1) := by decide +kernel
theorem dX5_init_126 : decode cX5_init 126 = .ok (.bipush 8, 2) := by decide +kernel
theorem dX5_init_128 : decode cX5_init 128 = .ok (.if_icmp .ge 22, 3) := by decide +kernel
theorem dX5_init_131 : decode cX5_init 131 = .ok (.aload_n 0, 1) := by decide +kernel
theorem dX5_init_132 : decode cX5_init 132 = .ok (.getfield 11, 3) := by decide +kernel
theorem dX5_init_135 : decode cX5_init 135 = .ok (.iload_n 2, 1) := by decide +kernel
theorem dX5_init_136 : decode cX5_init 136 = .ok (.new 9, 3) := by decide +kernel
theorem dX5_init_139 : decode cX5_init 139 = .ok (.dup, 1) := by decide +kernel
theorem dX5_init_140 : decode cX5_init 140 = .ok (.invokespecial 71, 3) := by decide +kernel
theorem dX5_init_143 : decode cX5_init 143 = .ok (.aastore, 1) := by decide +kernel
theorem dX5_init_144 : decode cX5_init 144 = .ok (.iinc 2 1, 3) := by decide +kernel
theorem dX5_init_147 : decode cX5_init 147 = .ok (.goto (-22), 3) := by decide +kernel
theorem dX5_init_150 : decode cX5_init 150 = .ok (.iconst 0, 1) := by decide +kernel
theorem dX5_init_151 : decode cX5_init 151 = .ok (.istore_n 2, 1) := by decide +kernel
theorem dX5_init_152 : decode cX5_init 152 = .ok (.iload_n 2, 1) := by decide +kernel
theorem dX5_init_153 : decode cX5_init 153 = .ok (.bipush 24, 2) := by decide +kernel
theorem dX5_init_155 : decode cX5_init 155 = .ok (.if_icmp .ge 23, 3) := by decide +kernel
theorem dX5_init_158 : decode cX5_init 158 = .ok (.aload_n 0, 1) := by decide +kernel
theorem dX5_init_159 : decode cX5_init 159 = .ok (.getfield 24, 3) := by decide +kernel
theorem dX5_init_162 : decode cX5_init 162 = .ok (.iload_n 2, 1) := by decide +kernel
theorem dX5_init_163 : decode cX5_init 163 = .ok (.new 22, 3) := by decide +kernel
theorem dX5_init_166 : decode cX5_init 166 = .ok (.dup, 1) := by decide +kernel
theorem dX5_init_167 : decode cX5_init 167 = .ok (.aload_n 1, 1) := by decide +kernel
theorem dX5_init_168 : decode cX5_init 168 = .ok (.invokespecial 58, 3) := by decide +kernel
theorem dX5_init_171 : decode cX5_init 171 = .ok (.aastore, 1) := by decide +kernel
theorem dX5_init_172 : decode cX5_init 172 = .ok (.iinc 2 1, 3) := by decide +kernel
theorem dX5_init_175 : decode cX5_init 175 = .ok (.goto (-23), 3) := by decide +kernel
theorem dX5_init_178 : decode cX5_init 178 = .ok (.iconst 0, 1) := by decide +kernel
theorem dX5_init_179 : decode cX5_init 179 = .ok (.istore_n 2, 1) := by decide +kernel
theorem dX5_init_180 : decode cX5_init 180 = .ok (.iload_n 2, 1) := by decide +kernel
theorem dX5_init_181 : decode cX5_init 181 = .ok (.iconst 2, 1) := by decide +kernel
theorem dX5_init_182 : decode cX5_init 182 = .ok (.if_icmp .ge 23, 3) := by decide +kernel
theorem dX5_init_185 : decode cX5_init 185 = .ok (.aload_n 0, 1) := by decide +kernel
theorem dX5_init_186 : decode cX5_init 186 = .ok (.getfield 35, 3) := by decide +kernel
theorem dX5_init_189 : decode cX5_init 189 = .ok (.iload_n 2, 1) := by decide +kernel
theorem dX5_init_190 : decode cX5_init 190 = .ok (.new 22, 3) := by decide +kernel
theorem dX5_init_193 : decode cX5_init 193 = .ok (.dup, 1) := by decide +kernel
theorem dX5_init_194 : decode cX5_init 194 = .ok (.aload_n 1, 1) := by decide +kernel
theorem dX5_init_195 : decode cX5_init 195 = .ok (.invokespecial 58, 3) := by decide +kernel
theorem dX5_init_198 : decode cX5_init 198 = .ok (.aastore, 1) := by decide +kernel
theorem dX5_init_199 : decode cX5_init 199 = .ok (.iinc 2 1, 3) := by decide +kernel
theorem dX5_init_202 : decode cX5_init 202 = .ok (.goto (-22), 3) := by decide +kernel
theorem dX5_init_205 : decode cX5_init 205 = .ok (.return_, 1) := by decide +kernel
theorem dX5_row_0 : decode cX5_row 0 = .ok (.iload_n 1, 1) := by decide +kernel
theorem dX5_row_1 : decode cX5_row 1 = .ok (.invokestatic 72, 3) := by decide +kernel
theorem dX5_row_4 : decode cX5_row 4 = .ok (.ifCond .eq 18, 3) := by decide +kernel
theorem dX5_row_7 : decode cX5_row 7 = .ok (.iload_n 2, 1) := by decide +kernel
theorem dX5_row_8 : decode cX5_row 8 = .ok (.ifCond .lt 14, 3) := by decide +kernel
theorem dX5_row_11 : decode cX5_row 11 = .ok (.iload_n 2, 1) := by decide +kernel
theorem dX5_row_12 : decode cX5_row 12 = .ok (.iconst 2, 1) := by decide +kernel
theorem dX5_row_13 : decode cX5_row 13 = .ok (.if_icmp .gt 9, 3) := by decide +kernel
theorem dX5_row_16 : decode cX5_row 16 = .ok (.iload_n 3, 1) := by decide +kernel
theorem dX5_row_17 : decode cX5_row 17 = .ok (.bipush 40, 2) := by decide +kernel
theorem dX5_row_19 : decode cX5_row 19 = .ok (.if_icmp .le 6, 3) := by decide +kernel
theorem dX5_row_22 : decode cX5_row 22 = .ok (.ldc 76, 2) := by decide +kernel
theorem dX5_row_24 : decode cX5_row 24 = .ok (.ireturn, 1) := by decide +kernel
theorem dX5_row_25 : decode cX5_row 25 = .ok (.iload_n 3, 1) := by decide +kernel
theorem dX5_row_26 : decode cX5_row 26 = .ok (.ifCond .ge 9, 3) := by decide +kernel
theorem dX5_row_29 : decode cX5_row 29 = .ok (.aload_n 0, 1) := by decide +kernel
theorem dX5_row_30 : decode cX5_row 30 = .ok (.iconst 4, 1) := by decide +kernel
theorem dX5_row_31 : decode cX5_row 31 = .ok (.invokevirtual 77, 3) := by decide +kernel
theorem dX5_row_34 : decode cX5_row 34 = .ok (.ireturn, 1) := by decide +kernel
theorem dX5_row_35 : decode cX5_row 35 = .ok (.aload_n 0, 1) := by decide +kernel
theorem dX5_row_36 : decode cX5_row 36 = .ok (.getfield 11, 3) := by decide +kernel
theorem dX5_row_39 : decode cX5_row 39 = .ok (.iload_n 1, 1) := by decide +kernel
theorem dX5_row_40 : decode cX5_row 40 = .ok (.aaload, 1) := by decide +kernel
theorem dX5_row_41 : decode cX5_row 41 = .ok (.iload_n 2, 1) := by decide +kernel
theorem dX5_row_42 : decode cX5_row 42 = .ok (.iload_n 3, 1) := by decide +kernel
theorem dX5_row_43 : decode cX5_row 43 = .ok (.invokevirtual 81, 3) := by decide +kernel
theorem dX5_row_46 : decode cX5_row 46 = .ok (.aload_n 0, 1) := by decide +kernel
theorem dX5_row_47 : decode cX5_row 47 = .ok (.iload_n 3, 1) := by decide +kernel
theorem dX5_row_48 : decode cX5_row 48 = .ok (.invokevirtual 85, 3) := by decide +kernel
theorem dX5_row_51 : decode cX5_row 51 = .ok (.ireturn, 1) := by decide +kernel
theorem dX5_set_0 : decode cX5_set 0 = .ok (.iload_n 1, 1) := by decide +kernel
theorem dX5_set_1 : decode cX5_set 1 = .ok (.invokestatic 72, 3) := by decide +kernel
theorem dX5_set_4 : decode cX5_set 4 = .ok (.ifCond .ne 6, 3) := by decide +kernel
theorem dX5_set_7 : decode cX5_set 7 = .ok (.ldc 76, 2) := by decide +kernel
theorem dX5_set_9 : decode cX5_set 9 = .ok (.ireturn, 1) := by decide +kernel
theorem dX5_set_10 : decode cX5_set 10 = .ok (.aload_n 0, 1) := by decide +kernel
theorem dX5_set_11 : decode cX5_set 11 = .ok (.iload_n 1, 1) := by decide +kernel
theorem dX5_set_12 : decode cX5_set 12 = .ok (.iload_n 2, 1) := by decide +kernel
theorem dX5_set_13 : decode cX5_set 13 = .ok (.iconst 1, 1) := by decide +kernel
theorem dX5_set_14 : decode cX5_set 14 = .ok (.invokevirtual 88, 3) := by decide +kernel
theorem dX5_set_17 : decode cX5_set 17 = .ok (.istore 4, 2) := by decide +kernel
theorem dX5_set_19 : decode cX5_set 19 = .ok (.iload 4, 2) := by decide +kernel
theorem dX5_set_21 : decode cX5_set 21 = .ok (.ifCond .eq 10, 3) := by decide +kernel
theorem dX5_set_24 : decode cX5_set 24 = .ok (.aload_n 0, 1) := by decide +kernel
theorem dX5_set_25 : decode cX5_set 25 = .ok (.iload 4, 2) := by decide +kernel
theorem dX5_set_27 : decode cX5_set 27 = .ok (.invokevirtual 77, 3) := by decide +kernel
theorem dX5_set_30 : decode cX5_set 30 = .ok (.ireturn, 1) := by decide +kernel
theorem dX5_set_31 : decode cX5_set 31 = .ok (.aload_n 0, 1) := by decide +kernel
theorem dX5_set_32 : decode cX5_set 32 = .ok (.aload_n 0, 1) := by decide +kernel
theorem dX5_set_33 : decode cX5_set 33 = .ok (.getfield 11, 3) := by decide +kernel
theorem dX5_set_36 : decode cX5_set 36 = .ok (.iload_n 1, 1) := by decide +kernel
theorem dX5_set_37 : decode cX5_set 37 = .ok (.aaload, 1) := by decide +kernel
theorem dX5_set_38 : decode cX5_set 38 = .ok (.iload_n 2, 1) := by decide +kernel
theorem dX5_set_39 : decode cX5_set 39 = .ok (.iload_n 3, 1) := by decide +kernel
theorem dX5_set_40 : decode cX5_set 40 = .ok (.invokevirtual 92, 3) := by decide +kernel
theorem dX5_set_43 : decode cX5_set 43 = .ok (.invokevirtual 85, 3) := by decide +kernel
theorem dX5_set_46 : decode cX5_set 46 = .ok (.ireturn, 1) := by decide +kernel
theorem dX5_copy_0 : decode cX5_copy 0 = .ok (.iload_n 1, 1) := by decide +kernel
theorem dX5_copy_1 : decode cX5_copy 1 = .ok (.invokestatic 72, 3) := by decide +kernel
theorem dX5_copy_4 : decode cX5_copy 4 = .ok (.ifCond .eq 10, 3) := by decide +kernel
theorem dX5_copy_7 : decode cX5_copy 7 = .ok (.iload_n 3, 1) := by decide +kernel
theorem dX5_copy_8 : decode cX5_copy 8 = .ok (.invokestatic 72, 3) := by decide +kernel
theorem dX5_copy_11 : decode cX5_copy 11 = .ok (.ifCond .ne 6, 3) := by decide +kernel
theorem dX5_copy_14 : decode cX5_copy 14 = .ok (.ldc 76, 2) := by decide +kernel
theorem dX5_copy_16 : decode cX5_copy 16 = .ok (.ireturn, 1) := by decide +kernel
theorem dX5_copy_17 : decode cX5_copy 17 = .ok (.aload_n 0, 1) := by decide +kernel
theorem dX5_copy_18 : decode cX5_copy 18 = .ok (.getfield 11, 3) := by decide +kernel
theorem dX5_copy_21 : decode cX5_copy 21 = .ok (.iload_n 1, 1) := by decide +kernel
theorem dX5_copy_22 : decode cX5_copy 22 = .ok (.aaload, 1) := by decide +kernel
theorem dX5_copy_23 : decode cX5_copy 23 = .ok (.astore 6, 2) := by decide +kernel
theorem dX5_copy_25 : decode cX5_copy 25 = .ok (.aload_n 0, 1) := by decide +kernel
theorem dX5_copy_26 : decode cX5_copy 26 = .ok (.getfield 11, 3) := by decide +kernel
theorem dX5_copy_29 : decode cX5_copy 29 = .ok (.iload_n 3, 1) := by decide +kernel
theorem dX5_copy_30 : decode cX5_copy 30 = .ok (.aaload, 1) := by decide +kernel
theorem dX5_copy_31 : decode cX5_copy 31 = .ok (.astore 7, 2) := by decide +kernel
theorem dX5_copy_33 : decode cX5_copy 33 = .ok (.aload 6, 2) := by decide +kernel
theorem dX5_copy_35 : decode cX5_copy 35 = .ok (.invokevirtual 96, 3) := by decide +kernel
theorem dX5_copy_38 : decode cX5_copy 38 = .ok (.ifCond .ne 11, 3) := by decide +kernel
theorem dX5_copy_41 : decode cX5_copy 41 = .ok (.aload 7, 2) := by decide +kernel
theorem dX5_copy_43 : decode cX5_copy 43 = .ok (.invokevirtual 96, 3) := by decide +kernel
theorem dX5_copy_46 : decode cX5_copy 46 = .ok (.ifCond .eq 9, 3) := by decide +kernel
theorem dX5_copy_49 : decode cX5_copy 49 = .ok (.aload_n 0, 1) := by decide +kernel
theorem dX5_copy_50 : decode cX5_copy 50 = .ok (.iconst 1, 1) := by decide +kernel
theorem dX5_copy_51 : decode cX5_copy 51 = .ok (.invokevirtual 77, 3) := by decide +kernel
theorem dX5_copy_54 : decode cX5_copy 54 = .ok (.ireturn, 1) := by decide +kernel
theorem dX5_copy_55 : decode cX5_copy 55 = .ok (.aload 6, 2) := by decide +kernel
theorem dX5_copy_57 : decode cX5_copy 57 = .ok (.getfield 100, 3) := by decide +kernel
theorem dX5_copy_60 : decode cX5_copy 60 = .ok (.aload 7, 2) := by decide +kernel
theorem dX5_copy_62 : decode cX5_copy 62 = .ok (.getfield 100, 3) := by decide +kernel
theorem dX5_copy_65 : decode cX5_copy 65 = .ok (.if_icmp .eq 9, 3) := by decide +kernel
theorem dX5_copy_68 : decode cX5_copy 68 = .ok (.aload_n 0, 1) := by decide +kernel
theorem dX5_copy_69 : decode cX5_copy 69 = .ok (.iconst 5, 1) := by decide +kernel
theorem dX5_copy_70 : decode cX5_copy 70 = .ok (.invokevirtual 77, 3) := by decide +kernel
theorem dX5_copy_73 : decode cX5_copy 73 = .ok (.ireturn, 1) := by decide +kernel
theorem dX5_copy_74 : decode cX5_copy 74 = .ok (.aload 6, 2) := by decide +kernel
theorem dX5_copy_76 : decode cX5_copy 76 = .ok (.iload_n 2, 1) := by decide +kernel
theorem dX5_copy_77 : decode cX5_copy 77 = .ok (.iload 5, 2) := by decide +kernel
theorem dX5_copy_79 : decode cX5_copy 79 = .ok (.invokevirtual 103, 3) := by decide +kernel
theorem dX5_copy_82 : decode cX5_copy 82 = .ok (.ifCond .eq 15, 3) := by decide +kernel
theorem dX5_copy_85 : decode cX5_copy 85 = .ok (.aload 7, 2) := by decide +kernel
theorem dX5_copy_87 : decode cX5_copy 87 = .ok (.iload 4, 2) := by decide +kernel
theorem dX5_copy_89 : decode cX5_copy 89 = .ok (.iload 5, 2) := by decide +kernel
theorem dX5_copy_91 : decode cX5_copy 91 = .ok (.invokevirtual 103, 3) := by decide +kernel
theorem dX5_copy_94 : decode cX5_copy 94 = .ok (.ifCond .ne 9, 3) := by decide +kernel
theorem dX5_copy_97 : decode cX5_copy 97 = .ok (.aload_n 0, 1) := by decide +kernel
theorem dX5_copy_98 : decode cX5_copy 98 = .ok (.iconst 2, 1) := by decide +kernel
theorem dX5_copy_99 : decode cX5_copy 99 = .ok (.invokevirtual 77, 3) := by decide +kernel
theorem dX5_copy_102 : decode cX5_copy 102 = .ok (.ireturn, 1) := by decide +kernel
theorem dX5_copy_103 : decode cX5_copy 103 = .ok (.aload 6, 2) := by decide +kernel
theorem dX5_copy_105 : decode cX5_copy 105 = .ok (.getfield 107, 3) := by decide +kernel
theorem dX5_copy_108 : decode cX5_copy 108 = .ok (.iload_n 2, 1) := by decide +kernel
theorem dX5_copy_109 : decode cX5_copy 109 = .ok (.aload 7, 2) := by decide +kernel
theorem dX5_copy_111 : decode cX5_copy 111 = .ok (.getfield 107, 3) := by decide +kernel
theorem dX5_copy_114 : decode cX5_copy 114 = .ok (.iload 4, 2) := by decide +kernel
theorem dX5_copy_116 : decode cX5_copy 116 = .ok (.iload 5, 2) := by decide +kernel
theorem dX5_copy_118 : decode cX5_copy 118 = .ok (.invokestatic 110, 3) := by decide +kernel
theorem dX5_copy_121 : decode cX5_copy 121 = .ok (.aload_n 0, 1) := by decide +kernel
theorem dX5_copy_122 : decode cX5_copy 122 = .ok (.iload 5, 2) := by decide +kernel
theorem dX5_copy_124 : decode cX5_copy 124 = .ok (.invokevirtual 85, 3) := by decide +kernel
theorem dX5_copy_127 : decode cX5_copy 127 = .ok (.ireturn, 1) := by decide +kernel
theorem dX5_drop_0 : decode cX5_drop 0 = .ok (.iload_n 1, 1) := by decide +kernel
theorem dX5_drop_1 : decode cX5_drop 1 = .ok (.invokestatic 72, 3) := by decide +kernel
theorem dX5_drop_4 : decode cX5_drop 4 = .ok (.ifCond .ne 6, 3) := by decide +kernel
theorem dX5_drop_7 : decode cX5_drop 7 = .ok (.ldc 76, 2) := by decide +kernel
theorem dX5_drop_9 : decode cX5_drop 9 = .ok (.ireturn, 1) := by decide +kernel
theorem dX5_drop_10 : decode cX5_drop 10 = .ok (.aload_n 0, 1) := by decide +kernel
theorem dX5_drop_11 : decode cX5_drop 11 = .ok (.getfield 11, 3) := by decide +kernel
theorem dX5_drop_14 : decode cX5_drop 14 = .ok (.iload_n 1, 1) := by decide +kernel
theorem dX5_drop_15 : decode cX5_drop 15 = .ok (.aaload, 1) := by decide +kernel
theorem dX5_drop_16 : decode cX5_drop 16 = .ok (.invokevirtual 96, 3) := by decide +kernel
theorem dX5_drop_19 : decode cX5_drop 19 = .ok (.ifCond .eq 9, 3) := by decide +kernel
theorem dX5_drop_22 : decode cX5_drop 22 = .ok (.aload_n 0, 1) := by decide +kernel
theorem dX5_drop_23 : decode cX5_drop 23 = .ok (.iconst 1, 1) := by decide +kernel
theorem dX5_drop_24 : decode cX5_drop 24 = .ok (.invokevirtual 77, 3) := by decide +kernel
theorem dX5_drop_27 : decode cX5_drop 27 = .ok (.ireturn, 1) := by decide +kernel
theorem dX5_drop_28 : decode cX5_drop 28 = .ok (.aload_n 0, 1) := by decide +kernel
theorem dX5_drop_29 : decode cX5_drop 29 = .ok (.getfield 11, 3) := by decide +kernel
theorem dX5_drop_32 : decode cX5_drop 32 = .ok (.iload_n 1, 1) := by decide +kernel
theorem dX5_drop_33 : decode cX5_drop 33 = .ok (.aaload, 1) := by decide +kernel
theorem dX5_drop_34 : decode cX5_drop 34 = .ok (.getfield 116, 3) := by decide +kernel
theorem dX5_drop_37 : decode cX5_drop 37 = .ok (.istore_n 2, 1) := by decide +kernel
theorem dX5_drop_38 : decode cX5_drop 38 = .ok (.aload_n 0, 1) := by decide +kernel
theorem dX5_drop_39 : decode cX5_drop 39 = .ok (.getfield 11, 3) := by decide +kernel
theorem dX5_drop_42 : decode cX5_drop 42 = .ok (.iload_n 1, 1) := by decide +kernel
theorem dX5_drop_43 : decode cX5_drop 43 = .ok (.aaload, 1) := by decide +kernel
theorem dX5_drop_44 : decode cX5_drop 44 = .ok (.invokevirtual 119, 3) := by decide +kernel
theorem dX5_drop_47 : decode cX5_drop 47 = .ok (.aload_n 0, 1) := by decide +kernel
theorem dX5_drop_48 : decode cX5_drop 48 = .ok (.iload_n 2, 1) := by decide +kernel
theorem dX5_drop_49 : decode cX5_drop 49 = .ok (.invokevirtual 85, 3) := by decide +kernel
theorem dX5_drop_52 : decode cX5_drop 52 = .ok (.ireturn, 1) := by decide +kernel
theorem dX5_feed_0 : decode cX5_feed 0 = .ok (.iload_n 3, 1) := by decide +kernel
theorem dX5_feed_1 : decode cX5_feed 1 = .ok (.iconst 1, 1) := by decide +kernel
theorem dX5_feed_2 : decode cX5_feed 2 = .ok (.if_icmp .lt 9, 3) := by decide +kernel
theorem dX5_feed_5 : decode cX5_feed 5 = .ok (.iload_n 3, 1) := by decide +kernel
theorem dX5_feed_6 : decode cX5_feed 6 = .ok (.bipush 8, 2) := by decide +kernel
theorem dX5_feed_8 : decode cX5_feed 8 = .ok (.if_icmp .le 6, 3) := by decide +kernel
theorem dX5_feed_11 : decode cX5_feed 11 = .ok (.ldc 76, 2) := by decide +kernel
theorem dX5_feed_13 : decode cX5_feed 13 = .ok (.ireturn, 1) := by decide +kernel
theorem dX5_feed_14 : decode cX5_feed 14 = .ok (.aload_n 0, 1) := by decide +kernel
theorem dX5_feed_15 : decode cX5_feed 15 = .ok (.getfield 18, 3) := by decide +kernel
theorem dX5_feed_18 : decode cX5_feed 18 = .ok (.getfield 122, 3) := by decide +kernel
theorem dX5_feed_21 : decode cX5_feed 21 = .ok (.sipush 400, 3) := by decide +kernel
theorem dX5_feed_24 : decode cX5_feed 24 = .ok (.iload_n 3, 1) := by decide +kernel
theorem dX5_feed_25 : decode cX5_feed 25 = .ok (.isub, 1) := by decide +kernel
theorem dX5_feed_26 : decode cX5_feed 26 = .ok (.if_icmp .le 6, 3) := by decide +kernel
theorem dX5_feed_29 : decode cX5_feed 29 = .ok (.ldc 125, 2) := by decide +kernel
theorem dX5_feed_31 : decode cX5_feed 31 = .ok (.ireturn, 1) := by decide +kernel
theorem dX5_feed_32 : decode cX5_feed 32 = .ok (.aload_n 0, 1) := by decide +kernel
theorem dX5_feed_33 : decode cX5_feed 33 = .ok (.getfield 18, 3) := by decide +kernel
theorem dX5_feed_36 : decode cX5_feed 36 = .ok (.lload_n 1, 1) := by decide +kernel
theorem dX5_feed_37 : decode cX5_feed 37 = .ok (.iload_n 3, 1) := by decide +kernel
theorem dX5_feed_38 : decode cX5_feed 38 = .ok (.invokevirtual 126, 3) := by decide +kernel
theorem dX5_feed_41 : decode cX5_feed 41 = .ok (.aload_n 0, 1) := by decide +kernel
theorem dX5_feed_42 : decode cX5_feed 42 = .ok (.getfield 18, 3) := by decide +kernel
theorem dX5_feed_45 : decode cX5_feed 45 = .ok (.getfield 122, 3) := by decide +kernel
theorem dX5_feed_48 : decode cX5_feed 48 = .ok (.ireturn, 1) := by decide +kernel
theorem dX5_fold_0 : decode cX5_fold 0 = .ok (.aload_n 0, 1) := by decide +kernel
theorem dX5_fold_1 : decode cX5_fold 1 = .ok (.getfield 18, 3) := by decide +kernel
theorem dX5_fold_4 : decode cX5_fold 4 = .ok (.invokevirtual 130, 3) := by decide +kernel
theorem dX5_fold_7 : decode cX5_fold 7 = .ok (.astore_n 1, 1) := by decide +kernel
theorem dX5_fold_8 : decode cX5_fold 8 = .ok (.aload_n 1, 1) := by decide +kernel
theorem dX5_fold_9 : decode cX5_fold 9 = .ok (.ifnonnull 25, 3) := by decide +kernel
theorem dX5_fold_12 : decode cX5_fold 12 = .ok (.aload_n 0, 1) := by decide +kernel
theorem dX5_fold_13 : decode cX5_fold 13 = .ok (.aload_n 0, 1) := by decide +kernel
theorem dX5_fold_14 : decode cX5_fold 14 = .ok (.getfield 18, 3) := by decide +kernel
theorem dX5_fold_17 : decode cX5_fold 17 = .ok (.getfield 134, 3) := by decide +kernel
theorem dX5_fold_20 : decode cX5_fold 20 = .ok (.putfield 49, 3) := by decide +kernel
theorem dX5_fold_23 : decode cX5_fold 23 = .ok (.ldc 137, 2) := by decide +kernel
theorem dX5_fold_25 : decode cX5_fold 25 = .ok (.aload_n 0, 1) := by decide +kernel
theorem dX5_fold_26 : decode cX5_fold 26 = .ok (.getfield 18, 3) := by decide +kernel
theorem dX5_fold_29 : decode cX5_fold 29 = .ok (.getfield 138, 3) := by decide +kernel
theorem dX5_fold_32 : decode cX5_fold 32 = .ok (.isub, 1) := by decide +kernel
theorem dX5_fold_33 : decode cX5_fold 33 = .ok (.ireturn, 1) := by decide +kernel
theorem dX5_fold_34 : decode cX5_fold 34 = .ok (.aload_n 0, 1) := by decide +kernel
theorem dX5_fold_35 : decode cX5_fold 35 = .ok (.getfield 61, 3) := by decide +kernel
theorem dX5_fold_38 : decode cX5_fold 38 = .ok (.aload_n 1, 1) := by decide +kernel
theorem dX5_fold_39 : decode cX5_fold 39 = .ok (.iconst 0, 1) := by decide +kernel
theorem dX5_fold_40 : decode cX5_fold 40 = .ok (.invokevirtual 141, 3) := by decide +kernel
theorem dX5_fold_43 : decode cX5_fold 43 = .ok (.aload_n 0, 1) := by decide +kernel
theorem dX5_fold_44 : decode cX5_fold 44 = .ok (.invokevirtual 144, 3) := by decide +kernel
theorem dX5_fold_47 : decode cX5_fold 47 = .ok (.aload_n 1, 1) := by decide +kernel
theorem dX5_fold_48 : decode cX5_fold 48 = .ok (.getfield 147, 3) := by decide +kernel
theorem dX5_fold_51 : decode cX5_fold 51 = .ok (.ireturn, 1) := by decide +kernel
theorem dX5_fault_0 : decode cX5_fault 0 = .ok (.aload_n 0, 1) := by decide +kernel
theorem dX5_fault_1 : decode cX5_fault 1 = .ok (.getfield 49, 3) := by decide +kernel
theorem dX5_fault_4 : decode cX5_fault 4 = .ok (.ireturn, 1) := by decide +kernel
theorem dX5_run_0 : decode cX5_run 0 = .ok (.aload_n 0, 1) := by decide +kernel
theorem dX5_run_1 : decode cX5_run 1 = .ok (.iload_n 1, 1) := by decide +kernel
theorem dX5_run_2 : decode cX5_run 2 = .ok (.invokevirtual 150, 3) := by decide +kernel
theorem dX5_run_5 : decode cX5_run 5 = .ok (.ifCond .ne 6, 3) := by decide +kernel
theorem dX5_run_8 : decode cX5_run 8 = .ok (.ldc 76, 2) := by decide +kernel
theorem dX5_run_10 : decode cX5_run 10 = .ok (.ireturn, 1) := by decide +kernel
theorem dX5_run_11 : decode cX5_run 11 = .ok (.aload_n 0, 1) := by decide +kernel
theorem dX5_run_12 : decode cX5_run 12 = .ok (.getfield 61, 3) := by decide +kernel
theorem dX5_run_15 : decode cX5_run 15 = .ok (.invokevirtual 153, 3) := by decide +kernel
theorem dX5_run_18 : decode cX5_run 18 = .ok (.sipush 9999, 3) := by decide +kernel
theorem dX5_run_21 : decode cX5_run 21 = .ok (.if_icmp .lt 6, 3) := by decide +kernel
theorem dX5_run_24 : decode cX5_run 24 = .ok (.ldc 125, 2) := by decide +kernel
theorem dX5_run_26 : decode cX5_run 26 = .ok (.ireturn, 1) := by decide +kernel
theorem dX5_run_27 : decode cX5_run 27 = .ok (.aload_n 0, 1) := by decide +kernel
theorem dX5_run_28 : decode cX5_run 28 = .ok (.iload_n 1, 1) := by decide +kernel
theorem dX5_run_29 : decode cX5_run 29 = .ok (.invokevirtual 157, 3) := by decide +kernel
theorem dX5_run_32 : decode cX5_run 32 = .ok (.ireturn, 1) := by decide +kernel
theorem dX5_runs_0 : decode cX5_runs 0 = .ok (.aload_n 0, 1) := by decide +kernel
theorem dX5_runs_1 : decode cX5_runs 1 = .ok (.invokevirtual 160, 3) := by decide +kernel
theorem dX5_runs_4 : decode cX5_runs 4 = .ok (.ifCond .eq 6, 3) := by decide +kernel
theorem dX5_runs_7 : decode cX5_runs 7 = .ok (.ldc 163, 2) := by decide +kernel
theorem dX5_runs_9 : decode cX5_runs 9 = .ok (.ireturn, 1) := by decide +kernel
theorem dX5_runs_10 : decode cX5_runs 10 = .ok (.iload_n 1, 1) := by decide +kernel
theorem dX5_runs_11 : decode cX5_runs 11 = .ok (.invokestatic 72, 3) := by decide +kernel
theorem dX5_runs_14 : decode cX5_runs 14 = .ok (.ifCond .eq 14, 3) := by decide +kernel
theorem dX5_runs_17 : decode cX5_runs 17 = .ok (.iload_n 3, 1) := by decide +kernel
theorem dX5_runs_18 : decode cX5_runs 18 = .ok (.iconst 1, 1) := by decide +kernel
theorem dX5_runs_19 : decode cX5_runs 19 = .ok (.if_icmp .lt 9, 3) := by decide +kernel
theorem dX5_runs_22 : decode cX5_runs 22 = .ok (.iload_n 3, 1) := by decide +kernel
theorem dX5_runs_23 : decode cX5_runs 23 = .ok (.bipush 24, 2) := by decide +kernel
theorem dX5_runs_25 : decode cX5_runs 25 = .ok (.if_icmp .le 6, 3) := by decide +kernel
theorem dX5_runs_28 : decode cX5_runs 28 = .ok (.ldc 76, 2) := by decide +kernel
theorem dX5_runs_30 : decode cX5_runs 30 = .ok (.ireturn, 1) := by decide +kernel
theorem dX5_runs_31 : decode cX5_runs 31 = .ok (.aload_n 0, 1) := by decide +kernel
theorem dX5_runs_32 : decode cX5_runs 32 = .ok (.iload_n 1, 1) := by decide +kernel
theorem dX5_runs_33 : decode cX5_runs 33 = .ok (.iload_n 2, 1) := by decide +kernel
theorem dX5_runs_34 : decode cX5_runs 34 = .ok (.iload_n 3, 1) := by decide +kernel
theorem dX5_runs_35 : decode cX5_runs 35 = .ok (.invokevirtual 88, 3) := by decide +kernel
theorem dX5_runs_38 : decode cX5_runs 38 = .ok (.istore 4, 2) := by decide +kernel
theorem dX5_runs_40 : decode cX5_runs 40 = .ok (.iload 4, 2) := by decide +kernel
theorem dX5_runs_42 : decode cX5_runs 42 = .ok (.ifCond .eq 10, 3) := by decide +kernel
theorem dX5_runs_45 : decode cX5_runs 45 = .ok (.aload_n 0, 1) := by decide +kernel
theorem dX5_runs_46 : decode cX5_runs 46 = .ok (.iload 4, 2) := by decide +kernel
theorem dX5_runs_48 : decode cX5_runs 48 = .ok (.invokevirtual 77, 3) := by decide +kernel
theorem dX5_runs_51 : decode cX5_runs 51 = .ok (.ireturn, 1) := by decide +kernel
theorem dX5_runs_52 : decode cX5_runs 52 = .ok (.aload_n 0, 1) := by decide +kernel
theorem dX5_runs_53 : decode cX5_runs 53 = .ok (.iload_n 1, 1) := by decide +kernel
theorem dX5_runs_54 : decode cX5_runs 54 = .ok (.iload_n 2, 1) := by decide +kernel
theorem dX5_runs_55 : decode cX5_runs 55 = .ok (.iload_n 3, 1) := by decide +kernel
theorem dX5_runs_56 : decode cX5_runs 56 = .ok (.invokevirtual 164, 3) := by decide +kernel
theorem dX5_runs_59 : decode cX5_runs 59 = .ok (.ifCond .ne 6, 3) := by decide +kernel
theorem dX5_runs_62 : decode cX5_runs 62 = .ok (.ldc 76, 2) := by decide +kernel
theorem dX5_runs_64 : decode cX5_runs 64 = .ok (.ireturn, 1) := by decide +kernel
theorem dX5_runs_65 : decode cX5_runs 65 = .ok (.aload_n 0, 1) := by decide +kernel
theorem dX5_runs_66 : decode cX5_runs 66 = .ok (.getfield 61, 3) := by decide +kernel
theorem dX5_runs_69 : decode cX5_runs 69 = .ok (.invokevirtual 153, 3) := by decide +kernel
theorem dX5_runs_72 : decode cX5_runs 72 = .ok (.sipush 9999, 3) := by decide +kernel
theorem dX5_runs_75 : decode cX5_runs 75 = .ok (.iload_n 3, 1) := by decide +kernel
theorem dX5_runs_76 : decode cX5_runs 76 = .ok (.isub, 1) := by decide +kernel
theorem dX5_runs_77 : decode cX5_runs 77 = .ok (.if_icmp .le 6, 3) := by decide +kernel
theorem dX5_runs_80 : decode cX5_runs 80 = .ok (.ldc 125, 2) := by decide +kernel
theorem dX5_runs_82 : decode cX5_runs 82 = .ok (.ireturn, 1) := by decide +kernel
theorem dX5_runs_83 : decode cX5_runs 83 = .ok (.iconst 0, 1) := by decide +kernel
theorem dX5_runs_84 : decode cX5_runs 84 = .ok (.istore 5, 2) := by decide +kernel
theorem dX5_runs_86 : decode cX5_runs 86 = .ok (.iconst 0, 1) := by decide +kernel
theorem dX5_runs_87 : decode cX5_runs 87 = .ok (.istore 6, 2) := by decide +kernel
theorem dX5_runs_89 : decode cX5_runs 89 = .ok (.iload 6, 2) := by decide +kernel
theorem dX5_runs_91 : decode cX5_runs 91 = .ok (.iload_n 3, 1) := by decide +kernel
theorem dX5_runs_92 : decode cX5_runs 92 = .ok (.if_icmp .ge 28, 3) := by decide +kernel
theorem dX5_runs_95 : decode cX5_runs 95 = .ok (.aload_n 0, 1) := by decide +kernel
theorem dX5_runs_96 : decode cX5_runs 96 = .ok (.aload_n 0, 1) := by decide +kernel
theorem dX5_runs_97 : decode cX5_runs 97 = .ok (.getfield 11, 3) := by decide +kernel
theorem dX5_runs_100 : decode cX5_runs 100 = .ok (.iload_n 1, 1) := by decide +kernel
theorem dX5_runs_101 : decode cX5_runs 101 = .ok (.aaload, 1) := by decide +kernel
theorem dX5_runs_102 : decode cX5_runs 102 = .ok (.iload_n 2, 1) := by decide +kernel
theorem dX5_runs_103 : decode cX5_runs 103 = .ok (.iload 6, 2) := by decide +kernel
theorem dX5_runs_105 : decode cX5_runs 105 = .ok (.iadd, 1) := by decide +kernel
theorem dX5_runs_106 : decode cX5_runs 106 = .ok (.invokevirtual 168, 3) := by decide +kernel
theorem dX5_runs_109 : decode cX5_runs 109 = .ok (.invokevirtual 157, 3) := by decide +kernel
theorem dX5_runs_112 : decode cX5_runs 112 = .ok (.istore 5, 2) := by decide +kernel
theorem dX5_runs_114 : decode cX5_runs 114 = .ok (.iinc 6 1, 3) := by decide +kernel
theorem dX5_runs_117 : decode cX5_runs 117 = .ok (.goto (-28), 3) := by decide +kernel
theorem dX5_runs_120 : decode cX5_runs 120 = .ok (.aload_n 0, 1) := by decide +kernel
theorem dX5_runs_121 : decode cX5_runs 121 = .ok (.iload 5, 2) := by decide +kernel
theorem dX5_runs_123 : decode cX5_runs 123 = .ok (.invokevirtual 85, 3) := by decide +kernel
theorem dX5_runs_126 : decode cX5_runs 126 = .ok (.ireturn, 1) := by decide +kernel
theorem dX5_dawn_0 : decode cX5_dawn 0 = .ok (.aload_n 0, 1) := by decide +kernel
theorem dX5_dawn_1 : decode cX5_dawn 1 = .ok (.invokevirtual 160, 3) := by decide +kernel
theorem dX5_dawn_4 : decode cX5_dawn 4 = .ok (.ifCond .eq 6, 3) := by decide +kernel
theorem dX5_dawn_7 : decode cX5_dawn 7 = .ok (.ldc 163, 2) := by decide +kernel
theorem dX5_dawn_9 : decode cX5_dawn 9 = .ok (.ireturn, 1) := by decide +kernel
theorem dX5_dawn_10 : decode cX5_dawn 10 = .ok (.aload_n 0, 1) := by decide +kernel
theorem dX5_dawn_11 : decode cX5_dawn 11 = .ok (.iload_n 1, 1) := by decide +kernel
theorem dX5_dawn_12 : decode cX5_dawn 12 = .ok (.invokevirtual 171, 3) := by decide +kernel
theorem dX5_dawn_15 : decode cX5_dawn 15 = .ok (.ifCond .ne 6, 3) := by decide +kernel
theorem dX5_dawn_18 : decode cX5_dawn 18 = .ok (.ldc 76, 2) := by decide +kernel
theorem dX5_dawn_20 : decode cX5_dawn 20 = .ok (.ireturn, 1) := by decide +kernel
theorem dX5_dawn_21 : decode cX5_dawn 21 = .ok (.aload_n 0, 1) := by decide +kernel
theorem dX5_dawn_22 : decode cX5_dawn 22 = .ok (.getfield 61, 3) := by decide +kernel
theorem dX5_dawn_25 : decode cX5_dawn 25 = .ok (.getfield 174, 3) := by decide +kernel
theorem dX5_dawn_28 : decode cX5_dawn 28 = .ok (.istore_n 2, 1) := by decide +kernel
theorem dX5_dawn_29 : decode cX5_dawn 29 = .ok (.aload_n 0, 1) := by decide +kernel
theorem dX5_dawn_30 : decode cX5_dawn 30 = .ok (.invokevirtual 177, 3) := by decide +kernel
theorem dX5_dawn_33 : decode cX5_dawn 33 = .ok (.aload_n 0, 1) := by decide +kernel
theorem dX5_dawn_34 : decode cX5_dawn 34 = .ok (.getfield 61, 3) := by decide +kernel
theorem dX5_dawn_37 : decode cX5_dawn 37 = .ok (.aload_n 0, 1) := by decide +kernel
theorem dX5_dawn_38 : decode cX5_dawn 38 = .ok (.getfield 61, 3) := by decide +kernel
theorem dX5_dawn_41 : decode cX5_dawn 41 = .ok (.getfield 180, 3) := by decide +kernel
theorem dX5_dawn_44 : decode cX5_dawn 44 = .ok (.iload_n 1, 1) := by decide +kernel
theorem dX5_dawn_45 : decode cX5_dawn 45 = .ok (.invokevirtual 141, 3) := by decide +kernel
theorem dX5_dawn_48 : decode cX5_dawn 48 = .ok (.iload_n 2, 1) := by decide +kernel
theorem dX5_dawn_49 : decode cX5_dawn 49 = .ok (.ireturn, 1) := by decide +kernel
theorem dX5_undo_0 : decode cX5_undo 0 = .ok (.aload_n 0, 1) := by decide +kernel
theorem dX5_undo_1 : decode cX5_undo 1 = .ok (.getfield 32, 3) := by decide +kernel
theorem dX5_undo_4 : decode cX5_undo 4 = .ok (.ifCond .ne 6, 3) := by decide +kernel
theorem dX5_undo_7 : decode cX5_undo 7 = .ok (.ldc 163, 2) := by decide +kernel
theorem dX5_undo_9 : decode cX5_undo 9 = .ok (.ireturn, 1) := by decide +kernel
theorem dX5_undo_10 : decode cX5_undo 10 = .ok (.aload_n 0, 1) := by decide +kernel
theorem dX5_undo_11 : decode cX5_undo 11 = .ok (.dup, 1) := by decide +kernel
theorem dX5_undo_12 : decode cX5_undo 12 = .ok (.getfield 32, 3) := by decide +kernel
theorem dX5_undo_15 : decode cX5_undo 15 = .ok (.iconst 1, 1) := by decide +kernel
theorem dX5_undo_16 : decode cX5_undo 16 = .ok (.isub, 1) := by decide +kernel
theorem dX5_undo_17 : decode cX5_undo 17 = .ok (.putfield 32, 3) := by decide +kernel
theorem dX5_undo_20 : decode cX5_undo 20 = .ok (.aload_n 0, 1) := by decide +kernel
theorem dX5_undo_21 : decode cX5_undo 21 = .ok (.aload_n 0, 1) := by decide +kernel
theorem dX5_undo_22 : decode cX5_undo 22 = .ok (.getfield 28, 3) := by decide +kernel
theorem dX5_undo_25 : decode cX5_undo 25 = .ok (.bipush 24, 2) := by decide +kernel
theorem dX5_undo_27 : decode cX5_undo 27 = .ok (.iadd, 1) := by decide +kernel
theorem dX5_undo_28 : decode cX5_undo 28 = .ok (.iconst 1, 1) := by decide +kernel
theorem dX5_undo_29 : decode cX5_undo 29 = .ok (.isub, 1) := by decide +kernel
theorem dX5_undo_30 : decode cX5_undo 30 = .ok (.bipush 24, 2) := by decide +kernel
theorem dX5_undo_32 : decode cX5_undo 32 = .ok (.irem, 1) := by decide +kernel
theorem dX5_undo_33 : decode cX5_undo 33 = .ok (.putfield 28, 3) := by decide +kernel
theorem dX5_undo_36 : decode cX5_undo 36 = .ok (.aload_n 0, 1) := by decide +kernel
theorem dX5_undo_37 : decode cX5_undo 37 = .ok (.getfield 61, 3) := by decide +kernel
theorem dX5_undo_40 : decode cX5_undo 40 = .ok (.aload_n 0, 1) := by decide +kernel
theorem dX5_undo_41 : decode cX5_undo 41 = .ok (.getfield 24, 3) := by decide +kernel
theorem dX5_undo_44 : decode cX5_undo 44 = .ok (.aload_n 0, 1) := by decide +kernel
theorem dX5_undo_45 : decode cX5_undo 45 = .ok (.getfield 28, 3) := by decide +kernel
theorem dX5_undo_48 : decode cX5_undo 48 = .ok (.aaload, 1) := by decide +kernel
theorem dX5_undo_49 : decode cX5_undo 49 = .ok (.invokevirtual 184, 3) := by decide +kernel
theorem dX5_undo_52 : decode cX5_undo 52 = .ok (.aload_n 0, 1) := by decide +kernel
theorem dX5_undo_53 : decode cX5_undo 53 = .ok (.getfield 32, 3) := by decide +kernel
theorem dX5_undo_56 : decode cX5_undo 56 = .ok (.ireturn, 1) := by decide +kernel
theorem dX5_hurdle_0 : decode cX5_hurdle 0 = .ok (.iload_n 1, 1) := by decide +kernel
theorem dX5_hurdle_1 : decode cX5_hurdle 1 = .ok (.ifCond .lt 17, 3) := by decide +kernel
theorem dX5_hurdle_4 : decode cX5_hurdle 4 = .ok (.iload_n 1, 1) := by decide +kernel
theorem dX5_hurdle_5 : decode cX5_hurdle 5 = .ok (.aload_n 0, 1) := by decide +kernel
theorem dX5_hurdle_6 : decode cX5_hurdle 6 = .ok (.getfield 61, 3) := by decide +kernel
theorem dX5_hurdle_9 : decode cX5_hurdle 9 = .ok (.getfield 180, 3) := by decide +kernel
theorem dX5_hurdle_12 : decode cX5_hurdle 12 = .ok (.getfield 147, 3) := by decide +kernel
theorem dX5_hurdle_15 : decode cX5_hurdle 15 = .ok (.if_icmp .lt 6, 3) := by decide +kernel
theorem dX5_hurdle_18 : decode cX5_hurdle 18 = .ok (.ldc 76, 2) := by decide +kernel
theorem dX5_hurdle_20 : decode cX5_hurdle 20 = .ok (.ireturn, 1) := by decide +kernel
theorem dX5_hurdle_21 : decode cX5_hurdle 21 = .ok (.iload_n 2, 1) := by decide +kernel
theorem dX5_hurdle_22 : decode cX5_hurdle 22 = .ok (.tableswitch 109 0 5 #[38, 51, 64, 77, 90, 99], 38) := by decide +kernel
theorem dX5_hurdle_60 : decode cX5_hurdle 60 = .ok (.aload_n 0, 1) := by decide +kernel
theorem dX5_hurdle_61 : decode cX5_hurdle 61 = .ok (.getfield 61, 3) := by decide +kernel
theorem dX5_hurdle_64 : decode cX5_hurdle 64 = .ok (.getfield 180, 3) := by decide +kernel
theorem dX5_hurdle_67 : decode cX5_hurdle 67 = .ok (.getfield 188, 3) := by decide +kernel
theorem dX5_hurdle_70 : decode cX5_hurdle 70 = .ok (.iload_n 1, 1) := by decide +kernel
theorem dX5_hurdle_71 : decode cX5_hurdle 71 = .ok (.iaload, 1) := by decide +kernel
theorem dX5_hurdle_72 : decode cX5_hurdle 72 = .ok (.ireturn, 1) := by decide +kernel
theorem dX5_hurdle_73 : decode cX5_hurdle 73 = .ok (.aload_n 0, 1) := by decide +kernel
theorem dX5_hurdle_74 : decode cX5_hurdle 74 = .ok (.getfield 61, 3) := by decide +kernel
theorem dX5_hurdle_77 : decode cX5_hurdle 77 = .ok (.getfield 180, 3) := by decide +kernel
theorem dX5_hurdle_80 : decode cX5_hurdle 80 = .ok (.getfield 191, 3) := by decide +kernel
theorem dX5_hurdle_83 : decode cX5_hurdle 83 = .ok (.iload_n 1, 1) := by decide +kernel
theorem dX5_hurdle_84 : decode cX5_hurdle 84 = .ok (.iaload, 1) := by decide +kernel
theorem dX5_hurdle_85 : decode cX5_hurdle 85 = .ok (.ireturn, 1) := by decide +kernel
theorem dX5_hurdle_86 : decode cX5_hurdle 86 = .ok (.aload_n 0, 1) := by decide +kernel
theorem dX5_hurdle_87 : decode cX5_hurdle 87 = .ok (.getfield 61, 3) := by decide +kernel
theorem dX5_hurdle_90 : decode cX5_hurdle 90 = .ok (.getfield 180, 3) := by decide +kernel
theorem dX5_hurdle_93 : decode cX5_hurdle 93 = .ok (.getfield 194, 3) := by decide +kernel
theorem dX5_hurdle_96 : decode cX5_hurdle 96 = .ok (.iload_n 1, 1) := by decide +kernel
theorem dX5_hurdle_97 : decode cX5_hurdle 97 = .ok (.iaload, 1) := by decide +kernel
theorem dX5_hurdle_98 : decode cX5_hurdle 98 = .ok (.ireturn, 1) := by decide +kernel
theorem dX5_hurdle_99 : decode cX5_hurdle 99 = .ok (.aload_n 0, 1) := by decide +kernel
theorem dX5_hurdle_100 : decode cX5_hurdle 100 = .ok (.getfield 61, 3) := by decide +kernel
theorem dX5_hurdle_103 : decode cX5_hurdle 103 = .ok (.getfield 180, 3) := by decide +kernel
theorem dX5_hurdle_106 : decode cX5_hurdle 106 = .ok (.getfield 197, 3) := by decide +kernel
theorem dX5_hurdle_109 : decode cX5_hurdle 109 = .ok (.iload_n 1, 1) := by decide +kernel
theorem dX5_hurdle_110 : decode cX5_hurdle 110 = .ok (.iaload, 1) := by decide +kernel
theorem dX5_hurdle_111 : decode cX5_hurdle 111 = .ok (.ireturn, 1) := by decide +kernel
theorem dX5_hurdle_112 : decode cX5_hurdle 112 = .ok (.aload_n 0, 1) := by decide +kernel
theorem dX5_hurdle_113 : decode cX5_hurdle 113 = .ok (.getfield 61, 3) := by decide +kernel
theorem dX5_hurdle_116 : decode cX5_hurdle 116 = .ok (.iload_n 1, 1) := by decide +kernel
theorem dX5_hurdle_117 : decode cX5_hurdle 117 = .ok (.invokevirtual 200, 3) := by decide +kernel
theorem dX5_hurdle_120 : decode cX5_hurdle 120 = .ok (.ireturn, 1) := by decide +kernel
theorem dX5_hurdle_121 : decode cX5_hurdle 121 = .ok (.aload_n 0, 1) := by decide +kernel
theorem dX5_hurdle_122 : decode cX5_hurdle 122 = .ok (.getfield 61, 3) := by decide +kernel
theorem dX5_hurdle_125 : decode cX5_hurdle 125 = .ok (.getfield 203, 3) := by decide +kernel
theorem dX5_hurdle_128 : decode cX5_hurdle 128 = .ok (.iload_n 1, 1) := by decide +kernel
theorem dX5_hurdle_129 : decode cX5_hurdle 129 = .ok (.iaload, 1) := by decide +kernel
theorem dX5_hurdle_130 : decode cX5_hurdle 130 = .ok (.ireturn, 1) := by decide +kernel
theorem dX5_hurdle_131 : decode cX5_hurdle 131 = .ok (.ldc 76, 2) := by decide +kernel
theorem dX5_hurdle_133 : decode cX5_hurdle 133 = .ok (.ireturn, 1) := by decide +kernel
theorem dX5_heavy_0 : decode cX5_heavy 0 = .ok (.aload_n 0, 1) := by decide +kernel
theorem dX5_heavy_1 : decode cX5_heavy 1 = .ok (.iload_n 1, 1) := by decide +kernel
theorem dX5_heavy_2 : decode cX5_heavy 2 = .ok (.invokevirtual 150, 3) := by decide +kernel
theorem dX5_heavy_5 : decode cX5_heavy 5 = .ok (.ifCond .eq 18, 3) := by decide +kernel
theorem dX5_heavy_8 : decode cX5_heavy 8 = .ok (.aload_n 0, 1) := by decide +kernel
theorem dX5_heavy_9 : decode cX5_heavy 9 = .ok (.getfield 61, 3) := by decide +kernel
theorem dX5_heavy_12 : decode cX5_heavy 12 = .ok (.getfield 180, 3) := by decide +kernel
theorem dX5_heavy_15 : decode cX5_heavy 15 = .ok (.getfield 206, 3) := by decide +kernel
theorem dX5_heavy_18 : decode cX5_heavy 18 = .ok (.iload_n 1, 1) := by decide +kernel
theorem dX5_heavy_19 : decode cX5_heavy 19 = .ok (.iaload, 1) := by decide +kernel
theorem dX5_heavy_20 : decode cX5_heavy 20 = .ok (.goto 5, 3) := by decide +kernel
theorem dX5_heavy_23 : decode cX5_heavy 23 = .ok (.ldc 76, 2) := by decide +kernel
theorem dX5_heavy_25 : decode cX5_heavy 25 = .ok (.ireturn, 1) := by decide +kernel
theorem dX5_pen_0 : decode cX5_pen 0 = .ok (.aload_n 0, 1) := by decide +kernel
theorem dX5_pen_1 : decode cX5_pen 1 = .ok (.iload_n 1, 1) := by decide +kernel
theorem dX5_pen_2 : decode cX5_pen 2 = .ok (.invokevirtual 209, 3) := by decide +kernel
theorem dX5_pen_5 : decode cX5_pen 5 = .ok (.ifCond .eq 10, 3) := by decide +kernel
theorem dX5_pen_8 : decode cX5_pen 8 = .ok (.iload_n 2, 1) := by decide +kernel
theorem dX5_pen_9 : decode cX5_pen 9 = .ok (.invokestatic 212, 3) := by decide +kernel
theorem dX5_pen_12 : decode cX5_pen 12 = .ok (.ifCond .ne 6, 3) := by decide +kernel
theorem dX5_pen_15 : decode cX5_pen 15 = .ok (.ldc 76, 2) := by decide +kernel
theorem dX5_pen_17 : decode cX5_pen 17 = .ok (.ireturn, 1) := by decide +kernel
theorem dX5_pen_18 : decode cX5_pen 18 = .ok (.iload_n 2, 1) := by decide +kernel
theorem dX5_pen_19 : decode cX5_pen 19 = .ok (.ifCond .ne 15, 3) := by decide +kernel
theorem dX5_pen_22 : decode cX5_pen 22 = .ok (.aload_n 0, 1) := by decide +kernel
theorem dX5_pen_23 : decode cX5_pen 23 = .ok (.getfield 61, 3) := by decide +kernel
theorem dX5_pen_26 : decode cX5_pen 26 = .ok (.getfield 215, 3) := by decide +kernel
theorem dX5_pen_29 : decode cX5_pen 29 = .ok (.iload_n 1, 1) := by decide +kernel
theorem dX5_pen_30 : decode cX5_pen 30 = .ok (.iaload, 1) := by decide +kernel
theorem dX5_pen_31 : decode cX5_pen 31 = .ok (.goto 12, 3) := by decide +kernel
theorem dX5_pen_34 : decode cX5_pen 34 = .ok (.aload_n 0, 1) := by decide +kernel
theorem dX5_pen_35 : decode cX5_pen 35 = .ok (.getfield 61, 3) := by decide +kernel
theorem dX5_pen_38 : decode cX5_pen 38 = .ok (.getfield 218, 3) := by decide +kernel
theorem dX5_pen_41 : decode cX5_pen 41 = .ok (.iload_n 1, 1) := by decide +kernel
theorem dX5_pen_42 : decode cX5_pen 42 = .ok (.iaload, 1) := by decide +kernel
theorem dX5_pen_43 : decode cX5_pen 43 = .ok (.ireturn, 1) := by decide +kernel
theorem dX5_stood_0 : decode cX5_stood 0 = .ok (.aload_n 0, 1) := by decide +kernel
theorem dX5_stood_1 : decode cX5_stood 1 = .ok (.invokevirtual 160, 3) := by decide +kernel
theorem dX5_stood_4 : decode cX5_stood 4 = .ok (.ifCond .eq 6, 3) := by decide +kernel
theorem dX5_stood_7 : decode cX5_stood 7 = .ok (.ldc 163, 2) := by decide +kernel
theorem dX5_stood_9 : decode cX5_stood 9 = .ok (.ireturn, 1) := by decide +kernel
theorem dX5_stood_10 : decode cX5_stood 10 = .ok (.iload_n 1, 1) := by decide +kernel
theorem dX5_stood_11 : decode cX5_stood 11 = .ok (.invokestatic 72, 3) := by decide +kernel
theorem dX5_stood_14 : decode cX5_stood 14 = .ok (.ifCond .eq 21, 3) := by decide +kernel
theorem dX5_stood_17 : decode cX5_stood 17 = .ok (.iload_n 3, 1) := by decide +kernel
theorem dX5_stood_18 : decode cX5_stood 18 = .ok (.ifCond .lt 17, 3) := by decide +kernel
theorem dX5_stood_21 : decode cX5_stood 21 = .ok (.iload_n 3, 1) := by decide +kernel
theorem dX5_stood_22 : decode cX5_stood 22 = .ok (.bipush 12, 2) := by decide +kernel
theorem dX5_stood_24 : decode cX5_stood 24 = .ok (.if_icmp .gt 11, 3) := by decide +kernel
theorem dX5_stood_27 : decode cX5_stood 27 = .ok (.iload 4, 2) := by decide +kernel
theorem dX5_stood_29 : decode cX5_stood 29 = .ok (.invokestatic 212, 3) := by decide +kernel
theorem dX5_stood_32 : decode cX5_stood 32 = .ok (.ifCond .ne 6, 3) := by decide +kernel
theorem dX5_stood_35 : decode cX5_stood 35 = .ok (.ldc 76, 2) := by decide +kernel
theorem dX5_stood_37 : decode cX5_stood 37 = .ok (.ireturn, 1) := by decide +kernel
theorem dX5_stood_38 : decode cX5_stood 38 = .ok (.aload_n 0, 1) := by decide +kernel
theorem dX5_stood_39 : decode cX5_stood 39 = .ok (.iload_n 1, 1) := by decide +kernel
theorem dX5_stood_40 : decode cX5_stood 40 = .ok (.iload_n 2, 1) := by decide +kernel
theorem dX5_stood_41 : decode cX5_stood 41 = .ok (.iconst 2, 1) := by decide +kernel
theorem dX5_stood_42 : decode cX5_stood 42 = .ok (.iload_n 3, 1) := by decide +kernel
theorem dX5_stood_43 : decode cX5_stood 43 = .ok (.imul, 1) := by decide +kernel
theorem dX5_stood_44 : decode cX5_stood 44 = .ok (.invokevirtual 88, 3) := by decide +kernel
theorem dX5_stood_47 : decode cX5_stood 47 = .ok (.istore 5, 2) := by decide +kernel
theorem dX5_stood_49 : decode cX5_stood 49 = .ok (.iload 5, 2) := by decide +kernel
theorem dX5_stood_51 : decode cX5_stood 51 = .ok (.ifCond .eq 10, 3) := by decide +kernel
theorem dX5_stood_54 : decode cX5_stood 54 = .ok (.aload_n 0, 1) := by decide +kernel
theorem dX5_stood_55 : decode cX5_stood 55 = .ok (.iload 5, 2) := by decide +kernel
theorem dX5_stood_57 : decode cX5_stood 57 = .ok (.invokevirtual 77, 3) := by decide +kernel
theorem dX5_stood_60 : decode cX5_stood 60 = .ok (.ireturn, 1) := by decide +kernel
theorem dX5_stood_61 : decode cX5_stood 61 = .ok (.aload_n 0, 1) := by decide +kernel
theorem dX5_stood_62 : decode cX5_stood 62 = .ok (.iload_n 1, 1) := by decide +kernel
theorem dX5_stood_63 : decode cX5_stood 63 = .ok (.iload_n 2, 1) := by decide +kernel
theorem dX5_stood_64 : decode cX5_stood 64 = .ok (.iload_n 3, 1) := by decide +kernel
theorem dX5_stood_65 : decode cX5_stood 65 = .ok (.invokevirtual 221, 3) := by decide +kernel
theorem dX5_stood_68 : decode cX5_stood 68 = .ok (.ifCond .ne 6, 3) := by decide +kernel
theorem dX5_stood_71 : decode cX5_stood 71 = .ok (.ldc 76, 2) := by decide +kernel
theorem dX5_stood_73 : decode cX5_stood 73 = .ok (.ireturn, 1) := by decide +kernel
theorem dX5_stood_74 : decode cX5_stood 74 = .ok (.iconst 0, 1) := by decide +kernel
theorem dX5_stood_75 : decode cX5_stood 75 = .ok (.istore 6, 2) := by decide +kernel
theorem dX5_stood_77 : decode cX5_stood 77 = .ok (.ldc 224, 2) := by decide +kernel
theorem dX5_stood_79 : decode cX5_stood 79 = .ok (.istore 7, 2) := by decide +kernel
theorem dX5_stood_81 : decode cX5_stood 81 = .ok (.iconst 1, 1) := by decide +kernel
theorem dX5_stood_82 : decode cX5_stood 82 = .ok (.aload_n 0, 1) := by decide +kernel
theorem dX5_stood_83 : decode cX5_stood 83 = .ok (.getfield 61, 3) := by decide +kernel
theorem dX5_stood_86 : decode cX5_stood 86 = .ok (.getfield 180, 3) := by decide +kernel
theorem dX5_stood_89 : decode cX5_stood 89 = .ok (.getfield 147, 3) := by decide +kernel
theorem dX5_stood_92 : decode cX5_stood 92 = .ok (.ishl, 1) := by decide +kernel
theorem dX5_stood_93 : decode cX5_stood 93 = .ok (.iconst 1, 1) := by decide +kernel
theorem dX5_stood_94 : decode cX5_stood 94 = .ok (.isub, 1) := by decide +kernel
theorem dX5_stood_95 : decode cX5_stood 95 = .ok (.istore 8, 2) := by decide +kernel
theorem dX5_stood_97 : decode cX5_stood 97 = .ok (.iload 8, 2) := by decide +kernel
theorem dX5_stood_99 : decode cX5_stood 99 = .ok (.ifCond .lt 48, 3) := by decide +kernel
theorem dX5_stood_102 : decode cX5_stood 102 = .ok (.aload_n 0, 1) := by decide +kernel
theorem dX5_stood_103 : decode cX5_stood 103 = .ok (.getfield 65, 3) := by decide +kernel
theorem dX5_stood_106 : decode cX5_stood 106 = .ok (.aload_n 0, 1) := by decide +kernel
theorem dX5_stood_107 : decode cX5_stood 107 = .ok (.getfield 61, 3) := by decide +kernel
theorem dX5_stood_110 : decode cX5_stood 110 = .ok (.getfield 180, 3) := by decide +kernel
theorem dX5_stood_113 : decode cX5_stood 113 = .ok (.iload 8, 2) := by decide +kernel
theorem dX5_stood_115 : decode cX5_stood 115 = .ok (.invokevirtual 141, 3) := by decide +kernel
theorem dX5_stood_118 : decode cX5_stood 118 = .ok (.aload_n 0, 1) := by decide +kernel
theorem dX5_stood_119 : decode cX5_stood 119 = .ok (.aload_n 0, 1) := by decide +kernel
theorem dX5_stood_120 : decode cX5_stood 120 = .ok (.getfield 11, 3) := by decide +kernel
theorem dX5_stood_123 : decode cX5_stood 123 = .ok (.iload_n 1, 1) := by decide +kernel
theorem dX5_stood_124 : decode cX5_stood 124 = .ok (.aaload, 1) := by decide +kernel
theorem dX5_stood_125 : decode cX5_stood 125 = .ok (.iload_n 2, 1) := by decide +kernel
theorem dX5_stood_126 : decode cX5_stood 126 = .ok (.iload_n 3, 1) := by decide +kernel
theorem dX5_stood_127 : decode cX5_stood 127 = .ok (.iconst (-1), 1) := by decide +kernel
theorem dX5_stood_128 : decode cX5_stood 128 = .ok (.invokevirtual 225, 3) := by decide +kernel
theorem dX5_stood_131 : decode cX5_stood 131 = .ok (.ifCond .eq 10, 3) := by decide +kernel
theorem dX5_stood_134 : decode cX5_stood 134 = .ok (.iinc 6 1, 3) := by decide +kernel
theorem dX5_stood_137 : decode cX5_stood 137 = .ok (.iload 8, 2) := by decide +kernel
theorem dX5_stood_139 : decode cX5_stood 139 = .ok (.istore 7, 2) := by decide +kernel
theorem dX5_stood_141 : decode cX5_stood 141 = .ok (.iinc 8 (-1), 3) := by decide +kernel
theorem dX5_stood_144 : decode cX5_stood 144 = .ok (.goto (-47), 3) := by decide +kernel
theorem dX5_stood_147 : decode cX5_stood 147 = .ok (.aload_n 0, 1) := by decide +kernel
theorem dX5_stood_148 : decode cX5_stood 148 = .ok (.iload 4, 2) := by decide +kernel
theorem dX5_stood_150 : decode cX5_stood 150 = .ok (.ifCond .ne 8, 3) := by decide +kernel
theorem dX5_stood_153 : decode cX5_stood 153 = .ok (.iload 6, 2) := by decide +kernel
theorem dX5_stood_155 : decode cX5_stood 155 = .ok (.goto 5, 3) := by decide +kernel
theorem dX5_stood_158 : decode cX5_stood 158 = .ok (.iload 7, 2) := by decide +kernel
theorem dX5_stood_160 : decode cX5_stood 160 = .ok (.invokevirtual 85, 3) := by decide +kernel
theorem dX5_stood_163 : decode cX5_stood 163 = .ok (.ireturn, 1) := by decide +kernel
theorem dX5_ahead_0 : decode cX5_ahead 0 = .ok (.aload_n 0, 1) := by decide +kernel
theorem dX5_ahead_1 : decode cX5_ahead 1 = .ok (.iload_n 1, 1) := by decide +kernel
theorem dX5_ahead_2 : decode cX5_ahead 2 = .ok (.invokevirtual 150, 3) := by decide +kernel
theorem dX5_ahead_5 : decode cX5_ahead 5 = .ok (.ifCond .eq 19, 3) := by decide +kernel
theorem dX5_ahead_8 : decode cX5_ahead 8 = .ok (.aload_n 0, 1) := by decide +kernel
theorem dX5_ahead_9 : decode cX5_ahead 9 = .ok (.iload_n 2, 1) := by decide +kernel
theorem dX5_ahead_10 : decode cX5_ahead 10 = .ok (.invokevirtual 150, 3) := by decide +kernel
theorem dX5_ahead_13 : decode cX5_ahead 13 = .ok (.ifCond .eq 11, 3) := by decide +kernel
theorem dX5_ahead_16 : decode cX5_ahead 16 = .ok (.aload_n 0, 1) := by decide +kernel
theorem dX5_ahead_17 : decode cX5_ahead 17 = .ok (.iload_n 3, 1) := by decide +kernel
theorem dX5_ahead_18 : decode cX5_ahead 18 = .ok (.invokevirtual 209, 3) := by decide +kernel
theorem dX5_ahead_21 : decode cX5_ahead 21 = .ok (.ifCond .ne 6, 3) := by decide +kernel
theorem dX5_ahead_24 : decode cX5_ahead 24 = .ok (.ldc 76, 2) := by decide +kernel
theorem dX5_ahead_26 : decode cX5_ahead 26 = .ok (.ireturn, 1) := by decide +kernel
theorem dX5_ahead_27 : decode cX5_ahead 27 = .ok (.aload_n 0, 1) := by decide +kernel
theorem dX5_ahead_28 : decode cX5_ahead 28 = .ok (.getfield 65, 3) := by decide +kernel
theorem dX5_ahead_31 : decode cX5_ahead 31 = .ok (.aload_n 0, 1) := by decide +kernel
theorem dX5_ahead_32 : decode cX5_ahead 32 = .ok (.getfield 61, 3) := by decide +kernel
theorem dX5_ahead_35 : decode cX5_ahead 35 = .ok (.invokevirtual 184, 3) := by decide +kernel
theorem dX5_ahead_38 : decode cX5_ahead 38 = .ok (.iconst 0, 1) := by decide +kernel
theorem dX5_ahead_39 : decode cX5_ahead 39 = .ok (.istore 4, 2) := by decide +kernel
theorem dX5_ahead_41 : decode cX5_ahead 41 = .ok (.iload 4, 2) := by decide +kernel
theorem dX5_ahead_43 : decode cX5_ahead 43 = .ok (.bipush 60, 2) := by decide +kernel
theorem dX5_ahead_45 : decode cX5_ahead 45 = .ok (.if_icmp .gt 46, 3) := by decide +kernel
theorem dX5_ahead_48 : decode cX5_ahead 48 = .ok (.aload_n 0, 1) := by decide +kernel
theorem dX5_ahead_49 : decode cX5_ahead 49 = .ok (.getfield 68, 3) := by decide +kernel
theorem dX5_ahead_52 : decode cX5_ahead 52 = .ok (.aload_n 0, 1) := by decide +kernel
theorem dX5_ahead_53 : decode cX5_ahead 53 = .ok (.getfield 65, 3) := by decide +kernel
theorem dX5_ahead_56 : decode cX5_ahead 56 = .ok (.invokevirtual 184, 3) := by decide +kernel
theorem dX5_ahead_59 : decode cX5_ahead 59 = .ok (.aload_n 0, 1) := by decide +kernel
theorem dX5_ahead_60 : decode cX5_ahead 60 = .ok (.getfield 68, 3) := by decide +kernel
theorem dX5_ahead_63 : decode cX5_ahead 63 = .ok (.iload_n 2, 1) := by decide +kernel
theorem dX5_ahead_64 : decode cX5_ahead 64 = .ok (.iconst (-1), 1) := by decide +kernel
theorem dX5_ahead_65 : decode cX5_ahead 65 = .ok (.invokevirtual 229, 3) := by decide +kernel
theorem dX5_ahead_68 : decode cX5_ahead 68 = .ok (.iload_n 3, 1) := by decide +kernel
theorem dX5_ahead_69 : decode cX5_ahead 69 = .ok (.if_icmp .ne 6, 3) := by decide +kernel
theorem dX5_ahead_72 : decode cX5_ahead 72 = .ok (.iload 4, 2) := by decide +kernel
theorem dX5_ahead_74 : decode cX5_ahead 74 = .ok (.ireturn, 1) := by decide +kernel
theorem dX5_ahead_75 : decode cX5_ahead 75 = .ok (.aload_n 0, 1) := by decide +kernel
theorem dX5_ahead_76 : decode cX5_ahead 76 = .ok (.getfield 65, 3) := by decide +kernel
theorem dX5_ahead_79 : decode cX5_ahead 79 = .ok (.iload_n 1, 1) := by decide +kernel
theorem dX5_ahead_80 : decode cX5_ahead 80 = .ok (.iconst (-1), 1) := by decide +kernel
theorem dX5_ahead_81 : decode cX5_ahead 81 = .ok (.invokevirtual 229, 3) := by decide +kernel
theorem dX5_ahead_84 : decode cX5_ahead 84 = .ok (.pop, 1) := by decide +kernel
theorem dX5_ahead_85 : decode cX5_ahead 85 = .ok (.iinc 4 1, 3) := by decide +kernel
theorem dX5_ahead_88 : decode cX5_ahead 88 = .ok (.goto (-47), 3) := by decide +kernel
theorem dX5_ahead_91 : decode cX5_ahead 91 = .ok (.ldc 224, 2) := by decide +kernel
theorem dX5_ahead_93 : decode cX5_ahead 93 = .ok (.ireturn, 1) := by decide +kernel
theorem dX5_reached_0 : decode cX5_reached 0 = .ok (.aload_n 0, 1) := by decide +kernel
theorem dX5_reached_1 : decode cX5_reached 1 = .ok (.invokevirtual 160, 3) := by decide +kernel
theorem dX5_reached_4 : decode cX5_reached 4 = .ok (.ifCond .eq 6, 3) := by decide +kernel
theorem dX5_reached_7 : decode cX5_reached 7 = .ok (.ldc 163, 2) := by decide +kernel
theorem dX5_reached_9 : decode cX5_reached 9 = .ok (.ireturn, 1) := by decide +kernel
theorem dX5_reached_10 : decode cX5_reached 10 = .ok (.aload_n 0, 1) := by decide +kernel
theorem dX5_reached_11 : decode cX5_reached 11 = .ok (.iload_n 1, 1) := by decide +kernel
theorem dX5_reached_12 : decode cX5_reached 12 = .ok (.invokevirtual 171, 3) := by decide +kernel
theorem dX5_reached_15 : decode cX5_reached 15 = .ok (.ifCond .eq 8, 3) := by decide +kernel
theorem dX5_reached_18 : decode cX5_reached 18 = .ok (.iload_n 2, 1) := by decide +kernel
theorem dX5_reached_19 : decode cX5_reached 19 = .ok (.iconst (-1), 1) := by decide +kernel
theorem dX5_reached_20 : decode cX5_reached 20 = .ok (.if_icmp .ge 6, 3) := by decide +kernel
theorem dX5_reached_23 : decode cX5_reached 23 = .ok (.ldc 76, 2) := by decide +kernel
theorem dX5_reached_25 : decode cX5_reached 25 = .ok (.ireturn, 1) := by decide +kernel
theorem dX5_reached_26 : decode cX5_reached 26 = .ok (.aload_n 0, 1) := by decide +kernel
theorem dX5_reached_27 : decode cX5_reached 27 = .ok (.invokevirtual 232, 3) := by decide +kernel
theorem dX5_reached_30 : decode cX5_reached 30 = .ok (.astore_n 3, 1) := by decide +kernel
theorem dX5_reached_31 : decode cX5_reached 31 = .ok (.aload_n 3, 1) := by decide +kernel
theorem dX5_reached_32 : decode cX5_reached 32 = .ok (.iload_n 1, 1) := by decide +kernel
theorem dX5_reached_33 : decode cX5_reached 33 = .ok (.invokevirtual 236, 3) := by decide +kernel
theorem dX5_reached_36 : decode cX5_reached 36 = .ok (.ifCond .ne 6, 3) := by decide +kernel
theorem dX5_reached_39 : decode cX5_reached 39 = .ok (.ldc 224, 2) := by decide +kernel
theorem dX5_reached_41 : decode cX5_reached 41 = .ok (.ireturn, 1) := by decide +kernel
theorem dX5_reached_42 : decode cX5_reached 42 = .ok (.aload_n 3, 1) := by decide +kernel
theorem dX5_reached_43 : decode cX5_reached 43 = .ok (.iload_n 1, 1) := by decide +kernel
theorem dX5_reached_44 : decode cX5_reached 44 = .ok (.invokevirtual 241, 3) := by decide +kernel
theorem dX5_reached_47 : decode cX5_reached 47 = .ok (.istore 4, 2) := by decide +kernel
theorem dX5_reached_49 : decode cX5_reached 49 = .ok (.iload_n 2, 1) := by decide +kernel
theorem dX5_reached_50 : decode cX5_reached 50 = .ok (.iconst (-1), 1) := by decide +kernel
theorem dX5_reached_51 : decode cX5_reached 51 = .ok (.if_icmp .ne 6, 3) := by decide +kernel
theorem dX5_reached_54 : decode cX5_reached 54 = .ok (.iload 4, 2) := by decide +kernel
theorem dX5_reached_56 : decode cX5_reached 56 = .ok (.ireturn, 1) := by decide +kernel
theorem dX5_reached_57 : decode cX5_reached 57 = .ok (.iload_n 2, 1) := by decide +kernel
theorem dX5_reached_58 : decode cX5_reached 58 = .ok (.iload 4, 2) := by decide +kernel
theorem dX5_reached_60 : decode cX5_reached 60 = .ok (.if_icmp .ge 17, 3) := by decide +kernel
theorem dX5_reached_63 : decode cX5_reached 63 = .ok (.aload_n 3, 1) := by decide +kernel
theorem dX5_reached_64 : decode cX5_reached 64 = .ok (.iload_n 1, 1) := by decide +kernel
theorem dX5_reached_65 : decode cX5_reached 65 = .ok (.iload 4, 2) := by decide +kernel
theorem dX5_reached_67 : decode cX5_reached 67 = .ok (.iconst 1, 1) := by decide +kernel
theorem dX5_reached_68 : decode cX5_reached 68 = .ok (.isub, 1) := by decide +kernel
theorem dX5_reached_69 : decode cX5_reached 69 = .ok (.iload_n 2, 1) := by decide +kernel
theorem dX5_reached_70 : decode cX5_reached 70 = .ok (.isub, 1) := by decide +kernel
theorem dX5_reached_71 : decode cX5_reached 71 = .ok (.invokevirtual 244, 3) := by decide +kernel
theorem dX5_reached_74 : decode cX5_reached 74 = .ok (.goto 5, 3) := by decide +kernel
theorem dX5_reached_77 : decode cX5_reached 77 = .ok (.ldc 224, 2) := by decide +kernel
theorem dX5_reached_79 : decode cX5_reached 79 = .ok (.ireturn, 1) := by decide +kernel
theorem dX5_comes_0 : decode cX5_comes 0 = .ok (.aload_n 0, 1) := by decide +kernel
theorem dX5_comes_1 : decode cX5_comes 1 = .ok (.invokevirtual 160, 3) := by decide +kernel
theorem dX5_comes_4 : decode cX5_comes 4 = .ok (.ifCond .eq 8, 3) := by decide +kernel
theorem dX5_comes_7 : decode cX5_comes 7 = .ok (.ldc 163, 2) := by decide +kernel
theorem dX5_comes_9 : decode cX5_comes 9 = .ok (.goto 10, 3) := by decide +kernel
theorem dX5_comes_12 : decode cX5_comes 12 = .ok (.aload_n 0, 1) := by decide +kernel
theorem dX5_comes_13 : decode cX5_comes 13 = .ok (.invokevirtual 232, 3) := by decide +kernel
theorem dX5_comes_16 : decode cX5_comes 16 = .ok (.getfield 247, 3) := by decide +kernel
theorem dX5_comes_19 : decode cX5_comes 19 = .ok (.ireturn, 1) := by decide +kernel
theorem dX5_round_0 : decode cX5_round 0 = .ok (.aload_n 0, 1) := by decide +kernel
theorem dX5_round_1 : decode cX5_round 1 = .ok (.iload_n 1, 1) := by decide +kernel
theorem dX5_round_2 : decode cX5_round 2 = .ok (.invokevirtual 150, 3) := by decide +kernel
theorem dX5_round_5 : decode cX5_round 5 = .ok (.ifCond .eq 10, 3) := by decide +kernel
theorem dX5_round_8 : decode cX5_round 8 = .ok (.iload_n 2, 1) := by decide +kernel
theorem dX5_round_9 : decode cX5_round 9 = .ok (.invokestatic 212, 3) := by decide +kernel
theorem dX5_round_12 : decode cX5_round 12 = .ok (.ifCond .ne 6, 3) := by decide +kernel
theorem dX5_round_15 : decode cX5_round 15 = .ok (.ldc 76, 2) := by decide +kernel
theorem dX5_round_17 : decode cX5_round 17 = .ok (.ireturn, 1) := by decide +kernel
theorem dX5_round_18 : decode cX5_round 18 = .ok (.aload_n 0, 1) := by decide +kernel
theorem dX5_round_19 : decode cX5_round 19 = .ok (.iload_n 1, 1) := by decide +kernel
theorem dX5_round_20 : decode cX5_round 20 = .ok (.invokevirtual 250, 3) := by decide +kernel
theorem dX5_round_23 : decode cX5_round 23 = .ok (.istore_n 3, 1) := by decide +kernel
theorem dX5_round_24 : decode cX5_round 24 = .ok (.iload_n 2, 1) := by decide +kernel
theorem dX5_round_25 : decode cX5_round 25 = .ok (.ifCond .ne 12, 3) := by decide +kernel
theorem dX5_round_28 : decode cX5_round 28 = .ok (.aload_n 0, 1) := by decide +kernel
theorem dX5_round_29 : decode cX5_round 29 = .ok (.iload_n 1, 1) := by decide +kernel
theorem dX5_round_30 : decode cX5_round 30 = .ok (.iload_n 3, 1) := by decide +kernel
theorem dX5_round_31 : decode cX5_round 31 = .ok (.invokevirtual 253, 3) := by decide +kernel
theorem dX5_round_34 : decode cX5_round 34 = .ok (.goto 4, 3) := by decide +kernel
theorem dX5_round_37 : decode cX5_round 37 = .ok (.iload_n 3, 1) := by decide +kernel
theorem dX5_round_38 : decode cX5_round 38 = .ok (.ireturn, 1) := by decide +kernel
theorem dX5_sticks_0 : decode cX5_sticks 0 = .ok (.aload_n 0, 1) := by decide +kernel
theorem dX5_sticks_1 : decode cX5_sticks 1 = .ok (.invokevirtual 160, 3) := by decide +kernel
theorem dX5_sticks_4 : decode cX5_sticks 4 = .ok (.ifCond .eq 6, 3) := by decide +kernel
theorem dX5_sticks_7 : decode cX5_sticks 7 = .ok (.ldc 163, 2) := by decide +kernel
theorem dX5_sticks_9 : decode cX5_sticks 9 = .ok (.ireturn, 1) := by decide +kernel
theorem dX5_sticks_10 : decode cX5_sticks 10 = .ok (.iload_n 1, 1) := by decide +kernel
theorem dX5_sticks_11 : decode cX5_sticks 11 = .ok (.invokestatic 72, 3) := by decide +kernel
theorem dX5_sticks_14 : decode cX5_sticks 14 = .ok (.ifCond .eq 13, 3) := by decide +kernel
theorem dX5_sticks_17 : decode cX5_sticks 17 = .ok (.iload_n 3, 1) := by decide +kernel
theorem dX5_sticks_18 : decode cX5_sticks 18 = .ok (.ifCond .lt 9, 3) := by decide +kernel
theorem dX5_sticks_21 : decode cX5_sticks 21 = .ok (.iload_n 3, 1) := by decide +kernel
theorem dX5_sticks_22 : decode cX5_sticks 22 = .ok (.bipush 12, 2) := by decide +kernel
theorem dX5_sticks_24 : decode cX5_sticks 24 = .ok (.if_icmp .le 6, 3) := by decide +kernel
theorem dX5_sticks_27 : decode cX5_sticks 27 = .ok (.ldc 76, 2) := by decide +kernel
theorem dX5_sticks_29 : decode cX5_sticks 29 = .ok (.ireturn, 1) := by decide +kernel
theorem dX5_sticks_30 : decode cX5_sticks 30 = .ok (.aload_n 0, 1) := by decide +kernel
theorem dX5_sticks_31 : decode cX5_sticks 31 = .ok (.iload_n 1, 1) := by decide +kernel
theorem dX5_sticks_32 : decode cX5_sticks 32 = .ok (.iload_n 2, 1) := by decide +kernel
theorem dX5_sticks_33 : decode cX5_sticks 33 = .ok (.iconst 2, 1) := by decide +kernel
theorem dX5_sticks_34 : decode cX5_sticks 34 = .ok (.iload_n 3, 1) := by decide +kernel
theorem dX5_sticks_35 : decode cX5_sticks 35 = .ok (.imul, 1) := by decide +kernel
theorem dX5_sticks_36 : decode cX5_sticks 36 = .ok (.invokevirtual 88, 3) := by decide +kernel
theorem dX5_sticks_39 : decode cX5_sticks 39 = .ok (.istore 4, 2) := by decide +kernel
theorem dX5_sticks_41 : decode cX5_sticks 41 = .ok (.iload 4, 2) := by decide +kernel
theorem dX5_sticks_43 : decode cX5_sticks 43 = .ok (.ifCond .eq 10, 3) := by decide +kernel
theorem dX5_sticks_46 : decode cX5_sticks 46 = .ok (.aload_n 0, 1) := by decide +kernel
theorem dX5_sticks_47 : decode cX5_sticks 47 = .ok (.iload 4, 2) := by decide +kernel
theorem dX5_sticks_49 : decode cX5_sticks 49 = .ok (.invokevirtual 77, 3) := by decide +kernel
theorem dX5_sticks_52 : decode cX5_sticks 52 = .ok (.ireturn, 1) := by decide +kernel
theorem dX5_sticks_53 : decode cX5_sticks 53 = .ok (.aload_n 0, 1) := by decide +kernel
theorem dX5_sticks_54 : decode cX5_sticks 54 = .ok (.iload_n 1, 1) := by decide +kernel
theorem dX5_sticks_55 : decode cX5_sticks 55 = .ok (.iload_n 2, 1) := by decide +kernel
theorem dX5_sticks_56 : decode cX5_sticks 56 = .ok (.iload_n 3, 1) := by decide +kernel
theorem dX5_sticks_57 : decode cX5_sticks 57 = .ok (.invokevirtual 221, 3) := by decide +kernel
theorem dX5_sticks_60 : decode cX5_sticks 60 = .ok (.ifCond .ne 6, 3) := by decide +kernel
theorem dX5_sticks_63 : decode cX5_sticks 63 = .ok (.ldc 76, 2) := by decide +kernel
theorem dX5_sticks_65 : decode cX5_sticks 65 = .ok (.ireturn, 1) := by decide +kernel
theorem dX5_sticks_66 : decode cX5_sticks 66 = .ok (.iconst 0, 1) := by decide +kernel
theorem dX5_sticks_67 : decode cX5_sticks 67 = .ok (.istore 5, 2) := by decide +kernel
theorem dX5_sticks_69 : decode cX5_sticks 69 = .ok (.iconst 0, 1) := by decide +kernel
theorem dX5_sticks_70 : decode cX5_sticks 70 = .ok (.istore 6, 2) := by decide +kernel
theorem dX5_sticks_72 : decode cX5_sticks 72 = .ok (.iload 6, 2) := by decide +kernel
theorem dX5_sticks_74 : decode cX5_sticks 74 = .ok (.aload_n 0, 1) := by decide +kernel
theorem dX5_sticks_75 : decode cX5_sticks 75 = .ok (.getfield 61, 3) := by decide +kernel
theorem dX5_sticks_78 : decode cX5_sticks 78 = .ok (.getfield 180, 3) := by decide +kernel
theorem dX5_sticks_81 : decode cX5_sticks 81 = .ok (.getfield 147, 3) := by decide +kernel
theorem dX5_sticks_84 : decode cX5_sticks 84 = .ok (.if_icmp .ge 46, 3) := by decide +kernel
theorem dX5_sticks_87 : decode cX5_sticks 87 = .ok (.aload_n 0, 1) := by decide +kernel
theorem dX5_sticks_88 : decode cX5_sticks 88 = .ok (.getfield 65, 3) := by decide +kernel
theorem dX5_sticks_91 : decode cX5_sticks 91 = .ok (.aload_n 0, 1) := by decide +kernel
theorem dX5_sticks_92 : decode cX5_sticks 92 = .ok (.getfield 61, 3) := by decide +kernel
theorem dX5_sticks_95 : decode cX5_sticks 95 = .ok (.invokevirtual 184, 3) := by decide +kernel
theorem dX5_sticks_98 : decode cX5_sticks 98 = .ok (.aload_n 0, 1) := by decide +kernel
theorem dX5_sticks_99 : decode cX5_sticks 99 = .ok (.aload_n 0, 1) := by decide +kernel
theorem dX5_sticks_100 : decode cX5_sticks 100 = .ok (.getfield 11, 3) := by decide +kernel
theorem dX5_sticks_103 : decode cX5_sticks 103 = .ok (.iload_n 1, 1) := by decide +kernel
theorem dX5_sticks_104 : decode cX5_sticks 104 = .ok (.aaload, 1) := by decide +kernel
theorem dX5_sticks_105 : decode cX5_sticks 105 = .ok (.iload_n 2, 1) := by decide +kernel
theorem dX5_sticks_106 : decode cX5_sticks 106 = .ok (.iload_n 3, 1) := by decide +kernel
theorem dX5_sticks_107 : decode cX5_sticks 107 = .ok (.iload 6, 2) := by decide +kernel
theorem dX5_sticks_109 : decode cX5_sticks 109 = .ok (.invokevirtual 225, 3) := by decide +kernel
theorem dX5_sticks_112 : decode cX5_sticks 112 = .ok (.ifCond .eq 12, 3) := by decide +kernel
theorem dX5_sticks_115 : decode cX5_sticks 115 = .ok (.iload 5, 2) := by decide +kernel
theorem dX5_sticks_117 : decode cX5_sticks 117 = .ok (.iconst 1, 1) := by decide +kernel
theorem dX5_sticks_118 : decode cX5_sticks 118 = .ok (.iload 6, 2) := by decide +kernel
theorem dX5_sticks_120 : decode cX5_sticks 120 = .ok (.ishl, 1) := by decide +kernel
theorem dX5_sticks_121 : decode cX5_sticks 121 = .ok (.ior, 1) := by decide +kernel
theorem dX5_sticks_122 : decode cX5_sticks 122 = .ok (.istore 5, 2) := by decide +kernel
theorem dX5_sticks_124 : decode cX5_sticks 124 = .ok (.iinc 6 1, 3) := by decide +kernel
theorem dX5_sticks_127 : decode cX5_sticks 127 = .ok (.goto (-55), 3) := by decide +kernel
theorem dX5_sticks_130 : decode cX5_sticks 130 = .ok (.aload_n 0, 1) := by decide +kernel
theorem dX5_sticks_131 : decode cX5_sticks 131 = .ok (.iload 5, 2) := by decide +kernel
theorem dX5_sticks_133 : decode cX5_sticks 133 = .ok (.invokevirtual 85, 3) := by decide +kernel
theorem dX5_sticks_136 : decode cX5_sticks 136 = .ok (.ireturn, 1) := by decide +kernel
theorem dX5_theft_0 : decode cX5_theft 0 = .ok (.aload_n 0, 1) := by decide +kernel
theorem dX5_theft_1 : decode cX5_theft 1 = .ok (.invokevirtual 160, 3) := by decide +kernel
theorem dX5_theft_4 : decode cX5_theft 4 = .ok (.ifCond .eq 6, 3) := by decide +kernel
theorem dX5_theft_7 : decode cX5_theft 7 = .ok (.ldc 163, 2) := by decide +kernel
theorem dX5_theft_9 : decode cX5_theft 9 = .ok (.ireturn, 1) := by decide +kernel
theorem dX5_theft_10 : decode cX5_theft 10 = .ok (.aload_n 0, 1) := by decide +kernel
theorem dX5_theft_11 : decode cX5_theft 11 = .ok (.iload_n 1, 1) := by decide +kernel
theorem dX5_theft_12 : decode cX5_theft 12 = .ok (.invokevirtual 150, 3) := by decide +kernel
theorem dX5_theft_15 : decode cX5_theft 15 = .ok (.ifCond .eq 22, 3) := by decide +kernel
theorem dX5_theft_18 : decode cX5_theft 18 = .ok (.iload_n 2, 1) := by decide +kernel
theorem dX5_theft_19 : decode cX5_theft 19 = .ok (.invokestatic 72, 3) := by decide +kernel
theorem dX5_theft_22 : decode cX5_theft 22 = .ok (.ifCond .eq 15, 3) := by decide +kernel
theorem dX5_theft_25 : decode cX5_theft 25 = .ok (.iload 4, 2) := by decide +kernel
theorem dX5_theft_27 : decode cX5_theft 27 = .ok (.ifCond .lt 10, 3) := by decide +kernel
theorem dX5_theft_30 : decode cX5_theft 30 = .ok (.iload 4, 2) := by decide +kernel
theorem dX5_theft_32 : decode cX5_theft 32 = .ok (.bipush 24, 2) := by decide +kernel
theorem dX5_theft_34 : decode cX5_theft 34 = .ok (.if_icmp .le 6, 3) := by decide +kernel
theorem dX5_theft_37 : decode cX5_theft 37 = .ok (.ldc 76, 2) := by decide +kernel
theorem dX5_theft_39 : decode cX5_theft 39 = .ok (.ireturn, 1) := by decide +kernel
theorem dX5_theft_40 : decode cX5_theft 40 = .ok (.aload_n 0, 1) := by decide +kernel
theorem dX5_theft_41 : decode cX5_theft 41 = .ok (.iload_n 2, 1) := by decide +kernel
theorem dX5_theft_42 : decode cX5_theft 42 = .ok (.iload_n 3, 1) := by decide +kernel
theorem dX5_theft_43 : decode cX5_theft 43 = .ok (.iload 4, 2) := by decide +kernel
theorem dX5_theft_45 : decode cX5_theft 45 = .ok (.invokevirtual 88, 3) := by decide +kernel
theorem dX5_theft_48 : decode cX5_theft 48 = .ok (.istore 5, 2) := by decide +kernel
theorem dX5_theft_50 : decode cX5_theft 50 = .ok (.iload 5, 2) := by decide +kernel
theorem dX5_theft_52 : decode cX5_theft 52 = .ok (.ifCond .eq 10, 3) := by decide +kernel
theorem dX5_theft_55 : decode cX5_theft 55 = .ok (.aload_n 0, 1) := by decide +kernel
theorem dX5_theft_56 : decode cX5_theft 56 = .ok (.iload 5, 2) := by decide +kernel
theorem dX5_theft_58 : decode cX5_theft 58 = .ok (.invokevirtual 77, 3) := by decide +kernel
theorem dX5_theft_61 : decode cX5_theft 61 = .ok (.ireturn, 1) := by decide +kernel
theorem dX5_theft_62 : decode cX5_theft 62 = .ok (.aload_n 0, 1) := by decide +kernel
theorem dX5_theft_63 : decode cX5_theft 63 = .ok (.iload_n 2, 1) := by decide +kernel
theorem dX5_theft_64 : decode cX5_theft 64 = .ok (.iload_n 3, 1) := by decide +kernel
theorem dX5_theft_65 : decode cX5_theft 65 = .ok (.iload 4, 2) := by decide +kernel
theorem dX5_theft_67 : decode cX5_theft 67 = .ok (.invokevirtual 164, 3) := by decide +kernel
theorem dX5_theft_70 : decode cX5_theft 70 = .ok (.ifCond .ne 6, 3) := by decide +kernel
theorem dX5_theft_73 : decode cX5_theft 73 = .ok (.ldc 76, 2) := by decide +kernel
theorem dX5_theft_75 : decode cX5_theft 75 = .ok (.ireturn, 1) := by decide +kernel
theorem dX5_theft_76 : decode cX5_theft 76 = .ok (.aload_n 0, 1) := by decide +kernel
theorem dX5_theft_77 : decode cX5_theft 77 = .ok (.getfield 65, 3) := by decide +kernel
theorem dX5_theft_80 : decode cX5_theft 80 = .ok (.aload_n 0, 1) := by decide +kernel
theorem dX5_theft_81 : decode cX5_theft 81 = .ok (.getfield 61, 3) := by decide +kernel
theorem dX5_theft_84 : decode cX5_theft 84 = .ok (.invokevirtual 184, 3) := by decide +kernel
theorem dX5_theft_87 : decode cX5_theft 87 = .ok (.aload_n 0, 1) := by decide +kernel
theorem dX5_theft_88 : decode cX5_theft 88 = .ok (.getfield 68, 3) := by decide +kernel
theorem dX5_theft_91 : decode cX5_theft 91 = .ok (.aload_n 0, 1) := by decide +kernel
theorem dX5_theft_92 : decode cX5_theft 92 = .ok (.getfield 61, 3) := by decide +kernel
theorem dX5_theft_95 : decode cX5_theft 95 = .ok (.invokevirtual 184, 3) := by decide +kernel
theorem dX5_theft_98 : decode cX5_theft 98 = .ok (.aload_n 0, 1) := by decide +kernel
theorem dX5_theft_99 : decode cX5_theft 99 = .ok (.getfield 68, 3) := by decide +kernel
theorem dX5_theft_102 : decode cX5_theft 102 = .ok (.iload_n 1, 1) := by decide +kernel
theorem dX5_theft_103 : decode cX5_theft 103 = .ok (.iconst (-1), 1) := by decide +kernel
theorem dX5_theft_104 : decode cX5_theft 104 = .ok (.invokevirtual 229, 3) := by decide +kernel
theorem dX5_theft_107 : decode cX5_theft 107 = .ok (.pop, 1) := by decide +kernel
theorem dX5_theft_108 : decode cX5_theft 108 = .ok (.iconst 0, 1) := by decide +kernel
theorem dX5_theft_109 : decode cX5_theft 109 = .ok (.istore 6, 2) := by decide +kernel
theorem dX5_theft_111 : decode cX5_theft 111 = .ok (.iconst 0, 1) := by decide +kernel
theorem dX5_theft_112 : decode cX5_theft 112 = .ok (.istore 7, 2) := by decide +kernel
theorem dX5_theft_114 : decode cX5_theft 114 = .ok (.iload 7, 2) := by decide +kernel
theorem dX5_theft_116 : decode cX5_theft 116 = .ok (.iload 4, 2) := by decide +kernel
theorem dX5_theft_118 : decode cX5_theft 118 = .ok (.if_icmp .ge 50, 3) := by decide +kernel
theorem dX5_theft_121 : decode cX5_theft 121 = .ok (.aload_n 0, 1) := by decide +kernel
theorem dX5_theft_122 : decode cX5_theft 122 = .ok (.getfield 11, 3) := by decide +kernel
theorem dX5_theft_125 : decode cX5_theft 125 = .ok (.iload_n 2, 1) := by decide +kernel
theorem dX5_theft_126 : decode cX5_theft 126 = .ok (.aaload, 1) := by decide +kernel
theorem dX5_theft_127 : decode cX5_theft 127 = .ok (.iload_n 3, 1) := by decide +kernel
theorem dX5_theft_128 : decode cX5_theft 128 = .ok (.iload 7, 2) := by decide +kernel
theorem dX5_theft_130 : decode cX5_theft 130 = .ok (.iadd, 1) := by decide +kernel
theorem dX5_theft_131 : decode cX5_theft 131 = .ok (.invokevirtual 168, 3) := by decide +kernel
theorem dX5_theft_134 : decode cX5_theft 134 = .ok (.istore 8, 2) := by decide +kernel
theorem dX5_theft_136 : decode cX5_theft 136 = .ok (.aload_n 0, 1) := by decide +kernel
theorem dX5_theft_137 : decode cX5_theft 137 = .ok (.getfield 65, 3) := by decide +kernel
theorem dX5_theft_140 : decode cX5_theft 140 = .ok (.iload 8, 2) := by decide +kernel
theorem dX5_theft_142 : decode cX5_theft 142 = .ok (.iconst (-1), 1) := by decide +kernel
theorem dX5_theft_143 : decode cX5_theft 143 = .ok (.invokevirtual 229, 3) := by decide +kernel
theorem dX5_theft_146 : decode cX5_theft 146 = .ok (.aload_n 0, 1) := by decide +kernel
theorem dX5_theft_147 : decode cX5_theft 147 = .ok (.getfield 68, 3) := by decide +kernel
theorem dX5_theft_150 : decode cX5_theft 150 = .ok (.iload 8, 2) := by decide +kernel
theorem dX5_theft_152 : decode cX5_theft 152 = .ok (.iconst (-1), 1) := by decide +kernel
theorem dX5_theft_153 : decode cX5_theft 153 = .ok (.invokevirtual 229, 3) := by decide +kernel
theorem dX5_theft_156 : decode cX5_theft 156 = .ok (.if_icmp .eq 6, 3) := by decide +kernel
theorem dX5_theft_159 : decode cX5_theft 159 = .ok (.iinc 6 1, 3) := by decide +kernel
theorem dX5_theft_162 : decode cX5_theft 162 = .ok (.iinc 7 1, 3) := by decide +kernel
theorem dX5_theft_165 : decode cX5_theft 165 = .ok (.goto (-51), 3) := by decide +kernel
theorem dX5_theft_168 : decode cX5_theft 168 = .ok (.aload_n 0, 1) := by decide +kernel
theorem dX5_theft_169 : decode cX5_theft 169 = .ok (.iload 6, 2) := by decide +kernel
theorem dX5_theft_171 : decode cX5_theft 171 = .ok (.invokevirtual 85, 3) := by decide +kernel
theorem dX5_theft_174 : decode cX5_theft 174 = .ok (.ireturn, 1) := by decide +kernel
theorem dX5_mixed_0 : decode cX5_mixed 0 = .ok (.aload_n 0, 1) := by decide +kernel
theorem dX5_mixed_1 : decode cX5_mixed 1 = .ok (.invokevirtual 160, 3) := by decide +kernel
theorem dX5_mixed_4 : decode cX5_mixed 4 = .ok (.ifCond .eq 6, 3) := by decide +kernel
theorem dX5_mixed_7 : decode cX5_mixed 7 = .ok (.ldc 163, 2) := by decide +kernel
theorem dX5_mixed_9 : decode cX5_mixed 9 = .ok (.ireturn, 1) := by decide +kernel
theorem dX5_mixed_10 : decode cX5_mixed 10 = .ok (.iload_n 1, 1) := by decide +kernel
theorem dX5_mixed_11 : decode cX5_mixed 11 = .ok (.invokestatic 72, 3) := by decide +kernel
theorem dX5_mixed_14 : decode cX5_mixed 14 = .ok (.ifCond .eq 13, 3) := by decide +kernel
theorem dX5_mixed_17 : decode cX5_mixed 17 = .ok (.iload_n 3, 1) := by decide +kernel
theorem dX5_mixed_18 : decode cX5_mixed 18 = .ok (.ifCond .lt 9, 3) := by decide +kernel
theorem dX5_mixed_21 : decode cX5_mixed 21 = .ok (.iload_n 3, 1) := by decide +kernel
theorem dX5_mixed_22 : decode cX5_mixed 22 = .ok (.bipush 24, 2) := by decide +kernel
theorem dX5_mixed_24 : decode cX5_mixed 24 = .ok (.if_icmp .le 6, 3) := by decide +kernel
theorem dX5_mixed_27 : decode cX5_mixed 27 = .ok (.ldc 76, 2) := by decide +kernel
theorem dX5_mixed_29 : decode cX5_mixed 29 = .ok (.ireturn, 1) := by decide +kernel
theorem dX5_mixed_30 : decode cX5_mixed 30 = .ok (.aload_n 0, 1) := by decide +kernel
theorem dX5_mixed_31 : decode cX5_mixed 31 = .ok (.iload_n 1, 1) := by decide +kernel
theorem dX5_mixed_32 : decode cX5_mixed 32 = .ok (.iload_n 2, 1) := by decide +kernel
theorem dX5_mixed_33 : decode cX5_mixed 33 = .ok (.iload_n 3, 1) := by decide +kernel
theorem dX5_mixed_34 : decode cX5_mixed 34 = .ok (.invokevirtual 88, 3) := by decide +kernel
theorem dX5_mixed_37 : decode cX5_mixed 37 = .ok (.istore 4, 2) := by decide +kernel
theorem dX5_mixed_39 : decode cX5_mixed 39 = .ok (.iload 4, 2) := by decide +kernel
theorem dX5_mixed_41 : decode cX5_mixed 41 = .ok (.ifCond .eq 10, 3) := by decide +kernel
theorem dX5_mixed_44 : decode cX5_mixed 44 = .ok (.aload_n 0, 1) := by decide +kernel
theorem dX5_mixed_45 : decode cX5_mixed 45 = .ok (.iload 4, 2) := by decide +kernel
theorem dX5_mixed_47 : decode cX5_mixed 47 = .ok (.invokevirtual 77, 3) := by decide +kernel
theorem dX5_mixed_50 : decode cX5_mixed 50 = .ok (.ireturn, 1) := by decide +kernel
theorem dX5_mixed_51 : decode cX5_mixed 51 = .ok (.aload_n 0, 1) := by decide +kernel
theorem dX5_mixed_52 : decode cX5_mixed 52 = .ok (.iload_n 1, 1) := by decide +kernel
theorem dX5_mixed_53 : decode cX5_mixed 53 = .ok (.iload_n 2, 1) := by decide +kernel
theorem dX5_mixed_54 : decode cX5_mixed 54 = .ok (.iload_n 3, 1) := by decide +kernel
theorem dX5_mixed_55 : decode cX5_mixed 55 = .ok (.invokevirtual 164, 3) := by decide +kernel
theorem dX5_mixed_58 : decode cX5_mixed 58 = .ok (.ifCond .ne 6, 3) := by decide +kernel
theorem dX5_mixed_61 : decode cX5_mixed 61 = .ok (.ldc 76, 2) := by decide +kernel
theorem dX5_mixed_63 : decode cX5_mixed 63 = .ok (.ireturn, 1) := by decide +kernel
theorem dX5_mixed_64 : decode cX5_mixed 64 = .ok (.aload_n 0, 1) := by decide +kernel
theorem dX5_mixed_65 : decode cX5_mixed 65 = .ok (.getfield 65, 3) := by decide +kernel
theorem dX5_mixed_68 : decode cX5_mixed 68 = .ok (.aload_n 0, 1) := by decide +kernel
theorem dX5_mixed_69 : decode cX5_mixed 69 = .ok (.getfield 61, 3) := by decide +kernel
theorem dX5_mixed_72 : decode cX5_mixed 72 = .ok (.invokevirtual 184, 3) := by decide +kernel
theorem dX5_mixed_75 : decode cX5_mixed 75 = .ok (.lconst 0, 1) := by decide +kernel
theorem dX5_mixed_76 : decode cX5_mixed 76 = .ok (.lstore 5, 2) := by decide +kernel
theorem dX5_mixed_78 : decode cX5_mixed 78 = .ok (.iconst 0, 1) := by decide +kernel
theorem dX5_mixed_79 : decode cX5_mixed 79 = .ok (.istore 7, 2) := by decide +kernel
theorem dX5_mixed_81 : decode cX5_mixed 81 = .ok (.iload 7, 2) := by decide +kernel
theorem dX5_mixed_83 : decode cX5_mixed 83 = .ok (.iload_n 3, 1) := by decide +kernel
theorem dX5_mixed_84 : decode cX5_mixed 84 = .ok (.if_icmp .ge 61, 3) := by decide +kernel
theorem dX5_mixed_87 : decode cX5_mixed 87 = .ok (.aload_n 0, 1) := by decide +kernel
theorem dX5_mixed_88 : decode cX5_mixed 88 = .ok (.getfield 11, 3) := by decide +kernel
theorem dX5_mixed_91 : decode cX5_mixed 91 = .ok (.iload_n 1, 1) := by decide +kernel
theorem dX5_mixed_92 : decode cX5_mixed 92 = .ok (.aaload, 1) := by decide +kernel
theorem dX5_mixed_93 : decode cX5_mixed 93 = .ok (.iload_n 2, 1) := by decide +kernel
theorem dX5_mixed_94 : decode cX5_mixed 94 = .ok (.iload 7, 2) := by decide +kernel
theorem dX5_mixed_96 : decode cX5_mixed 96 = .ok (.iadd, 1) := by decide +kernel
theorem dX5_mixed_97 : decode cX5_mixed 97 = .ok (.invokevirtual 168, 3) := by decide +kernel
theorem dX5_mixed_100 : decode cX5_mixed 100 = .ok (.istore 8, 2) := by decide +kernel
theorem dX5_mixed_102 : decode cX5_mixed 102 = .ok (.aload_n 0, 1) := by decide +kernel
theorem dX5_mixed_103 : decode cX5_mixed 103 = .ok (.getfield 65, 3) := by decide +kernel
theorem dX5_mixed_106 : decode cX5_mixed 106 = .ok (.iload 8, 2) := by decide +kernel
theorem dX5_mixed_108 : decode cX5_mixed 108 = .ok (.iconst (-1), 1) := by decide +kernel
theorem dX5_mixed_109 : decode cX5_mixed 109 = .ok (.invokevirtual 229, 3) := by decide +kernel
theorem dX5_mixed_112 : decode cX5_mixed 112 = .ok (.istore 9, 2) := by decide +kernel
theorem dX5_mixed_114 : decode cX5_mixed 114 = .ok (.lload 5, 2) := by decide +kernel
theorem dX5_mixed_116 : decode cX5_mixed 116 = .ok (.lconst 1, 1) := by decide +kernel
theorem dX5_mixed_117 : decode cX5_mixed 117 = .ok (.iload 9, 2) := by decide +kernel
theorem dX5_mixed_119 : decode cX5_mixed 119 = .ok (.bipush 6, 2) := by decide +kernel
theorem dX5_mixed_121 : decode cX5_mixed 121 = .ok (.imul, 1) := by decide +kernel
theorem dX5_mixed_122 : decode cX5_mixed 122 = .ok (.aload_n 0, 1) := by decide +kernel
theorem dX5_mixed_123 : decode cX5_mixed 123 = .ok (.getfield 61, 3) := by decide +kernel
theorem dX5_mixed_126 : decode cX5_mixed 126 = .ok (.getfield 180, 3) := by decide +kernel
theorem dX5_mixed_129 : decode cX5_mixed 129 = .ok (.iload 8, 2) := by decide +kernel
theorem dX5_mixed_131 : decode cX5_mixed 131 = .ok (.invokevirtual 256, 3) := by decide +kernel
theorem dX5_mixed_134 : decode cX5_mixed 134 = .ok (.iadd, 1) := by decide +kernel
theorem dX5_mixed_135 : decode cX5_mixed 135 = .ok (.lshl, 1) := by decide +kernel
theorem dX5_mixed_136 : decode cX5_mixed 136 = .ok (.lor, 1) := by decide +kernel
theorem dX5_mixed_137 : decode cX5_mixed 137 = .ok (.lstore 5, 2) := by decide +kernel
theorem dX5_mixed_139 : decode cX5_mixed 139 = .ok (.iinc 7 1, 3) := by decide +kernel
theorem dX5_mixed_142 : decode cX5_mixed 142 = .ok (.goto (-61), 3) := by decide +kernel
theorem dX5_mixed_145 : decode cX5_mixed 145 = .ok (.iconst 0, 1) := by decide +kernel
theorem dX5_mixed_146 : decode cX5_mixed 146 = .ok (.istore 7, 2) := by decide +kernel
theorem dX5_mixed_148 : decode cX5_mixed 148 = .ok (.iconst 0, 1) := by decide +kernel
theorem dX5_mixed_149 : decode cX5_mixed 149 = .ok (.istore 8, 2) := by decide +kernel
theorem dX5_mixed_151 : decode cX5_mixed 151 = .ok (.iload 8, 2) := by decide +kernel
theorem dX5_mixed_153 : decode cX5_mixed 153 = .ok (.aload_n 0, 1) := by decide +kernel
theorem dX5_mixed_154 : decode cX5_mixed 154 = .ok (.getfield 61, 3) := by decide +kernel
theorem dX5_mixed_157 : decode cX5_mixed 157 = .ok (.getfield 180, 3) := by decide +kernel
theorem dX5_mixed_160 : decode cX5_mixed 160 = .ok (.getfield 259, 3) := by decide +kernel
theorem dX5_mixed_163 : decode cX5_mixed 163 = .ok (.if_icmp .ge 41, 3) := by decide +kernel
theorem dX5_mixed_166 : decode cX5_mixed 166 = .ok (.lload 5, 2) := by decide +kernel
theorem dX5_mixed_168 : decode cX5_mixed 168 = .ok (.iload 8, 2) := by decide +kernel
theorem dX5_mixed_170 : decode cX5_mixed 170 = .ok (.bipush 6, 2) := by decide +kernel
theorem dX5_mixed_172 : decode cX5_mixed 172 = .ok (.imul, 1) := by decide +kernel
theorem dX5_mixed_173 : decode cX5_mixed 173 = .ok (.lushr, 1) := by decide +kernel
theorem dX5_mixed_174 : decode cX5_mixed 174 = .ok (.ldc2_w 262, 3) := by decide +kernel
theorem dX5_mixed_177 : decode cX5_mixed 177 = .ok (.land, 1) := by decide +kernel
theorem dX5_mixed_178 : decode cX5_mixed 178 = .ok (.lstore 9, 2) := by decide +kernel
theorem dX5_mixed_180 : decode cX5_mixed 180 = .ok (.lload 9, 2) := by decide +kernel
theorem dX5_mixed_182 : decode cX5_mixed 182 = .ok (.invokestatic 264, 3) := by decide +kernel
theorem dX5_mixed_185 : decode cX5_mixed 185 = .ok (.iconst 1, 1) := by decide +kernel
theorem dX5_mixed_186 : decode cX5_mixed 186 = .ok (.if_icmp .le 12, 3) := by decide +kernel
theorem dX5_mixed_189 : decode cX5_mixed 189 = .ok (.iload 7, 2) := by decide +kernel
theorem dX5_mixed_191 : decode cX5_mixed 191 = .ok (.iconst 1, 1) := by decide +kernel
theorem dX5_mixed_192 : decode cX5_mixed 192 = .ok (.iload 8, 2) := by decide +kernel
theorem dX5_mixed_194 : decode cX5_mixed 194 = .ok (.ishl, 1) := by decide +kernel
theorem dX5_mixed_195 : decode cX5_mixed 195 = .ok (.ior, 1) := by decide +kernel
theorem dX5_mixed_196 : decode cX5_mixed 196 = .ok (.istore 7, 2) := by decide +kernel
theorem dX5_mixed_198 : decode cX5_mixed 198 = .ok (.iinc 8 1, 3) := by decide +kernel
theorem dX5_mixed_201 : decode cX5_mixed 201 = .ok (.goto (-50), 3) := by decide +kernel
theorem dX5_mixed_204 : decode cX5_mixed 204 = .ok (.aload_n 0, 1) := by decide +kernel
theorem dX5_mixed_205 : decode cX5_mixed 205 = .ok (.iload 7, 2) := by decide +kernel
theorem dX5_mixed_207 : decode cX5_mixed 207 = .ok (.invokevirtual 85, 3) := by decide +kernel
theorem dX5_mixed_210 : decode cX5_mixed 210 = .ok (.ireturn, 1) := by decide +kernel
theorem dX5_image_0 : decode cX5_image 0 = .ok (.iload_n 1, 1) := by decide +kernel
theorem dX5_image_1 : decode cX5_image 1 = .ok (.invokestatic 212, 3) := by decide +kernel
theorem dX5_image_4 : decode cX5_image 4 = .ok (.ifCond .ne 6, 3) := by decide +kernel
theorem dX5_image_7 : decode cX5_image 7 = .ok (.ldc 76, 2) := by decide +kernel
theorem dX5_image_9 : decode cX5_image 9 = .ok (.ireturn, 1) := by decide +kernel
theorem dX5_image_10 : decode cX5_image 10 = .ok (.aload_n 0, 1) := by decide +kernel
theorem dX5_image_11 : decode cX5_image 11 = .ok (.invokevirtual 160, 3) := by decide +kernel
theorem dX5_image_14 : decode cX5_image 14 = .ok (.ifCond .eq 6, 3) := by decide +kernel
theorem dX5_image_17 : decode cX5_image 17 = .ok (.ldc 163, 2) := by decide +kernel
theorem dX5_image_19 : decode cX5_image 19 = .ok (.ireturn, 1) := by decide +kernel
theorem dX5_image_20 : decode cX5_image 20 = .ok (.aload_n 0, 1) := by decide +kernel
theorem dX5_image_21 : decode cX5_image 21 = .ok (.getfield 35, 3) := by decide +kernel
theorem dX5_image_24 : decode cX5_image 24 = .ok (.iload_n 1, 1) := by decide +kernel
theorem dX5_image_25 : decode cX5_image 25 = .ok (.aaload, 1) := by decide +kernel
theorem dX5_image_26 : decode cX5_image 26 = .ok (.aload_n 0, 1) := by decide +kernel
theorem dX5_image_27 : decode cX5_image 27 = .ok (.getfield 61, 3) := by decide +kernel
theorem dX5_image_30 : decode cX5_image 30 = .ok (.invokevirtual 184, 3) := by decide +kernel
theorem dX5_image_33 : decode cX5_image 33 = .ok (.iconst 1, 1) := by decide +kernel
theorem dX5_image_34 : decode cX5_image 34 = .ok (.ireturn, 1) := by decide +kernel
theorem dX5_restore_0 : decode cX5_restore 0 = .ok (.iload_n 1, 1) := by decide +kernel
theorem dX5_restore_1 : decode cX5_restore 1 = .ok (.invokestatic 212, 3) := by decide +kernel
theorem dX5_restore_4 : decode cX5_restore 4 = .ok (.ifCond .ne 6, 3) := by decide +kernel
theorem dX5_restore_7 : decode cX5_restore 7 = .ok (.ldc 76, 2) := by decide +kernel
theorem dX5_restore_9 : decode cX5_restore 9 = .ok (.ireturn, 1) := by decide +kernel
theorem dX5_restore_10 : decode cX5_restore 10 = .ok (.aload_n 0, 1) := by decide +kernel
theorem dX5_restore_11 : decode cX5_restore 11 = .ok (.getfield 35, 3) := by decide +kernel
theorem dX5_restore_14 : decode cX5_restore 14 = .ok (.iload_n 1, 1) := by decide +kernel
theorem dX5_restore_15 : decode cX5_restore 15 = .ok (.aaload, 1) := by decide +kernel
theorem dX5_restore_16 : decode cX5_restore 16 = .ok (.getfield 180, 3) := by decide +kernel
theorem dX5_restore_19 : decode cX5_restore 19 = .ok (.getfield 147, 3) := by decide +kernel
theorem dX5_restore_22 : decode cX5_restore 22 = .ok (.ifCond .ne 6, 3) := by decide +kernel
theorem dX5_restore_25 : decode cX5_restore 25 = .ok (.ldc 163, 2) := by decide +kernel
theorem dX5_restore_27 : decode cX5_restore 27 = .ok (.ireturn, 1) := by decide +kernel
theorem dX5_restore_28 : decode cX5_restore 28 = .ok (.aload_n 0, 1) := by decide +kernel
theorem dX5_restore_29 : decode cX5_restore 29 = .ok (.getfield 61, 3) := by decide +kernel
theorem dX5_restore_32 : decode cX5_restore 32 = .ok (.aload_n 0, 1) := by decide +kernel
theorem dX5_restore_33 : decode cX5_restore 33 = .ok (.getfield 35, 3) := by decide +kernel
theorem dX5_restore_36 : decode cX5_restore 36 = .ok (.iload_n 1, 1) := by decide +kernel
theorem dX5_restore_37 : decode cX5_restore 37 = .ok (.aaload, 1) := by decide +kernel
theorem dX5_restore_38 : decode cX5_restore 38 = .ok (.invokevirtual 184, 3) := by decide +kernel
theorem dX5_restore_41 : decode cX5_restore 41 = .ok (.aload_n 0, 1) := by decide +kernel
theorem dX5_restore_42 : decode cX5_restore 42 = .ok (.invokevirtual 144, 3) := by decide +kernel
theorem dX5_restore_45 : decode cX5_restore 45 = .ok (.iconst 1, 1) := by decide +kernel
theorem dX5_restore_46 : decode cX5_restore 46 = .ok (.ireturn, 1) := by decide +kernel
theorem dX5_kind_0 : decode cX5_kind 0 = .ok (.aload_n 0, 1) := by decide +kernel
theorem dX5_kind_1 : decode cX5_kind 1 = .ok (.iload_n 1, 1) := by decide +kernel
theorem dX5_kind_2 : decode cX5_kind 2 = .ok (.invokevirtual 150, 3) := by decide +kernel
theorem dX5_kind_5 : decode cX5_kind 5 = .ok (.ifCond .eq 17, 3) := by decide +kernel
theorem dX5_kind_8 : decode cX5_kind 8 = .ok (.aload_n 0, 1) := by decide +kernel
theorem dX5_kind_9 : decode cX5_kind 9 = .ok (.getfield 61, 3) := by decide +kernel
theorem dX5_kind_12 : decode cX5_kind 12 = .ok (.getfield 180, 3) := by decide +kernel
theorem dX5_kind_15 : decode cX5_kind 15 = .ok (.iload_n 1, 1) := by decide +kernel
theorem dX5_kind_16 : decode cX5_kind 16 = .ok (.invokevirtual 256, 3) := by decide +kernel
theorem dX5_kind_19 : decode cX5_kind 19 = .ok (.goto 5, 3) := by decide +kernel
theorem dX5_kind_22 : decode cX5_kind 22 = .ok (.ldc 76, 2) := by decide +kernel
theorem dX5_kind_24 : decode cX5_kind 24 = .ok (.ireturn, 1) := by decide +kernel
theorem dX5_as_0 : decode cX5_as 0 = .ok (.aload_n 0, 1) := by decide +kernel
theorem dX5_as_1 : decode cX5_as 1 = .ok (.iload_n 1, 1) := by decide +kernel
theorem dX5_as_2 : decode cX5_as 2 = .ok (.invokevirtual 150, 3) := by decide +kernel
theorem dX5_as_5 : decode cX5_as 5 = .ok (.ifCond .eq 13, 3) := by decide +kernel
theorem dX5_as_8 : decode cX5_as 8 = .ok (.iload_n 2, 1) := by decide +kernel
theorem dX5_as_9 : decode cX5_as 9 = .ok (.ifCond .lt 9, 3) := by decide +kernel
theorem dX5_as_12 : decode cX5_as 12 = .ok (.iload_n 2, 1) := by decide +kernel
theorem dX5_as_13 : decode cX5_as 13 = .ok (.bipush 6, 2) := by decide +kernel
theorem dX5_as_15 : decode cX5_as 15 = .ok (.if_icmp .lt 6, 3) := by decide +kernel
theorem dX5_as_18 : decode cX5_as 18 = .ok (.ldc 76, 2) := by decide +kernel
theorem dX5_as_20 : decode cX5_as 20 = .ok (.ireturn, 1) := by decide +kernel
theorem dX5_as_21 : decode cX5_as 21 = .ok (.aload_n 0, 1) := by decide +kernel
theorem dX5_as_22 : decode cX5_as 22 = .ok (.getfield 61, 3) := by decide +kernel
theorem dX5_as_25 : decode cX5_as 25 = .ok (.getfield 180, 3) := by decide +kernel
theorem dX5_as_28 : decode cX5_as 28 = .ok (.iload_n 1, 1) := by decide +kernel
theorem dX5_as_29 : decode cX5_as 29 = .ok (.invokevirtual 256, 3) := by decide +kernel
theorem dX5_as_32 : decode cX5_as 32 = .ok (.istore_n 3, 1) := by decide +kernel
theorem dX5_as_33 : decode cX5_as 33 = .ok (.iconst 0, 1) := by decide +kernel
theorem dX5_as_34 : decode cX5_as 34 = .ok (.istore 4, 2) := by decide +kernel
theorem dX5_as_36 : decode cX5_as 36 = .ok (.iload 4, 2) := by decide +kernel
theorem dX5_as_38 : decode cX5_as 38 = .ok (.bipush 6, 2) := by decide +kernel
theorem dX5_as_40 : decode cX5_as 40 = .ok (.if_icmp .ge 20, 3) := by decide +kernel
theorem dX5_as_43 : decode cX5_as 43 = .ok (.iload_n 3, 1) := by decide +kernel
theorem dX5_as_44 : decode cX5_as 44 = .ok (.iload_n 2, 1) := by decide +kernel
theorem dX5_as_45 : decode cX5_as 45 = .ok (.if_icmp .eq 15, 3) := by decide +kernel
theorem dX5_as_48 : decode cX5_as 48 = .ok (.getstatic 270, 3) := by decide +kernel
theorem dX5_as_51 : decode cX5_as 51 = .ok (.iload_n 3, 1) := by decide +kernel
theorem dX5_as_52 : decode cX5_as 52 = .ok (.iaload, 1) := by decide +kernel
theorem dX5_as_53 : decode cX5_as 53 = .ok (.istore_n 3, 1) := by decide +kernel
theorem dX5_as_54 : decode cX5_as 54 = .ok (.iinc 4 1, 3) := by decide +kernel
theorem dX5_as_57 : decode cX5_as 57 = .ok (.goto (-21), 3) := by decide +kernel
theorem dX5_as_60 : decode cX5_as 60 = .ok (.iload_n 3, 1) := by decide +kernel
theorem dX5_as_61 : decode cX5_as 61 = .ok (.iload_n 2, 1) := by decide +kernel
theorem dX5_as_62 : decode cX5_as 62 = .ok (.if_icmp .ne 11, 3) := by decide +kernel
theorem dX5_as_65 : decode cX5_as 65 = .ok (.aload_n 0, 1) := by decide +kernel
theorem dX5_as_66 : decode cX5_as 66 = .ok (.iload_n 1, 1) := by decide +kernel
theorem dX5_as_67 : decode cX5_as 67 = .ok (.invokevirtual 85, 3) := by decide +kernel
theorem dX5_as_70 : decode cX5_as 70 = .ok (.goto 8, 3) := by decide +kernel
theorem dX5_as_73 : decode cX5_as 73 = .ok (.aload_n 0, 1) := by decide +kernel
theorem dX5_as_74 : decode cX5_as 74 = .ok (.iconst 3, 1) := by decide +kernel
theorem dX5_as_75 : decode cX5_as 75 = .ok (.invokevirtual 77, 3) := by decide +kernel
theorem dX5_as_78 : decode cX5_as 78 = .ok (.ireturn, 1) := by decide +kernel
theorem dX5_ask_0 : decode cX5_ask 0 = .ok (.aload_n 0, 1) := by decide +kernel
theorem dX5_ask_1 : decode cX5_ask 1 = .ok (.iload_n 1, 1) := by decide +kernel
theorem dX5_ask_2 : decode cX5_ask 2 = .ok (.invokevirtual 150, 3) := by decide +kernel
theorem dX5_ask_5 : decode cX5_ask 5 = .ok (.ifCond .eq 10, 3) := by decide +kernel
theorem dX5_ask_8 : decode cX5_ask 8 = .ok (.iload_n 2, 1) := by decide +kernel
theorem dX5_ask_9 : decode cX5_ask 9 = .ok (.invokestatic 212, 3) := by decide +kernel
theorem dX5_ask_12 : decode cX5_ask 12 = .ok (.ifCond .ne 6, 3) := by decide +kernel
theorem dX5_ask_15 : decode cX5_ask 15 = .ok (.ldc 76, 2) := by decide +kernel
theorem dX5_ask_17 : decode cX5_ask 17 = .ok (.ireturn, 1) := by decide +kernel
theorem dX5_ask_18 : decode cX5_ask 18 = .ok (.aload_n 0, 1) := by decide +kernel
theorem dX5_ask_19 : decode cX5_ask 19 = .ok (.iconst 0, 1) := by decide +kernel
theorem dX5_ask_20 : decode cX5_ask 20 = .ok (.putfield 46, 3) := by decide +kernel
theorem dX5_ask_23 : decode cX5_ask 23 = .ok (.aload_n 0, 1) := by decide +kernel
theorem dX5_ask_24 : decode cX5_ask 24 = .ok (.iload_n 2, 1) := by decide +kernel
theorem dX5_ask_25 : decode cX5_ask 25 = .ok (.iload_n 1, 1) := by decide +kernel
theorem dX5_ask_26 : decode cX5_ask 26 = .ok (.iconst 0, 1) := by decide +kernel
theorem dX5_ask_27 : decode cX5_ask 27 = .ok (.invokevirtual 273, 3) := by decide +kernel
theorem dX5_ask_30 : decode cX5_ask 30 = .ok (.ireturn, 1) := by decide +kernel
theorem dX5_trace_0 : decode cX5_trace 0 = .ok (.iload_n 1, 1) := by decide +kernel
theorem dX5_trace_1 : decode cX5_trace 1 = .ok (.ifCond .lt 20, 3) := by decide +kernel
theorem dX5_trace_4 : decode cX5_trace 4 = .ok (.iload_n 1, 1) := by decide +kernel
theorem dX5_trace_5 : decode cX5_trace 5 = .ok (.aload_n 0, 1) := by decide +kernel
theorem dX5_trace_6 : decode cX5_trace 6 = .ok (.getfield 46, 3) := by decide +kernel
theorem dX5_trace_9 : decode cX5_trace 9 = .ok (.if_icmp .ge 12, 3) := by decide +kernel
theorem dX5_trace_12 : decode cX5_trace 12 = .ok (.aload_n 0, 1) := by decide +kernel
theorem dX5_trace_13 : decode cX5_trace 13 = .ok (.getfield 42, 3) := by decide +kernel
theorem dX5_trace_16 : decode cX5_trace 16 = .ok (.iload_n 1, 1) := by decide +kernel
theorem dX5_trace_17 : decode cX5_trace 17 = .ok (.iaload, 1) := by decide +kernel
theorem dX5_trace_18 : decode cX5_trace 18 = .ok (.goto 5, 3) := by decide +kernel
theorem dX5_trace_21 : decode cX5_trace 21 = .ok (.ldc 224, 2) := by decide +kernel
theorem dX5_trace_23 : decode cX5_trace 23 = .ok (.ireturn, 1) := by decide +kernel
theorem dX5_count_0 : decode cX5_count 0 = .ok (.iload_n 1, 1) := by decide +kernel
theorem dX5_count_1 : decode cX5_count 1 = .ok (.tableswitch 114 0 7 #[47, 52, 63, 74, 85, 90, 98, 106], 47) := by decide +kernel
theorem dX5_count_48 : decode cX5_count 48 = .ok (.aload_n 0, 1) := by decide +kernel
theorem dX5_count_49 : decode cX5_count 49 = .ok (.invokevirtual 276, 3) := by decide +kernel
theorem dX5_count_52 : decode cX5_count 52 = .ok (.ireturn, 1) := by decide +kernel
theorem dX5_count_53 : decode cX5_count 53 = .ok (.aload_n 0, 1) := by decide +kernel
theorem dX5_count_54 : decode cX5_count 54 = .ok (.getfield 61, 3) := by decide +kernel
theorem dX5_count_57 : decode cX5_count 57 = .ok (.getfield 180, 3) := by decide +kernel
theorem dX5_count_60 : decode cX5_count 60 = .ok (.getfield 147, 3) := by decide +kernel
theorem dX5_count_63 : decode cX5_count 63 = .ok (.ireturn, 1) := by decide +kernel
theorem dX5_count_64 : decode cX5_count 64 = .ok (.aload_n 0, 1) := by decide +kernel
theorem dX5_count_65 : decode cX5_count 65 = .ok (.getfield 61, 3) := by decide +kernel
theorem dX5_count_68 : decode cX5_count 68 = .ok (.getfield 180, 3) := by decide +kernel
theorem dX5_count_71 : decode cX5_count 71 = .ok (.getfield 279, 3) := by decide +kernel
theorem dX5_count_74 : decode cX5_count 74 = .ok (.ireturn, 1) := by decide +kernel
theorem dX5_count_75 : decode cX5_count 75 = .ok (.aload_n 0, 1) := by decide +kernel
theorem dX5_count_76 : decode cX5_count 76 = .ok (.getfield 61, 3) := by decide +kernel
theorem dX5_count_79 : decode cX5_count 79 = .ok (.getfield 180, 3) := by decide +kernel
theorem dX5_count_82 : decode cX5_count 82 = .ok (.getfield 259, 3) := by decide +kernel
theorem dX5_count_85 : decode cX5_count 85 = .ok (.ireturn, 1) := by decide +kernel
theorem dX5_count_86 : decode cX5_count 86 = .ok (.aload_n 0, 1) := by decide +kernel
theorem dX5_count_87 : decode cX5_count 87 = .ok (.getfield 32, 3) := by decide +kernel
theorem dX5_count_90 : decode cX5_count 90 = .ok (.ireturn, 1) := by decide +kernel
theorem dX5_count_91 : decode cX5_count 91 = .ok (.aload_n 0, 1) := by decide +kernel
theorem dX5_count_92 : decode cX5_count 92 = .ok (.getfield 61, 3) := by decide +kernel
theorem dX5_count_95 : decode cX5_count 95 = .ok (.getfield 174, 3) := by decide +kernel
theorem dX5_count_98 : decode cX5_count 98 = .ok (.ireturn, 1) := by decide +kernel
theorem dX5_count_99 : decode cX5_count 99 = .ok (.aload_n 0, 1) := by decide +kernel
theorem dX5_count_100 : decode cX5_count 100 = .ok (.getfield 61, 3) := by decide +kernel
theorem dX5_count_103 : decode cX5_count 103 = .ok (.invokevirtual 153, 3) := by decide +kernel
theorem dX5_count_106 : decode cX5_count 106 = .ok (.ireturn, 1) := by decide +kernel
theorem dX5_count_107 : decode cX5_count 107 = .ok (.aload_n 0, 1) := by decide +kernel
theorem dX5_count_108 : decode cX5_count 108 = .ok (.getfield 18, 3) := by decide +kernel
theorem dX5_count_111 : decode cX5_count 111 = .ok (.getfield 122, 3) := by decide +kernel
theorem dX5_count_114 : decode cX5_count 114 = .ok (.ireturn, 1) := by decide +kernel
theorem dX5_count_115 : decode cX5_count 115 = .ok (.ldc 76, 2) := by decide +kernel
theorem dX5_count_117 : decode cX5_count 117 = .ok (.ireturn, 1) := by decide +kernel
theorem dX5_status_0 : decode cX5_status 0 = .ok (.aload_n 0, 1) := by decide +kernel
theorem dX5_status_1 : decode cX5_status 1 = .ok (.getfield 52, 3) := by decide +kernel
theorem dX5_status_4 : decode cX5_status 4 = .ok (.ireturn, 1) := by decide +kernel
theorem dX5_noFold_0 : decode cX5_noFold 0 = .ok (.aload_n 0, 1) := by decide +kernel
theorem dX5_noFold_1 : decode cX5_noFold 1 = .ok (.getfield 61, 3) := by decide +kernel
theorem dX5_noFold_4 : decode cX5_noFold 4 = .ok (.getfield 180, 3) := by decide +kernel
theorem dX5_noFold_7 : decode cX5_noFold 7 = .ok (.getfield 147, 3) := by decide +kernel
theorem dX5_noFold_10 : decode cX5_noFold 10 = .ok (.ifCond .ne 7, 3) := by decide +kernel
theorem dX5_noFold_13 : decode cX5_noFold 13 = .ok (.iconst 1, 1) := by decide +kernel
theorem dX5_noFold_14 : decode cX5_noFold 14 = .ok (.goto 4, 3) := by decide +kernel
theorem dX5_noFold_17 : decode cX5_noFold 17 = .ok (.iconst 0, 1) := by decide +kernel
theorem dX5_noFold_18 : decode cX5_noFold 18 = .ok (.ireturn, 1) := by decide +kernel
theorem dX5_isBeast_0 : decode cX5_isBeast 0 = .ok (.iload_n 1, 1) := by decide +kernel
theorem dX5_isBeast_1 : decode cX5_isBeast 1 = .ok (.ifCond .lt 21, 3) := by decide +kernel
theorem dX5_isBeast_4 : decode cX5_isBeast 4 = .ok (.iload_n 1, 1) := by decide +kernel
theorem dX5_isBeast_5 : decode cX5_isBeast 5 = .ok (.aload_n 0, 1) := by decide +kernel
theorem dX5_isBeast_6 : decode cX5_isBeast 6 = .ok (.getfield 61, 3) := by decide +kernel
theorem dX5_isBeast_9 : decode cX5_isBeast 9 = .ok (.getfield 180, 3) := by decide +kernel
theorem dX5_isBeast_12 : decode cX5_isBeast 12 = .ok (.getfield 279, 3) := by decide +kernel
theorem dX5_isBeast_15 : decode cX5_isBeast 15 = .ok (.if_icmp .ge 7, 3) := by decide +kernel
theorem dX5_isBeast_18 : decode cX5_isBeast 18 = .ok (.iconst 1, 1) := by decide +kernel
theorem dX5_isBeast_19 : decode cX5_isBeast 19 = .ok (.goto 4, 3) := by decide +kernel
theorem dX5_isBeast_22 : decode cX5_isBeast 22 = .ok (.iconst 0, 1) := by decide +kernel
theorem dX5_isBeast_23 : decode cX5_isBeast 23 = .ok (.ireturn, 1) := by decide +kernel
theorem dX5_isPen_0 : decode cX5_isPen 0 = .ok (.iload_n 1, 1) := by decide +kernel
theorem dX5_isPen_1 : decode cX5_isPen 1 = .ok (.ifCond .lt 21, 3) := by decide +kernel
theorem dX5_isPen_4 : decode cX5_isPen 4 = .ok (.iload_n 1, 1) := by decide +kernel
theorem dX5_isPen_5 : decode cX5_isPen 5 = .ok (.aload_n 0, 1) := by decide +kernel
theorem dX5_isPen_6 : decode cX5_isPen 6 = .ok (.getfield 61, 3) := by decide +kernel
theorem dX5_isPen_9 : decode cX5_isPen 9 = .ok (.getfield 180, 3) := by decide +kernel
theorem dX5_isPen_12 : decode cX5_isPen 12 = .ok (.getfield 259, 3) := by decide +kernel
theorem dX5_isPen_15 : decode cX5_isPen 15 = .ok (.if_icmp .ge 7, 3) := by decide +kernel
theorem dX5_isPen_18 : decode cX5_isPen 18 = .ok (.iconst 1, 1) := by decide +kernel
theorem dX5_isPen_19 : decode cX5_isPen 19 = .ok (.goto 4, 3) := by decide +kernel
theorem dX5_isPen_22 : decode cX5_isPen 22 = .ok (.iconst 0, 1) := by decide +kernel
theorem dX5_isPen_23 : decode cX5_isPen 23 = .ok (.ireturn, 1) := by decide +kernel
theorem dX5_isStanding_0 : decode cX5_isStanding 0 = .ok (.iload_n 1, 1) := by decide +kernel
theorem dX5_isStanding_1 : decode cX5_isStanding 1 = .ok (.ifCond .lt 23, 3) := by decide +kernel
theorem dX5_isStanding_4 : decode cX5_isStanding 4 = .ok (.iload_n 1, 1) := by decide +kernel
theorem dX5_isStanding_5 : decode cX5_isStanding 5 = .ok (.iconst 1, 1) := by decide +kernel
theorem dX5_isStanding_6 : decode cX5_isStanding 6 = .ok (.aload_n 0, 1) := by decide +kernel
theorem dX5_isStanding_7 : decode cX5_isStanding 7 = .ok (.getfield 61, 3) := by decide +kernel
theorem dX5_isStanding_10 : decode cX5_isStanding 10 = .ok (.getfield 180, 3) := by decide +kernel
theorem dX5_isStanding_13 : decode cX5_isStanding 13 = .ok (.getfield 147, 3) := by decide +kernel
theorem dX5_isStanding_16 : decode cX5_isStanding 16 = .ok (.ishl, 1) := by decide +kernel
theorem dX5_isStanding_17 : decode cX5_isStanding 17 = .ok (.if_icmp .ge 7, 3) := by decide +kernel
theorem dX5_isStanding_20 : decode cX5_isStanding 20 = .ok (.iconst 1, 1) := by decide +kernel
theorem dX5_isStanding_21 : decode cX5_isStanding 21 = .ok (.goto 4, 3) := by decide +kernel
theorem dX5_isStanding_24 : decode cX5_isStanding 24 = .ok (.iconst 0, 1) := by decide +kernel
theorem dX5_isStanding_25 : decode cX5_isStanding 25 = .ok (.ireturn, 1) := by decide +kernel
theorem dX5_isRow_0 : decode cX5_isRow 0 = .ok (.iload_n 0, 1) := by decide +kernel
theorem dX5_isRow_1 : decode cX5_isRow 1 = .ok (.ifCond .lt 13, 3) := by decide +kernel
theorem dX5_isRow_4 : decode cX5_isRow 4 = .ok (.iload_n 0, 1) := by decide +kernel
theorem dX5_isRow_5 : decode cX5_isRow 5 = .ok (.bipush 8, 2) := by decide +kernel
theorem dX5_isRow_7 : decode cX5_isRow 7 = .ok (.if_icmp .ge 7, 3) := by decide +kernel
theorem dX5_isRow_10 : decode cX5_isRow 10 = .ok (.iconst 1, 1) := by decide +kernel
theorem dX5_isRow_11 : decode cX5_isRow 11 = .ok (.goto 4, 3) := by decide +kernel
theorem dX5_isRow_14 : decode cX5_isRow 14 = .ok (.iconst 0, 1) := by decide +kernel
theorem dX5_isRow_15 : decode cX5_isRow 15 = .ok (.ireturn, 1) := by decide +kernel
theorem dX5_isFirstOrSecond_0 : decode cX5_isFirstOrSecond 0 = .ok (.iload_n 0, 1) := by decide +kernel
theorem dX5_isFirstOrSecond_1 : decode cX5_isFirstOrSecond 1 = .ok (.ifCond .eq 8, 3) := by decide +kernel
theorem dX5_isFirstOrSecond_4 : decode cX5_isFirstOrSecond 4 = .ok (.iload_n 0, 1) := by decide +kernel
theorem dX5_isFirstOrSecond_5 : decode cX5_isFirstOrSecond 5 = .ok (.iconst 1, 1) := by decide +kernel
theorem dX5_isFirstOrSecond_6 : decode cX5_isFirstOrSecond 6 = .ok (.if_icmp .ne 7, 3) := by decide +kernel
theorem dX5_isFirstOrSecond_9 : decode cX5_isFirstOrSecond 9 = .ok (.iconst 1, 1) := by decide +kernel
theorem dX5_isFirstOrSecond_10 : decode cX5_isFirstOrSecond 10 = .ok (.goto 4, 3) := by decide +kernel
theorem dX5_isFirstOrSecond_13 : decode cX5_isFirstOrSecond 13 = .ok (.iconst 0, 1) := by decide +kernel
theorem dX5_isFirstOrSecond_14 : decode cX5_isFirstOrSecond 14 = .ok (.ireturn, 1) := by decide +kernel
theorem dX5_rowsThere_0 : decode cX5_rowsThere 0 = .ok (.iconst 0, 1) := by decide +kernel
theorem dX5_rowsThere_1 : decode cX5_rowsThere 1 = .ok (.istore_n 1, 1) := by decide +kernel
theorem dX5_rowsThere_2 : decode cX5_rowsThere 2 = .ok (.iconst 0, 1) := by decide +kernel
theorem dX5_rowsThere_3 : decode cX5_rowsThere 3 = .ok (.istore_n 2, 1) := by decide +kernel
theorem dX5_rowsThere_4 : decode cX5_rowsThere 4 = .ok (.iload_n 2, 1) := by decide +kernel
theorem dX5_rowsThere_5 : decode cX5_rowsThere 5 = .ok (.bipush 8, 2) := by decide +kernel
theorem dX5_rowsThere_7 : decode cX5_rowsThere 7 = .ok (.if_icmp .ge 24, 3) := by decide +kernel
theorem dX5_rowsThere_10 : decode cX5_rowsThere 10 = .ok (.aload_n 0, 1) := by decide +kernel
theorem dX5_rowsThere_11 : decode cX5_rowsThere 11 = .ok (.getfield 11, 3) := by decide +kernel
theorem dX5_rowsThere_14 : decode cX5_rowsThere 14 = .ok (.iload_n 2, 1) := by decide +kernel
theorem dX5_rowsThere_15 : decode cX5_rowsThere 15 = .ok (.aaload, 1) := by decide +kernel
theorem dX5_rowsThere_16 : decode cX5_rowsThere 16 = .ok (.invokevirtual 96, 3) := by decide +kernel
theorem dX5_rowsThere_19 : decode cX5_rowsThere 19 = .ok (.ifCond .ne 6, 3) := by decide +kernel
theorem dX5_rowsThere_22 : decode cX5_rowsThere 22 = .ok (.iinc 1 1, 3) := by decide +kernel
theorem dX5_rowsThere_25 : decode cX5_rowsThere 25 = .ok (.iinc 2 1, 3) := by decide +kernel
theorem dX5_rowsThere_28 : decode cX5_rowsThere 28 = .ok (.goto (-24), 3) := by decide +kernel
theorem dX5_rowsThere_31 : decode cX5_rowsThere 31 = .ok (.iload_n 1, 1) := by decide +kernel
theorem dX5_rowsThere_32 : decode cX5_rowsThere 32 = .ok (.ireturn, 1) := by decide +kernel
theorem dX5_findingOf_0 : decode cX5_findingOf 0 = .ok (.aload_n 0, 1) := by decide +kernel
theorem dX5_findingOf_1 : decode cX5_findingOf 1 = .ok (.getfield 11, 3) := by decide +kernel
theorem dX5_findingOf_4 : decode cX5_findingOf 4 = .ok (.iload_n 1, 1) := by decide +kernel
theorem dX5_findingOf_5 : decode cX5_findingOf 5 = .ok (.aaload, 1) := by decide +kernel
theorem dX5_findingOf_6 : decode cX5_findingOf 6 = .ok (.invokevirtual 96, 3) := by decide +kernel
theorem dX5_findingOf_9 : decode cX5_findingOf 9 = .ok (.ifCond .eq 5, 3) := by decide +kernel
theorem dX5_findingOf_12 : decode cX5_findingOf 12 = .ok (.iconst 1, 1) := by decide +kernel
theorem dX5_findingOf_13 : decode cX5_findingOf 13 = .ok (.ireturn, 1) := by decide +kernel
theorem dX5_findingOf_14 : decode cX5_findingOf 14 = .ok (.aload_n 0, 1) := by decide +kernel
theorem dX5_findingOf_15 : decode cX5_findingOf 15 = .ok (.getfield 11, 3) := by decide +kernel
theorem dX5_findingOf_18 : decode cX5_findingOf 18 = .ok (.iload_n 1, 1) := by decide +kernel
theorem dX5_findingOf_19 : decode cX5_findingOf 19 = .ok (.aaload, 1) := by decide +kernel
theorem dX5_findingOf_20 : decode cX5_findingOf 20 = .ok (.iload_n 2, 1) := by decide +kernel
theorem dX5_findingOf_21 : decode cX5_findingOf 21 = .ok (.iload_n 3, 1) := by decide +kernel
theorem dX5_findingOf_22 : decode cX5_findingOf 22 = .ok (.invokevirtual 103, 3) := by decide +kernel
theorem dX5_findingOf_25 : decode cX5_findingOf 25 = .ok (.ifCond .eq 7, 3) := by decide +kernel
theorem dX5_findingOf_28 : decode cX5_findingOf 28 = .ok (.iconst 0, 1) := by decide +kernel
theorem dX5_findingOf_29 : decode cX5_findingOf 29 = .ok (.goto 4, 3) := by decide +kernel
theorem dX5_findingOf_32 : decode cX5_findingOf 32 = .ok (.iconst 2, 1) := by decide +kernel
theorem dX5_findingOf_33 : decode cX5_findingOf 33 = .ok (.ireturn, 1) := by decide +kernel
theorem dX5_found_0 : decode cX5_found 0 = .ok (.aload_n 0, 1) := by decide +kernel
theorem dX5_found_1 : decode cX5_found 1 = .ok (.iload_n 1, 1) := by decide +kernel
theorem dX5_found_2 : decode cX5_found 2 = .ok (.putfield 52, 3) := by decide +kernel
theorem dX5_found_5 : decode cX5_found 5 = .ok (.ldc_w 282, 3) := by decide +kernel
theorem dX5_found_8 : decode cX5_found 8 = .ok (.iload_n 1, 1) := by decide +kernel
theorem dX5_found_9 : decode cX5_found 9 = .ok (.isub, 1) := by decide +kernel
theorem dX5_found_10 : decode cX5_found 10 = .ok (.ireturn, 1) := by decide +kernel
theorem dX5_foundNothing_0 : decode cX5_foundNothing 0 = .ok (.aload_n 0, 1) := by decide +kernel
theorem dX5_foundNothing_1 : decode cX5_foundNothing 1 = .ok (.iconst 0, 1) := by decide +kernel
theorem dX5_foundNothing_2 : decode cX5_foundNothing 2 = .ok (.putfield 52, 3) := by decide +kernel
theorem dX5_foundNothing_5 : decode cX5_foundNothing 5 = .ok (.iload_n 1, 1) := by decide +kernel
theorem dX5_foundNothing_6 : decode cX5_foundNothing 6 = .ok (.ireturn, 1) := by decide +kernel
theorem dX5_areBeasts_0 : decode cX5_areBeasts 0 = .ok (.iconst 0, 1) := by decide +kernel
theorem dX5_areBeasts_1 : decode cX5_areBeasts 1 = .ok (.istore 4, 2) := by decide +kernel
theorem dX5_areBeasts_3 : decode cX5_areBeasts 3 = .ok (.iload 4, 2) := by decide +kernel
theorem dX5_areBeasts_5 : decode cX5_areBeasts 5 = .ok (.iload_n 3, 1) := by decide +kernel
theorem dX5_areBeasts_6 : decode cX5_areBeasts 6 = .ok (.if_icmp .ge 31, 3) := by decide +kernel
theorem dX5_areBeasts_9 : decode cX5_areBeasts 9 = .ok (.aload_n 0, 1) := by decide +kernel
theorem dX5_areBeasts_10 : decode cX5_areBeasts 10 = .ok (.aload_n 0, 1) := by decide +kernel
theorem dX5_areBeasts_11 : decode cX5_areBeasts 11 = .ok (.getfield 11, 3) := by decide +kernel
theorem dX5_areBeasts_14 : decode cX5_areBeasts 14 = .ok (.iload_n 1, 1) := by decide +kernel
theorem dX5_areBeasts_15 : decode cX5_areBeasts 15 = .ok (.aaload, 1) := by decide +kernel
theorem dX5_areBeasts_16 : decode cX5_areBeasts 16 = .ok (.iload_n 2, 1) := by decide +kernel
theorem dX5_areBeasts_17 : decode cX5_areBeasts 17 = .ok (.iload 4, 2) := by decide +kernel
theorem dX5_areBeasts_19 : decode cX5_areBeasts 19 = .ok (.iadd, 1) := by decide +kernel
theorem dX5_areBeasts_20 : decode cX5_areBeasts 20 = .ok (.invokevirtual 168, 3) := by decide +kernel
theorem dX5_areBeasts_23 : decode cX5_areBeasts 23 = .ok (.invokevirtual 150, 3) := by decide +kernel
theorem dX5_areBeasts_26 : decode cX5_areBeasts 26 = .ok (.ifCond .ne 5, 3) := by decide +kernel
theorem dX5_areBeasts_29 : decode cX5_areBeasts 29 = .ok (.iconst 0, 1) := by decide +kernel
theorem dX5_areBeasts_30 : decode cX5_areBeasts 30 = .ok (.ireturn, 1) := by decide +kernel
theorem dX5_areBeasts_31 : decode cX5_areBeasts 31 = .ok (.iinc 4 1, 3) := by decide +kernel
theorem dX5_areBeasts_34 : decode cX5_areBeasts 34 = .ok (.goto (-31), 3) := by decide +kernel
theorem dX5_areBeasts_37 : decode cX5_areBeasts 37 = .ok (.iconst 1, 1) := by decide +kernel
theorem dX5_areBeasts_38 : decode cX5_areBeasts 38 = .ok (.ireturn, 1) := by decide +kernel
theorem dX5_arePairs_0 : decode cX5_arePairs 0 = .ok (.iconst 0, 1) := by decide +kernel
theorem dX5_arePairs_1 : decode cX5_arePairs 1 = .ok (.istore 4, 2) := by decide +kernel
theorem dX5_arePairs_3 : decode cX5_arePairs 3 = .ok (.iload 4, 2) := by decide +kernel
theorem dX5_arePairs_5 : decode cX5_arePairs 5 = .ok (.iload_n 3, 1) := by decide +kernel
theorem dX5_arePairs_6 : decode cX5_arePairs 6 = .ok (.if_icmp .ge 59, 3) := by decide +kernel
theorem dX5_arePairs_9 : decode cX5_arePairs 9 = .ok (.aload_n 0, 1) := by decide +kernel
theorem dX5_arePairs_10 : decode cX5_arePairs 10 = .ok (.aload_n 0, 1) := by decide +kernel
theorem dX5_arePairs_11 : decode cX5_arePairs 11 = .ok (.getfield 11, 3) := by decide +kernel
theorem dX5_arePairs_14 : decode cX5_arePairs 14 = .ok (.iload_n 1, 1) := by decide +kernel
theorem dX5_arePairs_15 : decode cX5_arePairs 15 = .ok (.aaload, 1) := by decide +kernel
theorem dX5_arePairs_16 : decode cX5_arePairs 16 = .ok (.iload_n 2, 1) := by decide +kernel
theorem dX5_arePairs_17 : decode cX5_arePairs 17 = .ok (.iconst 2, 1) := by decide +kernel
theorem dX5_arePairs_18 : decode cX5_arePairs 18 = .ok (.iload 4, 2) := by decide +kernel
theorem dX5_arePairs_20 : decode cX5_arePairs 20 = .ok (.imul, 1) := by decide +kernel
theorem dX5_arePairs_21 : decode cX5_arePairs 21 = .ok (.iadd, 1) := by decide +kernel
theorem dX5_arePairs_22 : decode cX5_arePairs 22 = .ok (.invokevirtual 168, 3) := by decide +kernel
theorem dX5_arePairs_25 : decode cX5_arePairs 25 = .ok (.invokevirtual 150, 3) := by decide +kernel
theorem dX5_arePairs_28 : decode cX5_arePairs 28 = .ok (.ifCond .ne 5, 3) := by decide +kernel
theorem dX5_arePairs_31 : decode cX5_arePairs 31 = .ok (.iconst 0, 1) := by decide +kernel
theorem dX5_arePairs_32 : decode cX5_arePairs 32 = .ok (.ireturn, 1) := by decide +kernel
theorem dX5_arePairs_33 : decode cX5_arePairs 33 = .ok (.aload_n 0, 1) := by decide +kernel
theorem dX5_arePairs_34 : decode cX5_arePairs 34 = .ok (.aload_n 0, 1) := by decide +kernel
theorem dX5_arePairs_35 : decode cX5_arePairs 35 = .ok (.getfield 11, 3) := by decide +kernel
theorem dX5_arePairs_38 : decode cX5_arePairs 38 = .ok (.iload_n 1, 1) := by decide +kernel
theorem dX5_arePairs_39 : decode cX5_arePairs 39 = .ok (.aaload, 1) := by decide +kernel
theorem dX5_arePairs_40 : decode cX5_arePairs 40 = .ok (.iload_n 2, 1) := by decide +kernel
theorem dX5_arePairs_41 : decode cX5_arePairs 41 = .ok (.iconst 2, 1) := by decide +kernel
theorem dX5_arePairs_42 : decode cX5_arePairs 42 = .ok (.iload 4, 2) := by decide +kernel
theorem dX5_arePairs_44 : decode cX5_arePairs 44 = .ok (.imul, 1) := by decide +kernel
theorem dX5_arePairs_45 : decode cX5_arePairs 45 = .ok (.iadd, 1) := by decide +kernel
theorem dX5_arePairs_46 : decode cX5_arePairs 46 = .ok (.iconst 1, 1) := by decide +kernel
theorem dX5_arePairs_47 : decode cX5_arePairs 47 = .ok (.iadd, 1) := by decide +kernel
theorem dX5_arePairs_48 : decode cX5_arePairs 48 = .ok (.invokevirtual 168, 3) := by decide +kernel
theorem dX5_arePairs_51 : decode cX5_arePairs 51 = .ok (.invokevirtual 209, 3) := by decide +kernel
theorem dX5_arePairs_54 : decode cX5_arePairs 54 = .ok (.ifCond .ne 5, 3) := by decide +kernel
theorem dX5_arePairs_57 : decode cX5_arePairs 57 = .ok (.iconst 0, 1) := by decide +kernel
theorem dX5_arePairs_58 : decode cX5_arePairs 58 = .ok (.ireturn, 1) := by decide +kernel
theorem dX5_arePairs_59 : decode cX5_arePairs 59 = .ok (.iinc 4 1, 3) := by decide +kernel
theorem dX5_arePairs_62 : decode cX5_arePairs 62 = .ok (.goto (-59), 3) := by decide +kernel
theorem dX5_arePairs_65 : decode cX5_arePairs 65 = .ok (.iconst 1, 1) := by decide +kernel
theorem dX5_arePairs_66 : decode cX5_arePairs 66 = .ok (.ireturn, 1) := by decide +kernel
theorem dX5_act_0 : decode cX5_act 0 = .ok (.aload_n 0, 1) := by decide +kernel
theorem dX5_act_1 : decode cX5_act 1 = .ok (.invokevirtual 177, 3) := by decide +kernel
theorem dX5_act_4 : decode cX5_act 4 = .ok (.aload_n 0, 1) := by decide +kernel
theorem dX5_act_5 : decode cX5_act 5 = .ok (.getfield 61, 3) := by decide +kernel
theorem dX5_act_8 : decode cX5_act 8 = .ok (.iload_n 1, 1) := by decide +kernel
theorem dX5_act_9 : decode cX5_act 9 = .ok (.iconst (-1), 1) := by decide +kernel
theorem dX5_act_10 : decode cX5_act 10 = .ok (.invokevirtual 229, 3) := by decide +kernel
theorem dX5_act_13 : decode cX5_act 13 = .ok (.istore_n 2, 1) := by decide +kernel
theorem dX5_act_14 : decode cX5_act 14 = .ok (.aload_n 0, 1) := by decide +kernel
theorem dX5_act_15 : decode cX5_act 15 = .ok (.getfield 61, 3) := by decide +kernel
theorem dX5_act_18 : decode cX5_act 18 = .ok (.iload_n 2, 1) := by decide +kernel
theorem dX5_act_19 : decode cX5_act 19 = .ok (.aload_n 0, 1) := by decide +kernel
theorem dX5_act_20 : decode cX5_act 20 = .ok (.getfield 61, 3) := by decide +kernel
theorem dX5_act_23 : decode cX5_act 23 = .ok (.getfield 180, 3) := by decide +kernel
theorem dX5_act_26 : decode cX5_act 26 = .ok (.iload_n 1, 1) := by decide +kernel
theorem dX5_act_27 : decode cX5_act 27 = .ok (.invokevirtual 283, 3) := by decide +kernel
theorem dX5_act_30 : decode cX5_act 30 = .ok (.invokevirtual 286, 3) := by decide +kernel
theorem dX5_act_33 : decode cX5_act 33 = .ok (.iload_n 2, 1) := by decide +kernel
theorem dX5_act_34 : decode cX5_act 34 = .ok (.ireturn, 1) := by decide +kernel
theorem dX5_keepAct_0 : decode cX5_keepAct 0 = .ok (.aload_n 0, 1) := by decide +kernel
theorem dX5_keepAct_1 : decode cX5_keepAct 1 = .ok (.getfield 24, 3) := by decide +kernel
theorem dX5_keepAct_4 : decode cX5_keepAct 4 = .ok (.aload_n 0, 1) := by decide +kernel
theorem dX5_keepAct_5 : decode cX5_keepAct 5 = .ok (.getfield 28, 3) := by decide +kernel
theorem dX5_keepAct_8 : decode cX5_keepAct 8 = .ok (.aaload, 1) := by decide +kernel
theorem dX5_keepAct_9 : decode cX5_keepAct 9 = .ok (.aload_n 0, 1) := by decide +kernel
theorem dX5_keepAct_10 : decode cX5_keepAct 10 = .ok (.getfield 61, 3) := by decide +kernel
theorem dX5_keepAct_13 : decode cX5_keepAct 13 = .ok (.invokevirtual 184, 3) := by decide +kernel
theorem dX5_keepAct_16 : decode cX5_keepAct 16 = .ok (.aload_n 0, 1) := by decide +kernel
theorem dX5_keepAct_17 : decode cX5_keepAct 17 = .ok (.aload_n 0, 1) := by decide +kernel
theorem dX5_keepAct_18 : decode cX5_keepAct 18 = .ok (.getfield 28, 3) := by decide +kernel
theorem dX5_keepAct_21 : decode cX5_keepAct 21 = .ok (.iconst 1, 1) := by decide +kernel
theorem dX5_keepAct_22 : decode cX5_keepAct 22 = .ok (.iadd, 1) := by decide +kernel
theorem dX5_keepAct_23 : decode cX5_keepAct 23 = .ok (.bipush 24, 2) := by decide +kernel
theorem dX5_keepAct_25 : decode cX5_keepAct 25 = .ok (.irem, 1) := by decide +kernel
theorem dX5_keepAct_26 : decode cX5_keepAct 26 = .ok (.putfield 28, 3) := by decide +kernel
theorem dX5_keepAct_29 : decode cX5_keepAct 29 = .ok (.aload_n 0, 1) := by decide +kernel
theorem dX5_keepAct_30 : decode cX5_keepAct 30 = .ok (.getfield 32, 3) := by decide +kernel
theorem dX5_keepAct_33 : decode cX5_keepAct 33 = .ok (.bipush 24, 2) := by decide +kernel
theorem dX5_keepAct_35 : decode cX5_keepAct 35 = .ok (.if_icmp .ge 13, 3) := by decide +kernel
theorem dX5_keepAct_38 : decode cX5_keepAct 38 = .ok (.aload_n 0, 1) := by decide +kernel
theorem dX5_keepAct_39 : decode cX5_keepAct 39 = .ok (.dup, 1) := by decide +kernel
theorem dX5_keepAct_40 : decode cX5_keepAct 40 = .ok (.getfield 32, 3) := by decide +kernel
theorem dX5_keepAct_43 : decode cX5_keepAct 43 = .ok (.iconst 1, 1) := by decide +kernel
theorem dX5_keepAct_44 : decode cX5_keepAct 44 = .ok (.iadd, 1) := by decide +kernel
theorem dX5_keepAct_45 : decode cX5_keepAct 45 = .ok (.putfield 32, 3) := by decide +kernel
theorem dX5_keepAct_48 : decode cX5_keepAct 48 = .ok (.return_, 1) := by decide +kernel
theorem dX5_forgetActs_0 : decode cX5_forgetActs 0 = .ok (.aload_n 0, 1) := by decide +kernel
theorem dX5_forgetActs_1 : decode cX5_forgetActs 1 = .ok (.iconst 0, 1) := by decide +kernel
theorem dX5_forgetActs_2 : decode cX5_forgetActs 2 = .ok (.putfield 32, 3) := by decide +kernel
theorem dX5_forgetActs_5 : decode cX5_forgetActs 5 = .ok (.return_, 1) := by decide +kernel
theorem dX5_comeAsTold_0 : decode cX5_comeAsTold 0 = .ok (.iconst 0, 1) := by decide +kernel
theorem dX5_comeAsTold_1 : decode cX5_comeAsTold 1 = .ok (.istore 5, 2) := by decide +kernel
theorem dX5_comeAsTold_3 : decode cX5_comeAsTold 3 = .ok (.iload 5, 2) := by decide +kernel
theorem dX5_comeAsTold_5 : decode cX5_comeAsTold 5 = .ok (.iload_n 3, 1) := by decide +kernel
theorem dX5_comeAsTold_6 : decode cX5_comeAsTold 6 = .ok (.if_icmp .ge 45, 3) := by decide +kernel
theorem dX5_comeAsTold_9 : decode cX5_comeAsTold 9 = .ok (.aload_n 0, 1) := by decide +kernel
theorem dX5_comeAsTold_10 : decode cX5_comeAsTold 10 = .ok (.getfield 65, 3) := by decide +kernel
theorem dX5_comeAsTold_13 : decode cX5_comeAsTold 13 = .ok (.aload_n 1, 1) := by decide +kernel
theorem dX5_comeAsTold_14 : decode cX5_comeAsTold 14 = .ok (.iload_n 2, 1) := by decide +kernel
theorem dX5_comeAsTold_15 : decode cX5_comeAsTold 15 = .ok (.iconst 2, 1) := by decide +kernel
theorem dX5_comeAsTold_16 : decode cX5_comeAsTold 16 = .ok (.iload 5, 2) := by decide +kernel
theorem dX5_comeAsTold_18 : decode cX5_comeAsTold 18 = .ok (.imul, 1) := by decide +kernel
theorem dX5_comeAsTold_19 : decode cX5_comeAsTold 19 = .ok (.iadd, 1) := by decide +kernel
theorem dX5_comeAsTold_20 : decode cX5_comeAsTold 20 = .ok (.invokevirtual 168, 3) := by decide +kernel
theorem dX5_comeAsTold_23 : decode cX5_comeAsTold 23 = .ok (.iload 4, 2) := by decide +kernel
theorem dX5_comeAsTold_25 : decode cX5_comeAsTold 25 = .ok (.invokevirtual 229, 3) := by decide +kernel
theorem dX5_comeAsTold_28 : decode cX5_comeAsTold 28 = .ok (.aload_n 1, 1) := by decide +kernel
theorem dX5_comeAsTold_29 : decode cX5_comeAsTold 29 = .ok (.iload_n 2, 1) := by decide +kernel
theorem dX5_comeAsTold_30 : decode cX5_comeAsTold 30 = .ok (.iconst 2, 1) := by decide +kernel
theorem dX5_comeAsTold_31 : decode cX5_comeAsTold 31 = .ok (.iload 5, 2) := by decide +kernel
theorem dX5_comeAsTold_33 : decode cX5_comeAsTold 33 = .ok (.imul, 1) := by decide +kernel
theorem dX5_comeAsTold_34 : decode cX5_comeAsTold 34 = .ok (.iadd, 1) := by decide +kernel
theorem dX5_comeAsTold_35 : decode cX5_comeAsTold 35 = .ok (.iconst 1, 1) := by decide +kernel
theorem dX5_comeAsTold_36 : decode cX5_comeAsTold 36 = .ok (.iadd, 1) := by decide +kernel
theorem dX5_comeAsTold_37 : decode cX5_comeAsTold 37 = .ok (.invokevirtual 168, 3) := by decide +kernel
theorem dX5_comeAsTold_40 : decode cX5_comeAsTold 40 = .ok (.if_icmp .eq 5, 3) := by decide +kernel
theorem dX5_comeAsTold_43 : decode cX5_comeAsTold 43 = .ok (.iconst 0, 1) := by decide +kernel
theorem dX5_comeAsTold_44 : decode cX5_comeAsTold 44 = .ok (.ireturn, 1) := by decide +kernel
theorem dX5_comeAsTold_45 : decode cX5_comeAsTold 45 = .ok (.iinc 5 1, 3) := by decide +kernel
theorem dX5_comeAsTold_48 : decode cX5_comeAsTold 48 = .ok (.goto (-45), 3) := by decide +kernel
theorem dX5_comeAsTold_51 : decode cX5_comeAsTold 51 = .ok (.iconst 1, 1) := by decide +kernel
theorem dX5_comeAsTold_52 : decode cX5_comeAsTold 52 = .ok (.ireturn, 1) := by decide +kernel
theorem dX5_searchFromNow_0 : decode cX5_searchFromNow 0 = .ok (.aload_n 0, 1) := by decide +kernel
theorem dX5_searchFromNow_1 : decode cX5_searchFromNow 1 = .ok (.getfield 38, 3) := by decide +kernel
theorem dX5_searchFromNow_4 : decode cX5_searchFromNow 4 = .ok (.ifnonnull 18, 3) := by decide +kernel
theorem dX5_searchFromNow_7 : decode cX5_searchFromNow 7 = .ok (.aload_n 0, 1) := by decide +kernel
theorem dX5_searchFromNow_8 : decode cX5_searchFromNow 8 = .ok (.new 237, 3) := by decide +kernel
theorem dX5_searchFromNow_11 : decode cX5_searchFromNow 11 = .ok (.dup, 1) := by decide +kernel
theorem dX5_searchFromNow_12 : decode cX5_searchFromNow 12 = .ok (.aload_n 0, 1) := by decide +kernel
theorem dX5_searchFromNow_13 : decode cX5_searchFromNow 13 = .ok (.getfield 61, 3) := by decide +kernel
theorem dX5_searchFromNow_16 : decode cX5_searchFromNow 16 = .ok (.invokespecial 289, 3) := by decide +kernel
theorem dX5_searchFromNow_19 : decode cX5_searchFromNow 19 = .ok (.putfield 38, 3) := by decide +kernel
theorem dX5_searchFromNow_22 : decode cX5_searchFromNow 22 = .ok (.aload_n 0, 1) := by decide +kernel
theorem dX5_searchFromNow_23 : decode cX5_searchFromNow 23 = .ok (.getfield 38, 3) := by decide +kernel
theorem dX5_searchFromNow_26 : decode cX5_searchFromNow 26 = .ok (.aload_n 0, 1) := by decide +kernel
theorem dX5_searchFromNow_27 : decode cX5_searchFromNow 27 = .ok (.getfield 61, 3) := by decide +kernel
theorem dX5_searchFromNow_30 : decode cX5_searchFromNow 30 = .ok (.invokevirtual 291, 3) := by decide +kernel
theorem dX5_searchFromNow_33 : decode cX5_searchFromNow 33 = .ok (.aload_n 0, 1) := by decide +kernel
theorem dX5_searchFromNow_34 : decode cX5_searchFromNow 34 = .ok (.getfield 38, 3) := by decide +kernel
theorem dX5_searchFromNow_37 : decode cX5_searchFromNow 37 = .ok (.areturn, 1) := by decide +kernel
theorem dX5_roundLength_0 : decode cX5_roundLength 0 = .ok (.aload_n 0, 1) := by decide +kernel
theorem dX5_roundLength_1 : decode cX5_roundLength 1 = .ok (.getfield 65, 3) := by decide +kernel
theorem dX5_roundLength_4 : decode cX5_roundLength 4 = .ok (.aload_n 0, 1) := by decide +kernel
theorem dX5_roundLength_5 : decode cX5_roundLength 5 = .ok (.getfield 61, 3) := by decide +kernel
theorem dX5_roundLength_8 : decode cX5_roundLength 8 = .ok (.invokevirtual 184, 3) := by decide +kernel
theorem dX5_roundLength_11 : decode cX5_roundLength 11 = .ok (.aload_n 0, 1) := by decide +kernel
theorem dX5_roundLength_12 : decode cX5_roundLength 12 = .ok (.getfield 65, 3) := by decide +kernel
theorem dX5_roundLength_15 : decode cX5_roundLength 15 = .ok (.invokevirtual 294, 3) := by decide +kernel
theorem dX5_roundLength_18 : decode cX5_roundLength 18 = .ok (.istore_n 2, 1) := by decide +kernel
theorem dX5_roundLength_19 : decode cX5_roundLength 19 = .ok (.iconst 0, 1) := by decide +kernel
theorem dX5_roundLength_20 : decode cX5_roundLength 20 = .ok (.istore_n 3, 1) := by decide +kernel
theorem dX5_roundLength_21 : decode cX5_roundLength 21 = .ok (.iconst 1, 1) := by decide +kernel
theorem dX5_roundLength_22 : decode cX5_roundLength 22 = .ok (.istore 4, 2) := by decide +kernel
theorem dX5_roundLength_24 : decode cX5_roundLength 24 = .ok (.iconst 0, 1) := by decide +kernel
theorem dX5_roundLength_25 : decode cX5_roundLength 25 = .ok (.istore 5, 2) := by decide +kernel
theorem dX5_roundLength_27 : decode cX5_roundLength 27 = .ok (.iload 5, 2) := by decide +kernel
theorem dX5_roundLength_29 : decode cX5_roundLength 29 = .ok (.sipush 31104, 3) := by decide +kernel
theorem dX5_roundLength_32 : decode cX5_roundLength 32 = .ok (.if_icmp .ge 57, 3) := by decide +kernel
theorem dX5_roundLength_35 : decode cX5_roundLength 35 = .ok (.aload_n 0, 1) := by decide +kernel
theorem dX5_roundLength_36 : decode cX5_roundLength 36 = .ok (.getfield 65, 3) := by decide +kernel
theorem dX5_roundLength_39 : decode cX5_roundLength 39 = .ok (.iload_n 1, 1) := by decide +kernel
theorem dX5_roundLength_40 : decode cX5_roundLength 40 = .ok (.iconst (-1), 1) := by decide +kernel
theorem dX5_roundLength_41 : decode cX5_roundLength 41 = .ok (.invokevirtual 229, 3) := by decide +kernel
theorem dX5_roundLength_44 : decode cX5_roundLength 44 = .ok (.pop, 1) := by decide +kernel
theorem dX5_roundLength_45 : decode cX5_roundLength 45 = .ok (.iinc 3 1, 3) := by decide +kernel
theorem dX5_roundLength_48 : decode cX5_roundLength 48 = .ok (.aload_n 0, 1) := by decide +kernel
theorem dX5_roundLength_49 : decode cX5_roundLength 49 = .ok (.getfield 65, 3) := by decide +kernel
theorem dX5_roundLength_52 : decode cX5_roundLength 52 = .ok (.invokevirtual 294, 3) := by decide +kernel
theorem dX5_roundLength_55 : decode cX5_roundLength 55 = .ok (.iload_n 2, 1) := by decide +kernel
theorem dX5_roundLength_56 : decode cX5_roundLength 56 = .ok (.if_icmp .ne 5, 3) := by decide +kernel
theorem dX5_roundLength_59 : decode cX5_roundLength 59 = .ok (.iload_n 3, 1) := by decide +kernel
theorem dX5_roundLength_60 : decode cX5_roundLength 60 = .ok (.ireturn, 1) := by decide +kernel
theorem dX5_roundLength_61 : decode cX5_roundLength 61 = .ok (.iload_n 3, 1) := by decide +kernel
theorem dX5_roundLength_62 : decode cX5_roundLength 62 = .ok (.iload 4, 2) := by decide +kernel
theorem dX5_roundLength_64 : decode cX5_roundLength 64 = .ok (.if_icmp .ne 19, 3) := by decide +kernel
theorem dX5_roundLength_67 : decode cX5_roundLength 67 = .ok (.aload_n 0, 1) := by decide +kernel
theorem dX5_roundLength_68 : decode cX5_roundLength 68 = .ok (.getfield 65, 3) := by decide +kernel
theorem dX5_roundLength_71 : decode cX5_roundLength 71 = .ok (.invokevirtual 294, 3) := by decide +kernel
theorem dX5_roundLength_74 : decode cX5_roundLength 74 = .ok (.istore_n 2, 1) := by decide +kernel
theorem dX5_roundLength_75 : decode cX5_roundLength 75 = .ok (.iload 4, 2) := by decide +kernel
theorem dX5_roundLength_77 : decode cX5_roundLength 77 = .ok (.iconst 2, 1) := by decide +kernel
theorem dX5_roundLength_78 : decode cX5_roundLength 78 = .ok (.imul, 1) := by decide +kernel
theorem dX5_roundLength_79 : decode cX5_roundLength 79 = .ok (.istore 4, 2) := by decide +kernel
theorem dX5_roundLength_81 : decode cX5_roundLength 81 = .ok (.iconst 0, 1) := by decide +kernel
theorem dX5_roundLength_82 : decode cX5_roundLength 82 = .ok (.istore_n 3, 1) := by decide +kernel
theorem dX5_roundLength_83 : decode cX5_roundLength 83 = .ok (.iinc 5 1, 3) := by decide +kernel
theorem dX5_roundLength_86 : decode cX5_roundLength 86 = .ok (.goto (-59), 3) := by decide +kernel
theorem dX5_roundLength_89 : decode cX5_roundLength 89 = .ok (.iload_n 3, 1) := by decide +kernel
theorem dX5_roundLength_90 : decode cX5_roundLength 90 = .ok (.ireturn, 1) := by decide +kernel
theorem dX5_tailLength_0 : decode cX5_tailLength 0 = .ok (.aload_n 0, 1) := by decide +kernel
theorem dX5_tailLength_1 : decode cX5_tailLength 1 = .ok (.getfield 65, 3) := by decide +kernel
theorem dX5_tailLength_4 : decode cX5_tailLength 4 = .ok (.aload_n 0, 1) := by decide +kernel
theorem dX5_tailLength_5 : decode cX5_tailLength 5 = .ok (.getfield 61, 3) := by decide +kernel
theorem dX5_tailLength_8 : decode cX5_tailLength 8 = .ok (.invokevirtual 184, 3) := by decide +kernel
theorem dX5_tailLength_11 : decode cX5_tailLength 11 = .ok (.aload_n 0, 1) := by decide +kernel
theorem dX5_tailLength_12 : decode cX5_tailLength 12 = .ok (.getfield 68, 3) := by decide +kernel
theorem dX5_tailLength_15 : decode cX5_tailLength 15 = .ok (.aload_n 0, 1) := by decide +kernel
theorem dX5_tailLength_16 : decode cX5_tailLength 16 = .ok (.getfield 61, 3) := by decide +kernel
theorem dX5_tailLength_19 : decode cX5_tailLength 19 = .ok (.invokevirtual 184, 3) := by decide +kernel
theorem dX5_tailLength_22 : decode cX5_tailLength 22 = .ok (.iconst 0, 1) := by decide +kernel
theorem dX5_tailLength_23 : decode cX5_tailLength 23 = .ok (.istore_n 3, 1) := by decide +kernel
theorem dX5_tailLength_24 : decode cX5_tailLength 24 = .ok (.iload_n 3, 1) := by decide +kernel
theorem dX5_tailLength_25 : decode cX5_tailLength 25 = .ok (.iload_n 2, 1) := by decide +kernel
theorem dX5_tailLength_26 : decode cX5_tailLength 26 = .ok (.if_icmp .ge 19, 3) := by decide +kernel
theorem dX5_tailLength_29 : decode cX5_tailLength 29 = .ok (.aload_n 0, 1) := by decide +kernel
theorem dX5_tailLength_30 : decode cX5_tailLength 30 = .ok (.getfield 68, 3) := by decide +kernel
theorem dX5_tailLength_33 : decode cX5_tailLength 33 = .ok (.iload_n 1, 1) := by decide +kernel
theorem dX5_tailLength_34 : decode cX5_tailLength 34 = .ok (.iconst (-1), 1) := by decide +kernel
theorem dX5_tailLength_35 : decode cX5_tailLength 35 = .ok (.invokevirtual 229, 3) := by decide +kernel
theorem dX5_tailLength_38 : decode cX5_tailLength 38 = .ok (.pop, 1) := by decide +kernel
theorem dX5_tailLength_39 : decode cX5_tailLength 39 = .ok (.iinc 3 1, 3) := by decide +kernel
theorem dX5_tailLength_42 : decode cX5_tailLength 42 = .ok (.goto (-18), 3) := by decide +kernel
theorem dX5_tailLength_45 : decode cX5_tailLength 45 = .ok (.iconst 0, 1) := by decide +kernel
theorem dX5_tailLength_46 : decode cX5_tailLength 46 = .ok (.istore_n 3, 1) := by decide +kernel
theorem dX5_tailLength_47 : decode cX5_tailLength 47 = .ok (.iload_n 3, 1) := by decide +kernel
theorem dX5_tailLength_48 : decode cX5_tailLength 48 = .ok (.sipush 7776, 3) := by decide +kernel
theorem dX5_tailLength_51 : decode cX5_tailLength 51 = .ok (.if_icmp .ge 46, 3) := by decide +kernel
theorem dX5_tailLength_54 : decode cX5_tailLength 54 = .ok (.aload_n 0, 1) := by decide +kernel
theorem dX5_tailLength_55 : decode cX5_tailLength 55 = .ok (.getfield 65, 3) := by decide +kernel
theorem dX5_tailLength_58 : decode cX5_tailLength 58 = .ok (.invokevirtual 294, 3) := by decide +kernel
theorem dX5_tailLength_61 : decode cX5_tailLength 61 = .ok (.aload_n 0, 1) := by decide +kernel
theorem dX5_tailLength_62 : decode cX5_tailLength 62 = .ok (.getfield 68, 3) := by decide +kernel
theorem dX5_tailLength_65 : decode cX5_tailLength 65 = .ok (.invokevirtual 294, 3) := by decide +kernel
theorem dX5_tailLength_68 : decode cX5_tailLength 68 = .ok (.if_icmp .eq 29, 3) := by decide +kernel
theorem dX5_tailLength_71 : decode cX5_tailLength 71 = .ok (.aload_n 0, 1) := by decide +kernel
theorem dX5_tailLength_72 : decode cX5_tailLength 72 = .ok (.getfield 65, 3) := by decide +kernel
theorem dX5_tailLength_75 : decode cX5_tailLength 75 = .ok (.iload_n 1, 1) := by decide +kernel
theorem dX5_tailLength_76 : decode cX5_tailLength 76 = .ok (.iconst (-1), 1) := by decide +kernel
theorem dX5_tailLength_77 : decode cX5_tailLength 77 = .ok (.invokevirtual 229, 3) := by decide +kernel
theorem dX5_tailLength_80 : decode cX5_tailLength 80 = .ok (.pop, 1) := by decide +kernel
theorem dX5_tailLength_81 : decode cX5_tailLength 81 = .ok (.aload_n 0, 1) := by decide +kernel
theorem dX5_tailLength_82 : decode cX5_tailLength 82 = .ok (.getfield 68, 3) := by decide +kernel
theorem dX5_tailLength_85 : decode cX5_tailLength 85 = .ok (.iload_n 1, 1) := by decide +kernel
theorem dX5_tailLength_86 : decode cX5_tailLength 86 = .ok (.iconst (-1), 1) := by decide +kernel
theorem dX5_tailLength_87 : decode cX5_tailLength 87 = .ok (.invokevirtual 229, 3) := by decide +kernel
theorem dX5_tailLength_90 : decode cX5_tailLength 90 = .ok (.pop, 1) := by decide +kernel
theorem dX5_tailLength_91 : decode cX5_tailLength 91 = .ok (.iinc 3 1, 3) := by decide +kernel
theorem dX5_tailLength_94 : decode cX5_tailLength 94 = .ok (.goto (-47), 3) := by decide +kernel
theorem dX5_tailLength_97 : decode cX5_tailLength 97 = .ok (.iload_n 3, 1) := by decide +kernel
theorem dX5_tailLength_98 : decode cX5_tailLength 98 = .ok (.ireturn, 1) := by decide +kernel
theorem dX5_asked_0 : decode cX5_asked 0 = .ok (.iload_n 1, 1) := by decide +kernel
theorem dX5_asked_1 : decode cX5_asked 1 = .ok (.ifCond .ne 9, 3) := by decide +kernel
theorem dX5_asked_4 : decode cX5_asked 4 = .ok (.getstatic 297, 3) := by decide +kernel
theorem dX5_asked_7 : decode cX5_asked 7 = .ok (.goto 6, 3) := by decide +kernel
theorem dX5_asked_10 : decode cX5_asked 10 = .ok (.getstatic 300, 3) := by decide +kernel
theorem dX5_asked_13 : decode cX5_asked 13 = .ok (.astore 4, 2) := by decide +kernel
theorem dX5_asked_15 : decode cX5_asked 15 = .ok (.aload_n 0, 1) := by decide +kernel
theorem dX5_asked_16 : decode cX5_asked 16 = .ok (.getfield 61, 3) := by decide +kernel
theorem dX5_asked_19 : decode cX5_asked 19 = .ok (.getfield 180, 3) := by decide +kernel
theorem dX5_asked_22 : decode cX5_asked 22 = .ok (.iload_n 2, 1) := by decide +kernel
theorem dX5_asked_23 : decode cX5_asked 23 = .ok (.invokevirtual 256, 3) := by decide +kernel
theorem dX5_asked_26 : decode cX5_asked 26 = .ok (.istore 5, 2) := by decide +kernel
theorem dX5_asked_28 : decode cX5_asked 28 = .ok (.iconst 0, 1) := by decide +kernel
theorem dX5_asked_29 : decode cX5_asked 29 = .ok (.istore 6, 2) := by decide +kernel
theorem dX5_asked_31 : decode cX5_asked 31 = .ok (.iload 6, 2) := by decide +kernel
theorem dX5_asked_33 : decode cX5_asked 33 = .ok (.bipush 6, 2) := by decide +kernel
theorem dX5_asked_35 : decode cX5_asked 35 = .ok (.if_icmp .ge 25, 3) := by decide +kernel
theorem dX5_asked_38 : decode cX5_asked 38 = .ok (.aload 4, 2) := by decide +kernel
theorem dX5_asked_40 : decode cX5_asked 40 = .ok (.iload 5, 2) := by decide +kernel
theorem dX5_asked_42 : decode cX5_asked 42 = .ok (.iaload, 1) := by decide +kernel
theorem dX5_asked_43 : decode cX5_asked 43 = .ok (.ifCond .ne 17, 3) := by decide +kernel
theorem dX5_asked_46 : decode cX5_asked 46 = .ok (.getstatic 270, 3) := by decide +kernel
theorem dX5_asked_49 : decode cX5_asked 49 = .ok (.iload 5, 2) := by decide +kernel
theorem dX5_asked_51 : decode cX5_asked 51 = .ok (.iaload, 1) := by decide +kernel
theorem dX5_asked_52 : decode cX5_asked 52 = .ok (.istore 5, 2) := by decide +kernel
theorem dX5_asked_54 : decode cX5_asked 54 = .ok (.iinc 6 1, 3) := by decide +kernel
theorem dX5_asked_57 : decode cX5_asked 57 = .ok (.goto (-26), 3) := by decide +kernel
theorem dX5_asked_60 : decode cX5_asked 60 = .ok (.aload_n 0, 1) := by decide +kernel
theorem dX5_asked_61 : decode cX5_asked 61 = .ok (.aload 4, 2) := by decide +kernel
theorem dX5_asked_63 : decode cX5_asked 63 = .ok (.iload 5, 2) := by decide +kernel
theorem dX5_asked_65 : decode cX5_asked 65 = .ok (.iaload, 1) := by decide +kernel
theorem dX5_asked_66 : decode cX5_asked 66 = .ok (.iload_n 2, 1) := by decide +kernel
theorem dX5_asked_67 : decode cX5_asked 67 = .ok (.iload_n 3, 1) := by decide +kernel
theorem dX5_asked_68 : decode cX5_asked 68 = .ok (.iconst 1, 1) := by decide +kernel
theorem dX5_asked_69 : decode cX5_asked 69 = .ok (.iadd, 1) := by decide +kernel
theorem dX5_asked_70 : decode cX5_asked 70 = .ok (.invokevirtual 303, 3) := by decide +kernel
theorem dX5_asked_73 : decode cX5_asked 73 = .ok (.ireturn, 1) := by decide +kernel
theorem dX5_body_0 : decode cX5_body 0 = .ok (.iload_n 3, 1) := by decide +kernel
theorem dX5_body_1 : decode cX5_body 1 = .ok (.bipush 12, 2) := by decide +kernel
theorem dX5_body_3 : decode cX5_body 3 = .ok (.if_icmp .le 5, 3) := by decide +kernel
theorem dX5_body_6 : decode cX5_body 6 = .ok (.iconst 0, 1) := by decide +kernel
theorem dX5_body_7 : decode cX5_body 7 = .ok (.ireturn, 1) := by decide +kernel
theorem dX5_body_8 : decode cX5_body 8 = .ok (.aload_n 0, 1) := by decide +kernel
theorem dX5_body_9 : decode cX5_body 9 = .ok (.getfield 46, 3) := by decide +kernel
theorem dX5_body_12 : decode cX5_body 12 = .ok (.bipush 16, 2) := by decide +kernel
theorem dX5_body_14 : decode cX5_body 14 = .ok (.if_icmp .ge 20, 3) := by decide +kernel
theorem dX5_body_17 : decode cX5_body 17 = .ok (.aload_n 0, 1) := by decide +kernel
theorem dX5_body_18 : decode cX5_body 18 = .ok (.getfield 42, 3) := by decide +kernel
theorem dX5_body_21 : decode cX5_body 21 = .ok (.aload_n 0, 1) := by decide +kernel
theorem dX5_body_22 : decode cX5_body 22 = .ok (.dup, 1) := by decide +kernel
theorem dX5_body_23 : decode cX5_body 23 = .ok (.getfield 46, 3) := by decide +kernel
theorem dX5_body_26 : decode cX5_body 26 = .ok (.dup_x1, 1) := by decide +kernel
theorem dX5_body_27 : decode cX5_body 27 = .ok (.iconst 1, 1) := by decide +kernel
theorem dX5_body_28 : decode cX5_body 28 = .ok (.iadd, 1) := by decide +kernel
theorem dX5_body_29 : decode cX5_body 29 = .ok (.putfield 46, 3) := by decide +kernel
theorem dX5_body_32 : decode cX5_body 32 = .ok (.iload_n 1, 1) := by decide +kernel
theorem dX5_body_33 : decode cX5_body 33 = .ok (.iastore, 1) := by decide +kernel
theorem dX5_body_34 : decode cX5_body 34 = .ok (.iload_n 3, 1) := by decide +kernel
theorem dX5_body_35 : decode cX5_body 35 = .ok (.iconst 1, 1) := by decide +kernel
theorem dX5_body_36 : decode cX5_body 36 = .ok (.iadd, 1) := by decide +kernel
theorem dX5_body_37 : decode cX5_body 37 = .ok (.istore 4, 2) := by decide +kernel
theorem dX5_body_39 : decode cX5_body 39 = .ok (.iload_n 1, 1) := by decide +kernel
theorem dX5_body_40 : decode cX5_body 40 = .ok (.tableswitch 206 10 24 #[76, 88, 107, 118, 131, 206, 206, 206, 206, 206, 143, 145, 161, 175, 194], 76) := by decide +kernel
theorem dX5_body_116 : decode cX5_body 116 = .ok (.aload_n 0, 1) := by decide +kernel
theorem dX5_body_117 : decode cX5_body 117 = .ok (.getfield 61, 3) := by decide +kernel
theorem dX5_body_120 : decode cX5_body 120 = .ok (.getfield 180, 3) := by decide +kernel
theorem dX5_body_123 : decode cX5_body 123 = .ok (.iload_n 2, 1) := by decide +kernel
theorem dX5_body_124 : decode cX5_body 124 = .ok (.invokevirtual 283, 3) := by decide +kernel
theorem dX5_body_127 : decode cX5_body 127 = .ok (.ireturn, 1) := by decide +kernel
theorem dX5_body_128 : decode cX5_body 128 = .ok (.aload_n 0, 1) := by decide +kernel
theorem dX5_body_129 : decode cX5_body 129 = .ok (.bipush 10, 2) := by decide +kernel
theorem dX5_body_131 : decode cX5_body 131 = .ok (.iload_n 2, 1) := by decide +kernel
theorem dX5_body_132 : decode cX5_body 132 = .ok (.iload 4, 2) := by decide +kernel
theorem dX5_body_134 : decode cX5_body 134 = .ok (.invokevirtual 303, 3) := by decide +kernel
theorem dX5_body_137 : decode cX5_body 137 = .ok (.aload_n 0, 1) := by decide +kernel
theorem dX5_body_138 : decode cX5_body 138 = .ok (.iconst 1, 1) := by decide +kernel
theorem dX5_body_139 : decode cX5_body 139 = .ok (.iload_n 2, 1) := by decide +kernel
theorem dX5_body_140 : decode cX5_body 140 = .ok (.iload 4, 2) := by decide +kernel
theorem dX5_body_142 : decode cX5_body 142 = .ok (.invokevirtual 273, 3) := by decide +kernel
theorem dX5_body_145 : decode cX5_body 145 = .ok (.iadd, 1) := by decide +kernel
theorem dX5_body_146 : decode cX5_body 146 = .ok (.ireturn, 1) := by decide +kernel
theorem dX5_body_147 : decode cX5_body 147 = .ok (.aload_n 0, 1) := by decide +kernel
theorem dX5_body_148 : decode cX5_body 148 = .ok (.bipush 11, 2) := by decide +kernel
theorem dX5_body_150 : decode cX5_body 150 = .ok (.iload_n 2, 1) := by decide +kernel
theorem dX5_body_151 : decode cX5_body 151 = .ok (.iload 4, 2) := by decide +kernel
theorem dX5_body_153 : decode cX5_body 153 = .ok (.invokevirtual 303, 3) := by decide +kernel
theorem dX5_body_156 : decode cX5_body 156 = .ok (.ineg, 1) := by decide +kernel
theorem dX5_body_157 : decode cX5_body 157 = .ok (.ireturn, 1) := by decide +kernel
theorem dX5_body_158 : decode cX5_body 158 = .ok (.aload_n 0, 1) := by decide +kernel
theorem dX5_body_159 : decode cX5_body 159 = .ok (.bipush 10, 2) := by decide +kernel
theorem dX5_body_161 : decode cX5_body 161 = .ok (.iload_n 2, 1) := by decide +kernel
theorem dX5_body_162 : decode cX5_body 162 = .ok (.iload 4, 2) := by decide +kernel
theorem dX5_body_164 : decode cX5_body 164 = .ok (.invokevirtual 303, 3) := by decide +kernel
theorem dX5_body_167 : decode cX5_body 167 = .ok (.bipush 100, 2) := by decide +kernel
theorem dX5_body_169 : decode cX5_body 169 = .ok (.isub, 1) := by decide +kernel
theorem dX5_body_170 : decode cX5_body 170 = .ok (.ireturn, 1) := by decide +kernel
theorem dX5_body_171 : decode cX5_body 171 = .ok (.aload_n 0, 1) := by decide +kernel
theorem dX5_body_172 : decode cX5_body 172 = .ok (.bipush 13, 2) := by decide +kernel
theorem dX5_body_174 : decode cX5_body 174 = .ok (.iload_n 2, 1) := by decide +kernel
theorem dX5_body_175 : decode cX5_body 175 = .ok (.iload 4, 2) := by decide +kernel
theorem dX5_body_177 : decode cX5_body 177 = .ok (.invokevirtual 303, 3) := by decide +kernel
theorem dX5_body_180 : decode cX5_body 180 = .ok (.iconst 2, 1) := by decide +kernel
theorem dX5_body_181 : decode cX5_body 181 = .ok (.imul, 1) := by decide +kernel
theorem dX5_body_182 : decode cX5_body 182 = .ok (.ireturn, 1) := by decide +kernel
theorem dX5_body_183 : decode cX5_body 183 = .ok (.iload_n 2, 1) := by decide +kernel
theorem dX5_body_184 : decode cX5_body 184 = .ok (.ireturn, 1) := by decide +kernel
theorem dX5_body_185 : decode cX5_body 185 = .ok (.aload_n 0, 1) := by decide +kernel
theorem dX5_body_186 : decode cX5_body 186 = .ok (.bipush 20, 2) := by decide +kernel
theorem dX5_body_188 : decode cX5_body 188 = .ok (.iload_n 2, 1) := by decide +kernel
theorem dX5_body_189 : decode cX5_body 189 = .ok (.iload 4, 2) := by decide +kernel
theorem dX5_body_191 : decode cX5_body 191 = .ok (.invokevirtual 303, 3) := by decide +kernel
theorem dX5_body_194 : decode cX5_body 194 = .ok (.aload_n 0, 1) := by decide +kernel
theorem dX5_body_195 : decode cX5_body 195 = .ok (.iload_n 2, 1) := by decide +kernel
theorem dX5_body_196 : decode cX5_body 196 = .ok (.invokevirtual 306, 3) := by decide +kernel
theorem dX5_body_199 : decode cX5_body 199 = .ok (.iadd, 1) := by decide +kernel
theorem dX5_body_200 : decode cX5_body 200 = .ok (.ireturn, 1) := by decide +kernel
theorem dX5_body_201 : decode cX5_body 201 = .ok (.aload_n 0, 1) := by decide +kernel
theorem dX5_body_202 : decode cX5_body 202 = .ok (.bipush 21, 2) := by decide +kernel
theorem dX5_body_204 : decode cX5_body 204 = .ok (.iload_n 2, 1) := by decide +kernel
theorem dX5_body_205 : decode cX5_body 205 = .ok (.iload 4, 2) := by decide +kernel
theorem dX5_body_207 : decode cX5_body 207 = .ok (.invokevirtual 303, 3) := by decide +kernel
theorem dX5_body_210 : decode cX5_body 210 = .ok (.sipush 1000, 3) := by decide +kernel
theorem dX5_body_213 : decode cX5_body 213 = .ok (.isub, 1) := by decide +kernel
theorem dX5_body_214 : decode cX5_body 214 = .ok (.ireturn, 1) := by decide +kernel
theorem dX5_body_215 : decode cX5_body 215 = .ok (.aload_n 0, 1) := by decide +kernel
theorem dX5_body_216 : decode cX5_body 216 = .ok (.bipush 20, 2) := by decide +kernel
theorem dX5_body_218 : decode cX5_body 218 = .ok (.iload_n 2, 1) := by decide +kernel
theorem dX5_body_219 : decode cX5_body 219 = .ok (.iload 4, 2) := by decide +kernel
theorem dX5_body_221 : decode cX5_body 221 = .ok (.invokevirtual 303, 3) := by decide +kernel
theorem dX5_body_224 : decode cX5_body 224 = .ok (.aload_n 0, 1) := by decide +kernel
theorem dX5_body_225 : decode cX5_body 225 = .ok (.iconst 0, 1) := by decide +kernel
theorem dX5_body_226 : decode cX5_body 226 = .ok (.iload_n 2, 1) := by decide +kernel
theorem dX5_body_227 : decode cX5_body 227 = .ok (.iload 4, 2) := by decide +kernel
theorem dX5_body_229 : decode cX5_body 229 = .ok (.invokevirtual 273, 3) := by decide +kernel
theorem dX5_body_232 : decode cX5_body 232 = .ok (.isub, 1) := by decide +kernel
theorem dX5_body_233 : decode cX5_body 233 = .ok (.ireturn, 1) := by decide +kernel
theorem dX5_body_234 : decode cX5_body 234 = .ok (.aload_n 0, 1) := by decide +kernel
theorem dX5_body_235 : decode cX5_body 235 = .ok (.bipush 21, 2) := by decide +kernel
theorem dX5_body_237 : decode cX5_body 237 = .ok (.iload_n 2, 1) := by decide +kernel
theorem dX5_body_238 : decode cX5_body 238 = .ok (.iload 4, 2) := by decide +kernel
theorem dX5_body_240 : decode cX5_body 240 = .ok (.invokevirtual 303, 3) := by decide +kernel
theorem dX5_body_243 : decode cX5_body 243 = .ok (.iconst 2, 1) := by decide +kernel
theorem dX5_body_244 : decode cX5_body 244 = .ok (.imul, 1) := by decide +kernel
theorem dX5_body_245 : decode cX5_body 245 = .ok (.ireturn, 1) := by decide +kernel
theorem dX5_body_246 : decode cX5_body 246 = .ok (.iconst 0, 1) := by decide +kernel
theorem dX5_body_247 : decode cX5_body 247 = .ok (.ireturn, 1) := by decide +kernel
theorem dX5_penNow_0 : decode cX5_penNow 0 = .ok (.aload_n 0, 1) := by decide +kernel
theorem dX5_penNow_1 : decode cX5_penNow 1 = .ok (.getfield 65, 3) := by decide +kernel
theorem dX5_penNow_4 : decode cX5_penNow 4 = .ok (.aload_n 0, 1) := by decide +kernel
theorem dX5_penNow_5 : decode cX5_penNow 5 = .ok (.getfield 61, 3) := by decide +kernel
theorem dX5_penNow_8 : decode cX5_penNow 8 = .ok (.invokevirtual 184, 3) := by decide +kernel
theorem dX5_penNow_11 : decode cX5_penNow 11 = .ok (.aload_n 0, 1) := by decide +kernel
theorem dX5_penNow_12 : decode cX5_penNow 12 = .ok (.getfield 65, 3) := by decide +kernel
theorem dX5_penNow_15 : decode cX5_penNow 15 = .ok (.iload_n 1, 1) := by decide +kernel
theorem dX5_penNow_16 : decode cX5_penNow 16 = .ok (.iconst (-1), 1) := by decide +kernel
theorem dX5_penNow_17 : decode cX5_penNow 17 = .ok (.invokevirtual 229, 3) := by decide +kernel
theorem dX5_penNow_20 : decode cX5_penNow 20 = .ok (.ireturn, 1) := by decide +kernel
