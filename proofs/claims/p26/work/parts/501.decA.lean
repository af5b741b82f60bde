theorem dL_expose_0 : decode cL_expose 0 = .ok (.aload_n 0, 1) := by decide +kernel
theorem dL_expose_1 : decode cL_expose 1 = .ok (.iload_n 1, 1) := by decide +kernel
theorem dL_expose_2 : decode cL_expose 2 = .ok (.iload_n 2, 1) := by decide +kernel
theorem dL_expose_3 : decode cL_expose 3 = .ok (.iload_n 3, 1) := by decide +kernel
theorem dL_expose_4 : decode cL_expose 4 = .ok (.iload 4, 2) := by decide +kernel
theorem dL_expose_6 : decode cL_expose 6 = .ok (.iload 5, 2) := by decide +kernel
theorem dL_expose_8 : decode cL_expose 8 = .ok (.iload 6, 2) := by decide +kernel
theorem dL_expose_10 : decode cL_expose 10 = .ok (.invokevirtual 7, 3) := by decide +kernel
theorem dL_expose_13 : decode cL_expose 13 = .ok (.ireturn, 1) := by decide +kernel
theorem dL_expose_14 : decode cL_expose 14 = .ok (.astore 7, 2) := by decide +kernel
theorem dL_expose_16 : decode cL_expose 16 = .ok (.ldc 15, 2) := by decide +kernel
theorem dL_expose_18 : decode cL_expose 18 = .ok (.ireturn, 1) := by decide +kernel
theorem dL_expose_19 : decode cL_expose 19 = .ok (.astore 7, 2) := by decide +kernel
theorem dL_expose_21 : decode cL_expose 21 = .ok (.ldc 18, 2) := by decide +kernel
theorem dL_expose_23 : decode cL_expose 23 = .ok (.ireturn, 1) := by decide +kernel
theorem dL_expose_24 : decode cL_expose 24 = .ok (.astore 7, 2) := by decide +kernel
theorem dL_expose_26 : decode cL_expose 26 = .ok (.ldc 21, 2) := by decide +kernel
theorem dL_expose_28 : decode cL_expose 28 = .ok (.ireturn, 1) := by decide +kernel
theorem dL_piece_0 : decode cL_piece 0 = .ok (.aload_n 0, 1) := by decide +kernel
theorem dL_piece_1 : decode cL_piece 1 = .ok (.iload_n 1, 1) := by decide +kernel
theorem dL_piece_2 : decode cL_piece 2 = .ok (.iload_n 2, 1) := by decide +kernel
theorem dL_piece_3 : decode cL_piece 3 = .ok (.iload_n 3, 1) := by decide +kernel
theorem dL_piece_4 : decode cL_piece 4 = .ok (.iload 4, 2) := by decide +kernel
theorem dL_piece_6 : decode cL_piece 6 = .ok (.iload 5, 2) := by decide +kernel
theorem dL_piece_8 : decode cL_piece 8 = .ok (.invokevirtual 22, 3) := by decide +kernel
theorem dL_piece_11 : decode cL_piece 11 = .ok (.ireturn, 1) := by decide +kernel
theorem dL_piece_12 : decode cL_piece 12 = .ok (.astore 6, 2) := by decide +kernel
theorem dL_piece_14 : decode cL_piece 14 = .ok (.ldc 18, 2) := by decide +kernel
theorem dL_piece_16 : decode cL_piece 16 = .ok (.ireturn, 1) := by decide +kernel
theorem dL_piece_17 : decode cL_piece 17 = .ok (.astore 6, 2) := by decide +kernel
theorem dL_piece_19 : decode cL_piece 19 = .ok (.ldc 21, 2) := by decide +kernel
theorem dL_piece_21 : decode cL_piece 21 = .ok (.ireturn, 1) := by decide +kernel
theorem dL_act_0 : decode cL_act 0 = .ok (.iload_n 1, 1) := by decide +kernel
theorem dL_act_1 : decode cL_act 1 = .ok (.ifCond .ne 14, 3) := by decide +kernel
theorem dL_act_4 : decode cL_act 4 = .ok (.aload_n 0, 1) := by decide +kernel
theorem dL_act_5 : decode cL_act 5 = .ok (.iload_n 2, 1) := by decide +kernel
theorem dL_act_6 : decode cL_act 6 = .ok (.iload_n 3, 1) := by decide +kernel
theorem dL_act_7 : decode cL_act 7 = .ok (.iload 4, 2) := by decide +kernel
theorem dL_act_9 : decode cL_act 9 = .ok (.invokevirtual 26, 3) := by decide +kernel
theorem dL_act_12 : decode cL_act 12 = .ok (.goto 180, 3) := by decide +kernel
theorem dL_act_15 : decode cL_act 15 = .ok (.iload_n 1, 1) := by decide +kernel
theorem dL_act_16 : decode cL_act 16 = .ok (.iconst 1, 1) := by decide +kernel
theorem dL_act_17 : decode cL_act 17 = .ok (.if_icmp .ne 11, 3) := by decide +kernel
theorem dL_act_20 : decode cL_act 20 = .ok (.aload_n 0, 1) := by decide +kernel
theorem dL_act_21 : decode cL_act 21 = .ok (.iload_n 2, 1) := by decide +kernel
theorem dL_act_22 : decode cL_act 22 = .ok (.invokevirtual 30, 3) := by decide +kernel
theorem dL_act_25 : decode cL_act 25 = .ok (.goto 167, 3) := by decide +kernel
theorem dL_act_28 : decode cL_act 28 = .ok (.iload_n 1, 1) := by decide +kernel
theorem dL_act_29 : decode cL_act 29 = .ok (.iconst 2, 1) := by decide +kernel
theorem dL_act_30 : decode cL_act 30 = .ok (.if_icmp .ne 11, 3) := by decide +kernel
theorem dL_act_33 : decode cL_act 33 = .ok (.aload_n 0, 1) := by decide +kernel
theorem dL_act_34 : decode cL_act 34 = .ok (.iload_n 2, 1) := by decide +kernel
theorem dL_act_35 : decode cL_act 35 = .ok (.invokevirtual 34, 3) := by decide +kernel
theorem dL_act_38 : decode cL_act 38 = .ok (.goto 154, 3) := by decide +kernel
theorem dL_act_41 : decode cL_act 41 = .ok (.iload_n 1, 1) := by decide +kernel
theorem dL_act_42 : decode cL_act 42 = .ok (.iconst 3, 1) := by decide +kernel
theorem dL_act_43 : decode cL_act 43 = .ok (.if_icmp .ne 12, 3) := by decide +kernel
theorem dL_act_46 : decode cL_act 46 = .ok (.aload_n 0, 1) := by decide +kernel
theorem dL_act_47 : decode cL_act 47 = .ok (.iload_n 2, 1) := by decide +kernel
theorem dL_act_48 : decode cL_act 48 = .ok (.iload_n 3, 1) := by decide +kernel
theorem dL_act_49 : decode cL_act 49 = .ok (.invokevirtual 37, 3) := by decide +kernel
theorem dL_act_52 : decode cL_act 52 = .ok (.goto 140, 3) := by decide +kernel
theorem dL_act_55 : decode cL_act 55 = .ok (.iload_n 1, 1) := by decide +kernel
theorem dL_act_56 : decode cL_act 56 = .ok (.iconst 4, 1) := by decide +kernel
theorem dL_act_57 : decode cL_act 57 = .ok (.if_icmp .ne 12, 3) := by decide +kernel
theorem dL_act_60 : decode cL_act 60 = .ok (.aload_n 0, 1) := by decide +kernel
theorem dL_act_61 : decode cL_act 61 = .ok (.iload_n 2, 1) := by decide +kernel
theorem dL_act_62 : decode cL_act 62 = .ok (.iload_n 3, 1) := by decide +kernel
theorem dL_act_63 : decode cL_act 63 = .ok (.invokevirtual 41, 3) := by decide +kernel
theorem dL_act_66 : decode cL_act 66 = .ok (.goto 126, 3) := by decide +kernel
theorem dL_act_69 : decode cL_act 69 = .ok (.iload_n 1, 1) := by decide +kernel
theorem dL_act_70 : decode cL_act 70 = .ok (.iconst 5, 1) := by decide +kernel
theorem dL_act_71 : decode cL_act 71 = .ok (.if_icmp .ne 14, 3) := by decide +kernel
theorem dL_act_74 : decode cL_act 74 = .ok (.aload_n 0, 1) := by decide +kernel
theorem dL_act_75 : decode cL_act 75 = .ok (.iload_n 2, 1) := by decide +kernel
theorem dL_act_76 : decode cL_act 76 = .ok (.iload_n 3, 1) := by decide +kernel
theorem dL_act_77 : decode cL_act 77 = .ok (.iload 4, 2) := by decide +kernel
theorem dL_act_79 : decode cL_act 79 = .ok (.invokevirtual 44, 3) := by decide +kernel
theorem dL_act_82 : decode cL_act 82 = .ok (.goto 110, 3) := by decide +kernel
theorem dL_act_85 : decode cL_act 85 = .ok (.iload_n 1, 1) := by decide +kernel
theorem dL_act_86 : decode cL_act 86 = .ok (.bipush 6, 2) := by decide +kernel
theorem dL_act_88 : decode cL_act 88 = .ok (.if_icmp .ne 11, 3) := by decide +kernel
theorem dL_act_91 : decode cL_act 91 = .ok (.aload_n 0, 1) := by decide +kernel
theorem dL_act_92 : decode cL_act 92 = .ok (.iload_n 2, 1) := by decide +kernel
theorem dL_act_93 : decode cL_act 93 = .ok (.invokevirtual 47, 3) := by decide +kernel
theorem dL_act_96 : decode cL_act 96 = .ok (.goto 96, 3) := by decide +kernel
theorem dL_act_99 : decode cL_act 99 = .ok (.iload_n 1, 1) := by decide +kernel
theorem dL_act_100 : decode cL_act 100 = .ok (.bipush 7, 2) := by decide +kernel
theorem dL_act_102 : decode cL_act 102 = .ok (.if_icmp .ne 14, 3) := by decide +kernel
theorem dL_act_105 : decode cL_act 105 = .ok (.aload_n 0, 1) := by decide +kernel
theorem dL_act_106 : decode cL_act 106 = .ok (.iload_n 2, 1) := by decide +kernel
theorem dL_act_107 : decode cL_act 107 = .ok (.iload_n 3, 1) := by decide +kernel
theorem dL_act_108 : decode cL_act 108 = .ok (.iload 4, 2) := by decide +kernel
theorem dL_act_110 : decode cL_act 110 = .ok (.invokevirtual 50, 3) := by decide +kernel
theorem dL_act_113 : decode cL_act 113 = .ok (.goto 79, 3) := by decide +kernel
theorem dL_act_116 : decode cL_act 116 = .ok (.iload_n 1, 1) := by decide +kernel
theorem dL_act_117 : decode cL_act 117 = .ok (.bipush 8, 2) := by decide +kernel
theorem dL_act_119 : decode cL_act 119 = .ok (.if_icmp .ne 12, 3) := by decide +kernel
theorem dL_act_122 : decode cL_act 122 = .ok (.aload_n 0, 1) := by decide +kernel
theorem dL_act_123 : decode cL_act 123 = .ok (.iload_n 2, 1) := by decide +kernel
theorem dL_act_124 : decode cL_act 124 = .ok (.iload_n 3, 1) := by decide +kernel
theorem dL_act_125 : decode cL_act 125 = .ok (.invokevirtual 53, 3) := by decide +kernel
theorem dL_act_128 : decode cL_act 128 = .ok (.goto 64, 3) := by decide +kernel
theorem dL_act_131 : decode cL_act 131 = .ok (.iload_n 1, 1) := by decide +kernel
theorem dL_act_132 : decode cL_act 132 = .ok (.bipush 9, 2) := by decide +kernel
theorem dL_act_134 : decode cL_act 134 = .ok (.if_icmp .ne 11, 3) := by decide +kernel
theorem dL_act_137 : decode cL_act 137 = .ok (.aload_n 0, 1) := by decide +kernel
theorem dL_act_138 : decode cL_act 138 = .ok (.iload_n 2, 1) := by decide +kernel
theorem dL_act_139 : decode cL_act 139 = .ok (.invokevirtual 56, 3) := by decide +kernel
theorem dL_act_142 : decode cL_act 142 = .ok (.goto 50, 3) := by decide +kernel
theorem dL_act_145 : decode cL_act 145 = .ok (.iload_n 1, 1) := by decide +kernel
theorem dL_act_146 : decode cL_act 146 = .ok (.bipush 10, 2) := by decide +kernel
theorem dL_act_148 : decode cL_act 148 = .ok (.if_icmp .ne 11, 3) := by decide +kernel
theorem dL_act_151 : decode cL_act 151 = .ok (.aload_n 0, 1) := by decide +kernel
theorem dL_act_152 : decode cL_act 152 = .ok (.iload_n 2, 1) := by decide +kernel
theorem dL_act_153 : decode cL_act 153 = .ok (.invokevirtual 59, 3) := by decide +kernel
theorem dL_act_156 : decode cL_act 156 = .ok (.goto 36, 3) := by decide +kernel
theorem dL_act_159 : decode cL_act 159 = .ok (.iload_n 1, 1) := by decide +kernel
theorem dL_act_160 : decode cL_act 160 = .ok (.bipush 11, 2) := by decide +kernel
theorem dL_act_162 : decode cL_act 162 = .ok (.if_icmp .ne 11, 3) := by decide +kernel
theorem dL_act_165 : decode cL_act 165 = .ok (.aload_n 0, 1) := by decide +kernel
theorem dL_act_166 : decode cL_act 166 = .ok (.iload_n 2, 1) := by decide +kernel
theorem dL_act_167 : decode cL_act 167 = .ok (.invokevirtual 62, 3) := by decide +kernel
theorem dL_act_170 : decode cL_act 170 = .ok (.goto 22, 3) := by decide +kernel
theorem dL_act_173 : decode cL_act 173 = .ok (.iload_n 1, 1) := by decide +kernel
theorem dL_act_174 : decode cL_act 174 = .ok (.bipush 12, 2) := by decide +kernel
theorem dL_act_176 : decode cL_act 176 = .ok (.if_icmp .ne 11, 3) := by decide +kernel
theorem dL_act_179 : decode cL_act 179 = .ok (.aload_n 0, 1) := by decide +kernel
theorem dL_act_180 : decode cL_act 180 = .ok (.iload_n 2, 1) := by decide +kernel
theorem dL_act_181 : decode cL_act 181 = .ok (.invokevirtual 65, 3) := by decide +kernel
theorem dL_act_184 : decode cL_act 184 = .ok (.goto 8, 3) := by decide +kernel
theorem dL_act_187 : decode cL_act 187 = .ok (.aload_n 0, 1) := by decide +kernel
theorem dL_act_188 : decode cL_act 188 = .ok (.iload_n 2, 1) := by decide +kernel
theorem dL_act_189 : decode cL_act 189 = .ok (.invokevirtual 68, 3) := by decide +kernel
theorem dL_act_192 : decode cL_act 192 = .ok (.ireturn, 1) := by decide +kernel
theorem dL_act_193 : decode cL_act 193 = .ok (.astore 5, 2) := by decide +kernel
theorem dL_act_195 : decode cL_act 195 = .ok (.ldc 15, 2) := by decide +kernel
theorem dL_act_197 : decode cL_act 197 = .ok (.ireturn, 1) := by decide +kernel
theorem dL_act_198 : decode cL_act 198 = .ok (.astore 5, 2) := by decide +kernel
theorem dL_act_200 : decode cL_act 200 = .ok (.ldc 18, 2) := by decide +kernel
theorem dL_act_202 : decode cL_act 202 = .ok (.ireturn, 1) := by decide +kernel
theorem dL_act_203 : decode cL_act 203 = .ok (.astore 5, 2) := by decide +kernel
theorem dL_act_205 : decode cL_act 205 = .ok (.ldc 21, 2) := by decide +kernel
theorem dL_act_207 : decode cL_act 207 = .ok (.ireturn, 1) := by decide +kernel
theorem dL_sums_0 : decode cL_sums 0 = .ok (.aload_n 0, 1) := by decide +kernel
theorem dL_sums_1 : decode cL_sums 1 = .ok (.invokevirtual 78, 3) := by decide +kernel
theorem dL_sums_4 : decode cL_sums 4 = .ok (.iload_n 1, 1) := by decide +kernel
theorem dL_sums_5 : decode cL_sums 5 = .ok (.if_icmp .ne 31, 3) := by decide +kernel
theorem dL_sums_8 : decode cL_sums 8 = .ok (.aload_n 0, 1) := by decide +kernel
theorem dL_sums_9 : decode cL_sums 9 = .ok (.invokevirtual 102, 3) := by decide +kernel
theorem dL_sums_12 : decode cL_sums 12 = .ok (.iload_n 1, 1) := by decide +kernel
theorem dL_sums_13 : decode cL_sums 13 = .ok (.if_icmp .ne 23, 3) := by decide +kernel
theorem dL_sums_16 : decode cL_sums 16 = .ok (.aload_n 0, 1) := by decide +kernel
theorem dL_sums_17 : decode cL_sums 17 = .ok (.invokevirtual 81, 3) := by decide +kernel
theorem dL_sums_20 : decode cL_sums 20 = .ok (.iload_n 2, 1) := by decide +kernel
theorem dL_sums_21 : decode cL_sums 21 = .ok (.if_icmp .ne 15, 3) := by decide +kernel
theorem dL_sums_24 : decode cL_sums 24 = .ok (.aload_n 0, 1) := by decide +kernel
theorem dL_sums_25 : decode cL_sums 25 = .ok (.invokevirtual 105, 3) := by decide +kernel
theorem dL_sums_28 : decode cL_sums 28 = .ok (.iload_n 3, 1) := by decide +kernel
theorem dL_sums_29 : decode cL_sums 29 = .ok (.if_icmp .ne 7, 3) := by decide +kernel
theorem dL_sums_32 : decode cL_sums 32 = .ok (.iconst 1, 1) := by decide +kernel
theorem dL_sums_33 : decode cL_sums 33 = .ok (.goto 4, 3) := by decide +kernel
theorem dL_sums_36 : decode cL_sums 36 = .ok (.iconst 0, 1) := by decide +kernel
theorem dL_sums_37 : decode cL_sums 37 = .ok (.ireturn, 1) := by decide +kernel
theorem dL_at_0 : decode cL_at 0 = .ok (.aload_n 0, 1) := by decide +kernel
theorem dL_at_1 : decode cL_at 1 = .ok (.iload_n 1, 1) := by decide +kernel
theorem dL_at_2 : decode cL_at 2 = .ok (.invokevirtual 59, 3) := by decide +kernel
theorem dL_at_5 : decode cL_at 5 = .ok (.iload_n 2, 1) := by decide +kernel
theorem dL_at_6 : decode cL_at 6 = .ok (.if_icmp .ne 16, 3) := by decide +kernel
theorem dL_at_9 : decode cL_at 9 = .ok (.aload_n 0, 1) := by decide +kernel
theorem dL_at_10 : decode cL_at 10 = .ok (.iload_n 1, 1) := by decide +kernel
theorem dL_at_11 : decode cL_at 11 = .ok (.invokevirtual 62, 3) := by decide +kernel
theorem dL_at_14 : decode cL_at 14 = .ok (.iload_n 3, 1) := by decide +kernel
theorem dL_at_15 : decode cL_at 15 = .ok (.if_icmp .ne 7, 3) := by decide +kernel
theorem dL_at_18 : decode cL_at 18 = .ok (.iconst 1, 1) := by decide +kernel
theorem dL_at_19 : decode cL_at 19 = .ok (.goto 4, 3) := by decide +kernel
theorem dL_at_22 : decode cL_at 22 = .ok (.iconst 0, 1) := by decide +kernel
theorem dL_at_23 : decode cL_at 23 = .ok (.ireturn, 1) := by decide +kernel
theorem dL_law_0 : decode cL_law 0 = .ok (.invokestatic 133, 3) := by decide +kernel
theorem dL_law_3 : decode cL_law 3 = .ok (.ifCond .eq 9, 3) := by decide +kernel
theorem dL_law_6 : decode cL_law 6 = .ok (.invokestatic 137, 3) := by decide +kernel
theorem dL_law_9 : decode cL_law 9 = .ok (.ifCond .ne 5, 3) := by decide +kernel
theorem dL_law_12 : decode cL_law 12 = .ok (.iconst 0, 1) := by decide +kernel
theorem dL_law_13 : decode cL_law 13 = .ok (.ireturn, 1) := by decide +kernel
theorem dL_law_14 : decode cL_law 14 = .ok (.new 8, 3) := by decide +kernel
theorem dL_law_17 : decode cL_law 17 = .ok (.dup, 1) := by decide +kernel
theorem dL_law_18 : decode cL_law 18 = .ok (.invokespecial 108, 3) := by decide +kernel
theorem dL_law_21 : decode cL_law 21 = .ok (.astore_n 1, 1) := by decide +kernel
theorem dL_law_22 : decode cL_law 22 = .ok (.iconst 0, 1) := by decide +kernel
theorem dL_law_23 : decode cL_law 23 = .ok (.istore_n 2, 1) := by decide +kernel
theorem dL_law_24 : decode cL_law 24 = .ok (.iload_n 2, 1) := by decide +kernel
theorem dL_law_25 : decode cL_law 25 = .ok (.bipush 8, 2) := by decide +kernel
theorem dL_law_27 : decode cL_law 27 = .ok (.if_icmp .ge 175, 3) := by decide +kernel
theorem dL_law_30 : decode cL_law 30 = .ok (.aload_n 0, 1) := by decide +kernel
theorem dL_law_31 : decode cL_law 31 = .ok (.arraylength, 1) := by decide +kernel
theorem dL_law_32 : decode cL_law 32 = .ok (.ifCond .ne 10, 3) := by decide +kernel
theorem dL_law_35 : decode cL_law 35 = .ok (.bipush 31, 2) := by decide +kernel
theorem dL_law_37 : decode cL_law 37 = .ok (.iload_n 2, 1) := by decide +kernel
theorem dL_law_38 : decode cL_law 38 = .ok (.imul, 1) := by decide +kernel
theorem dL_law_39 : decode cL_law 39 = .ok (.goto 12, 3) := by decide +kernel
theorem dL_law_42 : decode cL_law 42 = .ok (.aload_n 0, 1) := by decide +kernel
theorem dL_law_43 : decode cL_law 43 = .ok (.iload_n 2, 1) := by decide +kernel
theorem dL_law_44 : decode cL_law 44 = .ok (.aload_n 0, 1) := by decide +kernel
theorem dL_law_45 : decode cL_law 45 = .ok (.arraylength, 1) := by decide +kernel
theorem dL_law_46 : decode cL_law 46 = .ok (.irem, 1) := by decide +kernel
theorem dL_law_47 : decode cL_law 47 = .ok (.iaload, 1) := by decide +kernel
theorem dL_law_48 : decode cL_law 48 = .ok (.bipush 8, 2) := by decide +kernel
theorem dL_law_50 : decode cL_law 50 = .ok (.iushr, 1) := by decide +kernel
theorem dL_law_51 : decode cL_law 51 = .ok (.istore_n 3, 1) := by decide +kernel
theorem dL_law_52 : decode cL_law 52 = .ok (.iload_n 3, 1) := by decide +kernel
theorem dL_law_53 : decode cL_law 53 = .ok (.ldc 85, 2) := by decide +kernel
theorem dL_law_55 : decode cL_law 55 = .ok (.irem, 1) := by decide +kernel
theorem dL_law_56 : decode cL_law 56 = .ok (.istore 4, 2) := by decide +kernel
theorem dL_law_58 : decode cL_law 58 = .ok (.aload_n 1, 1) := by decide +kernel
theorem dL_law_59 : decode cL_law 59 = .ok (.iload_n 3, 1) := by decide +kernel
theorem dL_law_60 : decode cL_law 60 = .ok (.iconst 4, 1) := by decide +kernel
theorem dL_law_61 : decode cL_law 61 = .ok (.irem, 1) := by decide +kernel
theorem dL_law_62 : decode cL_law 62 = .ok (.iload_n 3, 1) := by decide +kernel
theorem dL_law_63 : decode cL_law 63 = .ok (.iconst 4, 1) := by decide +kernel
theorem dL_law_64 : decode cL_law 64 = .ok (.idiv, 1) := by decide +kernel
theorem dL_law_65 : decode cL_law 65 = .ok (.iconst 4, 1) := by decide +kernel
theorem dL_law_66 : decode cL_law 66 = .ok (.irem, 1) := by decide +kernel
theorem dL_law_67 : decode cL_law 67 = .ok (.iload 4, 2) := by decide +kernel
theorem dL_law_69 : decode cL_law 69 = .ok (.iload_n 3, 1) := by decide +kernel
theorem dL_law_70 : decode cL_law 70 = .ok (.iconst 3, 1) := by decide +kernel
theorem dL_law_71 : decode cL_law 71 = .ok (.idiv, 1) := by decide +kernel
theorem dL_law_72 : decode cL_law 72 = .ok (.ldc 85, 2) := by decide +kernel
theorem dL_law_74 : decode cL_law 74 = .ok (.irem, 1) := by decide +kernel
theorem dL_law_75 : decode cL_law 75 = .ok (.iload_n 3, 1) := by decide +kernel
theorem dL_law_76 : decode cL_law 76 = .ok (.iconst 3, 1) := by decide +kernel
theorem dL_law_77 : decode cL_law 77 = .ok (.irem, 1) := by decide +kernel
theorem dL_law_78 : decode cL_law 78 = .ok (.iconst 1, 1) := by decide +kernel
theorem dL_law_79 : decode cL_law 79 = .ok (.iload_n 3, 1) := by decide +kernel
theorem dL_law_80 : decode cL_law 80 = .ok (.sipush 3650, 3) := by decide +kernel
theorem dL_law_83 : decode cL_law 83 = .ok (.irem, 1) := by decide +kernel
theorem dL_law_84 : decode cL_law 84 = .ok (.iadd, 1) := by decide +kernel
theorem dL_law_85 : decode cL_law 85 = .ok (.invokevirtual 7, 3) := by decide +kernel
theorem dL_law_88 : decode cL_law 88 = .ok (.iload_n 2, 1) := by decide +kernel
theorem dL_law_89 : decode cL_law 89 = .ok (.if_icmp .ne 105, 3) := by decide +kernel
theorem dL_law_92 : decode cL_law 92 = .ok (.aload_n 1, 1) := by decide +kernel
theorem dL_law_93 : decode cL_law 93 = .ok (.iload_n 2, 1) := by decide +kernel
theorem dL_law_94 : decode cL_law 94 = .ok (.invokevirtual 47, 3) := by decide +kernel
theorem dL_law_97 : decode cL_law 97 = .ok (.iload 4, 2) := by decide +kernel
theorem dL_law_99 : decode cL_law 99 = .ok (.if_icmp .lt 95, 3) := by decide +kernel
theorem dL_law_102 : decode cL_law 102 = .ok (.iload_n 2, 1) := by decide +kernel
theorem dL_law_103 : decode cL_law 103 = .ok (.iconst 5, 1) := by decide +kernel
theorem dL_law_104 : decode cL_law 104 = .ok (.if_icmp .ge 58, 3) := by decide +kernel
theorem dL_law_107 : decode cL_law 107 = .ok (.aload_n 1, 1) := by decide +kernel
theorem dL_law_108 : decode cL_law 108 = .ok (.iconst 1, 1) := by decide +kernel
theorem dL_law_109 : decode cL_law 109 = .ok (.iload_n 3, 1) := by decide +kernel
theorem dL_law_110 : decode cL_law 110 = .ok (.sipush 9999, 3) := by decide +kernel
theorem dL_law_113 : decode cL_law 113 = .ok (.irem, 1) := by decide +kernel
theorem dL_law_114 : decode cL_law 114 = .ok (.iadd, 1) := by decide +kernel
theorem dL_law_115 : decode cL_law 115 = .ok (.iload_n 3, 1) := by decide +kernel
theorem dL_law_116 : decode cL_law 116 = .ok (.bipush 101, 2) := by decide +kernel
theorem dL_law_118 : decode cL_law 118 = .ok (.irem, 1) := by decide +kernel
theorem dL_law_119 : decode cL_law 119 = .ok (.iload_n 3, 1) := by decide +kernel
theorem dL_law_120 : decode cL_law 120 = .ok (.bipush 7, 2) := by decide +kernel
theorem dL_law_122 : decode cL_law 122 = .ok (.idiv, 1) := by decide +kernel
theorem dL_law_123 : decode cL_law 123 = .ok (.iconst 3, 1) := by decide +kernel
theorem dL_law_124 : decode cL_law 124 = .ok (.irem, 1) := by decide +kernel
theorem dL_law_125 : decode cL_law 125 = .ok (.iconst 1, 1) := by decide +kernel
theorem dL_law_126 : decode cL_law 126 = .ok (.iload_n 3, 1) := by decide +kernel
theorem dL_law_127 : decode cL_law 127 = .ok (.iconst 5, 1) := by decide +kernel
theorem dL_law_128 : decode cL_law 128 = .ok (.idiv, 1) := by decide +kernel
theorem dL_law_129 : decode cL_law 129 = .ok (.sipush 3650, 3) := by decide +kernel
theorem dL_law_132 : decode cL_law 132 = .ok (.irem, 1) := by decide +kernel
theorem dL_law_133 : decode cL_law 133 = .ok (.iadd, 1) := by decide +kernel
theorem dL_law_134 : decode cL_law 134 = .ok (.iload_n 3, 1) := by decide +kernel
theorem dL_law_135 : decode cL_law 135 = .ok (.sipush 256, 3) := by decide +kernel
theorem dL_law_138 : decode cL_law 138 = .ok (.irem, 1) := by decide +kernel
theorem dL_law_139 : decode cL_law 139 = .ok (.invokevirtual 22, 3) := by decide +kernel
theorem dL_law_142 : decode cL_law 142 = .ok (.iload_n 2, 1) := by decide +kernel
theorem dL_law_143 : decode cL_law 143 = .ok (.if_icmp .ne 51, 3) := by decide +kernel
theorem dL_law_146 : decode cL_law 146 = .ok (.aload_n 1, 1) := by decide +kernel
theorem dL_law_147 : decode cL_law 147 = .ok (.iload_n 2, 1) := by decide +kernel
theorem dL_law_148 : decode cL_law 148 = .ok (.iload_n 2, 1) := by decide +kernel
theorem dL_law_149 : decode cL_law 149 = .ok (.invokevirtual 53, 3) := by decide +kernel
theorem dL_law_152 : decode cL_law 152 = .ok (.iconst 1, 1) := by decide +kernel
theorem dL_law_153 : decode cL_law 153 = .ok (.iload_n 3, 1) := by decide +kernel
theorem dL_law_154 : decode cL_law 154 = .ok (.sipush 9999, 3) := by decide +kernel
theorem dL_law_157 : decode cL_law 157 = .ok (.irem, 1) := by decide +kernel
theorem dL_law_158 : decode cL_law 158 = .ok (.iadd, 1) := by decide +kernel
theorem dL_law_159 : decode cL_law 159 = .ok (.if_icmp .gt 35, 3) := by decide +kernel
theorem dL_law_162 : decode cL_law 162 = .ok (.aload_n 1, 1) := by decide +kernel
theorem dL_law_163 : decode cL_law 163 = .ok (.invokevirtual 105, 3) := by decide +kernel
theorem dL_law_166 : decode cL_law 166 = .ok (.aload_n 1, 1) := by decide +kernel
theorem dL_law_167 : decode cL_law 167 = .ok (.invokevirtual 78, 3) := by decide +kernel
theorem dL_law_170 : decode cL_law 170 = .ok (.if_icmp .lt 24, 3) := by decide +kernel
theorem dL_law_173 : decode cL_law 173 = .ok (.aload_n 1, 1) := by decide +kernel
theorem dL_law_174 : decode cL_law 174 = .ok (.iconst 0, 1) := by decide +kernel
theorem dL_law_175 : decode cL_law 175 = .ok (.invokevirtual 65, 3) := by decide +kernel
theorem dL_law_178 : decode cL_law 178 = .ok (.ifCond .lt 16, 3) := by decide +kernel
theorem dL_law_181 : decode cL_law 181 = .ok (.iload_n 2, 1) := by decide +kernel
theorem dL_law_182 : decode cL_law 182 = .ok (.iconst 3, 1) := by decide +kernel
theorem dL_law_183 : decode cL_law 183 = .ok (.irem, 1) := by decide +kernel
theorem dL_law_184 : decode cL_law 184 = .ok (.ifCond .ne 12, 3) := by decide +kernel
theorem dL_law_187 : decode cL_law 187 = .ok (.aload_n 1, 1) := by decide +kernel
theorem dL_law_188 : decode cL_law 188 = .ok (.invokestatic 116, 3) := by decide +kernel
theorem dL_law_191 : decode cL_law 191 = .ok (.ifCond .ne 5, 3) := by decide +kernel
theorem dL_law_194 : decode cL_law 194 = .ok (.iconst 0, 1) := by decide +kernel
theorem dL_law_195 : decode cL_law 195 = .ok (.ireturn, 1) := by decide +kernel
theorem dL_law_196 : decode cL_law 196 = .ok (.iinc 2 1, 3) := by decide +kernel
theorem dL_law_199 : decode cL_law 199 = .ok (.goto (-175), 3) := by decide +kernel
theorem dL_law_202 : decode cL_law 202 = .ok (.aload_n 1, 1) := by decide +kernel
theorem dL_law_203 : decode cL_law 203 = .ok (.invokevirtual 78, 3) := by decide +kernel
theorem dL_law_206 : decode cL_law 206 = .ok (.aload_n 1, 1) := by decide +kernel
theorem dL_law_207 : decode cL_law 207 = .ok (.invokevirtual 102, 3) := by decide +kernel
theorem dL_law_210 : decode cL_law 210 = .ok (.if_icmp .ne 7, 3) := by decide +kernel
theorem dL_law_213 : decode cL_law 213 = .ok (.iconst 1, 1) := by decide +kernel
theorem dL_law_214 : decode cL_law 214 = .ok (.goto 4, 3) := by decide +kernel
theorem dL_law_217 : decode cL_law 217 = .ok (.iconst 0, 1) := by decide +kernel
theorem dL_law_218 : decode cL_law 218 = .ok (.ireturn, 1) := by decide +kernel
