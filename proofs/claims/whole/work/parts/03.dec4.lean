theorem dX7_best_157 : decode cX7_best 157 = .ok (.bipush 7, 2) := by decide +kernel
theorem dX7_best_159 : decode cX7_best 159 = .ok (.idiv, 1) := by decide +kernel
theorem dX7_best_160 : decode cX7_best 160 = .ok (.imul, 1) := by decide +kernel
theorem dX7_best_161 : decode cX7_best 161 = .ok (.iload 5, 2) := by decide +kernel
theorem dX7_best_163 : decode cX7_best 163 = .ok (.bipush 7, 2) := by decide +kernel
theorem dX7_best_165 : decode cX7_best 165 = .ok (.irem, 1) := by decide +kernel
theorem dX7_best_166 : decode cX7_best 166 = .ok (.iadd, 1) := by decide +kernel
theorem dX7_best_167 : decode cX7_best 167 = .ok (.goto 5, 3) := by decide +kernel
theorem dX7_best_170 : decode cX7_best 170 = .ok (.iload 4, 2) := by decide +kernel
theorem dX7_best_172 : decode cX7_best 172 = .ok (.istore 4, 2) := by decide +kernel
theorem dX7_best_174 : decode cX7_best 174 = .ok (.iload 6, 2) := by decide +kernel
theorem dX7_best_176 : decode cX7_best 176 = .ok (.iload_n 3, 1) := by decide +kernel
theorem dX7_best_177 : decode cX7_best 177 = .ok (.if_icmp .le 8, 3) := by decide +kernel
theorem dX7_best_180 : decode cX7_best 180 = .ok (.iload 6, 2) := by decide +kernel
theorem dX7_best_182 : decode cX7_best 182 = .ok (.goto 4, 3) := by decide +kernel
theorem dX7_best_185 : decode cX7_best 185 = .ok (.iload_n 3, 1) := by decide +kernel
theorem dX7_best_186 : decode cX7_best 186 = .ok (.istore_n 3, 1) := by decide +kernel
theorem dX7_best_187 : decode cX7_best 187 = .ok (.iinc 5 1, 3) := by decide +kernel
theorem dX7_best_190 : decode cX7_best 190 = .ok (.goto (-159), 3) := by decide +kernel
theorem dX7_best_193 : decode cX7_best 193 = .ok (.iload_n 2, 1) := by decide +kernel
theorem dX7_best_194 : decode cX7_best 194 = .ok (.ifCond .ne 7, 3) := by decide +kernel
theorem dX7_best_197 : decode cX7_best 197 = .ok (.iload_n 3, 1) := by decide +kernel
theorem dX7_best_198 : decode cX7_best 198 = .ok (.goto 5, 3) := by decide +kernel
theorem dX7_best_201 : decode cX7_best 201 = .ok (.iload 4, 2) := by decide +kernel
theorem dX7_best_203 : decode cX7_best 203 = .ok (.ireturn, 1) := by decide +kernel
theorem dX7_feastOn_0 : decode cX7_feastOn 0 = .ok (.bipush (-6), 2) := by decide +kernel
theorem dX7_feastOn_2 : decode cX7_feastOn 2 = .ok (.istore_n 2, 1) := by decide +kernel
theorem dX7_feastOn_3 : decode cX7_feastOn 3 = .ok (.iconst 0, 1) := by decide +kernel
theorem dX7_feastOn_4 : decode cX7_feastOn 4 = .ok (.istore_n 3, 1) := by decide +kernel
theorem dX7_feastOn_5 : decode cX7_feastOn 5 = .ok (.iconst 0, 1) := by decide +kernel
theorem dX7_feastOn_6 : decode cX7_feastOn 6 = .ok (.istore 4, 2) := by decide +kernel
theorem dX7_feastOn_8 : decode cX7_feastOn 8 = .ok (.iload 4, 2) := by decide +kernel
theorem dX7_feastOn_10 : decode cX7_feastOn 10 = .ok (.bipush 8, 2) := by decide +kernel
theorem dX7_feastOn_12 : decode cX7_feastOn 12 = .ok (.if_icmp .ge 51, 3) := by decide +kernel
theorem dX7_feastOn_15 : decode cX7_feastOn 15 = .ok (.aload_n 0, 1) := by decide +kernel
theorem dX7_feastOn_16 : decode cX7_feastOn 16 = .ok (.aload_n 0, 1) := by decide +kernel
theorem dX7_feastOn_17 : decode cX7_feastOn 17 = .ok (.getfield 41, 3) := by decide +kernel
theorem dX7_feastOn_20 : decode cX7_feastOn 20 = .ok (.iload 4, 2) := by decide +kernel
theorem dX7_feastOn_22 : decode cX7_feastOn 22 = .ok (.iload_n 1, 1) := by decide +kernel
theorem dX7_feastOn_23 : decode cX7_feastOn 23 = .ok (.invokevirtual 84, 3) := by decide +kernel
theorem dX7_feastOn_26 : decode cX7_feastOn 26 = .ok (.invokestatic 70, 3) := by decide +kernel
theorem dX7_feastOn_29 : decode cX7_feastOn 29 = .ok (.istore 5, 2) := by decide +kernel
theorem dX7_feastOn_31 : decode cX7_feastOn 31 = .ok (.iload 5, 2) := by decide +kernel
theorem dX7_feastOn_33 : decode cX7_feastOn 33 = .ok (.iload_n 3, 1) := by decide +kernel
theorem dX7_feastOn_34 : decode cX7_feastOn 34 = .ok (.if_icmp .le 8, 3) := by decide +kernel
theorem dX7_feastOn_37 : decode cX7_feastOn 37 = .ok (.iload 4, 2) := by decide +kernel
theorem dX7_feastOn_39 : decode cX7_feastOn 39 = .ok (.goto 4, 3) := by decide +kernel
theorem dX7_feastOn_42 : decode cX7_feastOn 42 = .ok (.iload_n 2, 1) := by decide +kernel
theorem dX7_feastOn_43 : decode cX7_feastOn 43 = .ok (.istore_n 2, 1) := by decide +kernel
theorem dX7_feastOn_44 : decode cX7_feastOn 44 = .ok (.iload 5, 2) := by decide +kernel
theorem dX7_feastOn_46 : decode cX7_feastOn 46 = .ok (.iload_n 3, 1) := by decide +kernel
theorem dX7_feastOn_47 : decode cX7_feastOn 47 = .ok (.if_icmp .le 8, 3) := by decide +kernel
theorem dX7_feastOn_50 : decode cX7_feastOn 50 = .ok (.iload 5, 2) := by decide +kernel
theorem dX7_feastOn_52 : decode cX7_feastOn 52 = .ok (.goto 4, 3) := by decide +kernel
theorem dX7_feastOn_55 : decode cX7_feastOn 55 = .ok (.iload_n 3, 1) := by decide +kernel
theorem dX7_feastOn_56 : decode cX7_feastOn 56 = .ok (.istore_n 3, 1) := by decide +kernel
theorem dX7_feastOn_57 : decode cX7_feastOn 57 = .ok (.iinc 4 1, 3) := by decide +kernel
theorem dX7_feastOn_60 : decode cX7_feastOn 60 = .ok (.goto (-52), 3) := by decide +kernel
theorem dX7_feastOn_63 : decode cX7_feastOn 63 = .ok (.iload_n 2, 1) := by decide +kernel
theorem dX7_feastOn_64 : decode cX7_feastOn 64 = .ok (.ireturn, 1) := by decide +kernel
theorem dX7_feast_0 : decode cX7_feast 0 = .ok (.iload_n 1, 1) := by decide +kernel
theorem dX7_feast_1 : decode cX7_feast 1 = .ok (.invokestatic 77, 3) := by decide +kernel
theorem dX7_feast_4 : decode cX7_feast 4 = .ok (.ifCond .eq 11, 3) := by decide +kernel
theorem dX7_feast_7 : decode cX7_feast 7 = .ok (.aload_n 0, 1) := by decide +kernel
theorem dX7_feast_8 : decode cX7_feast 8 = .ok (.iload_n 1, 1) := by decide +kernel
theorem dX7_feast_9 : decode cX7_feast 9 = .ok (.invokevirtual 122, 3) := by decide +kernel
theorem dX7_feast_12 : decode cX7_feast 12 = .ok (.goto 5, 3) := by decide +kernel
theorem dX7_feast_15 : decode cX7_feast 15 = .ok (.bipush (-2), 2) := by decide +kernel
theorem dX7_feast_17 : decode cX7_feast 17 = .ok (.ireturn, 1) := by decide +kernel
theorem dX7_feasts_0 : decode cX7_feasts 0 = .ok (.iload_n 1, 1) := by decide +kernel
theorem dX7_feasts_1 : decode cX7_feasts 1 = .ok (.invokestatic 56, 3) := by decide +kernel
theorem dX7_feasts_4 : decode cX7_feasts 4 = .ok (.ifCond .ne 5, 3) := by decide +kernel
theorem dX7_feasts_7 : decode cX7_feasts 7 = .ok (.iconst (-1), 1) := by decide +kernel
theorem dX7_feasts_8 : decode cX7_feasts 8 = .ok (.ireturn, 1) := by decide +kernel
theorem dX7_feasts_9 : decode cX7_feasts 9 = .ok (.iconst 0, 1) := by decide +kernel
theorem dX7_feasts_10 : decode cX7_feasts 10 = .ok (.istore_n 2, 1) := by decide +kernel
theorem dX7_feasts_11 : decode cX7_feasts 11 = .ok (.iconst 0, 1) := by decide +kernel
theorem dX7_feasts_12 : decode cX7_feasts 12 = .ok (.istore_n 3, 1) := by decide +kernel
theorem dX7_feasts_13 : decode cX7_feasts 13 = .ok (.iload_n 3, 1) := by decide +kernel
theorem dX7_feasts_14 : decode cX7_feasts 14 = .ok (.sipush 840, 3) := by decide +kernel
theorem dX7_feasts_17 : decode cX7_feasts 17 = .ok (.if_icmp .ge 26, 3) := by decide +kernel
theorem dX7_feasts_20 : decode cX7_feasts 20 = .ok (.iload_n 2, 1) := by decide +kernel
theorem dX7_feasts_21 : decode cX7_feasts 21 = .ok (.aload_n 0, 1) := by decide +kernel
theorem dX7_feasts_22 : decode cX7_feasts 22 = .ok (.iload_n 3, 1) := by decide +kernel
theorem dX7_feasts_23 : decode cX7_feasts 23 = .ok (.invokevirtual 122, 3) := by decide +kernel
theorem dX7_feasts_26 : decode cX7_feasts 26 = .ok (.iload_n 1, 1) := by decide +kernel
theorem dX7_feasts_27 : decode cX7_feasts 27 = .ok (.if_icmp .ne 7, 3) := by decide +kernel
theorem dX7_feasts_30 : decode cX7_feasts 30 = .ok (.iconst 1, 1) := by decide +kernel
theorem dX7_feasts_31 : decode cX7_feasts 31 = .ok (.goto 4, 3) := by decide +kernel
theorem dX7_feasts_34 : decode cX7_feasts 34 = .ok (.iconst 0, 1) := by decide +kernel
theorem dX7_feasts_35 : decode cX7_feasts 35 = .ok (.iadd, 1) := by decide +kernel
theorem dX7_feasts_36 : decode cX7_feasts 36 = .ok (.istore_n 2, 1) := by decide +kernel
theorem dX7_feasts_37 : decode cX7_feasts 37 = .ok (.iinc 3 1, 3) := by decide +kernel
theorem dX7_feasts_40 : decode cX7_feasts 40 = .ok (.goto (-27), 3) := by decide +kernel
theorem dX7_feasts_43 : decode cX7_feasts 43 = .ok (.iload_n 2, 1) := by decide +kernel
theorem dX7_feasts_44 : decode cX7_feasts 44 = .ok (.ireturn, 1) := by decide +kernel
theorem dX7_poor_0 : decode cX7_poor 0 = .ok (.iconst 0, 1) := by decide +kernel
theorem dX7_poor_1 : decode cX7_poor 1 = .ok (.istore_n 1, 1) := by decide +kernel
theorem dX7_poor_2 : decode cX7_poor 2 = .ok (.iconst 0, 1) := by decide +kernel
theorem dX7_poor_3 : decode cX7_poor 3 = .ok (.istore_n 2, 1) := by decide +kernel
theorem dX7_poor_4 : decode cX7_poor 4 = .ok (.iload_n 2, 1) := by decide +kernel
theorem dX7_poor_5 : decode cX7_poor 5 = .ok (.sipush 840, 3) := by decide +kernel
theorem dX7_poor_8 : decode cX7_poor 8 = .ok (.if_icmp .ge 36, 3) := by decide +kernel
theorem dX7_poor_11 : decode cX7_poor 11 = .ok (.aload_n 0, 1) := by decide +kernel
theorem dX7_poor_12 : decode cX7_poor 12 = .ok (.iload_n 2, 1) := by decide +kernel
theorem dX7_poor_13 : decode cX7_poor 13 = .ok (.invokevirtual 122, 3) := by decide +kernel
theorem dX7_poor_16 : decode cX7_poor 16 = .ok (.istore_n 3, 1) := by decide +kernel
theorem dX7_poor_17 : decode cX7_poor 17 = .ok (.iload_n 1, 1) := by decide +kernel
theorem dX7_poor_18 : decode cX7_poor 18 = .ok (.iload_n 3, 1) := by decide +kernel
theorem dX7_poor_19 : decode cX7_poor 19 = .ok (.ifCond .lt 16, 3) := by decide +kernel
theorem dX7_poor_22 : decode cX7_poor 22 = .ok (.aload_n 0, 1) := by decide +kernel
theorem dX7_poor_23 : decode cX7_poor 23 = .ok (.aload_n 0, 1) := by decide +kernel
theorem dX7_poor_24 : decode cX7_poor 24 = .ok (.getfield 41, 3) := by decide +kernel
theorem dX7_poor_27 : decode cX7_poor 27 = .ok (.iload_n 3, 1) := by decide +kernel
theorem dX7_poor_28 : decode cX7_poor 28 = .ok (.iload_n 2, 1) := by decide +kernel
theorem dX7_poor_29 : decode cX7_poor 29 = .ok (.invokevirtual 84, 3) := by decide +kernel
theorem dX7_poor_32 : decode cX7_poor 32 = .ok (.goto 4, 3) := by decide +kernel
theorem dX7_poor_35 : decode cX7_poor 35 = .ok (.iconst 0, 1) := by decide +kernel
theorem dX7_poor_36 : decode cX7_poor 36 = .ok (.ior, 1) := by decide +kernel
theorem dX7_poor_37 : decode cX7_poor 37 = .ok (.istore_n 1, 1) := by decide +kernel
theorem dX7_poor_38 : decode cX7_poor 38 = .ok (.iinc 2 1, 3) := by decide +kernel
theorem dX7_poor_41 : decode cX7_poor 41 = .ok (.goto (-37), 3) := by decide +kernel
theorem dX7_poor_44 : decode cX7_poor 44 = .ok (.aload_n 0, 1) := by decide +kernel
theorem dX7_poor_45 : decode cX7_poor 45 = .ok (.getfield 41, 3) := by decide +kernel
theorem dX7_poor_48 : decode cX7_poor 48 = .ok (.iload_n 1, 1) := by decide +kernel
theorem dX7_poor_49 : decode cX7_poor 49 = .ok (.iconst (-1), 1) := by decide +kernel
theorem dX7_poor_50 : decode cX7_poor 50 = .ok (.ixor, 1) := by decide +kernel
theorem dX7_poor_51 : decode cX7_poor 51 = .ok (.iand, 1) := by decide +kernel
theorem dX7_poor_52 : decode cX7_poor 52 = .ok (.ireturn, 1) := by decide +kernel
theorem dX7_goesWith_0 : decode cX7_goesWith 0 = .ok (.iconst 1, 1) := by decide +kernel
theorem dX7_goesWith_1 : decode cX7_goesWith 1 = .ok (.istore 4, 2) := by decide +kernel
theorem dX7_goesWith_3 : decode cX7_goesWith 3 = .ok (.iconst 0, 1) := by decide +kernel
theorem dX7_goesWith_4 : decode cX7_goesWith 4 = .ok (.istore 5, 2) := by decide +kernel
theorem dX7_goesWith_6 : decode cX7_goesWith 6 = .ok (.iload 5, 2) := by decide +kernel
theorem dX7_goesWith_8 : decode cX7_goesWith 8 = .ok (.sipush 840, 3) := by decide +kernel
theorem dX7_goesWith_11 : decode cX7_goesWith 11 = .ok (.if_icmp .ge 40, 3) := by decide +kernel
theorem dX7_goesWith_14 : decode cX7_goesWith 14 = .ok (.iload 4, 2) := by decide +kernel
theorem dX7_goesWith_16 : decode cX7_goesWith 16 = .ok (.ifCond .eq 35, 3) := by decide +kernel
theorem dX7_goesWith_19 : decode cX7_goesWith 19 = .ok (.aload_n 0, 1) := by decide +kernel
theorem dX7_goesWith_20 : decode cX7_goesWith 20 = .ok (.iload_n 2, 1) := by decide +kernel
theorem dX7_goesWith_21 : decode cX7_goesWith 21 = .ok (.iload 5, 2) := by decide +kernel
theorem dX7_goesWith_23 : decode cX7_goesWith 23 = .ok (.invokevirtual 80, 3) := by decide +kernel
theorem dX7_goesWith_26 : decode cX7_goesWith 26 = .ok (.aload_n 0, 1) := by decide +kernel
theorem dX7_goesWith_27 : decode cX7_goesWith 27 = .ok (.iload_n 1, 1) := by decide +kernel
theorem dX7_goesWith_28 : decode cX7_goesWith 28 = .ok (.iload 5, 2) := by decide +kernel
theorem dX7_goesWith_30 : decode cX7_goesWith 30 = .ok (.iload_n 3, 1) := by decide +kernel
theorem dX7_goesWith_31 : decode cX7_goesWith 31 = .ok (.iadd, 1) := by decide +kernel
theorem dX7_goesWith_32 : decode cX7_goesWith 32 = .ok (.invokevirtual 80, 3) := by decide +kernel
theorem dX7_goesWith_35 : decode cX7_goesWith 35 = .ok (.if_icmp .ne 7, 3) := by decide +kernel
theorem dX7_goesWith_38 : decode cX7_goesWith 38 = .ok (.iconst 1, 1) := by decide +kernel
theorem dX7_goesWith_39 : decode cX7_goesWith 39 = .ok (.goto 4, 3) := by decide +kernel
theorem dX7_goesWith_42 : decode cX7_goesWith 42 = .ok (.iconst 0, 1) := by decide +kernel
theorem dX7_goesWith_43 : decode cX7_goesWith 43 = .ok (.istore 4, 2) := by decide +kernel
theorem dX7_goesWith_45 : decode cX7_goesWith 45 = .ok (.iinc 5 1, 3) := by decide +kernel
theorem dX7_goesWith_48 : decode cX7_goesWith 48 = .ok (.goto (-42), 3) := by decide +kernel
theorem dX7_goesWith_51 : decode cX7_goesWith 51 = .ok (.iload 4, 2) := by decide +kernel
theorem dX7_goesWith_53 : decode cX7_goesWith 53 = .ok (.ireturn, 1) := by decide +kernel
theorem dX7_twins_0 : decode cX7_twins 0 = .ok (.iconst 0, 1) := by decide +kernel
theorem dX7_twins_1 : decode cX7_twins 1 = .ok (.istore_n 2, 1) := by decide +kernel
theorem dX7_twins_2 : decode cX7_twins 2 = .ok (.iconst 0, 1) := by decide +kernel
theorem dX7_twins_3 : decode cX7_twins 3 = .ok (.istore_n 3, 1) := by decide +kernel
theorem dX7_twins_4 : decode cX7_twins 4 = .ok (.iload_n 3, 1) := by decide +kernel
theorem dX7_twins_5 : decode cX7_twins 5 = .ok (.bipush 6, 2) := by decide +kernel
theorem dX7_twins_7 : decode cX7_twins 7 = .ok (.if_icmp .ge 88, 3) := by decide +kernel
theorem dX7_twins_10 : decode cX7_twins 10 = .ok (.iload_n 3, 1) := by decide +kernel
theorem dX7_twins_11 : decode cX7_twins 11 = .ok (.iconst 1, 1) := by decide +kernel
theorem dX7_twins_12 : decode cX7_twins 12 = .ok (.iadd, 1) := by decide +kernel
theorem dX7_twins_13 : decode cX7_twins 13 = .ok (.istore 4, 2) := by decide +kernel
theorem dX7_twins_15 : decode cX7_twins 15 = .ok (.iload 4, 2) := by decide +kernel
theorem dX7_twins_17 : decode cX7_twins 17 = .ok (.bipush 6, 2) := by decide +kernel
theorem dX7_twins_19 : decode cX7_twins 19 = .ok (.if_icmp .ge 70, 3) := by decide +kernel
theorem dX7_twins_22 : decode cX7_twins 22 = .ok (.aload_n 0, 1) := by decide +kernel
theorem dX7_twins_23 : decode cX7_twins 23 = .ok (.getfield 41, 3) := by decide +kernel
theorem dX7_twins_26 : decode cX7_twins 26 = .ok (.iload_n 3, 1) := by decide +kernel
theorem dX7_twins_27 : decode cX7_twins 27 = .ok (.invokestatic 49, 3) := by decide +kernel
theorem dX7_twins_30 : decode cX7_twins 30 = .ok (.ifCond .eq 53, 3) := by decide +kernel
theorem dX7_twins_33 : decode cX7_twins 33 = .ok (.aload_n 0, 1) := by decide +kernel
theorem dX7_twins_34 : decode cX7_twins 34 = .ok (.getfield 41, 3) := by decide +kernel
theorem dX7_twins_37 : decode cX7_twins 37 = .ok (.iload 4, 2) := by decide +kernel
theorem dX7_twins_39 : decode cX7_twins 39 = .ok (.invokestatic 49, 3) := by decide +kernel
theorem dX7_twins_42 : decode cX7_twins 42 = .ok (.ifCond .eq 41, 3) := by decide +kernel
theorem dX7_twins_45 : decode cX7_twins 45 = .ok (.aload_n 0, 1) := by decide +kernel
theorem dX7_twins_46 : decode cX7_twins 46 = .ok (.iload_n 3, 1) := by decide +kernel
theorem dX7_twins_47 : decode cX7_twins 47 = .ok (.iload 4, 2) := by decide +kernel
theorem dX7_twins_49 : decode cX7_twins 49 = .ok (.iconst (-1), 1) := by decide +kernel
theorem dX7_twins_50 : decode cX7_twins 50 = .ok (.invokevirtual 125, 3) := by decide +kernel
theorem dX7_twins_53 : decode cX7_twins 53 = .ok (.ifCond .ne 14, 3) := by decide +kernel
theorem dX7_twins_56 : decode cX7_twins 56 = .ok (.aload_n 0, 1) := by decide +kernel
theorem dX7_twins_57 : decode cX7_twins 57 = .ok (.iload_n 3, 1) := by decide +kernel
theorem dX7_twins_58 : decode cX7_twins 58 = .ok (.iload 4, 2) := by decide +kernel
theorem dX7_twins_60 : decode cX7_twins 60 = .ok (.iconst 1, 1) := by decide +kernel
theorem dX7_twins_61 : decode cX7_twins 61 = .ok (.invokevirtual 125, 3) := by decide +kernel
theorem dX7_twins_64 : decode cX7_twins 64 = .ok (.ifCond .eq 19, 3) := by decide +kernel
theorem dX7_twins_67 : decode cX7_twins 67 = .ok (.iload_n 2, 1) := by decide +kernel
theorem dX7_twins_68 : decode cX7_twins 68 = .ok (.iload_n 1, 1) := by decide +kernel
theorem dX7_twins_69 : decode cX7_twins 69 = .ok (.if_icmp .ne 11, 3) := by decide +kernel
theorem dX7_twins_72 : decode cX7_twins 72 = .ok (.bipush 10, 2) := by decide +kernel
theorem dX7_twins_74 : decode cX7_twins 74 = .ok (.iload_n 3, 1) := by decide +kernel
theorem dX7_twins_75 : decode cX7_twins 75 = .ok (.imul, 1) := by decide +kernel
theorem dX7_twins_76 : decode cX7_twins 76 = .ok (.iload 4, 2) := by decide +kernel
theorem dX7_twins_78 : decode cX7_twins 78 = .ok (.iadd, 1) := by decide +kernel
theorem dX7_twins_79 : decode cX7_twins 79 = .ok (.ireturn, 1) := by decide +kernel
theorem dX7_twins_80 : decode cX7_twins 80 = .ok (.iinc 2 1, 3) := by decide +kernel
theorem dX7_twins_83 : decode cX7_twins 83 = .ok (.iinc 4 1, 3) := by decide +kernel
theorem dX7_twins_86 : decode cX7_twins 86 = .ok (.goto (-71), 3) := by decide +kernel
theorem dX7_twins_89 : decode cX7_twins 89 = .ok (.iinc 3 1, 3) := by decide +kernel
theorem dX7_twins_92 : decode cX7_twins 92 = .ok (.goto (-88), 3) := by decide +kernel
theorem dX7_twins_95 : decode cX7_twins 95 = .ok (.iload_n 1, 1) := by decide +kernel
theorem dX7_twins_96 : decode cX7_twins 96 = .ok (.iconst (-1), 1) := by decide +kernel
theorem dX7_twins_97 : decode cX7_twins 97 = .ok (.if_icmp .ne 7, 3) := by decide +kernel
theorem dX7_twins_100 : decode cX7_twins 100 = .ok (.iload_n 2, 1) := by decide +kernel
theorem dX7_twins_101 : decode cX7_twins 101 = .ok (.goto 5, 3) := by decide +kernel
theorem dX7_twins_104 : decode cX7_twins 104 = .ok (.bipush (-6), 2) := by decide +kernel
theorem dX7_twins_106 : decode cX7_twins 106 = .ok (.ireturn, 1) := by decide +kernel
theorem dX7_oneOrder_0 : decode cX7_oneOrder 0 = .ok (.aload_n 0, 1) := by decide +kernel
theorem dX7_oneOrder_1 : decode cX7_oneOrder 1 = .ok (.iload_n 1, 1) := by decide +kernel
theorem dX7_oneOrder_2 : decode cX7_oneOrder 2 = .ok (.invokevirtual 67, 3) := by decide +kernel
theorem dX7_oneOrder_5 : decode cX7_oneOrder 5 = .ok (.ifCond .ne 5, 3) := by decide +kernel
theorem dX7_oneOrder_8 : decode cX7_oneOrder 8 = .ok (.iconst (-1), 1) := by decide +kernel
theorem dX7_oneOrder_9 : decode cX7_oneOrder 9 = .ok (.ireturn, 1) := by decide +kernel
theorem dX7_oneOrder_10 : decode cX7_oneOrder 10 = .ok (.iload_n 2, 1) := by decide +kernel
theorem dX7_oneOrder_11 : decode cX7_oneOrder 11 = .ok (.iconst 0, 1) := by decide +kernel
theorem dX7_oneOrder_12 : decode cX7_oneOrder 12 = .ok (.iconst 1, 1) := by decide +kernel
theorem dX7_oneOrder_13 : decode cX7_oneOrder 13 = .ok (.invokestatic 45, 3) := by decide +kernel
theorem dX7_oneOrder_16 : decode cX7_oneOrder 16 = .ok (.ifCond .ne 6, 3) := by decide +kernel
theorem dX7_oneOrder_19 : decode cX7_oneOrder 19 = .ok (.bipush (-2), 2) := by decide +kernel
theorem dX7_oneOrder_21 : decode cX7_oneOrder 21 = .ok (.ireturn, 1) := by decide +kernel
theorem dX7_oneOrder_22 : decode cX7_oneOrder 22 = .ok (.iconst 0, 1) := by decide +kernel
theorem dX7_oneOrder_23 : decode cX7_oneOrder 23 = .ok (.istore_n 3, 1) := by decide +kernel
theorem dX7_oneOrder_24 : decode cX7_oneOrder 24 = .ok (.iconst 0, 1) := by decide +kernel
theorem dX7_oneOrder_25 : decode cX7_oneOrder 25 = .ok (.istore 4, 2) := by decide +kernel
theorem dX7_oneOrder_27 : decode cX7_oneOrder 27 = .ok (.iconst 0, 1) := by decide +kernel
theorem dX7_oneOrder_28 : decode cX7_oneOrder 28 = .ok (.istore 5, 2) := by decide +kernel
theorem dX7_oneOrder_30 : decode cX7_oneOrder 30 = .ok (.iload 5, 2) := by decide +kernel
theorem dX7_oneOrder_32 : decode cX7_oneOrder 32 = .ok (.bipush 28, 2) := by decide +kernel
theorem dX7_oneOrder_34 : decode cX7_oneOrder 34 = .ok (.if_icmp .ge 30, 3) := by decide +kernel
theorem dX7_oneOrder_37 : decode cX7_oneOrder 37 = .ok (.iload_n 3, 1) := by decide +kernel
theorem dX7_oneOrder_38 : decode cX7_oneOrder 38 = .ok (.aload_n 0, 1) := by decide +kernel
theorem dX7_oneOrder_39 : decode cX7_oneOrder 39 = .ok (.aload_n 0, 1) := by decide +kernel
theorem dX7_oneOrder_40 : decode cX7_oneOrder 40 = .ok (.getfield 41, 3) := by decide +kernel
theorem dX7_oneOrder_43 : decode cX7_oneOrder 43 = .ok (.iload 5, 2) := by decide +kernel
theorem dX7_oneOrder_45 : decode cX7_oneOrder 45 = .ok (.invokevirtual 91, 3) := by decide +kernel
theorem dX7_oneOrder_48 : decode cX7_oneOrder 48 = .ok (.ifCond .ge 7, 3) := by decide +kernel
theorem dX7_oneOrder_51 : decode cX7_oneOrder 51 = .ok (.iconst 1, 1) := by decide +kernel
theorem dX7_oneOrder_52 : decode cX7_oneOrder 52 = .ok (.goto 4, 3) := by decide +kernel
theorem dX7_oneOrder_55 : decode cX7_oneOrder 55 = .ok (.iconst 0, 1) := by decide +kernel
theorem dX7_oneOrder_56 : decode cX7_oneOrder 56 = .ok (.iadd, 1) := by decide +kernel
theorem dX7_oneOrder_57 : decode cX7_oneOrder 57 = .ok (.istore_n 3, 1) := by decide +kernel
theorem dX7_oneOrder_58 : decode cX7_oneOrder 58 = .ok (.iinc 5 1, 3) := by decide +kernel
theorem dX7_oneOrder_61 : decode cX7_oneOrder 61 = .ok (.goto (-31), 3) := by decide +kernel
theorem dX7_oneOrder_64 : decode cX7_oneOrder 64 = .ok (.iconst 0, 1) := by decide +kernel
theorem dX7_oneOrder_65 : decode cX7_oneOrder 65 = .ok (.istore 5, 2) := by decide +kernel
theorem dX7_oneOrder_67 : decode cX7_oneOrder 67 = .ok (.iload 5, 2) := by decide +kernel
theorem dX7_oneOrder_69 : decode cX7_oneOrder 69 = .ok (.bipush 6, 2) := by decide +kernel
theorem dX7_oneOrder_71 : decode cX7_oneOrder 71 = .ok (.if_icmp .ge 37, 3) := by decide +kernel
theorem dX7_oneOrder_74 : decode cX7_oneOrder 74 = .ok (.iload 4, 2) := by decide +kernel
theorem dX7_oneOrder_76 : decode cX7_oneOrder 76 = .ok (.aload_n 0, 1) := by decide +kernel
theorem dX7_oneOrder_77 : decode cX7_oneOrder 77 = .ok (.getfield 41, 3) := by decide +kernel
theorem dX7_oneOrder_80 : decode cX7_oneOrder 80 = .ok (.iload 5, 2) := by decide +kernel
theorem dX7_oneOrder_82 : decode cX7_oneOrder 82 = .ok (.invokestatic 49, 3) := by decide +kernel
theorem dX7_oneOrder_85 : decode cX7_oneOrder 85 = .ok (.ifCond .eq 13, 3) := by decide +kernel
theorem dX7_oneOrder_88 : decode cX7_oneOrder 88 = .ok (.aload_n 0, 1) := by decide +kernel
theorem dX7_oneOrder_89 : decode cX7_oneOrder 89 = .ok (.iload 5, 2) := by decide +kernel
theorem dX7_oneOrder_91 : decode cX7_oneOrder 91 = .ok (.iload_n 1, 1) := by decide +kernel
theorem dX7_oneOrder_92 : decode cX7_oneOrder 92 = .ok (.invokevirtual 116, 3) := by decide +kernel
theorem dX7_oneOrder_95 : decode cX7_oneOrder 95 = .ok (.goto 4, 3) := by decide +kernel
theorem dX7_oneOrder_98 : decode cX7_oneOrder 98 = .ok (.iconst 0, 1) := by decide +kernel
theorem dX7_oneOrder_99 : decode cX7_oneOrder 99 = .ok (.iadd, 1) := by decide +kernel
theorem dX7_oneOrder_100 : decode cX7_oneOrder 100 = .ok (.istore 4, 2) := by decide +kernel
theorem dX7_oneOrder_102 : decode cX7_oneOrder 102 = .ok (.iinc 5 1, 3) := by decide +kernel
theorem dX7_oneOrder_105 : decode cX7_oneOrder 105 = .ok (.goto (-38), 3) := by decide +kernel
theorem dX7_oneOrder_108 : decode cX7_oneOrder 108 = .ok (.iload_n 2, 1) := by decide +kernel
theorem dX7_oneOrder_109 : decode cX7_oneOrder 109 = .ok (.ifCond .ne 7, 3) := by decide +kernel
theorem dX7_oneOrder_112 : decode cX7_oneOrder 112 = .ok (.iload_n 3, 1) := by decide +kernel
theorem dX7_oneOrder_113 : decode cX7_oneOrder 113 = .ok (.goto 5, 3) := by decide +kernel
theorem dX7_oneOrder_116 : decode cX7_oneOrder 116 = .ok (.iload 4, 2) := by decide +kernel
theorem dX7_oneOrder_118 : decode cX7_oneOrder 118 = .ok (.ireturn, 1) := by decide +kernel
theorem dX7_seen_0 : decode cX7_seen 0 = .ok (.iload_n 1, 1) := by decide +kernel
theorem dX7_seen_1 : decode cX7_seen 1 = .ok (.invokestatic 77, 3) := by decide +kernel
theorem dX7_seen_4 : decode cX7_seen 4 = .ok (.ifCond .eq 12, 3) := by decide +kernel
theorem dX7_seen_7 : decode cX7_seen 7 = .ok (.iload_n 2, 1) := by decide +kernel
theorem dX7_seen_8 : decode cX7_seen 8 = .ok (.iconst 0, 1) := by decide +kernel
theorem dX7_seen_9 : decode cX7_seen 9 = .ok (.iconst 1, 1) := by decide +kernel
theorem dX7_seen_10 : decode cX7_seen 10 = .ok (.invokestatic 45, 3) := by decide +kernel
theorem dX7_seen_13 : decode cX7_seen 13 = .ok (.ifCond .ne 6, 3) := by decide +kernel
theorem dX7_seen_16 : decode cX7_seen 16 = .ok (.bipush (-2), 2) := by decide +kernel
theorem dX7_seen_18 : decode cX7_seen 18 = .ok (.ireturn, 1) := by decide +kernel
theorem dX7_seen_19 : decode cX7_seen 19 = .ok (.aload_n 0, 1) := by decide +kernel
theorem dX7_seen_20 : decode cX7_seen 20 = .ok (.getfield 128, 3) := by decide +kernel
theorem dX7_seen_23 : decode cX7_seen 23 = .ok (.bipush 6, 2) := by decide +kernel
theorem dX7_seen_25 : decode cX7_seen 25 = .ok (.if_icmp .ne 6, 3) := by decide +kernel
theorem dX7_seen_28 : decode cX7_seen 28 = .ok (.bipush (-4), 2) := by decide +kernel
theorem dX7_seen_30 : decode cX7_seen 30 = .ok (.ireturn, 1) := by decide +kernel
theorem dX7_seen_31 : decode cX7_seen 31 = .ok (.aload_n 0, 1) := by decide +kernel
theorem dX7_seen_32 : decode cX7_seen 32 = .ok (.getfield 25, 3) := by decide +kernel
theorem dX7_seen_35 : decode cX7_seen 35 = .ok (.iconst 2, 1) := by decide +kernel
theorem dX7_seen_36 : decode cX7_seen 36 = .ok (.aload_n 0, 1) := by decide +kernel
theorem dX7_seen_37 : decode cX7_seen 37 = .ok (.getfield 128, 3) := by decide +kernel
theorem dX7_seen_40 : decode cX7_seen 40 = .ok (.imul, 1) := by decide +kernel
theorem dX7_seen_41 : decode cX7_seen 41 = .ok (.iload_n 1, 1) := by decide +kernel
theorem dX7_seen_42 : decode cX7_seen 42 = .ok (.iastore, 1) := by decide +kernel
theorem dX7_seen_43 : decode cX7_seen 43 = .ok (.aload_n 0, 1) := by decide +kernel
theorem dX7_seen_44 : decode cX7_seen 44 = .ok (.getfield 25, 3) := by decide +kernel
theorem dX7_seen_47 : decode cX7_seen 47 = .ok (.iconst 2, 1) := by decide +kernel
theorem dX7_seen_48 : decode cX7_seen 48 = .ok (.aload_n 0, 1) := by decide +kernel
theorem dX7_seen_49 : decode cX7_seen 49 = .ok (.getfield 128, 3) := by decide +kernel
theorem dX7_seen_52 : decode cX7_seen 52 = .ok (.imul, 1) := by decide +kernel
theorem dX7_seen_53 : decode cX7_seen 53 = .ok (.iconst 1, 1) := by decide +kernel
theorem dX7_seen_54 : decode cX7_seen 54 = .ok (.iadd, 1) := by decide +kernel
theorem dX7_seen_55 : decode cX7_seen 55 = .ok (.iload_n 2, 1) := by decide +kernel
theorem dX7_seen_56 : decode cX7_seen 56 = .ok (.iastore, 1) := by decide +kernel
theorem dX7_seen_57 : decode cX7_seen 57 = .ok (.aload_n 0, 1) := by decide +kernel
theorem dX7_seen_58 : decode cX7_seen 58 = .ok (.dup, 1) := by decide +kernel
theorem dX7_seen_59 : decode cX7_seen 59 = .ok (.getfield 128, 3) := by decide +kernel
theorem dX7_seen_62 : decode cX7_seen 62 = .ok (.iconst 1, 1) := by decide +kernel
theorem dX7_seen_63 : decode cX7_seen 63 = .ok (.iadd, 1) := by decide +kernel
theorem dX7_seen_64 : decode cX7_seen 64 = .ok (.putfield 128, 3) := by decide +kernel
theorem dX7_seen_67 : decode cX7_seen 67 = .ok (.aload_n 0, 1) := by decide +kernel
theorem dX7_seen_68 : decode cX7_seen 68 = .ok (.getfield 128, 3) := by decide +kernel
theorem dX7_seen_71 : decode cX7_seen 71 = .ok (.ireturn, 1) := by decide +kernel
theorem dX7_forget_0 : decode cX7_forget 0 = .ok (.aload_n 0, 1) := by decide +kernel
theorem dX7_forget_1 : decode cX7_forget 1 = .ok (.getfield 128, 3) := by decide +kernel
theorem dX7_forget_4 : decode cX7_forget 4 = .ok (.istore_n 1, 1) := by decide +kernel
theorem dX7_forget_5 : decode cX7_forget 5 = .ok (.aload_n 0, 1) := by decide +kernel
theorem dX7_forget_6 : decode cX7_forget 6 = .ok (.iconst 0, 1) := by decide +kernel
theorem dX7_forget_7 : decode cX7_forget 7 = .ok (.putfield 128, 3) := by decide +kernel
theorem dX7_forget_10 : decode cX7_forget 10 = .ok (.iload_n 1, 1) := by decide +kernel
theorem dX7_forget_11 : decode cX7_forget 11 = .ok (.ireturn, 1) := by decide +kernel
theorem dX7_isWell_0 : decode cX7_isWell 0 = .ok (.aload_n 0, 1) := by decide +kernel
theorem dX7_isWell_1 : decode cX7_isWell 1 = .ok (.getfield 41, 3) := by decide +kernel
theorem dX7_isWell_4 : decode cX7_isWell 4 = .ok (.iload_n 1, 1) := by decide +kernel
theorem dX7_isWell_5 : decode cX7_isWell 5 = .ok (.invokestatic 49, 3) := by decide +kernel
theorem dX7_isWell_8 : decode cX7_isWell 8 = .ok (.istore_n 3, 1) := by decide +kernel
theorem dX7_isWell_9 : decode cX7_isWell 9 = .ok (.iconst 0, 1) := by decide +kernel
theorem dX7_isWell_10 : decode cX7_isWell 10 = .ok (.istore 4, 2) := by decide +kernel
theorem dX7_isWell_12 : decode cX7_isWell 12 = .ok (.iload 4, 2) := by decide +kernel
theorem dX7_isWell_14 : decode cX7_isWell 14 = .ok (.aload_n 0, 1) := by decide +kernel
theorem dX7_isWell_15 : decode cX7_isWell 15 = .ok (.getfield 128, 3) := by decide +kernel
theorem dX7_isWell_18 : decode cX7_isWell 18 = .ok (.if_icmp .ge 65, 3) := by decide +kernel
theorem dX7_isWell_21 : decode cX7_isWell 21 = .ok (.iload_n 3, 1) := by decide +kernel
theorem dX7_isWell_22 : decode cX7_isWell 22 = .ok (.ifCond .eq 61, 3) := by decide +kernel
theorem dX7_isWell_25 : decode cX7_isWell 25 = .ok (.aload_n 0, 1) := by decide +kernel
theorem dX7_isWell_26 : decode cX7_isWell 26 = .ok (.iload_n 1, 1) := by decide +kernel
theorem dX7_isWell_27 : decode cX7_isWell 27 = .ok (.aload_n 0, 1) := by decide +kernel
theorem dX7_isWell_28 : decode cX7_isWell 28 = .ok (.getfield 25, 3) := by decide +kernel
theorem dX7_isWell_31 : decode cX7_isWell 31 = .ok (.iconst 2, 1) := by decide +kernel
theorem dX7_isWell_32 : decode cX7_isWell 32 = .ok (.iload 4, 2) := by decide +kernel
theorem dX7_isWell_34 : decode cX7_isWell 34 = .ok (.imul, 1) := by decide +kernel
theorem dX7_isWell_35 : decode cX7_isWell 35 = .ok (.iaload, 1) := by decide +kernel
theorem dX7_isWell_36 : decode cX7_isWell 36 = .ok (.invokevirtual 80, 3) := by decide +kernel
theorem dX7_isWell_39 : decode cX7_isWell 39 = .ok (.iload_n 2, 1) := by decide +kernel
theorem dX7_isWell_40 : decode cX7_isWell 40 = .ok (.if_icmp .ne 7, 3) := by decide +kernel
theorem dX7_isWell_43 : decode cX7_isWell 43 = .ok (.iconst 1, 1) := by decide +kernel
theorem dX7_isWell_44 : decode cX7_isWell 44 = .ok (.goto 4, 3) := by decide +kernel
theorem dX7_isWell_47 : decode cX7_isWell 47 = .ok (.iconst 0, 1) := by decide +kernel
theorem dX7_isWell_48 : decode cX7_isWell 48 = .ok (.aload_n 0, 1) := by decide +kernel
theorem dX7_isWell_49 : decode cX7_isWell 49 = .ok (.getfield 25, 3) := by decide +kernel
theorem dX7_isWell_52 : decode cX7_isWell 52 = .ok (.iconst 2, 1) := by decide +kernel
theorem dX7_isWell_53 : decode cX7_isWell 53 = .ok (.iload 4, 2) := by decide +kernel
theorem dX7_isWell_55 : decode cX7_isWell 55 = .ok (.imul, 1) := by decide +kernel
theorem dX7_isWell_56 : decode cX7_isWell 56 = .ok (.iconst 1, 1) := by decide +kernel
theorem dX7_isWell_57 : decode cX7_isWell 57 = .ok (.iadd, 1) := by decide +kernel
theorem dX7_isWell_58 : decode cX7_isWell 58 = .ok (.iaload, 1) := by decide +kernel
theorem dX7_isWell_59 : decode cX7_isWell 59 = .ok (.iconst 1, 1) := by decide +kernel
theorem dX7_isWell_60 : decode cX7_isWell 60 = .ok (.if_icmp .ne 7, 3) := by decide +kernel
theorem dX7_isWell_63 : decode cX7_isWell 63 = .ok (.iconst 1, 1) := by decide +kernel
theorem dX7_isWell_64 : decode cX7_isWell 64 = .ok (.goto 4, 3) := by decide +kernel
theorem dX7_isWell_67 : decode cX7_isWell 67 = .ok (.iconst 0, 1) := by decide +kernel
theorem dX7_isWell_68 : decode cX7_isWell 68 = .ok (.if_icmp .ne 7, 3) := by decide +kernel
theorem dX7_isWell_71 : decode cX7_isWell 71 = .ok (.iconst 1, 1) := by decide +kernel
theorem dX7_isWell_72 : decode cX7_isWell 72 = .ok (.goto 4, 3) := by decide +kernel
theorem dX7_isWell_75 : decode cX7_isWell 75 = .ok (.iconst 0, 1) := by decide +kernel
theorem dX7_isWell_76 : decode cX7_isWell 76 = .ok (.istore_n 3, 1) := by decide +kernel
theorem dX7_isWell_77 : decode cX7_isWell 77 = .ok (.iinc 4 1, 3) := by decide +kernel
theorem dX7_isWell_80 : decode cX7_isWell 80 = .ok (.goto (-68), 3) := by decide +kernel
theorem dX7_isWell_83 : decode cX7_isWell 83 = .ok (.iload_n 3, 1) := by decide +kernel
theorem dX7_isWell_84 : decode cX7_isWell 84 = .ok (.ireturn, 1) := by decide +kernel
theorem dX7_whose_0 : decode cX7_whose 0 = .ok (.iconst 0, 1) := by decide +kernel
theorem dX7_whose_1 : decode cX7_whose 1 = .ok (.istore_n 2, 1) := by decide +kernel
theorem dX7_whose_2 : decode cX7_whose 2 = .ok (.iconst 0, 1) := by decide +kernel
theorem dX7_whose_3 : decode cX7_whose 3 = .ok (.istore_n 3, 1) := by decide +kernel
theorem dX7_whose_4 : decode cX7_whose 4 = .ok (.iload_n 3, 1) := by decide +kernel
theorem dX7_whose_5 : decode cX7_whose 5 = .ok (.bipush 6, 2) := by decide +kernel
theorem dX7_whose_7 : decode cX7_whose 7 = .ok (.if_icmp .ge 51, 3) := by decide +kernel
theorem dX7_whose_10 : decode cX7_whose 10 = .ok (.iconst 0, 1) := by decide +kernel
theorem dX7_whose_11 : decode cX7_whose 11 = .ok (.istore 4, 2) := by decide +kernel
theorem dX7_whose_13 : decode cX7_whose 13 = .ok (.iload 4, 2) := by decide +kernel
theorem dX7_whose_15 : decode cX7_whose 15 = .ok (.bipush 8, 2) := by decide +kernel
theorem dX7_whose_17 : decode cX7_whose 17 = .ok (.if_icmp .ge 35, 3) := by decide +kernel
theorem dX7_whose_20 : decode cX7_whose 20 = .ok (.aload_n 0, 1) := by decide +kernel
theorem dX7_whose_21 : decode cX7_whose 21 = .ok (.iload_n 3, 1) := by decide +kernel
theorem dX7_whose_22 : decode cX7_whose 22 = .ok (.iload 4, 2) := by decide +kernel
theorem dX7_whose_24 : decode cX7_whose 24 = .ok (.invokevirtual 131, 3) := by decide +kernel
theorem dX7_whose_27 : decode cX7_whose 27 = .ok (.ifCond .eq 19, 3) := by decide +kernel
theorem dX7_whose_30 : decode cX7_whose 30 = .ok (.iload_n 2, 1) := by decide +kernel
theorem dX7_whose_31 : decode cX7_whose 31 = .ok (.iload_n 1, 1) := by decide +kernel
theorem dX7_whose_32 : decode cX7_whose 32 = .ok (.if_icmp .ne 11, 3) := by decide +kernel
theorem dX7_whose_35 : decode cX7_whose 35 = .ok (.bipush 10, 2) := by decide +kernel
theorem dX7_whose_37 : decode cX7_whose 37 = .ok (.iload_n 3, 1) := by decide +kernel
theorem dX7_whose_38 : decode cX7_whose 38 = .ok (.imul, 1) := by decide +kernel
theorem dX7_whose_39 : decode cX7_whose 39 = .ok (.iload 4, 2) := by decide +kernel
theorem dX7_whose_41 : decode cX7_whose 41 = .ok (.iadd, 1) := by decide +kernel
theorem dX7_whose_42 : decode cX7_whose 42 = .ok (.ireturn, 1) := by decide +kernel
theorem dX7_whose_43 : decode cX7_whose 43 = .ok (.iinc 2 1, 3) := by decide +kernel
theorem dX7_whose_46 : decode cX7_whose 46 = .ok (.iinc 4 1, 3) := by decide +kernel
theorem dX7_whose_49 : decode cX7_whose 49 = .ok (.goto (-36), 3) := by decide +kernel
theorem dX7_whose_52 : decode cX7_whose 52 = .ok (.iinc 3 1, 3) := by decide +kernel
theorem dX7_whose_55 : decode cX7_whose 55 = .ok (.goto (-51), 3) := by decide +kernel
theorem dX7_whose_58 : decode cX7_whose 58 = .ok (.iload_n 1, 1) := by decide +kernel
theorem dX7_whose_59 : decode cX7_whose 59 = .ok (.iconst (-1), 1) := by decide +kernel
theorem dX7_whose_60 : decode cX7_whose 60 = .ok (.if_icmp .ne 7, 3) := by decide +kernel
theorem dX7_whose_63 : decode cX7_whose 63 = .ok (.iload_n 2, 1) := by decide +kernel
theorem dX7_whose_64 : decode cX7_whose 64 = .ok (.goto 5, 3) := by decide +kernel
theorem dX7_whose_67 : decode cX7_whose 67 = .ok (.bipush (-6), 2) := by decide +kernel
theorem dX7_whose_69 : decode cX7_whose 69 = .ok (.ireturn, 1) := by decide +kernel
theorem dX7_sure_0 : decode cX7_sure 0 = .ok (.iload_n 1, 1) := by decide +kernel
theorem dX7_sure_1 : decode cX7_sure 1 = .ok (.invokestatic 77, 3) := by decide +kernel
theorem dX7_sure_4 : decode cX7_sure 4 = .ok (.ifCond .ne 6, 3) := by decide +kernel
theorem dX7_sure_7 : decode cX7_sure 7 = .ok (.bipush (-2), 2) := by decide +kernel
theorem dX7_sure_9 : decode cX7_sure 9 = .ok (.ireturn, 1) := by decide +kernel
theorem dX7_sure_10 : decode cX7_sure 10 = .ok (.iconst 0, 1) := by decide +kernel
theorem dX7_sure_11 : decode cX7_sure 11 = .ok (.istore_n 2, 1) := by decide +kernel
theorem dX7_sure_12 : decode cX7_sure 12 = .ok (.iconst 0, 1) := by decide +kernel
theorem dX7_sure_13 : decode cX7_sure 13 = .ok (.istore_n 3, 1) := by decide +kernel
theorem dX7_sure_14 : decode cX7_sure 14 = .ok (.iconst 0, 1) := by decide +kernel
theorem dX7_sure_15 : decode cX7_sure 15 = .ok (.istore 4, 2) := by decide +kernel
theorem dX7_sure_17 : decode cX7_sure 17 = .ok (.iload 4, 2) := by decide +kernel
theorem dX7_sure_19 : decode cX7_sure 19 = .ok (.bipush 6, 2) := by decide +kernel
theorem dX7_sure_21 : decode cX7_sure 21 = .ok (.if_icmp .ge 76, 3) := by decide +kernel
theorem dX7_sure_24 : decode cX7_sure 24 = .ok (.iconst 0, 1) := by decide +kernel
theorem dX7_sure_25 : decode cX7_sure 25 = .ok (.istore 5, 2) := by decide +kernel
theorem dX7_sure_27 : decode cX7_sure 27 = .ok (.iload 5, 2) := by decide +kernel
theorem dX7_sure_29 : decode cX7_sure 29 = .ok (.bipush 8, 2) := by decide +kernel
theorem dX7_sure_31 : decode cX7_sure 31 = .ok (.if_icmp .ge 60, 3) := by decide +kernel
theorem dX7_sure_34 : decode cX7_sure 34 = .ok (.aload_n 0, 1) := by decide +kernel
theorem dX7_sure_35 : decode cX7_sure 35 = .ok (.iload 4, 2) := by decide +kernel
theorem dX7_sure_37 : decode cX7_sure 37 = .ok (.iload 5, 2) := by decide +kernel
theorem dX7_sure_39 : decode cX7_sure 39 = .ok (.invokevirtual 131, 3) := by decide +kernel
theorem dX7_sure_42 : decode cX7_sure 42 = .ok (.ifCond .eq 43, 3) := by decide +kernel
theorem dX7_sure_45 : decode cX7_sure 45 = .ok (.iload_n 2, 1) := by decide +kernel
theorem dX7_sure_46 : decode cX7_sure 46 = .ok (.aload_n 0, 1) := by decide +kernel
theorem dX7_sure_47 : decode cX7_sure 47 = .ok (.iload 4, 2) := by decide +kernel
theorem dX7_sure_49 : decode cX7_sure 49 = .ok (.iload_n 1, 1) := by decide +kernel
theorem dX7_sure_50 : decode cX7_sure 50 = .ok (.invokevirtual 80, 3) := by decide +kernel
theorem dX7_sure_53 : decode cX7_sure 53 = .ok (.iload 5, 2) := by decide +kernel
theorem dX7_sure_55 : decode cX7_sure 55 = .ok (.if_icmp .ne 7, 3) := by decide +kernel
theorem dX7_sure_58 : decode cX7_sure 58 = .ok (.iconst 1, 1) := by decide +kernel
theorem dX7_sure_59 : decode cX7_sure 59 = .ok (.goto 4, 3) := by decide +kernel
theorem dX7_sure_62 : decode cX7_sure 62 = .ok (.iconst 0, 1) := by decide +kernel
theorem dX7_sure_63 : decode cX7_sure 63 = .ok (.iadd, 1) := by decide +kernel
theorem dX7_sure_64 : decode cX7_sure 64 = .ok (.istore_n 2, 1) := by decide +kernel
theorem dX7_sure_65 : decode cX7_sure 65 = .ok (.iload_n 3, 1) := by decide +kernel
theorem dX7_sure_66 : decode cX7_sure 66 = .ok (.aload_n 0, 1) := by decide +kernel
theorem dX7_sure_67 : decode cX7_sure 67 = .ok (.iload 4, 2) := by decide +kernel
theorem dX7_sure_69 : decode cX7_sure 69 = .ok (.iload_n 1, 1) := by decide +kernel
theorem dX7_sure_70 : decode cX7_sure 70 = .ok (.invokevirtual 80, 3) := by decide +kernel
theorem dX7_sure_73 : decode cX7_sure 73 = .ok (.iload 5, 2) := by decide +kernel
theorem dX7_sure_75 : decode cX7_sure 75 = .ok (.if_icmp .ne 7, 3) := by decide +kernel
theorem dX7_sure_78 : decode cX7_sure 78 = .ok (.iconst 0, 1) := by decide +kernel
theorem dX7_sure_79 : decode cX7_sure 79 = .ok (.goto 4, 3) := by decide +kernel
theorem dX7_sure_82 : decode cX7_sure 82 = .ok (.iconst 1, 1) := by decide +kernel
theorem dX7_sure_83 : decode cX7_sure 83 = .ok (.iadd, 1) := by decide +kernel
theorem dX7_sure_84 : decode cX7_sure 84 = .ok (.istore_n 3, 1) := by decide +kernel
theorem dX7_sure_85 : decode cX7_sure 85 = .ok (.iinc 5 1, 3) := by decide +kernel
theorem dX7_sure_88 : decode cX7_sure 88 = .ok (.goto (-61), 3) := by decide +kernel
theorem dX7_sure_91 : decode cX7_sure 91 = .ok (.iinc 4 1, 3) := by decide +kernel
theorem dX7_sure_94 : decode cX7_sure 94 = .ok (.goto (-77), 3) := by decide +kernel
theorem dX7_sure_97 : decode cX7_sure 97 = .ok (.iload_n 2, 1) := by decide +kernel
theorem dX7_sure_98 : decode cX7_sure 98 = .ok (.iload_n 3, 1) := by decide +kernel
theorem dX7_sure_99 : decode cX7_sure 99 = .ok (.iadd, 1) := by decide +kernel
theorem dX7_sure_100 : decode cX7_sure 100 = .ok (.ifCond .ne 8, 3) := by decide +kernel
theorem dX7_sure_103 : decode cX7_sure 103 = .ok (.bipush (-6), 2) := by decide +kernel
theorem dX7_sure_105 : decode cX7_sure 105 = .ok (.goto 20, 3) := by decide +kernel
theorem dX7_sure_108 : decode cX7_sure 108 = .ok (.iload_n 3, 1) := by decide +kernel
theorem dX7_sure_109 : decode cX7_sure 109 = .ok (.ifCond .ne 7, 3) := by decide +kernel
theorem dX7_sure_112 : decode cX7_sure 112 = .ok (.iconst 1, 1) := by decide +kernel
theorem dX7_sure_113 : decode cX7_sure 113 = .ok (.goto 12, 3) := by decide +kernel
theorem dX7_sure_116 : decode cX7_sure 116 = .ok (.iload_n 2, 1) := by decide +kernel
theorem dX7_sure_117 : decode cX7_sure 117 = .ok (.ifCond .ne 7, 3) := by decide +kernel
theorem dX7_sure_120 : decode cX7_sure 120 = .ok (.iconst 0, 1) := by decide +kernel
theorem dX7_sure_121 : decode cX7_sure 121 = .ok (.goto 4, 3) := by decide +kernel
theorem dX7_sure_124 : decode cX7_sure 124 = .ok (.iconst 2, 1) := by decide +kernel
theorem dX7_sure_125 : decode cX7_sure 125 = .ok (.ireturn, 1) := by decide +kernel
theorem dX7_newly_0 : decode cX7_newly 0 = .ok (.iconst 0, 1) := by decide +kernel
theorem dX7_newly_1 : decode cX7_newly 1 = .ok (.istore_n 3, 1) := by decide +kernel
theorem dX7_newly_2 : decode cX7_newly 2 = .ok (.iconst 0, 1) := by decide +kernel
theorem dX7_newly_3 : decode cX7_newly 3 = .ok (.istore 4, 2) := by decide +kernel
theorem dX7_newly_5 : decode cX7_newly 5 = .ok (.iload 4, 2) := by decide +kernel
theorem dX7_newly_7 : decode cX7_newly 7 = .ok (.bipush 14, 2) := by decide +kernel
theorem dX7_newly_9 : decode cX7_newly 9 = .ok (.if_icmp .ge 46, 3) := by decide +kernel
theorem dX7_newly_12 : decode cX7_newly 12 = .ok (.iconst 0, 1) := by decide +kernel
theorem dX7_newly_13 : decode cX7_newly 13 = .ok (.istore 5, 2) := by decide +kernel
theorem dX7_newly_15 : decode cX7_newly 15 = .ok (.iload 5, 2) := by decide +kernel
theorem dX7_newly_17 : decode cX7_newly 17 = .ok (.bipush 7, 2) := by decide +kernel
theorem dX7_newly_19 : decode cX7_newly 19 = .ok (.if_icmp .ge 30, 3) := by decide +kernel
theorem dX7_newly_22 : decode cX7_newly 22 = .ok (.iload_n 3, 1) := by decide +kernel
theorem dX7_newly_23 : decode cX7_newly 23 = .ok (.iload 4, 2) := by decide +kernel
theorem dX7_newly_25 : decode cX7_newly 25 = .ok (.iload_n 1, 1) := by decide +kernel
theorem dX7_newly_26 : decode cX7_newly 26 = .ok (.iload 5, 2) := by decide +kernel
theorem dX7_newly_28 : decode cX7_newly 28 = .ok (.isub, 1) := by decide +kernel
theorem dX7_newly_29 : decode cX7_newly 29 = .ok (.invokestatic 119, 3) := by decide +kernel
theorem dX7_newly_32 : decode cX7_newly 32 = .ok (.iload_n 0, 1) := by decide +kernel
theorem dX7_newly_33 : decode cX7_newly 33 = .ok (.if_icmp .ne 7, 3) := by decide +kernel
theorem dX7_newly_36 : decode cX7_newly 36 = .ok (.iconst 1, 1) := by decide +kernel
theorem dX7_newly_37 : decode cX7_newly 37 = .ok (.goto 4, 3) := by decide +kernel
theorem dX7_newly_40 : decode cX7_newly 40 = .ok (.iconst 0, 1) := by decide +kernel
theorem dX7_newly_41 : decode cX7_newly 41 = .ok (.iadd, 1) := by decide +kernel
theorem dX7_newly_42 : decode cX7_newly 42 = .ok (.istore_n 3, 1) := by decide +kernel
theorem dX7_newly_43 : decode cX7_newly 43 = .ok (.iinc 5 1, 3) := by decide +kernel
theorem dX7_newly_46 : decode cX7_newly 46 = .ok (.goto (-31), 3) := by decide +kernel
theorem dX7_newly_49 : decode cX7_newly 49 = .ok (.iinc 4 1, 3) := by decide +kernel
theorem dX7_newly_52 : decode cX7_newly 52 = .ok (.goto (-47), 3) := by decide +kernel
theorem dX7_newly_55 : decode cX7_newly 55 = .ok (.iload_n 3, 1) := by decide +kernel
theorem dX7_newly_56 : decode cX7_newly 56 = .ok (.istore 4, 2) := by decide +kernel
theorem dX7_newly_58 : decode cX7_newly 58 = .ok (.bipush 98, 2) := by decide +kernel
theorem dX7_newly_60 : decode cX7_newly 60 = .ok (.istore 5, 2) := by decide +kernel
theorem dX7_newly_62 : decode cX7_newly 62 = .ok (.iload 5, 2) := by decide +kernel
theorem dX7_newly_64 : decode cX7_newly 64 = .ok (.ifCond .eq 21, 3) := by decide +kernel
theorem dX7_newly_67 : decode cX7_newly 67 = .ok (.iload 4, 2) := by decide +kernel
theorem dX7_newly_69 : decode cX7_newly 69 = .ok (.iload 5, 2) := by decide +kernel
theorem dX7_newly_71 : decode cX7_newly 71 = .ok (.irem, 1) := by decide +kernel
theorem dX7_newly_72 : decode cX7_newly 72 = .ok (.istore 6, 2) := by decide +kernel
theorem dX7_newly_74 : decode cX7_newly 74 = .ok (.iload 5, 2) := by decide +kernel
theorem dX7_newly_76 : decode cX7_newly 76 = .ok (.istore 4, 2) := by decide +kernel
theorem dX7_newly_78 : decode cX7_newly 78 = .ok (.iload 6, 2) := by decide +kernel
theorem dX7_newly_80 : decode cX7_newly 80 = .ok (.istore 5, 2) := by decide +kernel
theorem dX7_newly_82 : decode cX7_newly 82 = .ok (.goto (-20), 3) := by decide +kernel
theorem dX7_newly_85 : decode cX7_newly 85 = .ok (.iload_n 2, 1) := by decide +kernel
theorem dX7_newly_86 : decode cX7_newly 86 = .ok (.ifCond .ne 11, 3) := by decide +kernel
theorem dX7_newly_89 : decode cX7_newly 89 = .ok (.iload_n 3, 1) := by decide +kernel
theorem dX7_newly_90 : decode cX7_newly 90 = .ok (.iload 4, 2) := by decide +kernel
theorem dX7_newly_92 : decode cX7_newly 92 = .ok (.idiv, 1) := by decide +kernel
theorem dX7_newly_93 : decode cX7_newly 93 = .ok (.i2l, 1) := by decide +kernel
theorem dX7_newly_94 : decode cX7_newly 94 = .ok (.goto 9, 3) := by decide +kernel
theorem dX7_newly_97 : decode cX7_newly 97 = .ok (.bipush 98, 2) := by decide +kernel
theorem dX7_newly_99 : decode cX7_newly 99 = .ok (.iload 4, 2) := by decide +kernel
theorem dX7_newly_101 : decode cX7_newly 101 = .ok (.idiv, 1) := by decide +kernel
theorem dX7_newly_102 : decode cX7_newly 102 = .ok (.i2l, 1) := by decide +kernel
theorem dX7_newly_103 : decode cX7_newly 103 = .ok (.lreturn, 1) := by decide +kernel
theorem dX7_chance_0 : decode cX7_chance 0 = .ok (.iload_n 1, 1) := by decide +kernel
theorem dX7_chance_1 : decode cX7_chance 1 = .ok (.invokestatic 56, 3) := by decide +kernel
theorem dX7_chance_4 : decode cX7_chance 4 = .ok (.ifCond .ne 7, 3) := by decide +kernel
theorem dX7_chance_7 : decode cX7_chance 7 = .ok (.ldc2_w 134, 3) := by decide +kernel
theorem dX7_chance_10 : decode cX7_chance 10 = .ok (.lreturn, 1) := by decide +kernel
theorem dX7_chance_11 : decode cX7_chance 11 = .ok (.iload_n 2, 1) := by decide +kernel
theorem dX7_chance_12 : decode cX7_chance 12 = .ok (.invokestatic 77, 3) := by decide +kernel
theorem dX7_chance_15 : decode cX7_chance 15 = .ok (.ifCond .eq 21, 3) := by decide +kernel
theorem dX7_chance_18 : decode cX7_chance 18 = .ok (.iload_n 3, 1) := by decide +kernel
theorem dX7_chance_19 : decode cX7_chance 19 = .ok (.iconst 0, 1) := by decide +kernel
theorem dX7_chance_20 : decode cX7_chance 20 = .ok (.iconst 1, 1) := by decide +kernel
theorem dX7_chance_21 : decode cX7_chance 21 = .ok (.invokestatic 45, 3) := by decide +kernel
theorem dX7_chance_24 : decode cX7_chance 24 = .ok (.ifCond .eq 12, 3) := by decide +kernel
theorem dX7_chance_27 : decode cX7_chance 27 = .ok (.iload_n 1, 1) := by decide +kernel
theorem dX7_chance_28 : decode cX7_chance 28 = .ok (.iload_n 2, 1) := by decide +kernel
theorem dX7_chance_29 : decode cX7_chance 29 = .ok (.iload_n 3, 1) := by decide +kernel
theorem dX7_chance_30 : decode cX7_chance 30 = .ok (.invokestatic 136, 3) := by decide +kernel
theorem dX7_chance_33 : decode cX7_chance 33 = .ok (.goto 6, 3) := by decide +kernel
theorem dX7_chance_36 : decode cX7_chance 36 = .ok (.ldc2_w 140, 3) := by decide +kernel
theorem dX7_chance_39 : decode cX7_chance 39 = .ok (.lreturn, 1) := by decide +kernel
theorem dX7_shares_0 : decode cX7_shares 0 = .ok (.aload_n 0, 1) := by decide +kernel
theorem dX7_shares_1 : decode cX7_shares 1 = .ok (.iload_n 1, 1) := by decide +kernel
theorem dX7_shares_2 : decode cX7_shares 2 = .ok (.invokevirtual 67, 3) := by decide +kernel
theorem dX7_shares_5 : decode cX7_shares 5 = .ok (.ifCond .ne 7, 3) := by decide +kernel
theorem dX7_shares_8 : decode cX7_shares 8 = .ok (.ldc2_w 134, 3) := by decide +kernel
theorem dX7_shares_11 : decode cX7_shares 11 = .ok (.lreturn, 1) := by decide +kernel
theorem dX7_shares_12 : decode cX7_shares 12 = .ok (.iload_n 2, 1) := by decide +kernel
theorem dX7_shares_13 : decode cX7_shares 13 = .ok (.invokestatic 77, 3) := by decide +kernel
theorem dX7_shares_16 : decode cX7_shares 16 = .ok (.ifCond .eq 26, 3) := by decide +kernel
theorem dX7_shares_19 : decode cX7_shares 19 = .ok (.iload_n 3, 1) := by decide +kernel
theorem dX7_shares_20 : decode cX7_shares 20 = .ok (.iconst 0, 1) := by decide +kernel
theorem dX7_shares_21 : decode cX7_shares 21 = .ok (.iconst 1, 1) := by decide +kernel
theorem dX7_shares_22 : decode cX7_shares 22 = .ok (.invokestatic 45, 3) := by decide +kernel
theorem dX7_shares_25 : decode cX7_shares 25 = .ok (.ifCond .eq 17, 3) := by decide +kernel
theorem dX7_shares_28 : decode cX7_shares 28 = .ok (.aload_n 0, 1) := by decide +kernel
theorem dX7_shares_29 : decode cX7_shares 29 = .ok (.iload_n 1, 1) := by decide +kernel
theorem dX7_shares_30 : decode cX7_shares 30 = .ok (.iload_n 2, 1) := by decide +kernel
theorem dX7_shares_31 : decode cX7_shares 31 = .ok (.invokevirtual 80, 3) := by decide +kernel
theorem dX7_shares_34 : decode cX7_shares 34 = .ok (.iload_n 2, 1) := by decide +kernel
theorem dX7_shares_35 : decode cX7_shares 35 = .ok (.iload_n 3, 1) := by decide +kernel
theorem dX7_shares_36 : decode cX7_shares 36 = .ok (.invokestatic 136, 3) := by decide +kernel
theorem dX7_shares_39 : decode cX7_shares 39 = .ok (.goto 6, 3) := by decide +kernel
theorem dX7_shares_42 : decode cX7_shares 42 = .ok (.ldc2_w 140, 3) := by decide +kernel
theorem dX7_shares_45 : decode cX7_shares 45 = .ok (.lreturn, 1) := by decide +kernel
theorem dX7_year_0 : decode cX7_year 0 = .ok (.iload_n 1, 1) := by decide +kernel
theorem dX7_year_1 : decode cX7_year 1 = .ok (.iconst 0, 1) := by decide +kernel
theorem dX7_year_2 : decode cX7_year 2 = .ok (.sipush 9999, 3) := by decide +kernel
theorem dX7_year_5 : decode cX7_year 5 = .ok (.invokestatic 45, 3) := by decide +kernel
theorem dX7_year_8 : decode cX7_year 8 = .ok (.ifCond .eq 23, 3) := by decide +kernel
theorem dX7_year_11 : decode cX7_year 11 = .ok (.iload_n 2, 1) := by decide +kernel
theorem dX7_year_12 : decode cX7_year 12 = .ok (.iconst 1, 1) := by decide +kernel
theorem dX7_year_13 : decode cX7_year 13 = .ok (.sipush 999, 3) := by decide +kernel
theorem dX7_year_16 : decode cX7_year 16 = .ok (.invokestatic 45, 3) := by decide +kernel
theorem dX7_year_19 : decode cX7_year 19 = .ok (.ifCond .eq 12, 3) := by decide +kernel
theorem dX7_year_22 : decode cX7_year 22 = .ok (.iload_n 3, 1) := by decide +kernel
theorem dX7_year_23 : decode cX7_year 23 = .ok (.iconst 0, 1) := by decide +kernel
theorem dX7_year_24 : decode cX7_year 24 = .ok (.iconst 2, 1) := by decide +kernel
theorem dX7_year_25 : decode cX7_year 25 = .ok (.invokestatic 45, 3) := by decide +kernel
theorem dX7_year_28 : decode cX7_year 28 = .ok (.ifCond .ne 6, 3) := by decide +kernel
theorem dX7_year_31 : decode cX7_year 31 = .ok (.bipush (-2), 2) := by decide +kernel
theorem dX7_year_33 : decode cX7_year 33 = .ok (.ireturn, 1) := by decide +kernel
theorem dX7_year_34 : decode cX7_year 34 = .ok (.iload_n 1, 1) := by decide +kernel
theorem dX7_year_35 : decode cX7_year 35 = .ok (.istore 4, 2) := by decide +kernel
theorem dX7_year_37 : decode cX7_year 37 = .ok (.iconst 0, 1) := by decide +kernel
theorem dX7_year_38 : decode cX7_year 38 = .ok (.istore 5, 2) := by decide +kernel
theorem dX7_year_40 : decode cX7_year 40 = .ok (.iconst 0, 1) := by decide +kernel
theorem dX7_year_41 : decode cX7_year 41 = .ok (.istore 6, 2) := by decide +kernel
theorem dX7_year_43 : decode cX7_year 43 = .ok (.bipush (-6), 2) := by decide +kernel
theorem dX7_year_45 : decode cX7_year 45 = .ok (.istore 7, 2) := by decide +kernel
theorem dX7_year_47 : decode cX7_year 47 = .ok (.iconst 0, 1) := by decide +kernel
theorem dX7_year_48 : decode cX7_year 48 = .ok (.istore 8, 2) := by decide +kernel
theorem dX7_year_50 : decode cX7_year 50 = .ok (.iconst 0, 1) := by decide +kernel
theorem dX7_year_51 : decode cX7_year 51 = .ok (.istore 9, 2) := by decide +kernel
theorem dX7_year_53 : decode cX7_year 53 = .ok (.iload 9, 2) := by decide +kernel
theorem dX7_year_55 : decode cX7_year 55 = .ok (.iload_n 2, 1) := by decide +kernel
theorem dX7_year_56 : decode cX7_year 56 = .ok (.if_icmp .ge 138, 3) := by decide +kernel
theorem dX7_year_59 : decode cX7_year 59 = .ok (.bipush 75, 2) := by decide +kernel
theorem dX7_year_61 : decode cX7_year 61 = .ok (.iload 4, 2) := by decide +kernel
theorem dX7_year_63 : decode cX7_year 63 = .ok (.imul, 1) := by decide +kernel
theorem dX7_year_64 : decode cX7_year 64 = .ok (.bipush 74, 2) := by decide +kernel
theorem dX7_year_66 : decode cX7_year 66 = .ok (.iadd, 1) := by decide +kernel
theorem dX7_year_67 : decode cX7_year 67 = .ok (.ldc 142, 2) := by decide +kernel
theorem dX7_year_69 : decode cX7_year 69 = .ok (.irem, 1) := by decide +kernel
theorem dX7_year_70 : decode cX7_year 70 = .ok (.istore 4, 2) := by decide +kernel
theorem dX7_year_72 : decode cX7_year 72 = .ok (.iload 4, 2) := by decide +kernel
theorem dX7_year_74 : decode cX7_year 74 = .ok (.bipush 6, 2) := by decide +kernel
theorem dX7_year_76 : decode cX7_year 76 = .ok (.irem, 1) := by decide +kernel
theorem dX7_year_77 : decode cX7_year 77 = .ok (.istore 10, 2) := by decide +kernel
theorem dX7_year_79 : decode cX7_year 79 = .ok (.iload 4, 2) := by decide +kernel
theorem dX7_year_81 : decode cX7_year 81 = .ok (.bipush 6, 2) := by decide +kernel
theorem dX7_year_83 : decode cX7_year 83 = .ok (.idiv, 1) := by decide +kernel
theorem dX7_year_84 : decode cX7_year 84 = .ok (.bipush 6, 2) := by decide +kernel
theorem dX7_year_86 : decode cX7_year 86 = .ok (.irem, 1) := by decide +kernel
theorem dX7_year_87 : decode cX7_year 87 = .ok (.istore 11, 2) := by decide +kernel
theorem dX7_year_89 : decode cX7_year 89 = .ok (.iload 10, 2) := by decide +kernel
theorem dX7_year_91 : decode cX7_year 91 = .ok (.iload 11, 2) := by decide +kernel
theorem dX7_year_93 : decode cX7_year 93 = .ok (.if_icmp .eq 95, 3) := by decide +kernel
theorem dX7_year_96 : decode cX7_year 96 = .ok (.aload_n 0, 1) := by decide +kernel
theorem dX7_year_97 : decode cX7_year 97 = .ok (.getfield 41, 3) := by decide +kernel
theorem dX7_year_100 : decode cX7_year 100 = .ok (.iload 10, 2) := by decide +kernel
theorem dX7_year_102 : decode cX7_year 102 = .ok (.invokestatic 49, 3) := by decide +kernel
theorem dX7_year_105 : decode cX7_year 105 = .ok (.ifCond .eq 83, 3) := by decide +kernel
theorem dX7_year_108 : decode cX7_year 108 = .ok (.aload_n 0, 1) := by decide +kernel
theorem dX7_year_109 : decode cX7_year 109 = .ok (.getfield 41, 3) := by decide +kernel
theorem dX7_year_112 : decode cX7_year 112 = .ok (.iload 11, 2) := by decide +kernel
theorem dX7_year_114 : decode cX7_year 114 = .ok (.invokestatic 49, 3) := by decide +kernel
theorem dX7_year_117 : decode cX7_year 117 = .ok (.ifCond .eq 71, 3) := by decide +kernel
theorem dX7_year_120 : decode cX7_year 120 = .ok (.aload_n 0, 1) := by decide +kernel
theorem dX7_year_121 : decode cX7_year 121 = .ok (.iload 10, 2) := by decide +kernel
theorem dX7_year_123 : decode cX7_year 123 = .ok (.iload 9, 2) := by decide +kernel
theorem dX7_year_125 : decode cX7_year 125 = .ok (.invokevirtual 80, 3) := by decide +kernel
theorem dX7_year_128 : decode cX7_year 128 = .ok (.aload_n 0, 1) := by decide +kernel
theorem dX7_year_129 : decode cX7_year 129 = .ok (.iload 11, 2) := by decide +kernel
theorem dX7_year_131 : decode cX7_year 131 = .ok (.iload 9, 2) := by decide +kernel
theorem dX7_year_133 : decode cX7_year 133 = .ok (.invokevirtual 80, 3) := by decide +kernel
theorem dX7_year_136 : decode cX7_year 136 = .ok (.if_icmp .ne 52, 3) := by decide +kernel
theorem dX7_year_139 : decode cX7_year 139 = .ok (.iinc 5 1, 3) := by decide +kernel
theorem dX7_year_142 : decode cX7_year 142 = .ok (.iload 6, 2) := by decide +kernel
theorem dX7_year_144 : decode cX7_year 144 = .ok (.iconst 1, 1) := by decide +kernel
theorem dX7_year_145 : decode cX7_year 145 = .ok (.aload_n 0, 1) := by decide +kernel
theorem dX7_year_146 : decode cX7_year 146 = .ok (.iload 10, 2) := by decide +kernel
theorem dX7_year_148 : decode cX7_year 148 = .ok (.iload 9, 2) := by decide +kernel
theorem dX7_year_150 : decode cX7_year 150 = .ok (.invokevirtual 80, 3) := by decide +kernel
theorem dX7_year_153 : decode cX7_year 153 = .ok (.ishl, 1) := by decide +kernel
theorem dX7_year_154 : decode cX7_year 154 = .ok (.ior, 1) := by decide +kernel
theorem dX7_year_155 : decode cX7_year 155 = .ok (.istore 6, 2) := by decide +kernel
theorem dX7_year_157 : decode cX7_year 157 = .ok (.iload 7, 2) := by decide +kernel
theorem dX7_year_159 : decode cX7_year 159 = .ok (.ifCond .lt 21, 3) := by decide +kernel
theorem dX7_year_162 : decode cX7_year 162 = .ok (.iload 9, 2) := by decide +kernel
theorem dX7_year_164 : decode cX7_year 164 = .ok (.iload 7, 2) := by decide +kernel
theorem dX7_year_166 : decode cX7_year 166 = .ok (.isub, 1) := by decide +kernel
theorem dX7_year_167 : decode cX7_year 167 = .ok (.iload 8, 2) := by decide +kernel
theorem dX7_year_169 : decode cX7_year 169 = .ok (.if_icmp .le 11, 3) := by decide +kernel
theorem dX7_year_172 : decode cX7_year 172 = .ok (.iload 9, 2) := by decide +kernel
theorem dX7_year_174 : decode cX7_year 174 = .ok (.iload 7, 2) := by decide +kernel
theorem dX7_year_176 : decode cX7_year 176 = .ok (.isub, 1) := by decide +kernel
theorem dX7_year_177 : decode cX7_year 177 = .ok (.goto 5, 3) := by decide +kernel
theorem dX7_year_180 : decode cX7_year 180 = .ok (.iload 8, 2) := by decide +kernel
theorem dX7_year_182 : decode cX7_year 182 = .ok (.istore 8, 2) := by decide +kernel
theorem dX7_year_184 : decode cX7_year 184 = .ok (.iload 9, 2) := by decide +kernel
theorem dX7_year_186 : decode cX7_year 186 = .ok (.istore 7, 2) := by decide +kernel
theorem dX7_year_188 : decode cX7_year 188 = .ok (.iinc 9 1, 3) := by decide +kernel
theorem dX7_year_191 : decode cX7_year 191 = .ok (.goto (-138), 3) := by decide +kernel
theorem dX7_year_194 : decode cX7_year 194 = .ok (.iload_n 3, 1) := by decide +kernel
theorem dX7_year_195 : decode cX7_year 195 = .ok (.ifCond .ne 8, 3) := by decide +kernel
theorem dX7_year_198 : decode cX7_year 198 = .ok (.iload 5, 2) := by decide +kernel
theorem dX7_year_200 : decode cX7_year 200 = .ok (.goto 18, 3) := by decide +kernel
theorem dX7_year_203 : decode cX7_year 203 = .ok (.iload_n 3, 1) := by decide +kernel
theorem dX7_year_204 : decode cX7_year 204 = .ok (.iconst 1, 1) := by decide +kernel
theorem dX7_year_205 : decode cX7_year 205 = .ok (.if_icmp .ne 11, 3) := by decide +kernel
theorem dX7_year_208 : decode cX7_year 208 = .ok (.iload 6, 2) := by decide +kernel
theorem dX7_year_210 : decode cX7_year 210 = .ok (.invokestatic 70, 3) := by decide +kernel
theorem dX7_year_213 : decode cX7_year 213 = .ok (.goto 5, 3) := by decide +kernel
theorem dX7_year_216 : decode cX7_year 216 = .ok (.iload 8, 2) := by decide +kernel
theorem dX7_year_218 : decode cX7_year 218 = .ok (.ireturn, 1) := by decide +kernel
theorem dX7_image_0 : decode cX7_image 0 = .ok (.iload_n 1, 1) := by decide +kernel
theorem dX7_image_1 : decode cX7_image 1 = .ok (.iconst 0, 1) := by decide +kernel
theorem dX7_image_2 : decode cX7_image 2 = .ok (.iconst 1, 1) := by decide +kernel
theorem dX7_image_3 : decode cX7_image 3 = .ok (.invokestatic 45, 3) := by decide +kernel
theorem dX7_image_6 : decode cX7_image 6 = .ok (.ifCond .ne 6, 3) := by decide +kernel
theorem dX7_image_9 : decode cX7_image 9 = .ok (.bipush (-2), 2) := by decide +kernel
theorem dX7_image_11 : decode cX7_image 11 = .ok (.ireturn, 1) := by decide +kernel
theorem dX7_image_12 : decode cX7_image 12 = .ok (.bipush 100, 2) := by decide +kernel
theorem dX7_image_14 : decode cX7_image 14 = .ok (.iload_n 1, 1) := by decide +kernel
theorem dX7_image_15 : decode cX7_image 15 = .ok (.imul, 1) := by decide +kernel
theorem dX7_image_16 : decode cX7_image 16 = .ok (.istore_n 2, 1) := by decide +kernel
theorem dX7_image_17 : decode cX7_image 17 = .ok (.iconst 0, 1) := by decide +kernel
theorem dX7_image_18 : decode cX7_image 18 = .ok (.istore_n 3, 1) := by decide +kernel
theorem dX7_image_19 : decode cX7_image 19 = .ok (.iload_n 3, 1) := by decide +kernel
theorem dX7_image_20 : decode cX7_image 20 = .ok (.bipush 48, 2) := by decide +kernel
theorem dX7_image_22 : decode cX7_image 22 = .ok (.if_icmp .ge 23, 3) := by decide +kernel
theorem dX7_image_25 : decode cX7_image 25 = .ok (.aload_n 0, 1) := by decide +kernel
theorem dX7_image_26 : decode cX7_image 26 = .ok (.getfield 34, 3) := by decide +kernel
theorem dX7_image_29 : decode cX7_image 29 = .ok (.iload_n 2, 1) := by decide +kernel
theorem dX7_image_30 : decode cX7_image 30 = .ok (.iload_n 3, 1) := by decide +kernel
theorem dX7_image_31 : decode cX7_image 31 = .ok (.iadd, 1) := by decide +kernel
theorem dX7_image_32 : decode cX7_image 32 = .ok (.aload_n 0, 1) := by decide +kernel
theorem dX7_image_33 : decode cX7_image 33 = .ok (.getfield 7, 3) := by decide +kernel
theorem dX7_image_36 : decode cX7_image 36 = .ok (.iload_n 3, 1) := by decide +kernel
theorem dX7_image_37 : decode cX7_image 37 = .ok (.iaload, 1) := by decide +kernel
theorem dX7_image_38 : decode cX7_image 38 = .ok (.iastore, 1) := by decide +kernel
theorem dX7_image_39 : decode cX7_image 39 = .ok (.iinc 3 1, 3) := by decide +kernel
theorem dX7_image_42 : decode cX7_image 42 = .ok (.goto (-23), 3) := by decide +kernel
theorem dX7_image_45 : decode cX7_image 45 = .ok (.iconst 0, 1) := by decide +kernel
theorem dX7_image_46 : decode cX7_image 46 = .ok (.istore_n 3, 1) := by decide +kernel
theorem dX7_image_47 : decode cX7_image 47 = .ok (.iload_n 3, 1) := by decide +kernel
theorem dX7_image_48 : decode cX7_image 48 = .ok (.bipush 6, 2) := by decide +kernel
theorem dX7_image_50 : decode cX7_image 50 = .ok (.if_icmp .ge 77, 3) := by decide +kernel
theorem dX7_image_53 : decode cX7_image 53 = .ok (.aload_n 0, 1) := by decide +kernel
theorem dX7_image_54 : decode cX7_image 54 = .ok (.getfield 34, 3) := by decide +kernel
theorem dX7_image_57 : decode cX7_image 57 = .ok (.iload_n 2, 1) := by decide +kernel
theorem dX7_image_58 : decode cX7_image 58 = .ok (.bipush 48, 2) := by decide +kernel
theorem dX7_image_60 : decode cX7_image 60 = .ok (.iadd, 1) := by decide +kernel
theorem dX7_image_61 : decode cX7_image 61 = .ok (.iload_n 3, 1) := by decide +kernel
theorem dX7_image_62 : decode cX7_image 62 = .ok (.iadd, 1) := by decide +kernel
theorem dX7_image_63 : decode cX7_image 63 = .ok (.aload_n 0, 1) := by decide +kernel
theorem dX7_image_64 : decode cX7_image 64 = .ok (.getfield 13, 3) := by decide +kernel
theorem dX7_image_67 : decode cX7_image 67 = .ok (.iload_n 3, 1) := by decide +kernel
theorem dX7_image_68 : decode cX7_image 68 = .ok (.iaload, 1) := by decide +kernel
theorem dX7_image_69 : decode cX7_image 69 = .ok (.iastore, 1) := by decide +kernel
theorem dX7_image_70 : decode cX7_image 70 = .ok (.aload_n 0, 1) := by decide +kernel
theorem dX7_image_71 : decode cX7_image 71 = .ok (.getfield 34, 3) := by decide +kernel
theorem dX7_image_74 : decode cX7_image 74 = .ok (.iload_n 2, 1) := by decide +kernel
theorem dX7_image_75 : decode cX7_image 75 = .ok (.bipush 54, 2) := by decide +kernel
theorem dX7_image_77 : decode cX7_image 77 = .ok (.iadd, 1) := by decide +kernel
theorem dX7_image_78 : decode cX7_image 78 = .ok (.iload_n 3, 1) := by decide +kernel
theorem dX7_image_79 : decode cX7_image 79 = .ok (.iadd, 1) := by decide +kernel
theorem dX7_image_80 : decode cX7_image 80 = .ok (.aload_n 0, 1) := by decide +kernel
theorem dX7_image_81 : decode cX7_image 81 = .ok (.getfield 16, 3) := by decide +kernel
theorem dX7_image_84 : decode cX7_image 84 = .ok (.iload_n 3, 1) := by decide +kernel
theorem dX7_image_85 : decode cX7_image 85 = .ok (.iaload, 1) := by decide +kernel
theorem dX7_image_86 : decode cX7_image 86 = .ok (.iastore, 1) := by decide +kernel
theorem dX7_image_87 : decode cX7_image 87 = .ok (.aload_n 0, 1) := by decide +kernel
theorem dX7_image_88 : decode cX7_image 88 = .ok (.getfield 34, 3) := by decide +kernel
theorem dX7_image_91 : decode cX7_image 91 = .ok (.iload_n 2, 1) := by decide +kernel
theorem dX7_image_92 : decode cX7_image 92 = .ok (.bipush 60, 2) := by decide +kernel
theorem dX7_image_94 : decode cX7_image 94 = .ok (.iadd, 1) := by decide +kernel
theorem dX7_image_95 : decode cX7_image 95 = .ok (.iload_n 3, 1) := by decide +kernel
theorem dX7_image_96 : decode cX7_image 96 = .ok (.iadd, 1) := by decide +kernel
theorem dX7_image_97 : decode cX7_image 97 = .ok (.aload_n 0, 1) := by decide +kernel
theorem dX7_image_98 : decode cX7_image 98 = .ok (.getfield 19, 3) := by decide +kernel
theorem dX7_image_101 : decode cX7_image 101 = .ok (.iload_n 3, 1) := by decide +kernel
theorem dX7_image_102 : decode cX7_image 102 = .ok (.iaload, 1) := by decide +kernel
theorem dX7_image_103 : decode cX7_image 103 = .ok (.iastore, 1) := by decide +kernel
theorem dX7_image_104 : decode cX7_image 104 = .ok (.aload_n 0, 1) := by decide +kernel
theorem dX7_image_105 : decode cX7_image 105 = .ok (.getfield 34, 3) := by decide +kernel
theorem dX7_image_108 : decode cX7_image 108 = .ok (.iload_n 2, 1) := by decide +kernel
theorem dX7_image_109 : decode cX7_image 109 = .ok (.bipush 66, 2) := by decide +kernel
theorem dX7_image_111 : decode cX7_image 111 = .ok (.iadd, 1) := by decide +kernel
theorem dX7_image_112 : decode cX7_image 112 = .ok (.iload_n 3, 1) := by decide +kernel
theorem dX7_image_113 : decode cX7_image 113 = .ok (.iadd, 1) := by decide +kernel
theorem dX7_image_114 : decode cX7_image 114 = .ok (.aload_n 0, 1) := by decide +kernel
theorem dX7_image_115 : decode cX7_image 115 = .ok (.getfield 22, 3) := by decide +kernel
theorem dX7_image_118 : decode cX7_image 118 = .ok (.iload_n 3, 1) := by decide +kernel
theorem dX7_image_119 : decode cX7_image 119 = .ok (.iaload, 1) := by decide +kernel
theorem dX7_image_120 : decode cX7_image 120 = .ok (.iastore, 1) := by decide +kernel
theorem dX7_image_121 : decode cX7_image 121 = .ok (.iinc 3 1, 3) := by decide +kernel
theorem dX7_image_124 : decode cX7_image 124 = .ok (.goto (-77), 3) := by decide +kernel
theorem dX7_image_127 : decode cX7_image 127 = .ok (.iconst 0, 1) := by decide +kernel
theorem dX7_image_128 : decode cX7_image 128 = .ok (.istore_n 3, 1) := by decide +kernel
theorem dX7_image_129 : decode cX7_image 129 = .ok (.iload_n 3, 1) := by decide +kernel
theorem dX7_image_130 : decode cX7_image 130 = .ok (.bipush 12, 2) := by decide +kernel
theorem dX7_image_132 : decode cX7_image 132 = .ok (.if_icmp .ge 26, 3) := by decide +kernel
theorem dX7_image_135 : decode cX7_image 135 = .ok (.aload_n 0, 1) := by decide +kernel
theorem dX7_image_136 : decode cX7_image 136 = .ok (.getfield 34, 3) := by decide +kernel
theorem dX7_image_139 : decode cX7_image 139 = .ok (.iload_n 2, 1) := by decide +kernel
theorem dX7_image_140 : decode cX7_image 140 = .ok (.bipush 72, 2) := by decide +kernel
theorem dX7_image_142 : decode cX7_image 142 = .ok (.iadd, 1) := by decide +kernel
theorem dX7_image_143 : decode cX7_image 143 = .ok (.iload_n 3, 1) := by decide +kernel
theorem dX7_image_144 : decode cX7_image 144 = .ok (.iadd, 1) := by decide +kernel
theorem dX7_image_145 : decode cX7_image 145 = .ok (.aload_n 0, 1) := by decide +kernel
theorem dX7_image_146 : decode cX7_image 146 = .ok (.getfield 25, 3) := by decide +kernel
theorem dX7_image_149 : decode cX7_image 149 = .ok (.iload_n 3, 1) := by decide +kernel
theorem dX7_image_150 : decode cX7_image 150 = .ok (.iaload, 1) := by decide +kernel
theorem dX7_image_151 : decode cX7_image 151 = .ok (.iastore, 1) := by decide +kernel
theorem dX7_image_152 : decode cX7_image 152 = .ok (.iinc 3 1, 3) := by decide +kernel
theorem dX7_image_155 : decode cX7_image 155 = .ok (.goto (-26), 3) := by decide +kernel
theorem dX7_image_158 : decode cX7_image 158 = .ok (.aload_n 0, 1) := by decide +kernel
theorem dX7_image_159 : decode cX7_image 159 = .ok (.getfield 34, 3) := by decide +kernel
theorem dX7_image_162 : decode cX7_image 162 = .ok (.iload_n 2, 1) := by decide +kernel
theorem dX7_image_163 : decode cX7_image 163 = .ok (.bipush 84, 2) := by decide +kernel
theorem dX7_image_165 : decode cX7_image 165 = .ok (.iadd, 1) := by decide +kernel
theorem dX7_image_166 : decode cX7_image 166 = .ok (.aload_n 0, 1) := by decide +kernel
theorem dX7_image_167 : decode cX7_image 167 = .ok (.getfield 41, 3) := by decide +kernel
theorem dX7_image_170 : decode cX7_image 170 = .ok (.iastore, 1) := by decide +kernel
theorem dX7_image_171 : decode cX7_image 171 = .ok (.aload_n 0, 1) := by decide +kernel
theorem dX7_image_172 : decode cX7_image 172 = .ok (.getfield 34, 3) := by decide +kernel
theorem dX7_image_175 : decode cX7_image 175 = .ok (.iload_n 2, 1) := by decide +kernel
theorem dX7_image_176 : decode cX7_image 176 = .ok (.bipush 85, 2) := by decide +kernel
theorem dX7_image_178 : decode cX7_image 178 = .ok (.iadd, 1) := by decide +kernel
theorem dX7_image_179 : decode cX7_image 179 = .ok (.aload_n 0, 1) := by decide +kernel
theorem dX7_image_180 : decode cX7_image 180 = .ok (.getfield 74, 3) := by decide +kernel
theorem dX7_image_183 : decode cX7_image 183 = .ok (.iastore, 1) := by decide +kernel
theorem dX7_image_184 : decode cX7_image 184 = .ok (.aload_n 0, 1) := by decide +kernel
theorem dX7_image_185 : decode cX7_image 185 = .ok (.getfield 34, 3) := by decide +kernel
theorem dX7_image_188 : decode cX7_image 188 = .ok (.iload_n 2, 1) := by decide +kernel
theorem dX7_image_189 : decode cX7_image 189 = .ok (.bipush 86, 2) := by decide +kernel
theorem dX7_image_191 : decode cX7_image 191 = .ok (.iadd, 1) := by decide +kernel
theorem dX7_image_192 : decode cX7_image 192 = .ok (.aload_n 0, 1) := by decide +kernel
theorem dX7_image_193 : decode cX7_image 193 = .ok (.getfield 128, 3) := by decide +kernel
theorem dX7_image_196 : decode cX7_image 196 = .ok (.iastore, 1) := by decide +kernel
theorem dX7_image_197 : decode cX7_image 197 = .ok (.aload_n 0, 1) := by decide +kernel
theorem dX7_image_198 : decode cX7_image 198 = .ok (.getfield 37, 3) := by decide +kernel
theorem dX7_image_201 : decode cX7_image 201 = .ok (.iload_n 1, 1) := by decide +kernel
theorem dX7_image_202 : decode cX7_image 202 = .ok (.iconst 1, 1) := by decide +kernel
theorem dX7_image_203 : decode cX7_image 203 = .ok (.bastore, 1) := by decide +kernel
theorem dX7_image_204 : decode cX7_image 204 = .ok (.iconst 1, 1) := by decide +kernel
theorem dX7_image_205 : decode cX7_image 205 = .ok (.ireturn, 1) := by decide +kernel
theorem dX7_restore_0 : decode cX7_restore 0 = .ok (.iload_n 1, 1) := by decide +kernel
theorem dX7_restore_1 : decode cX7_restore 1 = .ok (.iconst 0, 1) := by decide +kernel
theorem dX7_restore_2 : decode cX7_restore 2 = .ok (.iconst 1, 1) := by decide +kernel
theorem dX7_restore_3 : decode cX7_restore 3 = .ok (.invokestatic 45, 3) := by decide +kernel
theorem dX7_restore_6 : decode cX7_restore 6 = .ok (.ifCond .ne 6, 3) := by decide +kernel
theorem dX7_restore_9 : decode cX7_restore 9 = .ok (.bipush (-2), 2) := by decide +kernel
theorem dX7_restore_11 : decode cX7_restore 11 = .ok (.ireturn, 1) := by decide +kernel
theorem dX7_restore_12 : decode cX7_restore 12 = .ok (.aload_n 0, 1) := by decide +kernel
theorem dX7_restore_13 : decode cX7_restore 13 = .ok (.getfield 37, 3) := by decide +kernel
theorem dX7_restore_16 : decode cX7_restore 16 = .ok (.iload_n 1, 1) := by decide +kernel
theorem dX7_restore_17 : decode cX7_restore 17 = .ok (.baload, 1) := by decide +kernel
theorem dX7_restore_18 : decode cX7_restore 18 = .ok (.ifCond .ne 6, 3) := by decide +kernel
theorem dX7_restore_21 : decode cX7_restore 21 = .ok (.bipush (-3), 2) := by decide +kernel
theorem dX7_restore_23 : decode cX7_restore 23 = .ok (.ireturn, 1) := by decide +kernel
theorem dX7_restore_24 : decode cX7_restore 24 = .ok (.bipush 100, 2) := by decide +kernel
theorem dX7_restore_26 : decode cX7_restore 26 = .ok (.iload_n 1, 1) := by decide +kernel
theorem dX7_restore_27 : decode cX7_restore 27 = .ok (.imul, 1) := by decide +kernel
theorem dX7_restore_28 : decode cX7_restore 28 = .ok (.istore_n 2, 1) := by decide +kernel
theorem dX7_restore_29 : decode cX7_restore 29 = .ok (.iconst 0, 1) := by decide +kernel
theorem dX7_restore_30 : decode cX7_restore 30 = .ok (.istore_n 3, 1) := by decide +kernel
theorem dX7_restore_31 : decode cX7_restore 31 = .ok (.iload_n 3, 1) := by decide +kernel
theorem dX7_restore_32 : decode cX7_restore 32 = .ok (.bipush 48, 2) := by decide +kernel
theorem dX7_restore_34 : decode cX7_restore 34 = .ok (.if_icmp .ge 23, 3) := by decide +kernel
theorem dX7_restore_37 : decode cX7_restore 37 = .ok (.aload_n 0, 1) := by decide +kernel
theorem dX7_restore_38 : decode cX7_restore 38 = .ok (.getfield 7, 3) := by decide +kernel
theorem dX7_restore_41 : decode cX7_restore 41 = .ok (.iload_n 3, 1) := by decide +kernel
theorem dX7_restore_42 : decode cX7_restore 42 = .ok (.aload_n 0, 1) := by decide +kernel
theorem dX7_restore_43 : decode cX7_restore 43 = .ok (.getfield 34, 3) := by decide +kernel
theorem dX7_restore_46 : decode cX7_restore 46 = .ok (.iload_n 2, 1) := by decide +kernel
theorem dX7_restore_47 : decode cX7_restore 47 = .ok (.iload_n 3, 1) := by decide +kernel
theorem dX7_restore_48 : decode cX7_restore 48 = .ok (.iadd, 1) := by decide +kernel
theorem dX7_restore_49 : decode cX7_restore 49 = .ok (.iaload, 1) := by decide +kernel
theorem dX7_restore_50 : decode cX7_restore 50 = .ok (.iastore, 1) := by decide +kernel
theorem dX7_restore_51 : decode cX7_restore 51 = .ok (.iinc 3 1, 3) := by decide +kernel
theorem dX7_restore_54 : decode cX7_restore 54 = .ok (.goto (-23), 3) := by decide +kernel
theorem dX7_restore_57 : decode cX7_restore 57 = .ok (.iconst 0, 1) := by decide +kernel
theorem dX7_restore_58 : decode cX7_restore 58 = .ok (.istore_n 3, 1) := by decide +kernel
theorem dX7_restore_59 : decode cX7_restore 59 = .ok (.iload_n 3, 1) := by decide +kernel
theorem dX7_restore_60 : decode cX7_restore 60 = .ok (.bipush 6, 2) := by decide +kernel
theorem dX7_restore_62 : decode cX7_restore 62 = .ok (.if_icmp .ge 77, 3) := by decide +kernel
theorem dX7_restore_65 : decode cX7_restore 65 = .ok (.aload_n 0, 1) := by decide +kernel
theorem dX7_restore_66 : decode cX7_restore 66 = .ok (.getfield 13, 3) := by decide +kernel
theorem dX7_restore_69 : decode cX7_restore 69 = .ok (.iload_n 3, 1) := by decide +kernel
theorem dX7_restore_70 : decode cX7_restore 70 = .ok (.aload_n 0, 1) := by decide +kernel
theorem dX7_restore_71 : decode cX7_restore 71 = .ok (.getfield 34, 3) := by decide +kernel
theorem dX7_restore_74 : decode cX7_restore 74 = .ok (.iload_n 2, 1) := by decide +kernel
theorem dX7_restore_75 : decode cX7_restore 75 = .ok (.bipush 48, 2) := by decide +kernel
theorem dX7_restore_77 : decode cX7_restore 77 = .ok (.iadd, 1) := by decide +kernel
theorem dX7_restore_78 : decode cX7_restore 78 = .ok (.iload_n 3, 1) := by decide +kernel
theorem dX7_restore_79 : decode cX7_restore 79 = .ok (.iadd, 1) := by decide +kernel
theorem dX7_restore_80 : decode cX7_restore 80 = .ok (.iaload, 1) := by decide +kernel
theorem dX7_restore_81 : decode cX7_restore 81 = .ok (.iastore, 1) := by decide +kernel
theorem dX7_restore_82 : decode cX7_restore 82 = .ok (.aload_n 0, 1) := by decide +kernel
theorem dX7_restore_83 : decode cX7_restore 83 = .ok (.getfield 16, 3) := by decide +kernel
theorem dX7_restore_86 : decode cX7_restore 86 = .ok (.iload_n 3, 1) := by decide +kernel
theorem dX7_restore_87 : decode cX7_restore 87 = .ok (.aload_n 0, 1) := by decide +kernel
theorem dX7_restore_88 : decode cX7_restore 88 = .ok (.getfield 34, 3) := by decide +kernel
theorem dX7_restore_91 : decode cX7_restore 91 = .ok (.iload_n 2, 1) := by decide +kernel
theorem dX7_restore_92 : decode cX7_restore 92 = .ok (.bipush 54, 2) := by decide +kernel
theorem dX7_restore_94 : decode cX7_restore 94 = .ok (.iadd, 1) := by decide +kernel
theorem dX7_restore_95 : decode cX7_restore 95 = .ok (.iload_n 3, 1) := by decide +kernel
theorem dX7_restore_96 : decode cX7_restore 96 = .ok (.iadd, 1) := by decide +kernel
theorem dX7_restore_97 : decode cX7_restore 97 = .ok (.iaload, 1) := by decide +kernel
theorem dX7_restore_98 : decode cX7_restore 98 = .ok (.iastore, 1) := by decide +kernel
theorem dX7_restore_99 : decode cX7_restore 99 = .ok (.aload_n 0, 1) := by decide +kernel
theorem dX7_restore_100 : decode cX7_restore 100 = .ok (.getfield 19, 3) := by decide +kernel
theorem dX7_restore_103 : decode cX7_restore 103 = .ok (.iload_n 3, 1) := by decide +kernel
theorem dX7_restore_104 : decode cX7_restore 104 = .ok (.aload_n 0, 1) := by decide +kernel
theorem dX7_restore_105 : decode cX7_restore 105 = .ok (.getfield 34, 3) := by decide +kernel
theorem dX7_restore_108 : decode cX7_restore 108 = .ok (.iload_n 2, 1) := by decide +kernel
theorem dX7_restore_109 : decode cX7_restore 109 = .ok (.bipush 60, 2) := by decide +kernel
theorem dX7_restore_111 : decode cX7_restore 111 = .ok (.iadd, 1) := by decide +kernel
theorem dX7_restore_112 : decode cX7_restore 112 = .ok (.iload_n 3, 1) := by decide +kernel
theorem dX7_restore_113 : decode cX7_restore 113 = .ok (.iadd, 1) := by decide +kernel
theorem dX7_restore_114 : decode cX7_restore 114 = .ok (.iaload, 1) := by decide +kernel
theorem dX7_restore_115 : decode cX7_restore 115 = .ok (.iastore, 1) := by decide +kernel
theorem dX7_restore_116 : decode cX7_restore 116 = .ok (.aload_n 0, 1) := by decide +kernel
theorem dX7_restore_117 : decode cX7_restore 117 = .ok (.getfield 22, 3) := by decide +kernel
theorem dX7_restore_120 : decode cX7_restore 120 = .ok (.iload_n 3, 1) := by decide +kernel
theorem dX7_restore_121 : decode cX7_restore 121 = .ok (.aload_n 0, 1) := by decide +kernel
theorem dX7_restore_122 : decode cX7_restore 122 = .ok (.getfield 34, 3) := by decide +kernel
theorem dX7_restore_125 : decode cX7_restore 125 = .ok (.iload_n 2, 1) := by decide +kernel
theorem dX7_restore_126 : decode cX7_restore 126 = .ok (.bipush 66, 2) := by decide +kernel
theorem dX7_restore_128 : decode cX7_restore 128 = .ok (.iadd, 1) := by decide +kernel
theorem dX7_restore_129 : decode cX7_restore 129 = .ok (.iload_n 3, 1) := by decide +kernel
theorem dX7_restore_130 : decode cX7_restore 130 = .ok (.iadd, 1) := by decide +kernel
theorem dX7_restore_131 : decode cX7_restore 131 = .ok (.iaload, 1) := by decide +kernel
theorem dX7_restore_132 : decode cX7_restore 132 = .ok (.iastore, 1) := by decide +kernel
theorem dX7_restore_133 : decode cX7_restore 133 = .ok (.iinc 3 1, 3) := by decide +kernel
theorem dX7_restore_136 : decode cX7_restore 136 = .ok (.goto (-77), 3) := by decide +kernel
theorem dX7_restore_139 : decode cX7_restore 139 = .ok (.iconst 0, 1) := by decide +kernel
theorem dX7_restore_140 : decode cX7_restore 140 = .ok (.istore_n 3, 1) := by decide +kernel
theorem dX7_restore_141 : decode cX7_restore 141 = .ok (.iload_n 3, 1) := by decide +kernel
theorem dX7_restore_142 : decode cX7_restore 142 = .ok (.bipush 12, 2) := by decide +kernel
theorem dX7_restore_144 : decode cX7_restore 144 = .ok (.if_icmp .ge 26, 3) := by decide +kernel
theorem dX7_restore_147 : decode cX7_restore 147 = .ok (.aload_n 0, 1) := by decide +kernel
theorem dX7_restore_148 : decode cX7_restore 148 = .ok (.getfield 25, 3) := by decide +kernel
theorem dX7_restore_151 : decode cX7_restore 151 = .ok (.iload_n 3, 1) := by decide +kernel
theorem dX7_restore_152 : decode cX7_restore 152 = .ok (.aload_n 0, 1) := by decide +kernel
theorem dX7_restore_153 : decode cX7_restore 153 = .ok (.getfield 34, 3) := by decide +kernel
theorem dX7_restore_156 : decode cX7_restore 156 = .ok (.iload_n 2, 1) := by decide +kernel
theorem dX7_restore_157 : decode cX7_restore 157 = .ok (.bipush 72, 2) := by decide +kernel
theorem dX7_restore_159 : decode cX7_restore 159 = .ok (.iadd, 1) := by decide +kernel
theorem dX7_restore_160 : decode cX7_restore 160 = .ok (.iload_n 3, 1) := by decide +kernel
theorem dX7_restore_161 : decode cX7_restore 161 = .ok (.iadd, 1) := by decide +kernel
theorem dX7_restore_162 : decode cX7_restore 162 = .ok (.iaload, 1) := by decide +kernel
theorem dX7_restore_163 : decode cX7_restore 163 = .ok (.iastore, 1) := by decide +kernel
theorem dX7_restore_164 : decode cX7_restore 164 = .ok (.iinc 3 1, 3) := by decide +kernel
theorem dX7_restore_167 : decode cX7_restore 167 = .ok (.goto (-26), 3) := by decide +kernel
theorem dX7_restore_170 : decode cX7_restore 170 = .ok (.aload_n 0, 1) := by decide +kernel
theorem dX7_restore_171 : decode cX7_restore 171 = .ok (.aload_n 0, 1) := by decide +kernel
theorem dX7_restore_172 : decode cX7_restore 172 = .ok (.getfield 34, 3) := by decide +kernel
theorem dX7_restore_175 : decode cX7_restore 175 = .ok (.iload_n 2, 1) := by decide +kernel
theorem dX7_restore_176 : decode cX7_restore 176 = .ok (.bipush 84, 2) := by decide +kernel
theorem dX7_restore_178 : decode cX7_restore 178 = .ok (.iadd, 1) := by decide +kernel
theorem dX7_restore_179 : decode cX7_restore 179 = .ok (.iaload, 1) := by decide +kernel
theorem dX7_restore_180 : decode cX7_restore 180 = .ok (.putfield 41, 3) := by decide +kernel
theorem dX7_restore_183 : decode cX7_restore 183 = .ok (.aload_n 0, 1) := by decide +kernel
theorem dX7_restore_184 : decode cX7_restore 184 = .ok (.aload_n 0, 1) := by decide +kernel
theorem dX7_restore_185 : decode cX7_restore 185 = .ok (.getfield 34, 3) := by decide +kernel
theorem dX7_restore_188 : decode cX7_restore 188 = .ok (.iload_n 2, 1) := by decide +kernel
theorem dX7_restore_189 : decode cX7_restore 189 = .ok (.bipush 85, 2) := by decide +kernel
theorem dX7_restore_191 : decode cX7_restore 191 = .ok (.iadd, 1) := by decide +kernel
theorem dX7_restore_192 : decode cX7_restore 192 = .ok (.iaload, 1) := by decide +kernel
theorem dX7_restore_193 : decode cX7_restore 193 = .ok (.putfield 74, 3) := by decide +kernel
theorem dX7_restore_196 : decode cX7_restore 196 = .ok (.aload_n 0, 1) := by decide +kernel
theorem dX7_restore_197 : decode cX7_restore 197 = .ok (.aload_n 0, 1) := by decide +kernel
theorem dX7_restore_198 : decode cX7_restore 198 = .ok (.getfield 34, 3) := by decide +kernel
theorem dX7_restore_201 : decode cX7_restore 201 = .ok (.iload_n 2, 1) := by decide +kernel
theorem dX7_restore_202 : decode cX7_restore 202 = .ok (.bipush 86, 2) := by decide +kernel
theorem dX7_restore_204 : decode cX7_restore 204 = .ok (.iadd, 1) := by decide +kernel
theorem dX7_restore_205 : decode cX7_restore 205 = .ok (.iaload, 1) := by decide +kernel
theorem dX7_restore_206 : decode cX7_restore 206 = .ok (.putfield 128, 3) := by decide +kernel
theorem dX7_restore_209 : decode cX7_restore 209 = .ok (.iconst 1, 1) := by decide +kernel
theorem dX7_restore_210 : decode cX7_restore 210 = .ok (.ireturn, 1) := by decide +kernel
theorem dX7_told_0 : decode cX7_told 0 = .ok (.iload_n 1, 1) := by decide +kernel
theorem dX7_told_1 : decode cX7_told 1 = .ok (.sipush 1000, 3) := by decide +kernel
theorem dX7_told_4 : decode cX7_told 4 = .ok (.if_icmp .lt 55, 3) := by decide +kernel
theorem dX7_told_7 : decode cX7_told 7 = .ok (.iload_n 1, 1) := by decide +kernel
theorem dX7_told_8 : decode cX7_told 8 = .ok (.sipush 1000, 3) := by decide +kernel
theorem dX7_told_11 : decode cX7_told 11 = .ok (.idiv, 1) := by decide +kernel
theorem dX7_told_12 : decode cX7_told 12 = .ok (.iconst 1, 1) := by decide +kernel
theorem dX7_told_13 : decode cX7_told 13 = .ok (.isub, 1) := by decide +kernel
theorem dX7_told_14 : decode cX7_told 14 = .ok (.istore_n 2, 1) := by decide +kernel
theorem dX7_told_15 : decode cX7_told 15 = .ok (.iload_n 1, 1) := by decide +kernel
theorem dX7_told_16 : decode cX7_told 16 = .ok (.sipush 1000, 3) := by decide +kernel
theorem dX7_told_19 : decode cX7_told 19 = .ok (.irem, 1) := by decide +kernel
theorem dX7_told_20 : decode cX7_told 20 = .ok (.istore_n 3, 1) := by decide +kernel
theorem dX7_told_21 : decode cX7_told 21 = .ok (.aload_n 0, 1) := by decide +kernel
theorem dX7_told_22 : decode cX7_told 22 = .ok (.iload_n 2, 1) := by decide +kernel
theorem dX7_told_23 : decode cX7_told 23 = .ok (.invokevirtual 97, 3) := by decide +kernel
theorem dX7_told_26 : decode cX7_told 26 = .ok (.ifCond .eq 8, 3) := by decide +kernel
theorem dX7_told_29 : decode cX7_told 29 = .ok (.iload_n 3, 1) := by decide +kernel
theorem dX7_told_30 : decode cX7_told 30 = .ok (.iconst 1, 1) := by decide +kernel
theorem dX7_told_31 : decode cX7_told 31 = .ok (.if_icmp .le 8, 3) := by decide +kernel
theorem dX7_told_34 : decode cX7_told 34 = .ok (.bipush (-2), 2) := by decide +kernel
theorem dX7_told_36 : decode cX7_told 36 = .ok (.goto 22, 3) := by decide +kernel
theorem dX7_told_39 : decode cX7_told 39 = .ok (.iload_n 3, 1) := by decide +kernel
theorem dX7_told_40 : decode cX7_told 40 = .ok (.ifCond .ne 12, 3) := by decide +kernel
theorem dX7_told_43 : decode cX7_told 43 = .ok (.aload_n 0, 1) := by decide +kernel
theorem dX7_told_44 : decode cX7_told 44 = .ok (.getfield 19, 3) := by decide +kernel
theorem dX7_told_47 : decode cX7_told 47 = .ok (.iload_n 2, 1) := by decide +kernel
theorem dX7_told_48 : decode cX7_told 48 = .ok (.iaload, 1) := by decide +kernel
theorem dX7_told_49 : decode cX7_told 49 = .ok (.goto 9, 3) := by decide +kernel
theorem dX7_told_52 : decode cX7_told 52 = .ok (.aload_n 0, 1) := by decide +kernel
theorem dX7_told_53 : decode cX7_told 53 = .ok (.getfield 22, 3) := by decide +kernel
theorem dX7_told_56 : decode cX7_told 56 = .ok (.iload_n 2, 1) := by decide +kernel
theorem dX7_told_57 : decode cX7_told 57 = .ok (.iaload, 1) := by decide +kernel
theorem dX7_told_58 : decode cX7_told 58 = .ok (.ireturn, 1) := by decide +kernel
theorem dX7_told_59 : decode cX7_told 59 = .ok (.iload_n 1, 1) := by decide +kernel
theorem dX7_told_60 : decode cX7_told 60 = .ok (.bipush 100, 2) := by decide +kernel
theorem dX7_told_62 : decode cX7_told 62 = .ok (.if_icmp .lt 51, 3) := by decide +kernel
theorem dX7_told_65 : decode cX7_told 65 = .ok (.iload_n 1, 1) := by decide +kernel
theorem dX7_told_66 : decode cX7_told 66 = .ok (.bipush 100, 2) := by decide +kernel
theorem dX7_told_68 : decode cX7_told 68 = .ok (.idiv, 1) := by decide +kernel
theorem dX7_told_69 : decode cX7_told 69 = .ok (.iconst 1, 1) := by decide +kernel
theorem dX7_told_70 : decode cX7_told 70 = .ok (.isub, 1) := by decide +kernel
theorem dX7_told_71 : decode cX7_told 71 = .ok (.istore_n 2, 1) := by decide +kernel
theorem dX7_told_72 : decode cX7_told 72 = .ok (.aload_n 0, 1) := by decide +kernel
theorem dX7_told_73 : decode cX7_told 73 = .ok (.iload_n 2, 1) := by decide +kernel
theorem dX7_told_74 : decode cX7_told 74 = .ok (.invokevirtual 67, 3) := by decide +kernel
theorem dX7_told_77 : decode cX7_told 77 = .ok (.ifCond .eq 33, 3) := by decide +kernel
theorem dX7_told_80 : decode cX7_told 80 = .ok (.iload_n 1, 1) := by decide +kernel
theorem dX7_told_81 : decode cX7_told 81 = .ok (.bipush 100, 2) := by decide +kernel
theorem dX7_told_83 : decode cX7_told 83 = .ok (.irem, 1) := by decide +kernel
theorem dX7_told_84 : decode cX7_told 84 = .ok (.aload_n 0, 1) := by decide +kernel
theorem dX7_told_85 : decode cX7_told 85 = .ok (.getfield 13, 3) := by decide +kernel
theorem dX7_told_88 : decode cX7_told 88 = .ok (.iload_n 2, 1) := by decide +kernel
theorem dX7_told_89 : decode cX7_told 89 = .ok (.iaload, 1) := by decide +kernel
theorem dX7_told_90 : decode cX7_told 90 = .ok (.if_icmp .ge 20, 3) := by decide +kernel
theorem dX7_told_93 : decode cX7_told 93 = .ok (.aload_n 0, 1) := by decide +kernel
theorem dX7_told_94 : decode cX7_told 94 = .ok (.getfield 7, 3) := by decide +kernel
theorem dX7_told_97 : decode cX7_told 97 = .ok (.bipush 8, 2) := by decide +kernel
theorem dX7_told_99 : decode cX7_told 99 = .ok (.iload_n 2, 1) := by decide +kernel
theorem dX7_told_100 : decode cX7_told 100 = .ok (.imul, 1) := by decide +kernel
theorem dX7_told_101 : decode cX7_told 101 = .ok (.iload_n 1, 1) := by decide +kernel
theorem dX7_told_102 : decode cX7_told 102 = .ok (.bipush 100, 2) := by decide +kernel
theorem dX7_told_104 : decode cX7_told 104 = .ok (.irem, 1) := by decide +kernel
theorem dX7_told_105 : decode cX7_told 105 = .ok (.iadd, 1) := by decide +kernel
theorem dX7_told_106 : decode cX7_told 106 = .ok (.iaload, 1) := by decide +kernel
theorem dX7_told_107 : decode cX7_told 107 = .ok (.goto 5, 3) := by decide +kernel
theorem dX7_told_110 : decode cX7_told 110 = .ok (.bipush (-2), 2) := by decide +kernel
theorem dX7_told_112 : decode cX7_told 112 = .ok (.ireturn, 1) := by decide +kernel
theorem dX7_told_113 : decode cX7_told 113 = .ok (.iload_n 1, 1) := by decide +kernel
theorem dX7_told_114 : decode cX7_told 114 = .ok (.bipush 10, 2) := by decide +kernel
theorem dX7_told_116 : decode cX7_told 116 = .ok (.irem, 1) := by decide +kernel
theorem dX7_told_117 : decode cX7_told 117 = .ok (.istore_n 2, 1) := by decide +kernel
theorem dX7_told_118 : decode cX7_told 118 = .ok (.iload_n 1, 1) := by decide +kernel
theorem dX7_told_119 : decode cX7_told 119 = .ok (.bipush 10, 2) := by decide +kernel
theorem dX7_told_121 : decode cX7_told 121 = .ok (.bipush 29, 2) := by decide +kernel
theorem dX7_told_123 : decode cX7_told 123 = .ok (.invokestatic 45, 3) := by decide +kernel
theorem dX7_told_126 : decode cX7_told 126 = .ok (.ifCond .eq 38, 3) := by decide +kernel
theorem dX7_told_129 : decode cX7_told 129 = .ok (.aload_n 0, 1) := by decide +kernel
theorem dX7_told_130 : decode cX7_told 130 = .ok (.iload_n 2, 1) := by decide +kernel
theorem dX7_told_131 : decode cX7_told 131 = .ok (.invokevirtual 67, 3) := by decide +kernel
theorem dX7_told_134 : decode cX7_told 134 = .ok (.ifCond .ne 8, 3) := by decide +kernel
theorem dX7_told_137 : decode cX7_told 137 = .ok (.bipush (-2), 2) := by decide +kernel
theorem dX7_told_139 : decode cX7_told 139 = .ok (.goto 24, 3) := by decide +kernel
theorem dX7_told_142 : decode cX7_told 142 = .ok (.iload_n 1, 1) := by decide +kernel
theorem dX7_told_143 : decode cX7_told 143 = .ok (.bipush 20, 2) := by decide +kernel
theorem dX7_told_145 : decode cX7_told 145 = .ok (.if_icmp .ge 12, 3) := by decide +kernel
theorem dX7_told_148 : decode cX7_told 148 = .ok (.aload_n 0, 1) := by decide +kernel
theorem dX7_told_149 : decode cX7_told 149 = .ok (.getfield 16, 3) := by decide +kernel
theorem dX7_told_152 : decode cX7_told 152 = .ok (.iload_n 2, 1) := by decide +kernel
theorem dX7_told_153 : decode cX7_told 153 = .ok (.iaload, 1) := by decide +kernel
theorem dX7_told_154 : decode cX7_told 154 = .ok (.goto 9, 3) := by decide +kernel
theorem dX7_told_157 : decode cX7_told 157 = .ok (.aload_n 0, 1) := by decide +kernel
theorem dX7_told_158 : decode cX7_told 158 = .ok (.getfield 13, 3) := by decide +kernel
theorem dX7_told_161 : decode cX7_told 161 = .ok (.iload_n 2, 1) := by decide +kernel
theorem dX7_told_162 : decode cX7_told 162 = .ok (.iaload, 1) := by decide +kernel
theorem dX7_told_163 : decode cX7_told 163 = .ok (.ireturn, 1) := by decide +kernel
theorem dX7_told_164 : decode cX7_told 164 = .ok (.iload_n 1, 1) := by decide +kernel
theorem dX7_told_165 : decode cX7_told 165 = .ok (.tableswitch 42 0 2 #[27, 32, 37], 27) := by decide +kernel
theorem dX7_told_192 : decode cX7_told 192 = .ok (.aload_n 0, 1) := by decide +kernel
theorem dX7_told_193 : decode cX7_told 193 = .ok (.getfield 53, 3) := by decide +kernel
theorem dX7_told_196 : decode cX7_told 196 = .ok (.ireturn, 1) := by decide +kernel
theorem dX7_told_197 : decode cX7_told 197 = .ok (.aload_n 0, 1) := by decide +kernel
theorem dX7_told_198 : decode cX7_told 198 = .ok (.getfield 41, 3) := by decide +kernel
theorem dX7_told_201 : decode cX7_told 201 = .ok (.ireturn, 1) := by decide +kernel
theorem dX7_told_202 : decode cX7_told 202 = .ok (.aload_n 0, 1) := by decide +kernel
theorem dX7_told_203 : decode cX7_told 203 = .ok (.getfield 74, 3) := by decide +kernel
theorem dX7_told_206 : decode cX7_told 206 = .ok (.ireturn, 1) := by decide +kernel
theorem dX7_told_207 : decode cX7_told 207 = .ok (.iload_n 1, 1) := by decide +kernel
theorem dX7_told_208 : decode cX7_told 208 = .ok (.iconst 3, 1) := by decide +kernel
theorem dX7_told_209 : decode cX7_told 209 = .ok (.if_icmp .ne 10, 3) := by decide +kernel
theorem dX7_told_212 : decode cX7_told 212 = .ok (.aload_n 0, 1) := by decide +kernel
theorem dX7_told_213 : decode cX7_told 213 = .ok (.getfield 128, 3) := by decide +kernel
theorem dX7_told_216 : decode cX7_told 216 = .ok (.goto 5, 3) := by decide +kernel
theorem dX7_told_219 : decode cX7_told 219 = .ok (.bipush (-2), 2) := by decide +kernel
theorem dX7_told_221 : decode cX7_told 221 = .ok (.ireturn, 1) := by decide +kernel
theorem dJ6_bitCount_0f7a4_0 : decode cJ6_bitCount_0f7a4 0 = .ok (.iload_n 0, 1) := by decide +kernel
theorem dJ6_bitCount_0f7a4_1 : decode cJ6_bitCount_0f7a4 1 = .ok (.iload_n 0, 1) := by decide +kernel
theorem dJ6_bitCount_0f7a4_2 : decode cJ6_bitCount_0f7a4 2 = .ok (.iconst 1, 1) := by decide +kernel
theorem dJ6_bitCount_0f7a4_3 : decode cJ6_bitCount_0f7a4 3 = .ok (.iushr, 1) := by decide +kernel
theorem dJ6_bitCount_0f7a4_4 : decode cJ6_bitCount_0f7a4 4 = .ok (.ldc_w 265, 3) := by decide +kernel
theorem dJ6_bitCount_0f7a4_7 : decode cJ6_bitCount_0f7a4 7 = .ok (.iand, 1) := by decide +kernel
theorem dJ6_bitCount_0f7a4_8 : decode cJ6_bitCount_0f7a4 8 = .ok (.isub, 1) := by decide +kernel
theorem dJ6_bitCount_0f7a4_9 : decode cJ6_bitCount_0f7a4 9 = .ok (.istore_n 0, 1) := by decide +kernel
theorem dJ6_bitCount_0f7a4_10 : decode cJ6_bitCount_0f7a4 10 = .ok (.iload_n 0, 1) := by decide +kernel
theorem dJ6_bitCount_0f7a4_11 : decode cJ6_bitCount_0f7a4 11 = .ok (.ldc_w 266, 3) := by decide +kernel
theorem dJ6_bitCount_0f7a4_14 : decode cJ6_bitCount_0f7a4 14 = .ok (.iand, 1) := by decide +kernel
theorem dJ6_bitCount_0f7a4_15 : decode cJ6_bitCount_0f7a4 15 = .ok (.iload_n 0, 1) := by decide +kernel
theorem dJ6_bitCount_0f7a4_16 : decode cJ6_bitCount_0f7a4 16 = .ok (.iconst 2, 1) := by decide +kernel
theorem dJ6_bitCount_0f7a4_17 : decode cJ6_bitCount_0f7a4 17 = .ok (.iushr, 1) := by decide +kernel
theorem dJ6_bitCount_0f7a4_18 : decode cJ6_bitCount_0f7a4 18 = .ok (.ldc_w 266, 3) := by decide +kernel
theorem dJ6_bitCount_0f7a4_21 : decode cJ6_bitCount_0f7a4 21 = .ok (.iand, 1) := by decide +kernel
theorem dJ6_bitCount_0f7a4_22 : decode cJ6_bitCount_0f7a4 22 = .ok (.iadd, 1) := by decide +kernel
theorem dJ6_bitCount_0f7a4_23 : decode cJ6_bitCount_0f7a4 23 = .ok (.istore_n 0, 1) := by decide +kernel
theorem dJ6_bitCount_0f7a4_24 : decode cJ6_bitCount_0f7a4 24 = .ok (.iload_n 0, 1) := by decide +kernel
theorem dJ6_bitCount_0f7a4_25 : decode cJ6_bitCount_0f7a4 25 = .ok (.iload_n 0, 1) := by decide +kernel
theorem dJ6_bitCount_0f7a4_26 : decode cJ6_bitCount_0f7a4 26 = .ok (.iconst 4, 1) := by decide +kernel
theorem dJ6_bitCount_0f7a4_27 : decode cJ6_bitCount_0f7a4 27 = .ok (.iushr, 1) := by decide +kernel
theorem dJ6_bitCount_0f7a4_28 : decode cJ6_bitCount_0f7a4 28 = .ok (.iadd, 1) := by decide +kernel
