theorem dX6_whose_4 : decode cX6_whose 4 = .ok (.iload_n 3, 1) := by decide +kernel
theorem dX6_whose_5 : decode cX6_whose 5 = .ok (.bipush 6, 2) := by decide +kernel
theorem dX6_whose_7 : decode cX6_whose 7 = .ok (.if_icmp .ge 54, 3) := by decide +kernel
theorem dX6_whose_10 : decode cX6_whose 10 = .ok (.iconst 0, 1) := by decide +kernel
theorem dX6_whose_11 : decode cX6_whose 11 = .ok (.istore 4, 2) := by decide +kernel
theorem dX6_whose_13 : decode cX6_whose 13 = .ok (.iload 4, 2) := by decide +kernel
theorem dX6_whose_15 : decode cX6_whose 15 = .ok (.bipush 8, 2) := by decide +kernel
theorem dX6_whose_17 : decode cX6_whose 17 = .ok (.if_icmp .ge 38, 3) := by decide +kernel
theorem dX6_whose_20 : decode cX6_whose 20 = .ok (.aload_n 0, 1) := by decide +kernel
theorem dX6_whose_21 : decode cX6_whose 21 = .ok (.getfield 19, 3) := by decide +kernel
theorem dX6_whose_24 : decode cX6_whose 24 = .ok (.iload_n 3, 1) := by decide +kernel
theorem dX6_whose_25 : decode cX6_whose 25 = .ok (.iload 4, 2) := by decide +kernel
theorem dX6_whose_27 : decode cX6_whose 27 = .ok (.invokevirtual 188, 3) := by decide +kernel
theorem dX6_whose_30 : decode cX6_whose 30 = .ok (.ifCond .eq 19, 3) := by decide +kernel
theorem dX6_whose_33 : decode cX6_whose 33 = .ok (.iload_n 2, 1) := by decide +kernel
theorem dX6_whose_34 : decode cX6_whose 34 = .ok (.iload_n 1, 1) := by decide +kernel
theorem dX6_whose_35 : decode cX6_whose 35 = .ok (.if_icmp .ne 11, 3) := by decide +kernel
theorem dX6_whose_38 : decode cX6_whose 38 = .ok (.bipush 10, 2) := by decide +kernel
theorem dX6_whose_40 : decode cX6_whose 40 = .ok (.iload_n 3, 1) := by decide +kernel
theorem dX6_whose_41 : decode cX6_whose 41 = .ok (.imul, 1) := by decide +kernel
theorem dX6_whose_42 : decode cX6_whose 42 = .ok (.iload 4, 2) := by decide +kernel
theorem dX6_whose_44 : decode cX6_whose 44 = .ok (.iadd, 1) := by decide +kernel
theorem dX6_whose_45 : decode cX6_whose 45 = .ok (.ireturn, 1) := by decide +kernel
theorem dX6_whose_46 : decode cX6_whose 46 = .ok (.iinc 2 1, 3) := by decide +kernel
theorem dX6_whose_49 : decode cX6_whose 49 = .ok (.iinc 4 1, 3) := by decide +kernel
theorem dX6_whose_52 : decode cX6_whose 52 = .ok (.goto (-39), 3) := by decide +kernel
theorem dX6_whose_55 : decode cX6_whose 55 = .ok (.iinc 3 1, 3) := by decide +kernel
theorem dX6_whose_58 : decode cX6_whose 58 = .ok (.goto (-54), 3) := by decide +kernel
theorem dX6_whose_61 : decode cX6_whose 61 = .ok (.iload_n 1, 1) := by decide +kernel
theorem dX6_whose_62 : decode cX6_whose 62 = .ok (.iconst (-1), 1) := by decide +kernel
theorem dX6_whose_63 : decode cX6_whose 63 = .ok (.if_icmp .ne 7, 3) := by decide +kernel
theorem dX6_whose_66 : decode cX6_whose 66 = .ok (.iload_n 2, 1) := by decide +kernel
theorem dX6_whose_67 : decode cX6_whose 67 = .ok (.goto 5, 3) := by decide +kernel
theorem dX6_whose_70 : decode cX6_whose 70 = .ok (.bipush (-6), 2) := by decide +kernel
theorem dX6_whose_72 : decode cX6_whose 72 = .ok (.ireturn, 1) := by decide +kernel
theorem dX6_sure_0 : decode cX6_sure 0 = .ok (.iload_n 1, 1) := by decide +kernel
theorem dX6_sure_1 : decode cX6_sure 1 = .ok (.invokestatic 92, 3) := by decide +kernel
theorem dX6_sure_4 : decode cX6_sure 4 = .ok (.ifCond .ne 6, 3) := by decide +kernel
theorem dX6_sure_7 : decode cX6_sure 7 = .ok (.bipush (-2), 2) := by decide +kernel
theorem dX6_sure_9 : decode cX6_sure 9 = .ok (.ireturn, 1) := by decide +kernel
theorem dX6_sure_10 : decode cX6_sure 10 = .ok (.iconst 0, 1) := by decide +kernel
theorem dX6_sure_11 : decode cX6_sure 11 = .ok (.istore_n 2, 1) := by decide +kernel
theorem dX6_sure_12 : decode cX6_sure 12 = .ok (.iconst 0, 1) := by decide +kernel
theorem dX6_sure_13 : decode cX6_sure 13 = .ok (.istore_n 3, 1) := by decide +kernel
theorem dX6_sure_14 : decode cX6_sure 14 = .ok (.iconst 0, 1) := by decide +kernel
theorem dX6_sure_15 : decode cX6_sure 15 = .ok (.istore 4, 2) := by decide +kernel
theorem dX6_sure_17 : decode cX6_sure 17 = .ok (.iload 4, 2) := by decide +kernel
theorem dX6_sure_19 : decode cX6_sure 19 = .ok (.bipush 6, 2) := by decide +kernel
theorem dX6_sure_21 : decode cX6_sure 21 = .ok (.if_icmp .ge 68, 3) := by decide +kernel
theorem dX6_sure_24 : decode cX6_sure 24 = .ok (.iconst 0, 1) := by decide +kernel
theorem dX6_sure_25 : decode cX6_sure 25 = .ok (.istore 5, 2) := by decide +kernel
theorem dX6_sure_27 : decode cX6_sure 27 = .ok (.iload 5, 2) := by decide +kernel
theorem dX6_sure_29 : decode cX6_sure 29 = .ok (.bipush 8, 2) := by decide +kernel
theorem dX6_sure_31 : decode cX6_sure 31 = .ok (.if_icmp .ge 52, 3) := by decide +kernel
theorem dX6_sure_34 : decode cX6_sure 34 = .ok (.aload_n 0, 1) := by decide +kernel
theorem dX6_sure_35 : decode cX6_sure 35 = .ok (.getfield 19, 3) := by decide +kernel
theorem dX6_sure_38 : decode cX6_sure 38 = .ok (.iload 4, 2) := by decide +kernel
theorem dX6_sure_40 : decode cX6_sure 40 = .ok (.iload 5, 2) := by decide +kernel
theorem dX6_sure_42 : decode cX6_sure 42 = .ok (.invokevirtual 188, 3) := by decide +kernel
theorem dX6_sure_45 : decode cX6_sure 45 = .ok (.ifCond .eq 32, 3) := by decide +kernel
theorem dX6_sure_48 : decode cX6_sure 48 = .ok (.iinc 2 1, 3) := by decide +kernel
theorem dX6_sure_51 : decode cX6_sure 51 = .ok (.iload_n 3, 1) := by decide +kernel
theorem dX6_sure_52 : decode cX6_sure 52 = .ok (.aload_n 0, 1) := by decide +kernel
theorem dX6_sure_53 : decode cX6_sure 53 = .ok (.getfield 19, 3) := by decide +kernel
theorem dX6_sure_56 : decode cX6_sure 56 = .ok (.getfield 56, 3) := by decide +kernel
theorem dX6_sure_59 : decode cX6_sure 59 = .ok (.iload 4, 2) := by decide +kernel
theorem dX6_sure_61 : decode cX6_sure 61 = .ok (.iload_n 1, 1) := by decide +kernel
theorem dX6_sure_62 : decode cX6_sure 62 = .ok (.invokevirtual 95, 3) := by decide +kernel
theorem dX6_sure_65 : decode cX6_sure 65 = .ok (.iload 5, 2) := by decide +kernel
theorem dX6_sure_67 : decode cX6_sure 67 = .ok (.if_icmp .ne 7, 3) := by decide +kernel
theorem dX6_sure_70 : decode cX6_sure 70 = .ok (.iconst 1, 1) := by decide +kernel
theorem dX6_sure_71 : decode cX6_sure 71 = .ok (.goto 4, 3) := by decide +kernel
theorem dX6_sure_74 : decode cX6_sure 74 = .ok (.iconst 0, 1) := by decide +kernel
theorem dX6_sure_75 : decode cX6_sure 75 = .ok (.iadd, 1) := by decide +kernel
theorem dX6_sure_76 : decode cX6_sure 76 = .ok (.istore_n 3, 1) := by decide +kernel
theorem dX6_sure_77 : decode cX6_sure 77 = .ok (.iinc 5 1, 3) := by decide +kernel
theorem dX6_sure_80 : decode cX6_sure 80 = .ok (.goto (-53), 3) := by decide +kernel
theorem dX6_sure_83 : decode cX6_sure 83 = .ok (.iinc 4 1, 3) := by decide +kernel
theorem dX6_sure_86 : decode cX6_sure 86 = .ok (.goto (-69), 3) := by decide +kernel
theorem dX6_sure_89 : decode cX6_sure 89 = .ok (.iload_n 2, 1) := by decide +kernel
theorem dX6_sure_90 : decode cX6_sure 90 = .ok (.ifCond .ne 6, 3) := by decide +kernel
theorem dX6_sure_93 : decode cX6_sure 93 = .ok (.bipush (-6), 2) := by decide +kernel
theorem dX6_sure_95 : decode cX6_sure 95 = .ok (.ireturn, 1) := by decide +kernel
theorem dX6_sure_96 : decode cX6_sure 96 = .ok (.iload_n 3, 1) := by decide +kernel
theorem dX6_sure_97 : decode cX6_sure 97 = .ok (.ifCond .ne 5, 3) := by decide +kernel
theorem dX6_sure_100 : decode cX6_sure 100 = .ok (.iconst 0, 1) := by decide +kernel
theorem dX6_sure_101 : decode cX6_sure 101 = .ok (.ireturn, 1) := by decide +kernel
theorem dX6_sure_102 : decode cX6_sure 102 = .ok (.iload_n 3, 1) := by decide +kernel
theorem dX6_sure_103 : decode cX6_sure 103 = .ok (.iload_n 2, 1) := by decide +kernel
theorem dX6_sure_104 : decode cX6_sure 104 = .ok (.if_icmp .ne 7, 3) := by decide +kernel
theorem dX6_sure_107 : decode cX6_sure 107 = .ok (.iconst 1, 1) := by decide +kernel
theorem dX6_sure_108 : decode cX6_sure 108 = .ok (.goto 4, 3) := by decide +kernel
theorem dX6_sure_111 : decode cX6_sure 111 = .ok (.iconst 2, 1) := by decide +kernel
theorem dX6_sure_112 : decode cX6_sure 112 = .ok (.ireturn, 1) := by decide +kernel
theorem dX6_chance_0 : decode cX6_chance 0 = .ok (.iload_n 1, 1) := by decide +kernel
theorem dX6_chance_1 : decode cX6_chance 1 = .ok (.bipush 8, 2) := by decide +kernel
theorem dX6_chance_3 : decode cX6_chance 3 = .ok (.invokestatic 42, 3) := by decide +kernel
theorem dX6_chance_6 : decode cX6_chance 6 = .ok (.ifCond .ne 7, 3) := by decide +kernel
theorem dX6_chance_9 : decode cX6_chance 9 = .ok (.ldc2_w 191, 3) := by decide +kernel
theorem dX6_chance_12 : decode cX6_chance 12 = .ok (.lreturn, 1) := by decide +kernel
theorem dX6_chance_13 : decode cX6_chance 13 = .ok (.iload_n 2, 1) := by decide +kernel
theorem dX6_chance_14 : decode cX6_chance 14 = .ok (.invokestatic 92, 3) := by decide +kernel
theorem dX6_chance_17 : decode cX6_chance 17 = .ok (.ifCond .eq 11, 3) := by decide +kernel
theorem dX6_chance_20 : decode cX6_chance 20 = .ok (.iload_n 3, 1) := by decide +kernel
theorem dX6_chance_21 : decode cX6_chance 21 = .ok (.iconst 2, 1) := by decide +kernel
theorem dX6_chance_22 : decode cX6_chance 22 = .ok (.invokestatic 42, 3) := by decide +kernel
theorem dX6_chance_25 : decode cX6_chance 25 = .ok (.ifCond .ne 7, 3) := by decide +kernel
theorem dX6_chance_28 : decode cX6_chance 28 = .ok (.ldc2_w 193, 3) := by decide +kernel
theorem dX6_chance_31 : decode cX6_chance 31 = .ok (.lreturn, 1) := by decide +kernel
theorem dX6_chance_32 : decode cX6_chance 32 = .ok (.iload_n 1, 1) := by decide +kernel
theorem dX6_chance_33 : decode cX6_chance 33 = .ok (.iload_n 2, 1) := by decide +kernel
theorem dX6_chance_34 : decode cX6_chance 34 = .ok (.iload_n 3, 1) := by decide +kernel
theorem dX6_chance_35 : decode cX6_chance 35 = .ok (.invokestatic 195, 3) := by decide +kernel
theorem dX6_chance_38 : decode cX6_chance 38 = .ok (.lreturn, 1) := by decide +kernel
theorem dX6_shares_0 : decode cX6_shares 0 = .ok (.aload_n 0, 1) := by decide +kernel
theorem dX6_shares_1 : decode cX6_shares 1 = .ok (.iload_n 1, 1) := by decide +kernel
theorem dX6_shares_2 : decode cX6_shares 2 = .ok (.invokevirtual 69, 3) := by decide +kernel
theorem dX6_shares_5 : decode cX6_shares 5 = .ok (.ifCond .ne 7, 3) := by decide +kernel
theorem dX6_shares_8 : decode cX6_shares 8 = .ok (.ldc2_w 191, 3) := by decide +kernel
theorem dX6_shares_11 : decode cX6_shares 11 = .ok (.lreturn, 1) := by decide +kernel
theorem dX6_shares_12 : decode cX6_shares 12 = .ok (.iload_n 2, 1) := by decide +kernel
theorem dX6_shares_13 : decode cX6_shares 13 = .ok (.invokestatic 92, 3) := by decide +kernel
theorem dX6_shares_16 : decode cX6_shares 16 = .ok (.ifCond .eq 11, 3) := by decide +kernel
theorem dX6_shares_19 : decode cX6_shares 19 = .ok (.iload_n 3, 1) := by decide +kernel
theorem dX6_shares_20 : decode cX6_shares 20 = .ok (.iconst 2, 1) := by decide +kernel
theorem dX6_shares_21 : decode cX6_shares 21 = .ok (.invokestatic 42, 3) := by decide +kernel
theorem dX6_shares_24 : decode cX6_shares 24 = .ok (.ifCond .ne 7, 3) := by decide +kernel
theorem dX6_shares_27 : decode cX6_shares 27 = .ok (.ldc2_w 193, 3) := by decide +kernel
theorem dX6_shares_30 : decode cX6_shares 30 = .ok (.lreturn, 1) := by decide +kernel
theorem dX6_shares_31 : decode cX6_shares 31 = .ok (.aload_n 0, 1) := by decide +kernel
theorem dX6_shares_32 : decode cX6_shares 32 = .ok (.getfield 19, 3) := by decide +kernel
theorem dX6_shares_35 : decode cX6_shares 35 = .ok (.getfield 56, 3) := by decide +kernel
theorem dX6_shares_38 : decode cX6_shares 38 = .ok (.iload_n 1, 1) := by decide +kernel
theorem dX6_shares_39 : decode cX6_shares 39 = .ok (.iload_n 2, 1) := by decide +kernel
theorem dX6_shares_40 : decode cX6_shares 40 = .ok (.invokevirtual 95, 3) := by decide +kernel
theorem dX6_shares_43 : decode cX6_shares 43 = .ok (.iload_n 2, 1) := by decide +kernel
theorem dX6_shares_44 : decode cX6_shares 44 = .ok (.iload_n 3, 1) := by decide +kernel
theorem dX6_shares_45 : decode cX6_shares 45 = .ok (.invokestatic 195, 3) := by decide +kernel
theorem dX6_shares_48 : decode cX6_shares 48 = .ok (.lreturn, 1) := by decide +kernel
theorem dX6_year_0 : decode cX6_year 0 = .ok (.iload_n 1, 1) := by decide +kernel
theorem dX6_year_1 : decode cX6_year 1 = .ok (.sipush 10000, 3) := by decide +kernel
theorem dX6_year_4 : decode cX6_year 4 = .ok (.invokestatic 42, 3) := by decide +kernel
theorem dX6_year_7 : decode cX6_year 7 = .ok (.ifCond .eq 23, 3) := by decide +kernel
theorem dX6_year_10 : decode cX6_year 10 = .ok (.iload_n 2, 1) := by decide +kernel
theorem dX6_year_11 : decode cX6_year 11 = .ok (.iconst 1, 1) := by decide +kernel
theorem dX6_year_12 : decode cX6_year 12 = .ok (.if_icmp .lt 18, 3) := by decide +kernel
theorem dX6_year_15 : decode cX6_year 15 = .ok (.iload_n 2, 1) := by decide +kernel
theorem dX6_year_16 : decode cX6_year 16 = .ok (.sipush 999, 3) := by decide +kernel
theorem dX6_year_19 : decode cX6_year 19 = .ok (.if_icmp .gt 11, 3) := by decide +kernel
theorem dX6_year_22 : decode cX6_year 22 = .ok (.iload_n 3, 1) := by decide +kernel
theorem dX6_year_23 : decode cX6_year 23 = .ok (.iconst 3, 1) := by decide +kernel
theorem dX6_year_24 : decode cX6_year 24 = .ok (.invokestatic 42, 3) := by decide +kernel
theorem dX6_year_27 : decode cX6_year 27 = .ok (.ifCond .ne 6, 3) := by decide +kernel
theorem dX6_year_30 : decode cX6_year 30 = .ok (.bipush (-2), 2) := by decide +kernel
theorem dX6_year_32 : decode cX6_year 32 = .ok (.ireturn, 1) := by decide +kernel
theorem dX6_year_33 : decode cX6_year 33 = .ok (.iload_n 1, 1) := by decide +kernel
theorem dX6_year_34 : decode cX6_year 34 = .ok (.istore 4, 2) := by decide +kernel
theorem dX6_year_36 : decode cX6_year 36 = .ok (.iconst 0, 1) := by decide +kernel
theorem dX6_year_37 : decode cX6_year 37 = .ok (.istore 5, 2) := by decide +kernel
theorem dX6_year_39 : decode cX6_year 39 = .ok (.iconst 0, 1) := by decide +kernel
theorem dX6_year_40 : decode cX6_year 40 = .ok (.istore 6, 2) := by decide +kernel
theorem dX6_year_42 : decode cX6_year 42 = .ok (.iconst 0, 1) := by decide +kernel
theorem dX6_year_43 : decode cX6_year 43 = .ok (.istore 7, 2) := by decide +kernel
theorem dX6_year_45 : decode cX6_year 45 = .ok (.iconst 0, 1) := by decide +kernel
theorem dX6_year_46 : decode cX6_year 46 = .ok (.istore 8, 2) := by decide +kernel
theorem dX6_year_48 : decode cX6_year 48 = .ok (.iconst 0, 1) := by decide +kernel
theorem dX6_year_49 : decode cX6_year 49 = .ok (.istore 9, 2) := by decide +kernel
theorem dX6_year_51 : decode cX6_year 51 = .ok (.iload 9, 2) := by decide +kernel
theorem dX6_year_53 : decode cX6_year 53 = .ok (.iload_n 2, 1) := by decide +kernel
theorem dX6_year_54 : decode cX6_year 54 = .ok (.if_icmp .ge 118, 3) := by decide +kernel
theorem dX6_year_57 : decode cX6_year 57 = .ok (.bipush 75, 2) := by decide +kernel
theorem dX6_year_59 : decode cX6_year 59 = .ok (.iload 4, 2) := by decide +kernel
theorem dX6_year_61 : decode cX6_year 61 = .ok (.imul, 1) := by decide +kernel
theorem dX6_year_62 : decode cX6_year 62 = .ok (.bipush 74, 2) := by decide +kernel
theorem dX6_year_64 : decode cX6_year 64 = .ok (.iadd, 1) := by decide +kernel
theorem dX6_year_65 : decode cX6_year 65 = .ok (.ldc 199, 2) := by decide +kernel
theorem dX6_year_67 : decode cX6_year 67 = .ok (.irem, 1) := by decide +kernel
theorem dX6_year_68 : decode cX6_year 68 = .ok (.istore 4, 2) := by decide +kernel
theorem dX6_year_70 : decode cX6_year 70 = .ok (.iload 4, 2) := by decide +kernel
theorem dX6_year_72 : decode cX6_year 72 = .ok (.bipush 6, 2) := by decide +kernel
theorem dX6_year_74 : decode cX6_year 74 = .ok (.irem, 1) := by decide +kernel
theorem dX6_year_75 : decode cX6_year 75 = .ok (.istore 10, 2) := by decide +kernel
theorem dX6_year_77 : decode cX6_year 77 = .ok (.iload 4, 2) := by decide +kernel
theorem dX6_year_79 : decode cX6_year 79 = .ok (.bipush 6, 2) := by decide +kernel
theorem dX6_year_81 : decode cX6_year 81 = .ok (.idiv, 1) := by decide +kernel
theorem dX6_year_82 : decode cX6_year 82 = .ok (.bipush 6, 2) := by decide +kernel
theorem dX6_year_84 : decode cX6_year 84 = .ok (.irem, 1) := by decide +kernel
theorem dX6_year_85 : decode cX6_year 85 = .ok (.istore 11, 2) := by decide +kernel
theorem dX6_year_87 : decode cX6_year 87 = .ok (.aload_n 0, 1) := by decide +kernel
theorem dX6_year_88 : decode cX6_year 88 = .ok (.iload 10, 2) := by decide +kernel
theorem dX6_year_90 : decode cX6_year 90 = .ok (.iload 11, 2) := by decide +kernel
theorem dX6_year_92 : decode cX6_year 92 = .ok (.invokevirtual 108, 3) := by decide +kernel
theorem dX6_year_95 : decode cX6_year 95 = .ok (.ifCond .eq 71, 3) := by decide +kernel
theorem dX6_year_98 : decode cX6_year 98 = .ok (.aload_n 0, 1) := by decide +kernel
theorem dX6_year_99 : decode cX6_year 99 = .ok (.getfield 19, 3) := by decide +kernel
theorem dX6_year_102 : decode cX6_year 102 = .ok (.getfield 56, 3) := by decide +kernel
theorem dX6_year_105 : decode cX6_year 105 = .ok (.iload 10, 2) := by decide +kernel
theorem dX6_year_107 : decode cX6_year 107 = .ok (.iload 11, 2) := by decide +kernel
theorem dX6_year_109 : decode cX6_year 109 = .ok (.iload 9, 2) := by decide +kernel
theorem dX6_year_111 : decode cX6_year 111 = .ok (.invokevirtual 200, 3) := by decide +kernel
theorem dX6_year_114 : decode cX6_year 114 = .ok (.ifCond .eq 52, 3) := by decide +kernel
theorem dX6_year_117 : decode cX6_year 117 = .ok (.iload 5, 2) := by decide +kernel
theorem dX6_year_119 : decode cX6_year 119 = .ok (.ifCond .ne 7, 3) := by decide +kernel
theorem dX6_year_122 : decode cX6_year 122 = .ok (.iconst 0, 1) := by decide +kernel
theorem dX6_year_123 : decode cX6_year 123 = .ok (.goto 13, 3) := by decide +kernel
theorem dX6_year_126 : decode cX6_year 126 = .ok (.iload 8, 2) := by decide +kernel
theorem dX6_year_128 : decode cX6_year 128 = .ok (.iload 9, 2) := by decide +kernel
theorem dX6_year_130 : decode cX6_year 130 = .ok (.iload 7, 2) := by decide +kernel
theorem dX6_year_132 : decode cX6_year 132 = .ok (.isub, 1) := by decide +kernel
theorem dX6_year_133 : decode cX6_year 133 = .ok (.invokestatic 132, 3) := by decide +kernel
theorem dX6_year_136 : decode cX6_year 136 = .ok (.istore 8, 2) := by decide +kernel
theorem dX6_year_138 : decode cX6_year 138 = .ok (.iload 9, 2) := by decide +kernel
theorem dX6_year_140 : decode cX6_year 140 = .ok (.istore 7, 2) := by decide +kernel
theorem dX6_year_142 : decode cX6_year 142 = .ok (.iinc 5 1, 3) := by decide +kernel
theorem dX6_year_145 : decode cX6_year 145 = .ok (.iload 6, 2) := by decide +kernel
theorem dX6_year_147 : decode cX6_year 147 = .ok (.iconst 1, 1) := by decide +kernel
theorem dX6_year_148 : decode cX6_year 148 = .ok (.aload_n 0, 1) := by decide +kernel
theorem dX6_year_149 : decode cX6_year 149 = .ok (.getfield 19, 3) := by decide +kernel
theorem dX6_year_152 : decode cX6_year 152 = .ok (.getfield 56, 3) := by decide +kernel
theorem dX6_year_155 : decode cX6_year 155 = .ok (.iload 10, 2) := by decide +kernel
theorem dX6_year_157 : decode cX6_year 157 = .ok (.iload 9, 2) := by decide +kernel
theorem dX6_year_159 : decode cX6_year 159 = .ok (.invokevirtual 95, 3) := by decide +kernel
theorem dX6_year_162 : decode cX6_year 162 = .ok (.ishl, 1) := by decide +kernel
theorem dX6_year_163 : decode cX6_year 163 = .ok (.ior, 1) := by decide +kernel
theorem dX6_year_164 : decode cX6_year 164 = .ok (.istore 6, 2) := by decide +kernel
theorem dX6_year_166 : decode cX6_year 166 = .ok (.iinc 9 1, 3) := by decide +kernel
theorem dX6_year_169 : decode cX6_year 169 = .ok (.goto (-118), 3) := by decide +kernel
theorem dX6_year_172 : decode cX6_year 172 = .ok (.iload_n 3, 1) := by decide +kernel
theorem dX6_year_173 : decode cX6_year 173 = .ok (.ifCond .ne 6, 3) := by decide +kernel
theorem dX6_year_176 : decode cX6_year 176 = .ok (.iload 5, 2) := by decide +kernel
theorem dX6_year_178 : decode cX6_year 178 = .ok (.ireturn, 1) := by decide +kernel
theorem dX6_year_179 : decode cX6_year 179 = .ok (.iload_n 3, 1) := by decide +kernel
theorem dX6_year_180 : decode cX6_year 180 = .ok (.iconst 1, 1) := by decide +kernel
theorem dX6_year_181 : decode cX6_year 181 = .ok (.if_icmp .ne 11, 3) := by decide +kernel
theorem dX6_year_184 : decode cX6_year 184 = .ok (.iload 6, 2) := by decide +kernel
theorem dX6_year_186 : decode cX6_year 186 = .ok (.invokestatic 75, 3) := by decide +kernel
theorem dX6_year_189 : decode cX6_year 189 = .ok (.goto 5, 3) := by decide +kernel
theorem dX6_year_192 : decode cX6_year 192 = .ok (.iload 8, 2) := by decide +kernel
theorem dX6_year_194 : decode cX6_year 194 = .ok (.ireturn, 1) := by decide +kernel
theorem dX6_image_0 : decode cX6_image 0 = .ok (.iload_n 1, 1) := by decide +kernel
theorem dX6_image_1 : decode cX6_image 1 = .ok (.iconst 2, 1) := by decide +kernel
theorem dX6_image_2 : decode cX6_image 2 = .ok (.invokestatic 42, 3) := by decide +kernel
theorem dX6_image_5 : decode cX6_image 5 = .ok (.ifCond .ne 6, 3) := by decide +kernel
theorem dX6_image_8 : decode cX6_image 8 = .ok (.bipush (-2), 2) := by decide +kernel
theorem dX6_image_10 : decode cX6_image 10 = .ok (.ireturn, 1) := by decide +kernel
theorem dX6_image_11 : decode cX6_image 11 = .ok (.aload_n 0, 1) := by decide +kernel
theorem dX6_image_12 : decode cX6_image 12 = .ok (.getfield 23, 3) := by decide +kernel
theorem dX6_image_15 : decode cX6_image 15 = .ok (.iload_n 1, 1) := by decide +kernel
theorem dX6_image_16 : decode cX6_image 16 = .ok (.aaload, 1) := by decide +kernel
theorem dX6_image_17 : decode cX6_image 17 = .ok (.astore_n 2, 1) := by decide +kernel
theorem dX6_image_18 : decode cX6_image 18 = .ok (.aload_n 2, 1) := by decide +kernel
theorem dX6_image_19 : decode cX6_image 19 = .ok (.ifnonnull 18, 3) := by decide +kernel
theorem dX6_image_22 : decode cX6_image 22 = .ok (.new 16, 3) := by decide +kernel
theorem dX6_image_25 : decode cX6_image 25 = .ok (.dup, 1) := by decide +kernel
theorem dX6_image_26 : decode cX6_image 26 = .ok (.invokespecial 18, 3) := by decide +kernel
theorem dX6_image_29 : decode cX6_image 29 = .ok (.astore_n 2, 1) := by decide +kernel
theorem dX6_image_30 : decode cX6_image 30 = .ok (.aload_n 0, 1) := by decide +kernel
theorem dX6_image_31 : decode cX6_image 31 = .ok (.getfield 23, 3) := by decide +kernel
theorem dX6_image_34 : decode cX6_image 34 = .ok (.iload_n 1, 1) := by decide +kernel
theorem dX6_image_35 : decode cX6_image 35 = .ok (.aload_n 2, 1) := by decide +kernel
theorem dX6_image_36 : decode cX6_image 36 = .ok (.aastore, 1) := by decide +kernel
theorem dX6_image_37 : decode cX6_image 37 = .ok (.aload_n 2, 1) := by decide +kernel
theorem dX6_image_38 : decode cX6_image 38 = .ok (.aload_n 0, 1) := by decide +kernel
theorem dX6_image_39 : decode cX6_image 39 = .ok (.getfield 19, 3) := by decide +kernel
theorem dX6_image_42 : decode cX6_image 42 = .ok (.invokevirtual 203, 3) := by decide +kernel
theorem dX6_image_45 : decode cX6_image 45 = .ok (.iconst 1, 1) := by decide +kernel
theorem dX6_image_46 : decode cX6_image 46 = .ok (.ireturn, 1) := by decide +kernel
theorem dX6_restore_0 : decode cX6_restore 0 = .ok (.iload_n 1, 1) := by decide +kernel
theorem dX6_restore_1 : decode cX6_restore 1 = .ok (.iconst 2, 1) := by decide +kernel
theorem dX6_restore_2 : decode cX6_restore 2 = .ok (.invokestatic 42, 3) := by decide +kernel
theorem dX6_restore_5 : decode cX6_restore 5 = .ok (.ifCond .ne 6, 3) := by decide +kernel
theorem dX6_restore_8 : decode cX6_restore 8 = .ok (.bipush (-2), 2) := by decide +kernel
theorem dX6_restore_10 : decode cX6_restore 10 = .ok (.ireturn, 1) := by decide +kernel
theorem dX6_restore_11 : decode cX6_restore 11 = .ok (.aload_n 0, 1) := by decide +kernel
theorem dX6_restore_12 : decode cX6_restore 12 = .ok (.getfield 23, 3) := by decide +kernel
theorem dX6_restore_15 : decode cX6_restore 15 = .ok (.iload_n 1, 1) := by decide +kernel
theorem dX6_restore_16 : decode cX6_restore 16 = .ok (.aaload, 1) := by decide +kernel
theorem dX6_restore_17 : decode cX6_restore 17 = .ok (.astore_n 2, 1) := by decide +kernel
theorem dX6_restore_18 : decode cX6_restore 18 = .ok (.aload_n 2, 1) := by decide +kernel
theorem dX6_restore_19 : decode cX6_restore 19 = .ok (.ifnonnull 6, 3) := by decide +kernel
theorem dX6_restore_22 : decode cX6_restore 22 = .ok (.bipush (-3), 2) := by decide +kernel
theorem dX6_restore_24 : decode cX6_restore 24 = .ok (.ireturn, 1) := by decide +kernel
theorem dX6_restore_25 : decode cX6_restore 25 = .ok (.aload_n 0, 1) := by decide +kernel
theorem dX6_restore_26 : decode cX6_restore 26 = .ok (.getfield 19, 3) := by decide +kernel
theorem dX6_restore_29 : decode cX6_restore 29 = .ok (.aload_n 2, 1) := by decide +kernel
theorem dX6_restore_30 : decode cX6_restore 30 = .ok (.invokevirtual 203, 3) := by decide +kernel
theorem dX6_restore_33 : decode cX6_restore 33 = .ok (.iconst 1, 1) := by decide +kernel
theorem dX6_restore_34 : decode cX6_restore 34 = .ok (.ireturn, 1) := by decide +kernel
theorem dX6_told_0 : decode cX6_told 0 = .ok (.iload_n 1, 1) := by decide +kernel
theorem dX6_told_1 : decode cX6_told 1 = .ok (.tableswitch 72 0 3 #[31, 39, 50, 61], 31) := by decide +kernel
theorem dX6_told_32 : decode cX6_told 32 = .ok (.aload_n 0, 1) := by decide +kernel
theorem dX6_told_33 : decode cX6_told 33 = .ok (.getfield 10, 3) := by decide +kernel
theorem dX6_told_36 : decode cX6_told 36 = .ok (.getfield 38, 3) := by decide +kernel
theorem dX6_told_39 : decode cX6_told 39 = .ok (.ireturn, 1) := by decide +kernel
theorem dX6_told_40 : decode cX6_told 40 = .ok (.aload_n 0, 1) := by decide +kernel
theorem dX6_told_41 : decode cX6_told 41 = .ok (.getfield 19, 3) := by decide +kernel
theorem dX6_told_44 : decode cX6_told 44 = .ok (.getfield 56, 3) := by decide +kernel
theorem dX6_told_47 : decode cX6_told 47 = .ok (.getfield 72, 3) := by decide +kernel
theorem dX6_told_50 : decode cX6_told 50 = .ok (.ireturn, 1) := by decide +kernel
theorem dX6_told_51 : decode cX6_told 51 = .ok (.aload_n 0, 1) := by decide +kernel
theorem dX6_told_52 : decode cX6_told 52 = .ok (.getfield 19, 3) := by decide +kernel
theorem dX6_told_55 : decode cX6_told 55 = .ok (.getfield 81, 3) := by decide +kernel
theorem dX6_told_58 : decode cX6_told 58 = .ok (.getfield 91, 3) := by decide +kernel
theorem dX6_told_61 : decode cX6_told 61 = .ok (.ireturn, 1) := by decide +kernel
theorem dX6_told_62 : decode cX6_told 62 = .ok (.aload_n 0, 1) := by decide +kernel
theorem dX6_told_63 : decode cX6_told 63 = .ok (.getfield 19, 3) := by decide +kernel
theorem dX6_told_66 : decode cX6_told 66 = .ok (.getfield 179, 3) := by decide +kernel
theorem dX6_told_69 : decode cX6_told 69 = .ok (.getfield 187, 3) := by decide +kernel
theorem dX6_told_72 : decode cX6_told 72 = .ok (.ireturn, 1) := by decide +kernel
theorem dX6_told_73 : decode cX6_told 73 = .ok (.iload_n 1, 1) := by decide +kernel
theorem dX6_told_74 : decode cX6_told 74 = .ok (.sipush 1000, 3) := by decide +kernel
theorem dX6_told_77 : decode cX6_told 77 = .ok (.if_icmp .ge 11, 3) := by decide +kernel
theorem dX6_told_80 : decode cX6_told 80 = .ok (.aload_n 0, 1) := by decide +kernel
theorem dX6_told_81 : decode cX6_told 81 = .ok (.iload_n 1, 1) := by decide +kernel
theorem dX6_told_82 : decode cX6_told 82 = .ok (.invokevirtual 207, 3) := by decide +kernel
theorem dX6_told_85 : decode cX6_told 85 = .ok (.goto 8, 3) := by decide +kernel
theorem dX6_told_88 : decode cX6_told 88 = .ok (.aload_n 0, 1) := by decide +kernel
theorem dX6_told_89 : decode cX6_told 89 = .ok (.iload_n 1, 1) := by decide +kernel
theorem dX6_told_90 : decode cX6_told 90 = .ok (.invokevirtual 210, 3) := by decide +kernel
theorem dX6_told_93 : decode cX6_told 93 = .ok (.ireturn, 1) := by decide +kernel
theorem dX6_toldOfPerson_0 : decode cX6_toldOfPerson 0 = .ok (.aload_n 0, 1) := by decide +kernel
theorem dX6_toldOfPerson_1 : decode cX6_toldOfPerson 1 = .ok (.getfield 19, 3) := by decide +kernel
theorem dX6_toldOfPerson_4 : decode cX6_toldOfPerson 4 = .ok (.getfield 56, 3) := by decide +kernel
theorem dX6_toldOfPerson_7 : decode cX6_toldOfPerson 7 = .ok (.astore_n 2, 1) := by decide +kernel
theorem dX6_toldOfPerson_8 : decode cX6_toldOfPerson 8 = .ok (.aload_n 0, 1) := by decide +kernel
theorem dX6_toldOfPerson_9 : decode cX6_toldOfPerson 9 = .ok (.iload_n 1, 1) := by decide +kernel
theorem dX6_toldOfPerson_10 : decode cX6_toldOfPerson 10 = .ok (.bipush 10, 2) := by decide +kernel
theorem dX6_toldOfPerson_12 : decode cX6_toldOfPerson 12 = .ok (.isub, 1) := by decide +kernel
theorem dX6_toldOfPerson_13 : decode cX6_toldOfPerson 13 = .ok (.invokevirtual 69, 3) := by decide +kernel
theorem dX6_toldOfPerson_16 : decode cX6_toldOfPerson 16 = .ok (.ifCond .eq 12, 3) := by decide +kernel
theorem dX6_toldOfPerson_19 : decode cX6_toldOfPerson 19 = .ok (.aload_n 2, 1) := by decide +kernel
theorem dX6_toldOfPerson_20 : decode cX6_toldOfPerson 20 = .ok (.iload_n 1, 1) := by decide +kernel
theorem dX6_toldOfPerson_21 : decode cX6_toldOfPerson 21 = .ok (.bipush 10, 2) := by decide +kernel
theorem dX6_toldOfPerson_23 : decode cX6_toldOfPerson 23 = .ok (.isub, 1) := by decide +kernel
theorem dX6_toldOfPerson_24 : decode cX6_toldOfPerson 24 = .ok (.invokevirtual 213, 3) := by decide +kernel
theorem dX6_toldOfPerson_27 : decode cX6_toldOfPerson 27 = .ok (.ireturn, 1) := by decide +kernel
theorem dX6_toldOfPerson_28 : decode cX6_toldOfPerson 28 = .ok (.aload_n 0, 1) := by decide +kernel
theorem dX6_toldOfPerson_29 : decode cX6_toldOfPerson 29 = .ok (.iload_n 1, 1) := by decide +kernel
theorem dX6_toldOfPerson_30 : decode cX6_toldOfPerson 30 = .ok (.bipush 20, 2) := by decide +kernel
theorem dX6_toldOfPerson_32 : decode cX6_toldOfPerson 32 = .ok (.isub, 1) := by decide +kernel
theorem dX6_toldOfPerson_33 : decode cX6_toldOfPerson 33 = .ok (.invokevirtual 69, 3) := by decide +kernel
theorem dX6_toldOfPerson_36 : decode cX6_toldOfPerson 36 = .ok (.ifCond .eq 12, 3) := by decide +kernel
theorem dX6_toldOfPerson_39 : decode cX6_toldOfPerson 39 = .ok (.aload_n 2, 1) := by decide +kernel
theorem dX6_toldOfPerson_40 : decode cX6_toldOfPerson 40 = .ok (.iload_n 1, 1) := by decide +kernel
theorem dX6_toldOfPerson_41 : decode cX6_toldOfPerson 41 = .ok (.bipush 20, 2) := by decide +kernel
theorem dX6_toldOfPerson_43 : decode cX6_toldOfPerson 43 = .ok (.isub, 1) := by decide +kernel
theorem dX6_toldOfPerson_44 : decode cX6_toldOfPerson 44 = .ok (.invokevirtual 216, 3) := by decide +kernel
theorem dX6_toldOfPerson_47 : decode cX6_toldOfPerson 47 = .ok (.ireturn, 1) := by decide +kernel
theorem dX6_toldOfPerson_48 : decode cX6_toldOfPerson 48 = .ok (.iload_n 1, 1) := by decide +kernel
theorem dX6_toldOfPerson_49 : decode cX6_toldOfPerson 49 = .ok (.bipush 100, 2) := by decide +kernel
theorem dX6_toldOfPerson_51 : decode cX6_toldOfPerson 51 = .ok (.idiv, 1) := by decide +kernel
theorem dX6_toldOfPerson_52 : decode cX6_toldOfPerson 52 = .ok (.iconst 1, 1) := by decide +kernel
theorem dX6_toldOfPerson_53 : decode cX6_toldOfPerson 53 = .ok (.isub, 1) := by decide +kernel
theorem dX6_toldOfPerson_54 : decode cX6_toldOfPerson 54 = .ok (.istore_n 3, 1) := by decide +kernel
theorem dX6_toldOfPerson_55 : decode cX6_toldOfPerson 55 = .ok (.iload_n 1, 1) := by decide +kernel
theorem dX6_toldOfPerson_56 : decode cX6_toldOfPerson 56 = .ok (.bipush 100, 2) := by decide +kernel
theorem dX6_toldOfPerson_58 : decode cX6_toldOfPerson 58 = .ok (.irem, 1) := by decide +kernel
theorem dX6_toldOfPerson_59 : decode cX6_toldOfPerson 59 = .ok (.istore 4, 2) := by decide +kernel
theorem dX6_toldOfPerson_61 : decode cX6_toldOfPerson 61 = .ok (.aload_n 0, 1) := by decide +kernel
theorem dX6_toldOfPerson_62 : decode cX6_toldOfPerson 62 = .ok (.iload_n 3, 1) := by decide +kernel
theorem dX6_toldOfPerson_63 : decode cX6_toldOfPerson 63 = .ok (.invokevirtual 69, 3) := by decide +kernel
theorem dX6_toldOfPerson_66 : decode cX6_toldOfPerson 66 = .ok (.ifCond .eq 16, 3) := by decide +kernel
theorem dX6_toldOfPerson_69 : decode cX6_toldOfPerson 69 = .ok (.iload 4, 2) := by decide +kernel
theorem dX6_toldOfPerson_71 : decode cX6_toldOfPerson 71 = .ok (.aload_n 2, 1) := by decide +kernel
theorem dX6_toldOfPerson_72 : decode cX6_toldOfPerson 72 = .ok (.iload_n 3, 1) := by decide +kernel
theorem dX6_toldOfPerson_73 : decode cX6_toldOfPerson 73 = .ok (.invokevirtual 216, 3) := by decide +kernel
theorem dX6_toldOfPerson_76 : decode cX6_toldOfPerson 76 = .ok (.invokestatic 42, 3) := by decide +kernel
theorem dX6_toldOfPerson_79 : decode cX6_toldOfPerson 79 = .ok (.ifCond .ne 6, 3) := by decide +kernel
theorem dX6_toldOfPerson_82 : decode cX6_toldOfPerson 82 = .ok (.bipush (-2), 2) := by decide +kernel
theorem dX6_toldOfPerson_84 : decode cX6_toldOfPerson 84 = .ok (.ireturn, 1) := by decide +kernel
theorem dX6_toldOfPerson_85 : decode cX6_toldOfPerson 85 = .ok (.aload_n 2, 1) := by decide +kernel
theorem dX6_toldOfPerson_86 : decode cX6_toldOfPerson 86 = .ok (.iload_n 3, 1) := by decide +kernel
theorem dX6_toldOfPerson_87 : decode cX6_toldOfPerson 87 = .ok (.iload 4, 2) := by decide +kernel
theorem dX6_toldOfPerson_89 : decode cX6_toldOfPerson 89 = .ok (.invokevirtual 219, 3) := by decide +kernel
theorem dX6_toldOfPerson_92 : decode cX6_toldOfPerson 92 = .ok (.ireturn, 1) := by decide +kernel
theorem dX6_toldOfWork_0 : decode cX6_toldOfWork 0 = .ok (.iload_n 1, 1) := by decide +kernel
theorem dX6_toldOfWork_1 : decode cX6_toldOfWork 1 = .ok (.sipush 1000, 3) := by decide +kernel
theorem dX6_toldOfWork_4 : decode cX6_toldOfWork 4 = .ok (.idiv, 1) := by decide +kernel
theorem dX6_toldOfWork_5 : decode cX6_toldOfWork 5 = .ok (.iconst 1, 1) := by decide +kernel
theorem dX6_toldOfWork_6 : decode cX6_toldOfWork 6 = .ok (.isub, 1) := by decide +kernel
theorem dX6_toldOfWork_7 : decode cX6_toldOfWork 7 = .ok (.istore_n 2, 1) := by decide +kernel
theorem dX6_toldOfWork_8 : decode cX6_toldOfWork 8 = .ok (.iload_n 1, 1) := by decide +kernel
theorem dX6_toldOfWork_9 : decode cX6_toldOfWork 9 = .ok (.sipush 1000, 3) := by decide +kernel
theorem dX6_toldOfWork_12 : decode cX6_toldOfWork 12 = .ok (.irem, 1) := by decide +kernel
theorem dX6_toldOfWork_13 : decode cX6_toldOfWork 13 = .ok (.istore_n 3, 1) := by decide +kernel
theorem dX6_toldOfWork_14 : decode cX6_toldOfWork 14 = .ok (.iload_n 2, 1) := by decide +kernel
theorem dX6_toldOfWork_15 : decode cX6_toldOfWork 15 = .ok (.aload_n 0, 1) := by decide +kernel
theorem dX6_toldOfWork_16 : decode cX6_toldOfWork 16 = .ok (.getfield 19, 3) := by decide +kernel
theorem dX6_toldOfWork_19 : decode cX6_toldOfWork 19 = .ok (.getfield 81, 3) := by decide +kernel
theorem dX6_toldOfWork_22 : decode cX6_toldOfWork 22 = .ok (.getfield 91, 3) := by decide +kernel
theorem dX6_toldOfWork_25 : decode cX6_toldOfWork 25 = .ok (.invokestatic 42, 3) := by decide +kernel
theorem dX6_toldOfWork_28 : decode cX6_toldOfWork 28 = .ok (.ifCond .eq 11, 3) := by decide +kernel
theorem dX6_toldOfWork_31 : decode cX6_toldOfWork 31 = .ok (.iload_n 3, 1) := by decide +kernel
theorem dX6_toldOfWork_32 : decode cX6_toldOfWork 32 = .ok (.iconst 2, 1) := by decide +kernel
theorem dX6_toldOfWork_33 : decode cX6_toldOfWork 33 = .ok (.invokestatic 42, 3) := by decide +kernel
theorem dX6_toldOfWork_36 : decode cX6_toldOfWork 36 = .ok (.ifCond .ne 6, 3) := by decide +kernel
theorem dX6_toldOfWork_39 : decode cX6_toldOfWork 39 = .ok (.bipush (-2), 2) := by decide +kernel
theorem dX6_toldOfWork_41 : decode cX6_toldOfWork 41 = .ok (.ireturn, 1) := by decide +kernel
theorem dX6_toldOfWork_42 : decode cX6_toldOfWork 42 = .ok (.iload_n 3, 1) := by decide +kernel
theorem dX6_toldOfWork_43 : decode cX6_toldOfWork 43 = .ok (.ifCond .ne 17, 3) := by decide +kernel
theorem dX6_toldOfWork_46 : decode cX6_toldOfWork 46 = .ok (.aload_n 0, 1) := by decide +kernel
theorem dX6_toldOfWork_47 : decode cX6_toldOfWork 47 = .ok (.getfield 19, 3) := by decide +kernel
theorem dX6_toldOfWork_50 : decode cX6_toldOfWork 50 = .ok (.getfield 81, 3) := by decide +kernel
theorem dX6_toldOfWork_53 : decode cX6_toldOfWork 53 = .ok (.iload_n 2, 1) := by decide +kernel
theorem dX6_toldOfWork_54 : decode cX6_toldOfWork 54 = .ok (.invokevirtual 155, 3) := by decide +kernel
theorem dX6_toldOfWork_57 : decode cX6_toldOfWork 57 = .ok (.goto 14, 3) := by decide +kernel
theorem dX6_toldOfWork_60 : decode cX6_toldOfWork 60 = .ok (.aload_n 0, 1) := by decide +kernel
theorem dX6_toldOfWork_61 : decode cX6_toldOfWork 61 = .ok (.getfield 19, 3) := by decide +kernel
theorem dX6_toldOfWork_64 : decode cX6_toldOfWork 64 = .ok (.getfield 81, 3) := by decide +kernel
theorem dX6_toldOfWork_67 : decode cX6_toldOfWork 67 = .ok (.iload_n 2, 1) := by decide +kernel
theorem dX6_toldOfWork_68 : decode cX6_toldOfWork 68 = .ok (.invokevirtual 152, 3) := by decide +kernel
theorem dX6_toldOfWork_71 : decode cX6_toldOfWork 71 = .ok (.ireturn, 1) := by decide +kernel
theorem dX6_pairs_0 : decode cX6_pairs 0 = .ok (.iconst 0, 1) := by decide +kernel
theorem dX6_pairs_1 : decode cX6_pairs 1 = .ok (.istore_n 3, 1) := by decide +kernel
theorem dX6_pairs_2 : decode cX6_pairs 2 = .ok (.iconst 0, 1) := by decide +kernel
theorem dX6_pairs_3 : decode cX6_pairs 3 = .ok (.istore 4, 2) := by decide +kernel
theorem dX6_pairs_5 : decode cX6_pairs 5 = .ok (.iload 4, 2) := by decide +kernel
theorem dX6_pairs_7 : decode cX6_pairs 7 = .ok (.bipush 6, 2) := by decide +kernel
theorem dX6_pairs_9 : decode cX6_pairs 9 = .ok (.if_icmp .ge 57, 3) := by decide +kernel
theorem dX6_pairs_12 : decode cX6_pairs 12 = .ok (.iload 4, 2) := by decide +kernel
theorem dX6_pairs_14 : decode cX6_pairs 14 = .ok (.iconst 1, 1) := by decide +kernel
theorem dX6_pairs_15 : decode cX6_pairs 15 = .ok (.iadd, 1) := by decide +kernel
theorem dX6_pairs_16 : decode cX6_pairs 16 = .ok (.istore 5, 2) := by decide +kernel
theorem dX6_pairs_18 : decode cX6_pairs 18 = .ok (.iload 5, 2) := by decide +kernel
theorem dX6_pairs_20 : decode cX6_pairs 20 = .ok (.bipush 6, 2) := by decide +kernel
theorem dX6_pairs_22 : decode cX6_pairs 22 = .ok (.if_icmp .ge 38, 3) := by decide +kernel
theorem dX6_pairs_25 : decode cX6_pairs 25 = .ok (.aload_n 0, 1) := by decide +kernel
theorem dX6_pairs_26 : decode cX6_pairs 26 = .ok (.iload_n 1, 1) := by decide +kernel
theorem dX6_pairs_27 : decode cX6_pairs 27 = .ok (.iload 4, 2) := by decide +kernel
theorem dX6_pairs_29 : decode cX6_pairs 29 = .ok (.iload 5, 2) := by decide +kernel
theorem dX6_pairs_31 : decode cX6_pairs 31 = .ok (.invokevirtual 222, 3) := by decide +kernel
theorem dX6_pairs_34 : decode cX6_pairs 34 = .ok (.ifCond .eq 20, 3) := by decide +kernel
theorem dX6_pairs_37 : decode cX6_pairs 37 = .ok (.iload_n 3, 1) := by decide +kernel
theorem dX6_pairs_38 : decode cX6_pairs 38 = .ok (.iload_n 2, 1) := by decide +kernel
theorem dX6_pairs_39 : decode cX6_pairs 39 = .ok (.if_icmp .ne 12, 3) := by decide +kernel
theorem dX6_pairs_42 : decode cX6_pairs 42 = .ok (.bipush 10, 2) := by decide +kernel
theorem dX6_pairs_44 : decode cX6_pairs 44 = .ok (.iload 4, 2) := by decide +kernel
theorem dX6_pairs_46 : decode cX6_pairs 46 = .ok (.imul, 1) := by decide +kernel
theorem dX6_pairs_47 : decode cX6_pairs 47 = .ok (.iload 5, 2) := by decide +kernel
theorem dX6_pairs_49 : decode cX6_pairs 49 = .ok (.iadd, 1) := by decide +kernel
theorem dX6_pairs_50 : decode cX6_pairs 50 = .ok (.ireturn, 1) := by decide +kernel
theorem dX6_pairs_51 : decode cX6_pairs 51 = .ok (.iinc 3 1, 3) := by decide +kernel
theorem dX6_pairs_54 : decode cX6_pairs 54 = .ok (.iinc 5 1, 3) := by decide +kernel
theorem dX6_pairs_57 : decode cX6_pairs 57 = .ok (.goto (-39), 3) := by decide +kernel
theorem dX6_pairs_60 : decode cX6_pairs 60 = .ok (.iinc 4 1, 3) := by decide +kernel
theorem dX6_pairs_63 : decode cX6_pairs 63 = .ok (.goto (-58), 3) := by decide +kernel
theorem dX6_pairs_66 : decode cX6_pairs 66 = .ok (.iload_n 2, 1) := by decide +kernel
theorem dX6_pairs_67 : decode cX6_pairs 67 = .ok (.iconst (-1), 1) := by decide +kernel
theorem dX6_pairs_68 : decode cX6_pairs 68 = .ok (.if_icmp .ne 7, 3) := by decide +kernel
theorem dX6_pairs_71 : decode cX6_pairs 71 = .ok (.iload_n 3, 1) := by decide +kernel
theorem dX6_pairs_72 : decode cX6_pairs 72 = .ok (.goto 5, 3) := by decide +kernel
theorem dX6_pairs_75 : decode cX6_pairs 75 = .ok (.bipush (-6), 2) := by decide +kernel
theorem dX6_pairs_77 : decode cX6_pairs 77 = .ok (.ireturn, 1) := by decide +kernel
theorem dX6_isPair_0 : decode cX6_isPair 0 = .ok (.aload_n 0, 1) := by decide +kernel
theorem dX6_isPair_1 : decode cX6_isPair 1 = .ok (.iload_n 2, 1) := by decide +kernel
theorem dX6_isPair_2 : decode cX6_isPair 2 = .ok (.iload_n 3, 1) := by decide +kernel
theorem dX6_isPair_3 : decode cX6_isPair 3 = .ok (.invokevirtual 108, 3) := by decide +kernel
theorem dX6_isPair_6 : decode cX6_isPair 6 = .ok (.ifCond .ne 5, 3) := by decide +kernel
theorem dX6_isPair_9 : decode cX6_isPair 9 = .ok (.iconst 0, 1) := by decide +kernel
theorem dX6_isPair_10 : decode cX6_isPair 10 = .ok (.ireturn, 1) := by decide +kernel
theorem dX6_isPair_11 : decode cX6_isPair 11 = .ok (.iload_n 1, 1) := by decide +kernel
theorem dX6_isPair_12 : decode cX6_isPair 12 = .ok (.ifCond .eq 18, 3) := by decide +kernel
theorem dX6_isPair_15 : decode cX6_isPair 15 = .ok (.aload_n 0, 1) := by decide +kernel
theorem dX6_isPair_16 : decode cX6_isPair 16 = .ok (.getfield 19, 3) := by decide +kernel
theorem dX6_isPair_19 : decode cX6_isPair 19 = .ok (.getfield 56, 3) := by decide +kernel
theorem dX6_isPair_22 : decode cX6_isPair 22 = .ok (.iload_n 2, 1) := by decide +kernel
theorem dX6_isPair_23 : decode cX6_isPair 23 = .ok (.iload_n 3, 1) := by decide +kernel
theorem dX6_isPair_24 : decode cX6_isPair 24 = .ok (.invokevirtual 226, 3) := by decide +kernel
theorem dX6_isPair_27 : decode cX6_isPair 27 = .ok (.goto 23, 3) := by decide +kernel
theorem dX6_isPair_30 : decode cX6_isPair 30 = .ok (.aload_n 0, 1) := by decide +kernel
theorem dX6_isPair_31 : decode cX6_isPair 31 = .ok (.getfield 19, 3) := by decide +kernel
theorem dX6_isPair_34 : decode cX6_isPair 34 = .ok (.getfield 56, 3) := by decide +kernel
theorem dX6_isPair_37 : decode cX6_isPair 37 = .ok (.iload_n 2, 1) := by decide +kernel
theorem dX6_isPair_38 : decode cX6_isPair 38 = .ok (.iload_n 3, 1) := by decide +kernel
theorem dX6_isPair_39 : decode cX6_isPair 39 = .ok (.invokevirtual 229, 3) := by decide +kernel
theorem dX6_isPair_42 : decode cX6_isPair 42 = .ok (.ifCond .ne 7, 3) := by decide +kernel
theorem dX6_isPair_45 : decode cX6_isPair 45 = .ok (.iconst 1, 1) := by decide +kernel
theorem dX6_isPair_46 : decode cX6_isPair 46 = .ok (.goto 4, 3) := by decide +kernel
theorem dX6_isPair_49 : decode cX6_isPair 49 = .ok (.iconst 0, 1) := by decide +kernel
theorem dX6_isPair_50 : decode cX6_isPair 50 = .ok (.ireturn, 1) := by decide +kernel
theorem dX6_isOneOf_0 : decode cX6_isOneOf 0 = .ok (.iload_n 0, 1) := by decide +kernel
theorem dX6_isOneOf_1 : decode cX6_isOneOf 1 = .ok (.ifCond .lt 12, 3) := by decide +kernel
theorem dX6_isOneOf_4 : decode cX6_isOneOf 4 = .ok (.iload_n 0, 1) := by decide +kernel
theorem dX6_isOneOf_5 : decode cX6_isOneOf 5 = .ok (.iload_n 1, 1) := by decide +kernel
theorem dX6_isOneOf_6 : decode cX6_isOneOf 6 = .ok (.if_icmp .ge 7, 3) := by decide +kernel
theorem dX6_isOneOf_9 : decode cX6_isOneOf 9 = .ok (.iconst 1, 1) := by decide +kernel
theorem dX6_isOneOf_10 : decode cX6_isOneOf 10 = .ok (.goto 4, 3) := by decide +kernel
theorem dX6_isOneOf_13 : decode cX6_isOneOf 13 = .ok (.iconst 0, 1) := by decide +kernel
theorem dX6_isOneOf_14 : decode cX6_isOneOf 14 = .ok (.ireturn, 1) := by decide +kernel
theorem dX6_isDate_0 : decode cX6_isDate 0 = .ok (.iload_n 0, 1) := by decide +kernel
theorem dX6_isDate_1 : decode cX6_isDate 1 = .ok (.ifCond .lt 14, 3) := by decide +kernel
theorem dX6_isDate_4 : decode cX6_isDate 4 = .ok (.iload_n 0, 1) := by decide +kernel
theorem dX6_isDate_5 : decode cX6_isDate 5 = .ok (.sipush 9999, 3) := by decide +kernel
theorem dX6_isDate_8 : decode cX6_isDate 8 = .ok (.if_icmp .gt 7, 3) := by decide +kernel
theorem dX6_isDate_11 : decode cX6_isDate 11 = .ok (.iconst 1, 1) := by decide +kernel
theorem dX6_isDate_12 : decode cX6_isDate 12 = .ok (.goto 4, 3) := by decide +kernel
theorem dX6_isDate_15 : decode cX6_isDate 15 = .ok (.iconst 0, 1) := by decide +kernel
theorem dX6_isDate_16 : decode cX6_isDate 16 = .ok (.ireturn, 1) := by decide +kernel
theorem dX6_isBirth_0 : decode cX6_isBirth 0 = .ok (.iload_n 0, 1) := by decide +kernel
theorem dX6_isBirth_1 : decode cX6_isBirth 1 = .ok (.ifCond .lt 13, 3) := by decide +kernel
theorem dX6_isBirth_4 : decode cX6_isBirth 4 = .ok (.iload_n 0, 1) := by decide +kernel
theorem dX6_isBirth_5 : decode cX6_isBirth 5 = .ok (.bipush 99, 2) := by decide +kernel
theorem dX6_isBirth_7 : decode cX6_isBirth 7 = .ok (.if_icmp .gt 7, 3) := by decide +kernel
theorem dX6_isBirth_10 : decode cX6_isBirth 10 = .ok (.iconst 1, 1) := by decide +kernel
theorem dX6_isBirth_11 : decode cX6_isBirth 11 = .ok (.goto 4, 3) := by decide +kernel
theorem dX6_isBirth_14 : decode cX6_isBirth 14 = .ok (.iconst 0, 1) := by decide +kernel
theorem dX6_isBirth_15 : decode cX6_isBirth 15 = .ok (.ireturn, 1) := by decide +kernel
theorem dX6_isThere_0 : decode cX6_isThere 0 = .ok (.aload_n 0, 1) := by decide +kernel
theorem dX6_isThere_1 : decode cX6_isThere 1 = .ok (.getfield 19, 3) := by decide +kernel
theorem dX6_isThere_4 : decode cX6_isThere 4 = .ok (.getfield 56, 3) := by decide +kernel
theorem dX6_isThere_7 : decode cX6_isThere 7 = .ok (.iload_n 1, 1) := by decide +kernel
theorem dX6_isThere_8 : decode cX6_isThere 8 = .ok (.invokevirtual 232, 3) := by decide +kernel
theorem dX6_isThere_11 : decode cX6_isThere 11 = .ok (.ireturn, 1) := by decide +kernel
theorem dX6_areTwoThere_0 : decode cX6_areTwoThere 0 = .ok (.iload_n 1, 1) := by decide +kernel
theorem dX6_areTwoThere_1 : decode cX6_areTwoThere 1 = .ok (.iload_n 2, 1) := by decide +kernel
theorem dX6_areTwoThere_2 : decode cX6_areTwoThere 2 = .ok (.if_icmp .eq 23, 3) := by decide +kernel
theorem dX6_areTwoThere_5 : decode cX6_areTwoThere 5 = .ok (.aload_n 0, 1) := by decide +kernel
theorem dX6_areTwoThere_6 : decode cX6_areTwoThere 6 = .ok (.iload_n 1, 1) := by decide +kernel
theorem dX6_areTwoThere_7 : decode cX6_areTwoThere 7 = .ok (.invokevirtual 69, 3) := by decide +kernel
theorem dX6_areTwoThere_10 : decode cX6_areTwoThere 10 = .ok (.ifCond .eq 15, 3) := by decide +kernel
theorem dX6_areTwoThere_13 : decode cX6_areTwoThere 13 = .ok (.aload_n 0, 1) := by decide +kernel
theorem dX6_areTwoThere_14 : decode cX6_areTwoThere 14 = .ok (.iload_n 2, 1) := by decide +kernel
theorem dX6_areTwoThere_15 : decode cX6_areTwoThere 15 = .ok (.invokevirtual 69, 3) := by decide +kernel
theorem dX6_areTwoThere_18 : decode cX6_areTwoThere 18 = .ok (.ifCond .eq 7, 3) := by decide +kernel
theorem dX6_areTwoThere_21 : decode cX6_areTwoThere 21 = .ok (.iconst 1, 1) := by decide +kernel
theorem dX6_areTwoThere_22 : decode cX6_areTwoThere 22 = .ok (.goto 4, 3) := by decide +kernel
theorem dX6_areTwoThere_25 : decode cX6_areTwoThere 25 = .ok (.iconst 0, 1) := by decide +kernel
theorem dX6_areTwoThere_26 : decode cX6_areTwoThere 26 = .ok (.ireturn, 1) := by decide +kernel
theorem dX6_isSetOfThere_0 : decode cX6_isSetOfThere 0 = .ok (.iload_n 1, 1) := by decide +kernel
theorem dX6_isSetOfThere_1 : decode cX6_isSetOfThere 1 = .ok (.ifCond .eq 24, 3) := by decide +kernel
theorem dX6_isSetOfThere_4 : decode cX6_isSetOfThere 4 = .ok (.iload_n 1, 1) := by decide +kernel
theorem dX6_isSetOfThere_5 : decode cX6_isSetOfThere 5 = .ok (.aload_n 0, 1) := by decide +kernel
theorem dX6_isSetOfThere_6 : decode cX6_isSetOfThere 6 = .ok (.getfield 19, 3) := by decide +kernel
theorem dX6_isSetOfThere_9 : decode cX6_isSetOfThere 9 = .ok (.getfield 56, 3) := by decide +kernel
theorem dX6_isSetOfThere_12 : decode cX6_isSetOfThere 12 = .ok (.getfield 72, 3) := by decide +kernel
theorem dX6_isSetOfThere_15 : decode cX6_isSetOfThere 15 = .ok (.iconst (-1), 1) := by decide +kernel
theorem dX6_isSetOfThere_16 : decode cX6_isSetOfThere 16 = .ok (.ixor, 1) := by decide +kernel
theorem dX6_isSetOfThere_17 : decode cX6_isSetOfThere 17 = .ok (.iand, 1) := by decide +kernel
theorem dX6_isSetOfThere_18 : decode cX6_isSetOfThere 18 = .ok (.ifCond .ne 7, 3) := by decide +kernel
theorem dX6_isSetOfThere_21 : decode cX6_isSetOfThere 21 = .ok (.iconst 1, 1) := by decide +kernel
theorem dX6_isSetOfThere_22 : decode cX6_isSetOfThere 22 = .ok (.goto 4, 3) := by decide +kernel
theorem dX6_isSetOfThere_25 : decode cX6_isSetOfThere 25 = .ok (.iconst 0, 1) := by decide +kernel
theorem dX6_isSetOfThere_26 : decode cX6_isSetOfThere 26 = .ok (.ireturn, 1) := by decide +kernel
theorem dX6_bornDay_0 : decode cX6_bornDay 0 = .ok (.iload_n 3, 1) := by decide +kernel
theorem dX6_bornDay_1 : decode cX6_bornDay 1 = .ok (.iload_n 2, 1) := by decide +kernel
theorem dX6_bornDay_2 : decode cX6_bornDay 2 = .ok (.isub, 1) := by decide +kernel
theorem dX6_bornDay_3 : decode cX6_bornDay 3 = .ok (.istore 4, 2) := by decide +kernel
theorem dX6_bornDay_5 : decode cX6_bornDay 5 = .ok (.iload_n 1, 1) := by decide +kernel
theorem dX6_bornDay_6 : decode cX6_bornDay 6 = .ok (.ifCond .ne 10, 3) := by decide +kernel
theorem dX6_bornDay_9 : decode cX6_bornDay 9 = .ok (.iload_n 0, 1) := by decide +kernel
theorem dX6_bornDay_10 : decode cX6_bornDay 10 = .ok (.iload 4, 2) := by decide +kernel
theorem dX6_bornDay_12 : decode cX6_bornDay 12 = .ok (.iadd, 1) := by decide +kernel
theorem dX6_bornDay_13 : decode cX6_bornDay 13 = .ok (.goto 7, 3) := by decide +kernel
theorem dX6_bornDay_16 : decode cX6_bornDay 16 = .ok (.iload_n 0, 1) := by decide +kernel
theorem dX6_bornDay_17 : decode cX6_bornDay 17 = .ok (.iload 4, 2) := by decide +kernel
theorem dX6_bornDay_19 : decode cX6_bornDay 19 = .ok (.isub, 1) := by decide +kernel
theorem dX6_bornDay_20 : decode cX6_bornDay 20 = .ok (.bipush 7, 2) := by decide +kernel
theorem dX6_bornDay_22 : decode cX6_bornDay 22 = .ok (.invokestatic 233, 3) := by decide +kernel
theorem dX6_bornDay_25 : decode cX6_bornDay 25 = .ok (.ireturn, 1) := by decide +kernel
theorem dX6_chanceOfDay_0 : decode cX6_chanceOfDay 0 = .ok (.iconst 0, 1) := by decide +kernel
theorem dX6_chanceOfDay_1 : decode cX6_chanceOfDay 1 = .ok (.istore_n 3, 1) := by decide +kernel
theorem dX6_chanceOfDay_2 : decode cX6_chanceOfDay 2 = .ok (.iconst 0, 1) := by decide +kernel
theorem dX6_chanceOfDay_3 : decode cX6_chanceOfDay 3 = .ok (.istore 4, 2) := by decide +kernel
theorem dX6_chanceOfDay_5 : decode cX6_chanceOfDay 5 = .ok (.iconst 0, 1) := by decide +kernel
theorem dX6_chanceOfDay_6 : decode cX6_chanceOfDay 6 = .ok (.istore 5, 2) := by decide +kernel
theorem dX6_chanceOfDay_8 : decode cX6_chanceOfDay 8 = .ok (.iload 5, 2) := by decide +kernel
theorem dX6_chanceOfDay_10 : decode cX6_chanceOfDay 10 = .ok (.iconst 2, 1) := by decide +kernel
theorem dX6_chanceOfDay_11 : decode cX6_chanceOfDay 11 = .ok (.if_icmp .ge 66, 3) := by decide +kernel
theorem dX6_chanceOfDay_14 : decode cX6_chanceOfDay 14 = .ok (.iconst 0, 1) := by decide +kernel
theorem dX6_chanceOfDay_15 : decode cX6_chanceOfDay 15 = .ok (.istore 6, 2) := by decide +kernel
theorem dX6_chanceOfDay_17 : decode cX6_chanceOfDay 17 = .ok (.iload 6, 2) := by decide +kernel
theorem dX6_chanceOfDay_19 : decode cX6_chanceOfDay 19 = .ok (.bipush 7, 2) := by decide +kernel
theorem dX6_chanceOfDay_21 : decode cX6_chanceOfDay 21 = .ok (.if_icmp .ge 50, 3) := by decide +kernel
theorem dX6_chanceOfDay_24 : decode cX6_chanceOfDay 24 = .ok (.iconst 0, 1) := by decide +kernel
theorem dX6_chanceOfDay_25 : decode cX6_chanceOfDay 25 = .ok (.istore 7, 2) := by decide +kernel
theorem dX6_chanceOfDay_27 : decode cX6_chanceOfDay 27 = .ok (.iload 7, 2) := by decide +kernel
theorem dX6_chanceOfDay_29 : decode cX6_chanceOfDay 29 = .ok (.bipush 7, 2) := by decide +kernel
theorem dX6_chanceOfDay_31 : decode cX6_chanceOfDay 31 = .ok (.if_icmp .ge 34, 3) := by decide +kernel
theorem dX6_chanceOfDay_34 : decode cX6_chanceOfDay 34 = .ok (.iinc 4 1, 3) := by decide +kernel
theorem dX6_chanceOfDay_37 : decode cX6_chanceOfDay 37 = .ok (.iload_n 3, 1) := by decide +kernel
theorem dX6_chanceOfDay_38 : decode cX6_chanceOfDay 38 = .ok (.iload 6, 2) := by decide +kernel
theorem dX6_chanceOfDay_40 : decode cX6_chanceOfDay 40 = .ok (.iload 5, 2) := by decide +kernel
theorem dX6_chanceOfDay_42 : decode cX6_chanceOfDay 42 = .ok (.iload 7, 2) := by decide +kernel
theorem dX6_chanceOfDay_44 : decode cX6_chanceOfDay 44 = .ok (.iload_n 1, 1) := by decide +kernel
theorem dX6_chanceOfDay_45 : decode cX6_chanceOfDay 45 = .ok (.invokestatic 236, 3) := by decide +kernel
theorem dX6_chanceOfDay_48 : decode cX6_chanceOfDay 48 = .ok (.iload_n 0, 1) := by decide +kernel
theorem dX6_chanceOfDay_49 : decode cX6_chanceOfDay 49 = .ok (.if_icmp .ne 7, 3) := by decide +kernel
theorem dX6_chanceOfDay_52 : decode cX6_chanceOfDay 52 = .ok (.iconst 1, 1) := by decide +kernel
theorem dX6_chanceOfDay_53 : decode cX6_chanceOfDay 53 = .ok (.goto 4, 3) := by decide +kernel
theorem dX6_chanceOfDay_56 : decode cX6_chanceOfDay 56 = .ok (.iconst 0, 1) := by decide +kernel
theorem dX6_chanceOfDay_57 : decode cX6_chanceOfDay 57 = .ok (.iadd, 1) := by decide +kernel
theorem dX6_chanceOfDay_58 : decode cX6_chanceOfDay 58 = .ok (.istore_n 3, 1) := by decide +kernel
theorem dX6_chanceOfDay_59 : decode cX6_chanceOfDay 59 = .ok (.iinc 7 1, 3) := by decide +kernel
theorem dX6_chanceOfDay_62 : decode cX6_chanceOfDay 62 = .ok (.goto (-35), 3) := by decide +kernel
theorem dX6_chanceOfDay_65 : decode cX6_chanceOfDay 65 = .ok (.iinc 6 1, 3) := by decide +kernel
theorem dX6_chanceOfDay_68 : decode cX6_chanceOfDay 68 = .ok (.goto (-51), 3) := by decide +kernel
theorem dX6_chanceOfDay_71 : decode cX6_chanceOfDay 71 = .ok (.iinc 5 1, 3) := by decide +kernel
theorem dX6_chanceOfDay_74 : decode cX6_chanceOfDay 74 = .ok (.goto (-66), 3) := by decide +kernel
theorem dX6_chanceOfDay_77 : decode cX6_chanceOfDay 77 = .ok (.iload_n 2, 1) := by decide +kernel
theorem dX6_chanceOfDay_78 : decode cX6_chanceOfDay 78 = .ok (.ifCond .ne 7, 3) := by decide +kernel
theorem dX6_chanceOfDay_81 : decode cX6_chanceOfDay 81 = .ok (.iload_n 3, 1) := by decide +kernel
theorem dX6_chanceOfDay_82 : decode cX6_chanceOfDay 82 = .ok (.goto 5, 3) := by decide +kernel
theorem dX6_chanceOfDay_85 : decode cX6_chanceOfDay 85 = .ok (.iload 4, 2) := by decide +kernel
theorem dX6_chanceOfDay_87 : decode cX6_chanceOfDay 87 = .ok (.iload_n 3, 1) := by decide +kernel
theorem dX6_chanceOfDay_88 : decode cX6_chanceOfDay 88 = .ok (.iload 4, 2) := by decide +kernel
theorem dX6_chanceOfDay_90 : decode cX6_chanceOfDay 90 = .ok (.invokestatic 240, 3) := by decide +kernel
theorem dX6_chanceOfDay_93 : decode cX6_chanceOfDay 93 = .ok (.idiv, 1) := by decide +kernel
theorem dX6_chanceOfDay_94 : decode cX6_chanceOfDay 94 = .ok (.i2l, 1) := by decide +kernel
theorem dX6_chanceOfDay_95 : decode cX6_chanceOfDay 95 = .ok (.lreturn, 1) := by decide +kernel
theorem dX6_greatestFactor_0 : decode cX6_greatestFactor 0 = .ok (.iload_n 1, 1) := by decide +kernel
theorem dX6_greatestFactor_1 : decode cX6_greatestFactor 1 = .ok (.istore_n 2, 1) := by decide +kernel
theorem dX6_greatestFactor_2 : decode cX6_greatestFactor 2 = .ok (.iload_n 2, 1) := by decide +kernel
theorem dX6_greatestFactor_3 : decode cX6_greatestFactor 3 = .ok (.iconst 1, 1) := by decide +kernel
theorem dX6_greatestFactor_4 : decode cX6_greatestFactor 4 = .ok (.if_icmp .le 23, 3) := by decide +kernel
theorem dX6_greatestFactor_7 : decode cX6_greatestFactor 7 = .ok (.iload_n 0, 1) := by decide +kernel
theorem dX6_greatestFactor_8 : decode cX6_greatestFactor 8 = .ok (.iload_n 2, 1) := by decide +kernel
theorem dX6_greatestFactor_9 : decode cX6_greatestFactor 9 = .ok (.irem, 1) := by decide +kernel
theorem dX6_greatestFactor_10 : decode cX6_greatestFactor 10 = .ok (.ifCond .ne 11, 3) := by decide +kernel
theorem dX6_greatestFactor_13 : decode cX6_greatestFactor 13 = .ok (.iload_n 1, 1) := by decide +kernel
theorem dX6_greatestFactor_14 : decode cX6_greatestFactor 14 = .ok (.iload_n 2, 1) := by decide +kernel
theorem dX6_greatestFactor_15 : decode cX6_greatestFactor 15 = .ok (.irem, 1) := by decide +kernel
theorem dX6_greatestFactor_16 : decode cX6_greatestFactor 16 = .ok (.ifCond .ne 5, 3) := by decide +kernel
theorem dX6_greatestFactor_19 : decode cX6_greatestFactor 19 = .ok (.iload_n 2, 1) := by decide +kernel
theorem dX6_greatestFactor_20 : decode cX6_greatestFactor 20 = .ok (.ireturn, 1) := by decide +kernel
theorem dX6_greatestFactor_21 : decode cX6_greatestFactor 21 = .ok (.iinc 2 (-1), 3) := by decide +kernel
theorem dX6_greatestFactor_24 : decode cX6_greatestFactor 24 = .ok (.goto (-22), 3) := by decide +kernel
theorem dX6_greatestFactor_27 : decode cX6_greatestFactor 27 = .ok (.iconst 1, 1) := by decide +kernel
theorem dX6_greatestFactor_28 : decode cX6_greatestFactor 28 = .ok (.ireturn, 1) := by decide +kernel
theorem dX7_init_0 : decode cX7_init 0 = .ok (.aload_n 0, 1) := by decide +kernel
theorem dX7_init_1 : decode cX7_init 1 = .ok (.invokespecial 1, 3) := by decide +kernel
theorem dX7_init_4 : decode cX7_init 4 = .ok (.aload_n 0, 1) := by decide +kernel
theorem dX7_init_5 : decode cX7_init 5 = .ok (.bipush 48, 2) := by decide +kernel
theorem dX7_init_7 : decode cX7_init 7 = .ok (.newarray .int, 2) := by decide +kernel
theorem dX7_init_9 : decode cX7_init 9 = .ok (.putfield 7, 3) := by decide +kernel
theorem dX7_init_12 : decode cX7_init 12 = .ok (.aload_n 0, 1) := by decide +kernel
theorem dX7_init_13 : decode cX7_init 13 = .ok (.bipush 6, 2) := by decide +kernel
theorem dX7_init_15 : decode cX7_init 15 = .ok (.newarray .int, 2) := by decide +kernel
theorem dX7_init_17 : decode cX7_init 17 = .ok (.putfield 13, 3) := by decide +kernel
theorem dX7_init_20 : decode cX7_init 20 = .ok (.aload_n 0, 1) := by decide +kernel
theorem dX7_init_21 : decode cX7_init 21 = .ok (.bipush 6, 2) := by decide +kernel
theorem dX7_init_23 : decode cX7_init 23 = .ok (.newarray .int, 2) := by decide +kernel
theorem dX7_init_25 : decode cX7_init 25 = .ok (.putfield 16, 3) := by decide +kernel
theorem dX7_init_28 : decode cX7_init 28 = .ok (.aload_n 0, 1) := by decide +kernel
theorem dX7_init_29 : decode cX7_init 29 = .ok (.bipush 6, 2) := by decide +kernel
theorem dX7_init_31 : decode cX7_init 31 = .ok (.newarray .int, 2) := by decide +kernel
theorem dX7_init_33 : decode cX7_init 33 = .ok (.putfield 19, 3) := by decide +kernel
theorem dX7_init_36 : decode cX7_init 36 = .ok (.aload_n 0, 1) := by decide +kernel
theorem dX7_init_37 : decode cX7_init 37 = .ok (.bipush 6, 2) := by decide +kernel
theorem dX7_init_39 : decode cX7_init 39 = .ok (.newarray .int, 2) := by decide +kernel
theorem dX7_init_41 : decode cX7_init 41 = .ok (.putfield 22, 3) := by decide +kernel
theorem dX7_init_44 : decode cX7_init 44 = .ok (.aload_n 0, 1) := by decide +kernel
theorem dX7_init_45 : decode cX7_init 45 = .ok (.bipush 12, 2) := by decide +kernel
theorem dX7_init_47 : decode cX7_init 47 = .ok (.newarray .int, 2) := by decide +kernel
theorem dX7_init_49 : decode cX7_init 49 = .ok (.putfield 25, 3) := by decide +kernel
theorem dX7_init_52 : decode cX7_init 52 = .ok (.aload_n 0, 1) := by decide +kernel
theorem dX7_init_53 : decode cX7_init 53 = .ok (.bipush 60, 2) := by decide +kernel
theorem dX7_init_55 : decode cX7_init 55 = .ok (.newarray .int, 2) := by decide +kernel
theorem dX7_init_57 : decode cX7_init 57 = .ok (.putfield 28, 3) := by decide +kernel
theorem dX7_init_60 : decode cX7_init 60 = .ok (.aload_n 0, 1) := by decide +kernel
theorem dX7_init_61 : decode cX7_init 61 = .ok (.bipush 7, 2) := by decide +kernel
theorem dX7_init_63 : decode cX7_init 63 = .ok (.newarray .int, 2) := by decide +kernel
theorem dX7_init_65 : decode cX7_init 65 = .ok (.putfield 31, 3) := by decide +kernel
theorem dX7_init_68 : decode cX7_init 68 = .ok (.aload_n 0, 1) := by decide +kernel
theorem dX7_init_69 : decode cX7_init 69 = .ok (.sipush 200, 3) := by decide +kernel
theorem dX7_init_72 : decode cX7_init 72 = .ok (.newarray .int, 2) := by decide +kernel
theorem dX7_init_74 : decode cX7_init 74 = .ok (.putfield 34, 3) := by decide +kernel
theorem dX7_init_77 : decode cX7_init 77 = .ok (.aload_n 0, 1) := by decide +kernel
theorem dX7_init_78 : decode cX7_init 78 = .ok (.iconst 2, 1) := by decide +kernel
theorem dX7_init_79 : decode cX7_init 79 = .ok (.newarray .boolean, 2) := by decide +kernel
theorem dX7_init_81 : decode cX7_init 81 = .ok (.putfield 37, 3) := by decide +kernel
theorem dX7_init_84 : decode cX7_init 84 = .ok (.aload_n 0, 1) := by decide +kernel
theorem dX7_init_85 : decode cX7_init 85 = .ok (.iconst 0, 1) := by decide +kernel
theorem dX7_init_86 : decode cX7_init 86 = .ok (.putfield 41, 3) := by decide +kernel
theorem dX7_init_89 : decode cX7_init 89 = .ok (.return_, 1) := by decide +kernel
theorem dX7_in_0 : decode cX7_in 0 = .ok (.iload_n 0, 1) := by decide +kernel
theorem dX7_in_1 : decode cX7_in 1 = .ok (.iload_n 1, 1) := by decide +kernel
theorem dX7_in_2 : decode cX7_in 2 = .ok (.if_icmp .lt 12, 3) := by decide +kernel
theorem dX7_in_5 : decode cX7_in 5 = .ok (.iload_n 0, 1) := by decide +kernel
theorem dX7_in_6 : decode cX7_in 6 = .ok (.iload_n 2, 1) := by decide +kernel
theorem dX7_in_7 : decode cX7_in 7 = .ok (.if_icmp .gt 7, 3) := by decide +kernel
theorem dX7_in_10 : decode cX7_in 10 = .ok (.iconst 1, 1) := by decide +kernel
theorem dX7_in_11 : decode cX7_in 11 = .ok (.goto 4, 3) := by decide +kernel
theorem dX7_in_14 : decode cX7_in 14 = .ok (.iconst 0, 1) := by decide +kernel
theorem dX7_in_15 : decode cX7_in 15 = .ok (.ireturn, 1) := by decide +kernel
theorem dX7_has_0 : decode cX7_has 0 = .ok (.iload_n 0, 1) := by decide +kernel
theorem dX7_has_1 : decode cX7_has 1 = .ok (.iload_n 1, 1) := by decide +kernel
theorem dX7_has_2 : decode cX7_has 2 = .ok (.ishr, 1) := by decide +kernel
theorem dX7_has_3 : decode cX7_has 3 = .ok (.iconst 1, 1) := by decide +kernel
theorem dX7_has_4 : decode cX7_has 4 = .ok (.iand, 1) := by decide +kernel
theorem dX7_has_5 : decode cX7_has 5 = .ok (.iconst 1, 1) := by decide +kernel
theorem dX7_has_6 : decode cX7_has 6 = .ok (.if_icmp .ne 7, 3) := by decide +kernel
theorem dX7_has_9 : decode cX7_has 9 = .ok (.iconst 1, 1) := by decide +kernel
theorem dX7_has_10 : decode cX7_has 10 = .ok (.goto 4, 3) := by decide +kernel
theorem dX7_has_13 : decode cX7_has 13 = .ok (.iconst 0, 1) := by decide +kernel
theorem dX7_has_14 : decode cX7_has 14 = .ok (.ireturn, 1) := by decide +kernel
theorem dX7_bits_0 : decode cX7_bits 0 = .ok (.iconst 0, 1) := by decide +kernel
theorem dX7_bits_1 : decode cX7_bits 1 = .ok (.istore_n 1, 1) := by decide +kernel
theorem dX7_bits_2 : decode cX7_bits 2 = .ok (.iconst 0, 1) := by decide +kernel
theorem dX7_bits_3 : decode cX7_bits 3 = .ok (.istore_n 2, 1) := by decide +kernel
theorem dX7_bits_4 : decode cX7_bits 4 = .ok (.iload_n 2, 1) := by decide +kernel
theorem dX7_bits_5 : decode cX7_bits 5 = .ok (.bipush 8, 2) := by decide +kernel
theorem dX7_bits_7 : decode cX7_bits 7 = .ok (.if_icmp .ge 17, 3) := by decide +kernel
theorem dX7_bits_10 : decode cX7_bits 10 = .ok (.iload_n 1, 1) := by decide +kernel
theorem dX7_bits_11 : decode cX7_bits 11 = .ok (.iload_n 0, 1) := by decide +kernel
theorem dX7_bits_12 : decode cX7_bits 12 = .ok (.iload_n 2, 1) := by decide +kernel
theorem dX7_bits_13 : decode cX7_bits 13 = .ok (.ishr, 1) := by decide +kernel
theorem dX7_bits_14 : decode cX7_bits 14 = .ok (.iconst 1, 1) := by decide +kernel
theorem dX7_bits_15 : decode cX7_bits 15 = .ok (.iand, 1) := by decide +kernel
theorem dX7_bits_16 : decode cX7_bits 16 = .ok (.iadd, 1) := by decide +kernel
theorem dX7_bits_17 : decode cX7_bits 17 = .ok (.istore_n 1, 1) := by decide +kernel
theorem dX7_bits_18 : decode cX7_bits 18 = .ok (.iinc 2 1, 3) := by decide +kernel
theorem dX7_bits_21 : decode cX7_bits 21 = .ok (.goto (-17), 3) := by decide +kernel
theorem dX7_bits_24 : decode cX7_bits 24 = .ok (.iload_n 1, 1) := by decide +kernel
theorem dX7_bits_25 : decode cX7_bits 25 = .ok (.ireturn, 1) := by decide +kernel
theorem dX7_isThere_0 : decode cX7_isThere 0 = .ok (.iload_n 1, 1) := by decide +kernel
theorem dX7_isThere_1 : decode cX7_isThere 1 = .ok (.iconst 0, 1) := by decide +kernel
theorem dX7_isThere_2 : decode cX7_isThere 2 = .ok (.iconst 5, 1) := by decide +kernel
theorem dX7_isThere_3 : decode cX7_isThere 3 = .ok (.invokestatic 45, 3) := by decide +kernel
theorem dX7_isThere_6 : decode cX7_isThere 6 = .ok (.ifCond .eq 18, 3) := by decide +kernel
theorem dX7_isThere_9 : decode cX7_isThere 9 = .ok (.aload_n 0, 1) := by decide +kernel
theorem dX7_isThere_10 : decode cX7_isThere 10 = .ok (.getfield 41, 3) := by decide +kernel
theorem dX7_isThere_13 : decode cX7_isThere 13 = .ok (.iload_n 1, 1) := by decide +kernel
theorem dX7_isThere_14 : decode cX7_isThere 14 = .ok (.invokestatic 49, 3) := by decide +kernel
theorem dX7_isThere_17 : decode cX7_isThere 17 = .ok (.ifCond .eq 7, 3) := by decide +kernel
theorem dX7_isThere_20 : decode cX7_isThere 20 = .ok (.iconst 1, 1) := by decide +kernel
theorem dX7_isThere_21 : decode cX7_isThere 21 = .ok (.goto 4, 3) := by decide +kernel
theorem dX7_isThere_24 : decode cX7_isThere 24 = .ok (.iconst 0, 1) := by decide +kernel
theorem dX7_isThere_25 : decode cX7_isThere 25 = .ok (.ireturn, 1) := by decide +kernel
theorem dX7_isDay_0 : decode cX7_isDay 0 = .ok (.iload_n 0, 1) := by decide +kernel
theorem dX7_isDay_1 : decode cX7_isDay 1 = .ok (.iconst 0, 1) := by decide +kernel
theorem dX7_isDay_2 : decode cX7_isDay 2 = .ok (.bipush 7, 2) := by decide +kernel
theorem dX7_isDay_4 : decode cX7_isDay 4 = .ok (.invokestatic 45, 3) := by decide +kernel
theorem dX7_isDay_7 : decode cX7_isDay 7 = .ok (.ireturn, 1) := by decide +kernel
theorem dX7_isDate_0 : decode cX7_isDate 0 = .ok (.iload_n 0, 1) := by decide +kernel
theorem dX7_isDate_1 : decode cX7_isDate 1 = .ok (.iconst 0, 1) := by decide +kernel
theorem dX7_isDate_2 : decode cX7_isDate 2 = .ok (.sipush 9999, 3) := by decide +kernel
theorem dX7_isDate_5 : decode cX7_isDate 5 = .ok (.invokestatic 45, 3) := by decide +kernel
theorem dX7_isDate_8 : decode cX7_isDate 8 = .ok (.ireturn, 1) := by decide +kernel
theorem dX7_say_0 : decode cX7_say 0 = .ok (.iload_n 1, 1) := by decide +kernel
theorem dX7_say_1 : decode cX7_say 1 = .ok (.bipush 33, 2) := by decide +kernel
theorem dX7_say_3 : decode cX7_say 3 = .ok (.bipush 126, 2) := by decide +kernel
theorem dX7_say_5 : decode cX7_say 5 = .ok (.invokestatic 45, 3) := by decide +kernel
theorem dX7_say_8 : decode cX7_say 8 = .ok (.ifCond .ne 6, 3) := by decide +kernel
theorem dX7_say_11 : decode cX7_say 11 = .ok (.bipush (-2), 2) := by decide +kernel
theorem dX7_say_13 : decode cX7_say 13 = .ok (.ireturn, 1) := by decide +kernel
theorem dX7_say_14 : decode cX7_say 14 = .ok (.aload_n 0, 1) := by decide +kernel
theorem dX7_say_15 : decode cX7_say 15 = .ok (.getfield 53, 3) := by decide +kernel
theorem dX7_say_18 : decode cX7_say 18 = .ok (.bipush 60, 2) := by decide +kernel
theorem dX7_say_20 : decode cX7_say 20 = .ok (.if_icmp .ne 6, 3) := by decide +kernel
theorem dX7_say_23 : decode cX7_say 23 = .ok (.bipush (-4), 2) := by decide +kernel
theorem dX7_say_25 : decode cX7_say 25 = .ok (.ireturn, 1) := by decide +kernel
theorem dX7_say_26 : decode cX7_say 26 = .ok (.aload_n 0, 1) := by decide +kernel
theorem dX7_say_27 : decode cX7_say 27 = .ok (.getfield 28, 3) := by decide +kernel
theorem dX7_say_30 : decode cX7_say 30 = .ok (.aload_n 0, 1) := by decide +kernel
theorem dX7_say_31 : decode cX7_say 31 = .ok (.getfield 53, 3) := by decide +kernel
theorem dX7_say_34 : decode cX7_say 34 = .ok (.iload_n 1, 1) := by decide +kernel
theorem dX7_say_35 : decode cX7_say 35 = .ok (.iastore, 1) := by decide +kernel
theorem dX7_say_36 : decode cX7_say 36 = .ok (.aload_n 0, 1) := by decide +kernel
theorem dX7_say_37 : decode cX7_say 37 = .ok (.dup, 1) := by decide +kernel
theorem dX7_say_38 : decode cX7_say 38 = .ok (.getfield 53, 3) := by decide +kernel
theorem dX7_say_41 : decode cX7_say 41 = .ok (.iconst 1, 1) := by decide +kernel
theorem dX7_say_42 : decode cX7_say 42 = .ok (.iadd, 1) := by decide +kernel
theorem dX7_say_43 : decode cX7_say 43 = .ok (.putfield 53, 3) := by decide +kernel
theorem dX7_say_46 : decode cX7_say 46 = .ok (.aload_n 0, 1) := by decide +kernel
theorem dX7_say_47 : decode cX7_say 47 = .ok (.getfield 53, 3) := by decide +kernel
theorem dX7_say_50 : decode cX7_say 50 = .ok (.ireturn, 1) := by decide +kernel
theorem dX7_wipe_0 : decode cX7_wipe 0 = .ok (.aload_n 0, 1) := by decide +kernel
theorem dX7_wipe_1 : decode cX7_wipe 1 = .ok (.getfield 53, 3) := by decide +kernel
theorem dX7_wipe_4 : decode cX7_wipe 4 = .ok (.istore_n 1, 1) := by decide +kernel
theorem dX7_wipe_5 : decode cX7_wipe 5 = .ok (.aload_n 0, 1) := by decide +kernel
theorem dX7_wipe_6 : decode cX7_wipe 6 = .ok (.iconst 0, 1) := by decide +kernel
theorem dX7_wipe_7 : decode cX7_wipe 7 = .ok (.putfield 53, 3) := by decide +kernel
theorem dX7_wipe_10 : decode cX7_wipe 10 = .ok (.iload_n 1, 1) := by decide +kernel
theorem dX7_wipe_11 : decode cX7_wipe 11 = .ok (.ireturn, 1) := by decide +kernel
theorem dX7_orderFault_0 : decode cX7_orderFault 0 = .ok (.iconst 0, 1) := by decide +kernel
theorem dX7_orderFault_1 : decode cX7_orderFault 1 = .ok (.istore_n 1, 1) := by decide +kernel
theorem dX7_orderFault_2 : decode cX7_orderFault 2 = .ok (.iconst 0, 1) := by decide +kernel
theorem dX7_orderFault_3 : decode cX7_orderFault 3 = .ok (.istore_n 2, 1) := by decide +kernel
theorem dX7_orderFault_4 : decode cX7_orderFault 4 = .ok (.iload_n 2, 1) := by decide +kernel
theorem dX7_orderFault_5 : decode cX7_orderFault 5 = .ok (.aload_n 0, 1) := by decide +kernel
theorem dX7_orderFault_6 : decode cX7_orderFault 6 = .ok (.getfield 53, 3) := by decide +kernel
theorem dX7_orderFault_9 : decode cX7_orderFault 9 = .ok (.if_icmp .ge 48, 3) := by decide +kernel
theorem dX7_orderFault_12 : decode cX7_orderFault 12 = .ok (.aload_n 0, 1) := by decide +kernel
theorem dX7_orderFault_13 : decode cX7_orderFault 13 = .ok (.getfield 28, 3) := by decide +kernel
theorem dX7_orderFault_16 : decode cX7_orderFault 16 = .ok (.iload_n 2, 1) := by decide +kernel
theorem dX7_orderFault_17 : decode cX7_orderFault 17 = .ok (.iaload, 1) := by decide +kernel
theorem dX7_orderFault_18 : decode cX7_orderFault 18 = .ok (.bipush 97, 2) := by decide +kernel
theorem dX7_orderFault_20 : decode cX7_orderFault 20 = .ok (.isub, 1) := by decide +kernel
theorem dX7_orderFault_21 : decode cX7_orderFault 21 = .ok (.istore_n 3, 1) := by decide +kernel
theorem dX7_orderFault_22 : decode cX7_orderFault 22 = .ok (.iload_n 2, 1) := by decide +kernel
theorem dX7_orderFault_23 : decode cX7_orderFault 23 = .ok (.bipush 8, 2) := by decide +kernel
theorem dX7_orderFault_25 : decode cX7_orderFault 25 = .ok (.if_icmp .eq 18, 3) := by decide +kernel
theorem dX7_orderFault_28 : decode cX7_orderFault 28 = .ok (.iload_n 3, 1) := by decide +kernel
theorem dX7_orderFault_29 : decode cX7_orderFault 29 = .ok (.invokestatic 56, 3) := by decide +kernel
theorem dX7_orderFault_32 : decode cX7_orderFault 32 = .ok (.ifCond .eq 11, 3) := by decide +kernel
theorem dX7_orderFault_35 : decode cX7_orderFault 35 = .ok (.iload_n 1, 1) := by decide +kernel
theorem dX7_orderFault_36 : decode cX7_orderFault 36 = .ok (.iload_n 3, 1) := by decide +kernel
theorem dX7_orderFault_37 : decode cX7_orderFault 37 = .ok (.invokestatic 49, 3) := by decide +kernel
theorem dX7_orderFault_40 : decode cX7_orderFault 40 = .ok (.ifCond .eq 5, 3) := by decide +kernel
theorem dX7_orderFault_43 : decode cX7_orderFault 43 = .ok (.iload_n 2, 1) := by decide +kernel
theorem dX7_orderFault_44 : decode cX7_orderFault 44 = .ok (.ireturn, 1) := by decide +kernel
theorem dX7_orderFault_45 : decode cX7_orderFault 45 = .ok (.iload_n 1, 1) := by decide +kernel
theorem dX7_orderFault_46 : decode cX7_orderFault 46 = .ok (.iconst 1, 1) := by decide +kernel
theorem dX7_orderFault_47 : decode cX7_orderFault 47 = .ok (.iload_n 3, 1) := by decide +kernel
theorem dX7_orderFault_48 : decode cX7_orderFault 48 = .ok (.ishl, 1) := by decide +kernel
theorem dX7_orderFault_49 : decode cX7_orderFault 49 = .ok (.ior, 1) := by decide +kernel
theorem dX7_orderFault_50 : decode cX7_orderFault 50 = .ok (.istore_n 1, 1) := by decide +kernel
theorem dX7_orderFault_51 : decode cX7_orderFault 51 = .ok (.iinc 2 1, 3) := by decide +kernel
theorem dX7_orderFault_54 : decode cX7_orderFault 54 = .ok (.goto (-50), 3) := by decide +kernel
theorem dX7_orderFault_57 : decode cX7_orderFault 57 = .ok (.aload_n 0, 1) := by decide +kernel
theorem dX7_orderFault_58 : decode cX7_orderFault 58 = .ok (.getfield 53, 3) := by decide +kernel
theorem dX7_orderFault_61 : decode cX7_orderFault 61 = .ok (.iconst 5, 1) := by decide +kernel
theorem dX7_orderFault_62 : decode cX7_orderFault 62 = .ok (.if_icmp .ge 10, 3) := by decide +kernel
theorem dX7_orderFault_65 : decode cX7_orderFault 65 = .ok (.aload_n 0, 1) := by decide +kernel
theorem dX7_orderFault_66 : decode cX7_orderFault 66 = .ok (.getfield 53, 3) := by decide +kernel
theorem dX7_orderFault_69 : decode cX7_orderFault 69 = .ok (.goto 5, 3) := by decide +kernel
theorem dX7_orderFault_72 : decode cX7_orderFault 72 = .ok (.bipush (-6), 2) := by decide +kernel
theorem dX7_orderFault_74 : decode cX7_orderFault 74 = .ok (.ireturn, 1) := by decide +kernel
theorem dX7_planFault_0 : decode cX7_planFault 0 = .ok (.iconst 0, 1) := by decide +kernel
theorem dX7_planFault_1 : decode cX7_planFault 1 = .ok (.istore_n 1, 1) := by decide +kernel
theorem dX7_planFault_2 : decode cX7_planFault 2 = .ok (.bipush (-2), 2) := by decide +kernel
theorem dX7_planFault_4 : decode cX7_planFault 4 = .ok (.istore_n 2, 1) := by decide +kernel
theorem dX7_planFault_5 : decode cX7_planFault 5 = .ok (.iconst 0, 1) := by decide +kernel
theorem dX7_planFault_6 : decode cX7_planFault 6 = .ok (.istore_n 3, 1) := by decide +kernel
theorem dX7_planFault_7 : decode cX7_planFault 7 = .ok (.iload_n 3, 1) := by decide +kernel
theorem dX7_planFault_8 : decode cX7_planFault 8 = .ok (.aload_n 0, 1) := by decide +kernel
theorem dX7_planFault_9 : decode cX7_planFault 9 = .ok (.getfield 53, 3) := by decide +kernel
theorem dX7_planFault_12 : decode cX7_planFault 12 = .ok (.if_icmp .ge 116, 3) := by decide +kernel
theorem dX7_planFault_15 : decode cX7_planFault 15 = .ok (.aload_n 0, 1) := by decide +kernel
theorem dX7_planFault_16 : decode cX7_planFault 16 = .ok (.getfield 28, 3) := by decide +kernel
theorem dX7_planFault_19 : decode cX7_planFault 19 = .ok (.iload_n 3, 1) := by decide +kernel
theorem dX7_planFault_20 : decode cX7_planFault 20 = .ok (.iaload, 1) := by decide +kernel
theorem dX7_planFault_21 : decode cX7_planFault 21 = .ok (.istore 4, 2) := by decide +kernel
theorem dX7_planFault_23 : decode cX7_planFault 23 = .ok (.iload_n 2, 1) := by decide +kernel
theorem dX7_planFault_24 : decode cX7_planFault 24 = .ok (.bipush (-2), 2) := by decide +kernel
theorem dX7_planFault_26 : decode cX7_planFault 26 = .ok (.if_icmp .ne 35, 3) := by decide +kernel
theorem dX7_planFault_29 : decode cX7_planFault 29 = .ok (.iload 4, 2) := by decide +kernel
theorem dX7_planFault_31 : decode cX7_planFault 31 = .ok (.bipush 97, 2) := by decide +kernel
theorem dX7_planFault_33 : decode cX7_planFault 33 = .ok (.isub, 1) := by decide +kernel
theorem dX7_planFault_34 : decode cX7_planFault 34 = .ok (.invokestatic 56, 3) := by decide +kernel
theorem dX7_planFault_37 : decode cX7_planFault 37 = .ok (.ifCond .eq 13, 3) := by decide +kernel
theorem dX7_planFault_40 : decode cX7_planFault 40 = .ok (.iload_n 1, 1) := by decide +kernel
theorem dX7_planFault_41 : decode cX7_planFault 41 = .ok (.bipush 6, 2) := by decide +kernel
theorem dX7_planFault_43 : decode cX7_planFault 43 = .ok (.if_icmp .ge 7, 3) := by decide +kernel
theorem dX7_planFault_46 : decode cX7_planFault 46 = .ok (.iconst 1, 1) := by decide +kernel
theorem dX7_planFault_47 : decode cX7_planFault 47 = .ok (.goto 4, 3) := by decide +kernel
theorem dX7_planFault_50 : decode cX7_planFault 50 = .ok (.iconst 0, 1) := by decide +kernel
theorem dX7_planFault_51 : decode cX7_planFault 51 = .ok (.istore 5, 2) := by decide +kernel
theorem dX7_planFault_53 : decode cX7_planFault 53 = .ok (.iconst (-1), 1) := by decide +kernel
theorem dX7_planFault_54 : decode cX7_planFault 54 = .ok (.istore_n 2, 1) := by decide +kernel
theorem dX7_planFault_55 : decode cX7_planFault 55 = .ok (.iinc 1 1, 3) := by decide +kernel
theorem dX7_planFault_58 : decode cX7_planFault 58 = .ok (.goto 57, 3) := by decide +kernel
theorem dX7_planFault_61 : decode cX7_planFault 61 = .ok (.iload 4, 2) := by decide +kernel
theorem dX7_planFault_63 : decode cX7_planFault 63 = .ok (.bipush 59, 2) := by decide +kernel
theorem dX7_planFault_65 : decode cX7_planFault 65 = .ok (.if_icmp .ne 16, 3) := by decide +kernel
theorem dX7_planFault_68 : decode cX7_planFault 68 = .ok (.iload_n 2, 1) := by decide +kernel
theorem dX7_planFault_69 : decode cX7_planFault 69 = .ok (.ifCond .lt 12, 3) := by decide +kernel
theorem dX7_planFault_72 : decode cX7_planFault 72 = .ok (.iconst 1, 1) := by decide +kernel
theorem dX7_planFault_73 : decode cX7_planFault 73 = .ok (.istore 5, 2) := by decide +kernel
theorem dX7_planFault_75 : decode cX7_planFault 75 = .ok (.bipush (-2), 2) := by decide +kernel
theorem dX7_planFault_77 : decode cX7_planFault 77 = .ok (.istore_n 2, 1) := by decide +kernel
theorem dX7_planFault_78 : decode cX7_planFault 78 = .ok (.goto 37, 3) := by decide +kernel
theorem dX7_planFault_81 : decode cX7_planFault 81 = .ok (.iload 4, 2) := by decide +kernel
theorem dX7_planFault_83 : decode cX7_planFault 83 = .ok (.bipush 48, 2) := by decide +kernel
theorem dX7_planFault_85 : decode cX7_planFault 85 = .ok (.bipush 53, 2) := by decide +kernel
theorem dX7_planFault_87 : decode cX7_planFault 87 = .ok (.invokestatic 45, 3) := by decide +kernel
theorem dX7_planFault_90 : decode cX7_planFault 90 = .ok (.ifCond .eq 16, 3) := by decide +kernel
theorem dX7_planFault_93 : decode cX7_planFault 93 = .ok (.iload 4, 2) := by decide +kernel
theorem dX7_planFault_95 : decode cX7_planFault 95 = .ok (.bipush 48, 2) := by decide +kernel
theorem dX7_planFault_97 : decode cX7_planFault 97 = .ok (.isub, 1) := by decide +kernel
theorem dX7_planFault_98 : decode cX7_planFault 98 = .ok (.iload_n 2, 1) := by decide +kernel
theorem dX7_planFault_99 : decode cX7_planFault 99 = .ok (.if_icmp .le 7, 3) := by decide +kernel
theorem dX7_planFault_102 : decode cX7_planFault 102 = .ok (.iconst 1, 1) := by decide +kernel
theorem dX7_planFault_103 : decode cX7_planFault 103 = .ok (.goto 4, 3) := by decide +kernel
theorem dX7_planFault_106 : decode cX7_planFault 106 = .ok (.iconst 0, 1) := by decide +kernel
theorem dX7_planFault_107 : decode cX7_planFault 107 = .ok (.istore 5, 2) := by decide +kernel
theorem dX7_planFault_109 : decode cX7_planFault 109 = .ok (.iload 4, 2) := by decide +kernel
theorem dX7_planFault_111 : decode cX7_planFault 111 = .ok (.bipush 48, 2) := by decide +kernel
theorem dX7_planFault_113 : decode cX7_planFault 113 = .ok (.isub, 1) := by decide +kernel
theorem dX7_planFault_114 : decode cX7_planFault 114 = .ok (.istore_n 2, 1) := by decide +kernel
theorem dX7_planFault_115 : decode cX7_planFault 115 = .ok (.iload 5, 2) := by decide +kernel
theorem dX7_planFault_117 : decode cX7_planFault 117 = .ok (.ifCond .ne 5, 3) := by decide +kernel
theorem dX7_planFault_120 : decode cX7_planFault 120 = .ok (.iload_n 3, 1) := by decide +kernel
theorem dX7_planFault_121 : decode cX7_planFault 121 = .ok (.ireturn, 1) := by decide +kernel
theorem dX7_planFault_122 : decode cX7_planFault 122 = .ok (.iinc 3 1, 3) := by decide +kernel
theorem dX7_planFault_125 : decode cX7_planFault 125 = .ok (.goto (-118), 3) := by decide +kernel
theorem dX7_planFault_128 : decode cX7_planFault 128 = .ok (.iload_n 2, 1) := by decide +kernel
theorem dX7_planFault_129 : decode cX7_planFault 129 = .ok (.bipush (-2), 2) := by decide +kernel
theorem dX7_planFault_131 : decode cX7_planFault 131 = .ok (.if_icmp .ne 8, 3) := by decide +kernel
theorem dX7_planFault_134 : decode cX7_planFault 134 = .ok (.bipush (-6), 2) := by decide +kernel
theorem dX7_planFault_136 : decode cX7_planFault 136 = .ok (.goto 7, 3) := by decide +kernel
theorem dX7_planFault_139 : decode cX7_planFault 139 = .ok (.aload_n 0, 1) := by decide +kernel
theorem dX7_planFault_140 : decode cX7_planFault 140 = .ok (.getfield 53, 3) := by decide +kernel
theorem dX7_planFault_143 : decode cX7_planFault 143 = .ok (.ireturn, 1) := by decide +kernel
theorem dX7_fault_0 : decode cX7_fault 0 = .ok (.iload_n 1, 1) := by decide +kernel
theorem dX7_fault_1 : decode cX7_fault 1 = .ok (.ifCond .ne 10, 3) := by decide +kernel
theorem dX7_fault_4 : decode cX7_fault 4 = .ok (.aload_n 0, 1) := by decide +kernel
theorem dX7_fault_5 : decode cX7_fault 5 = .ok (.invokevirtual 60, 3) := by decide +kernel
theorem dX7_fault_8 : decode cX7_fault 8 = .ok (.goto 17, 3) := by decide +kernel
theorem dX7_fault_11 : decode cX7_fault 11 = .ok (.iload_n 1, 1) := by decide +kernel
theorem dX7_fault_12 : decode cX7_fault 12 = .ok (.iconst 1, 1) := by decide +kernel
theorem dX7_fault_13 : decode cX7_fault 13 = .ok (.if_icmp .ne 10, 3) := by decide +kernel
theorem dX7_fault_16 : decode cX7_fault 16 = .ok (.aload_n 0, 1) := by decide +kernel
theorem dX7_fault_17 : decode cX7_fault 17 = .ok (.invokevirtual 64, 3) := by decide +kernel
theorem dX7_fault_20 : decode cX7_fault 20 = .ok (.goto 5, 3) := by decide +kernel
theorem dX7_fault_23 : decode cX7_fault 23 = .ok (.bipush (-2), 2) := by decide +kernel
theorem dX7_fault_25 : decode cX7_fault 25 = .ok (.ireturn, 1) := by decide +kernel
theorem dX7_born_0 : decode cX7_born 0 = .ok (.iload_n 1, 1) := by decide +kernel
theorem dX7_born_1 : decode cX7_born 1 = .ok (.iconst 0, 1) := by decide +kernel
theorem dX7_born_2 : decode cX7_born 2 = .ok (.iconst 5, 1) := by decide +kernel
theorem dX7_born_3 : decode cX7_born 3 = .ok (.invokestatic 45, 3) := by decide +kernel
theorem dX7_born_6 : decode cX7_born 6 = .ok (.ifCond .ne 5, 3) := by decide +kernel
theorem dX7_born_9 : decode cX7_born 9 = .ok (.iconst (-1), 1) := by decide +kernel
theorem dX7_born_10 : decode cX7_born 10 = .ok (.ireturn, 1) := by decide +kernel
theorem dX7_born_11 : decode cX7_born 11 = .ok (.iload_n 2, 1) := by decide +kernel
theorem dX7_born_12 : decode cX7_born 12 = .ok (.iconst 0, 1) := by decide +kernel
theorem dX7_born_13 : decode cX7_born 13 = .ok (.bipush 99, 2) := by decide +kernel
theorem dX7_born_15 : decode cX7_born 15 = .ok (.invokestatic 45, 3) := by decide +kernel
theorem dX7_born_18 : decode cX7_born 18 = .ok (.ifCond .ne 6, 3) := by decide +kernel
theorem dX7_born_21 : decode cX7_born 21 = .ok (.bipush (-2), 2) := by decide +kernel
theorem dX7_born_23 : decode cX7_born 23 = .ok (.ireturn, 1) := by decide +kernel
theorem dX7_born_24 : decode cX7_born 24 = .ok (.aload_n 0, 1) := by decide +kernel
theorem dX7_born_25 : decode cX7_born 25 = .ok (.invokevirtual 60, 3) := by decide +kernel
theorem dX7_born_28 : decode cX7_born 28 = .ok (.ifCond .lt 6, 3) := by decide +kernel
theorem dX7_born_31 : decode cX7_born 31 = .ok (.bipush (-5), 2) := by decide +kernel
theorem dX7_born_33 : decode cX7_born 33 = .ok (.ireturn, 1) := by decide +kernel
theorem dX7_born_34 : decode cX7_born 34 = .ok (.iconst 0, 1) := by decide +kernel
theorem dX7_born_35 : decode cX7_born 35 = .ok (.istore_n 3, 1) := by decide +kernel
theorem dX7_born_36 : decode cX7_born 36 = .ok (.iload_n 3, 1) := by decide +kernel
theorem dX7_born_37 : decode cX7_born 37 = .ok (.aload_n 0, 1) := by decide +kernel
theorem dX7_born_38 : decode cX7_born 38 = .ok (.getfield 53, 3) := by decide +kernel
theorem dX7_born_41 : decode cX7_born 41 = .ok (.if_icmp .ge 29, 3) := by decide +kernel
theorem dX7_born_44 : decode cX7_born 44 = .ok (.aload_n 0, 1) := by decide +kernel
theorem dX7_born_45 : decode cX7_born 45 = .ok (.getfield 7, 3) := by decide +kernel
theorem dX7_born_48 : decode cX7_born 48 = .ok (.bipush 8, 2) := by decide +kernel
theorem dX7_born_50 : decode cX7_born 50 = .ok (.iload_n 1, 1) := by decide +kernel
theorem dX7_born_51 : decode cX7_born 51 = .ok (.imul, 1) := by decide +kernel
theorem dX7_born_52 : decode cX7_born 52 = .ok (.iload_n 3, 1) := by decide +kernel
theorem dX7_born_53 : decode cX7_born 53 = .ok (.iadd, 1) := by decide +kernel
theorem dX7_born_54 : decode cX7_born 54 = .ok (.aload_n 0, 1) := by decide +kernel
theorem dX7_born_55 : decode cX7_born 55 = .ok (.getfield 28, 3) := by decide +kernel
theorem dX7_born_58 : decode cX7_born 58 = .ok (.iload_n 3, 1) := by decide +kernel
theorem dX7_born_59 : decode cX7_born 59 = .ok (.iaload, 1) := by decide +kernel
theorem dX7_born_60 : decode cX7_born 60 = .ok (.bipush 97, 2) := by decide +kernel
theorem dX7_born_62 : decode cX7_born 62 = .ok (.isub, 1) := by decide +kernel
theorem dX7_born_63 : decode cX7_born 63 = .ok (.iastore, 1) := by decide +kernel
theorem dX7_born_64 : decode cX7_born 64 = .ok (.iinc 3 1, 3) := by decide +kernel
theorem dX7_born_67 : decode cX7_born 67 = .ok (.goto (-31), 3) := by decide +kernel
theorem dX7_born_70 : decode cX7_born 70 = .ok (.aload_n 0, 1) := by decide +kernel
theorem dX7_born_71 : decode cX7_born 71 = .ok (.getfield 13, 3) := by decide +kernel
theorem dX7_born_74 : decode cX7_born 74 = .ok (.iload_n 1, 1) := by decide +kernel
theorem dX7_born_75 : decode cX7_born 75 = .ok (.aload_n 0, 1) := by decide +kernel
theorem dX7_born_76 : decode cX7_born 76 = .ok (.getfield 53, 3) := by decide +kernel
theorem dX7_born_79 : decode cX7_born 79 = .ok (.iastore, 1) := by decide +kernel
theorem dX7_born_80 : decode cX7_born 80 = .ok (.aload_n 0, 1) := by decide +kernel
theorem dX7_born_81 : decode cX7_born 81 = .ok (.getfield 16, 3) := by decide +kernel
theorem dX7_born_84 : decode cX7_born 84 = .ok (.iload_n 1, 1) := by decide +kernel
theorem dX7_born_85 : decode cX7_born 85 = .ok (.iload_n 2, 1) := by decide +kernel
theorem dX7_born_86 : decode cX7_born 86 = .ok (.iastore, 1) := by decide +kernel
theorem dX7_born_87 : decode cX7_born 87 = .ok (.aload_n 0, 1) := by decide +kernel
theorem dX7_born_88 : decode cX7_born 88 = .ok (.dup, 1) := by decide +kernel
theorem dX7_born_89 : decode cX7_born 89 = .ok (.getfield 41, 3) := by decide +kernel
theorem dX7_born_92 : decode cX7_born 92 = .ok (.iconst 1, 1) := by decide +kernel
theorem dX7_born_93 : decode cX7_born 93 = .ok (.iload_n 1, 1) := by decide +kernel
theorem dX7_born_94 : decode cX7_born 94 = .ok (.ishl, 1) := by decide +kernel
theorem dX7_born_95 : decode cX7_born 95 = .ok (.ior, 1) := by decide +kernel
theorem dX7_born_96 : decode cX7_born 96 = .ok (.putfield 41, 3) := by decide +kernel
theorem dX7_born_99 : decode cX7_born 99 = .ok (.aload_n 0, 1) := by decide +kernel
theorem dX7_born_100 : decode cX7_born 100 = .ok (.iconst 0, 1) := by decide +kernel
theorem dX7_born_101 : decode cX7_born 101 = .ok (.putfield 53, 3) := by decide +kernel
theorem dX7_born_104 : decode cX7_born 104 = .ok (.aload_n 0, 1) := by decide +kernel
theorem dX7_born_105 : decode cX7_born 105 = .ok (.getfield 13, 3) := by decide +kernel
theorem dX7_born_108 : decode cX7_born 108 = .ok (.iload_n 1, 1) := by decide +kernel
theorem dX7_born_109 : decode cX7_born 109 = .ok (.iaload, 1) := by decide +kernel
theorem dX7_born_110 : decode cX7_born 110 = .ok (.ireturn, 1) := by decide +kernel
theorem dX7_exile_0 : decode cX7_exile 0 = .ok (.aload_n 0, 1) := by decide +kernel
theorem dX7_exile_1 : decode cX7_exile 1 = .ok (.iload_n 1, 1) := by decide +kernel
theorem dX7_exile_2 : decode cX7_exile 2 = .ok (.invokevirtual 67, 3) := by decide +kernel
theorem dX7_exile_5 : decode cX7_exile 5 = .ok (.ifCond .ne 5, 3) := by decide +kernel
theorem dX7_exile_8 : decode cX7_exile 8 = .ok (.iconst (-1), 1) := by decide +kernel
theorem dX7_exile_9 : decode cX7_exile 9 = .ok (.ireturn, 1) := by decide +kernel
theorem dX7_exile_10 : decode cX7_exile 10 = .ok (.aload_n 0, 1) := by decide +kernel
theorem dX7_exile_11 : decode cX7_exile 11 = .ok (.dup, 1) := by decide +kernel
theorem dX7_exile_12 : decode cX7_exile 12 = .ok (.getfield 41, 3) := by decide +kernel
theorem dX7_exile_15 : decode cX7_exile 15 = .ok (.iconst 1, 1) := by decide +kernel
theorem dX7_exile_16 : decode cX7_exile 16 = .ok (.iload_n 1, 1) := by decide +kernel
theorem dX7_exile_17 : decode cX7_exile 17 = .ok (.ishl, 1) := by decide +kernel
theorem dX7_exile_18 : decode cX7_exile 18 = .ok (.iconst (-1), 1) := by decide +kernel
theorem dX7_exile_19 : decode cX7_exile 19 = .ok (.ixor, 1) := by decide +kernel
theorem dX7_exile_20 : decode cX7_exile 20 = .ok (.iand, 1) := by decide +kernel
theorem dX7_exile_21 : decode cX7_exile 21 = .ok (.putfield 41, 3) := by decide +kernel
theorem dX7_exile_24 : decode cX7_exile 24 = .ok (.aload_n 0, 1) := by decide +kernel
theorem dX7_exile_25 : decode cX7_exile 25 = .ok (.getfield 41, 3) := by decide +kernel
theorem dX7_exile_28 : decode cX7_exile 28 = .ok (.invokestatic 70, 3) := by decide +kernel
theorem dX7_exile_31 : decode cX7_exile 31 = .ok (.ireturn, 1) := by decide +kernel
theorem dX7_plan_0 : decode cX7_plan 0 = .ok (.aload_n 0, 1) := by decide +kernel
theorem dX7_plan_1 : decode cX7_plan 1 = .ok (.invokevirtual 64, 3) := by decide +kernel
theorem dX7_plan_4 : decode cX7_plan 4 = .ok (.ifCond .lt 6, 3) := by decide +kernel
theorem dX7_plan_7 : decode cX7_plan 7 = .ok (.bipush (-5), 2) := by decide +kernel
theorem dX7_plan_9 : decode cX7_plan 9 = .ok (.ireturn, 1) := by decide +kernel
theorem dX7_plan_10 : decode cX7_plan 10 = .ok (.aload_n 0, 1) := by decide +kernel
theorem dX7_plan_11 : decode cX7_plan 11 = .ok (.iconst 0, 1) := by decide +kernel
theorem dX7_plan_12 : decode cX7_plan 12 = .ok (.putfield 74, 3) := by decide +kernel
theorem dX7_plan_15 : decode cX7_plan 15 = .ok (.iconst 0, 1) := by decide +kernel
theorem dX7_plan_16 : decode cX7_plan 16 = .ok (.istore_n 1, 1) := by decide +kernel
theorem dX7_plan_17 : decode cX7_plan 17 = .ok (.iload_n 1, 1) := by decide +kernel
theorem dX7_plan_18 : decode cX7_plan 18 = .ok (.aload_n 0, 1) := by decide +kernel
theorem dX7_plan_19 : decode cX7_plan 19 = .ok (.getfield 53, 3) := by decide +kernel
theorem dX7_plan_22 : decode cX7_plan 22 = .ok (.if_icmp .ge 90, 3) := by decide +kernel
theorem dX7_plan_25 : decode cX7_plan 25 = .ok (.aload_n 0, 1) := by decide +kernel
theorem dX7_plan_26 : decode cX7_plan 26 = .ok (.getfield 28, 3) := by decide +kernel
theorem dX7_plan_29 : decode cX7_plan 29 = .ok (.iload_n 1, 1) := by decide +kernel
theorem dX7_plan_30 : decode cX7_plan 30 = .ok (.iaload, 1) := by decide +kernel
theorem dX7_plan_31 : decode cX7_plan 31 = .ok (.istore_n 2, 1) := by decide +kernel
theorem dX7_plan_32 : decode cX7_plan 32 = .ok (.iload_n 2, 1) := by decide +kernel
theorem dX7_plan_33 : decode cX7_plan 33 = .ok (.bipush 97, 2) := by decide +kernel
theorem dX7_plan_35 : decode cX7_plan 35 = .ok (.bipush 104, 2) := by decide +kernel
theorem dX7_plan_37 : decode cX7_plan 37 = .ok (.invokestatic 45, 3) := by decide +kernel
theorem dX7_plan_40 : decode cX7_plan 40 = .ok (.ifCond .eq 29, 3) := by decide +kernel
theorem dX7_plan_43 : decode cX7_plan 43 = .ok (.aload_n 0, 1) := by decide +kernel
theorem dX7_plan_44 : decode cX7_plan 44 = .ok (.getfield 19, 3) := by decide +kernel
theorem dX7_plan_47 : decode cX7_plan 47 = .ok (.aload_n 0, 1) := by decide +kernel
theorem dX7_plan_48 : decode cX7_plan 48 = .ok (.getfield 74, 3) := by decide +kernel
theorem dX7_plan_51 : decode cX7_plan 51 = .ok (.iload_n 2, 1) := by decide +kernel
theorem dX7_plan_52 : decode cX7_plan 52 = .ok (.bipush 97, 2) := by decide +kernel
theorem dX7_plan_54 : decode cX7_plan 54 = .ok (.isub, 1) := by decide +kernel
theorem dX7_plan_55 : decode cX7_plan 55 = .ok (.iastore, 1) := by decide +kernel
theorem dX7_plan_56 : decode cX7_plan 56 = .ok (.aload_n 0, 1) := by decide +kernel
theorem dX7_plan_57 : decode cX7_plan 57 = .ok (.getfield 22, 3) := by decide +kernel
theorem dX7_plan_60 : decode cX7_plan 60 = .ok (.aload_n 0, 1) := by decide +kernel
theorem dX7_plan_61 : decode cX7_plan 61 = .ok (.getfield 74, 3) := by decide +kernel
theorem dX7_plan_64 : decode cX7_plan 64 = .ok (.iconst 0, 1) := by decide +kernel
theorem dX7_plan_65 : decode cX7_plan 65 = .ok (.iastore, 1) := by decide +kernel
theorem dX7_plan_66 : decode cX7_plan 66 = .ok (.goto 40, 3) := by decide +kernel
theorem dX7_plan_69 : decode cX7_plan 69 = .ok (.iload_n 2, 1) := by decide +kernel
theorem dX7_plan_70 : decode cX7_plan 70 = .ok (.bipush 59, 2) := by decide +kernel
theorem dX7_plan_72 : decode cX7_plan 72 = .ok (.if_icmp .ne 16, 3) := by decide +kernel
theorem dX7_plan_75 : decode cX7_plan 75 = .ok (.aload_n 0, 1) := by decide +kernel
theorem dX7_plan_76 : decode cX7_plan 76 = .ok (.dup, 1) := by decide +kernel
theorem dX7_plan_77 : decode cX7_plan 77 = .ok (.getfield 74, 3) := by decide +kernel
theorem dX7_plan_80 : decode cX7_plan 80 = .ok (.iconst 1, 1) := by decide +kernel
theorem dX7_plan_81 : decode cX7_plan 81 = .ok (.iadd, 1) := by decide +kernel
theorem dX7_plan_82 : decode cX7_plan 82 = .ok (.putfield 74, 3) := by decide +kernel
theorem dX7_plan_85 : decode cX7_plan 85 = .ok (.goto 21, 3) := by decide +kernel
theorem dX7_plan_88 : decode cX7_plan 88 = .ok (.aload_n 0, 1) := by decide +kernel
theorem dX7_plan_89 : decode cX7_plan 89 = .ok (.getfield 22, 3) := by decide +kernel
theorem dX7_plan_92 : decode cX7_plan 92 = .ok (.aload_n 0, 1) := by decide +kernel
theorem dX7_plan_93 : decode cX7_plan 93 = .ok (.getfield 74, 3) := by decide +kernel
theorem dX7_plan_96 : decode cX7_plan 96 = .ok (.dup2, 1) := by decide +kernel
theorem dX7_plan_97 : decode cX7_plan 97 = .ok (.iaload, 1) := by decide +kernel
theorem dX7_plan_98 : decode cX7_plan 98 = .ok (.iconst 1, 1) := by decide +kernel
theorem dX7_plan_99 : decode cX7_plan 99 = .ok (.iload_n 2, 1) := by decide +kernel
theorem dX7_plan_100 : decode cX7_plan 100 = .ok (.bipush 48, 2) := by decide +kernel
theorem dX7_plan_102 : decode cX7_plan 102 = .ok (.isub, 1) := by decide +kernel
theorem dX7_plan_103 : decode cX7_plan 103 = .ok (.ishl, 1) := by decide +kernel
theorem dX7_plan_104 : decode cX7_plan 104 = .ok (.ior, 1) := by decide +kernel
theorem dX7_plan_105 : decode cX7_plan 105 = .ok (.iastore, 1) := by decide +kernel
theorem dX7_plan_106 : decode cX7_plan 106 = .ok (.iinc 1 1, 3) := by decide +kernel
theorem dX7_plan_109 : decode cX7_plan 109 = .ok (.goto (-92), 3) := by decide +kernel
theorem dX7_plan_112 : decode cX7_plan 112 = .ok (.aload_n 0, 1) := by decide +kernel
theorem dX7_plan_113 : decode cX7_plan 113 = .ok (.iconst 0, 1) := by decide +kernel
theorem dX7_plan_114 : decode cX7_plan 114 = .ok (.putfield 53, 3) := by decide +kernel
theorem dX7_plan_117 : decode cX7_plan 117 = .ok (.aload_n 0, 1) := by decide +kernel
theorem dX7_plan_118 : decode cX7_plan 118 = .ok (.getfield 74, 3) := by decide +kernel
theorem dX7_plan_121 : decode cX7_plan 121 = .ok (.ireturn, 1) := by decide +kernel
theorem dX7_dayOf_0 : decode cX7_dayOf 0 = .ok (.aload_n 0, 1) := by decide +kernel
theorem dX7_dayOf_1 : decode cX7_dayOf 1 = .ok (.getfield 13, 3) := by decide +kernel
theorem dX7_dayOf_4 : decode cX7_dayOf 4 = .ok (.iload_n 1, 1) := by decide +kernel
theorem dX7_dayOf_5 : decode cX7_dayOf 5 = .ok (.iaload, 1) := by decide +kernel
theorem dX7_dayOf_6 : decode cX7_dayOf 6 = .ok (.istore_n 3, 1) := by decide +kernel
theorem dX7_dayOf_7 : decode cX7_dayOf 7 = .ok (.aload_n 0, 1) := by decide +kernel
theorem dX7_dayOf_8 : decode cX7_dayOf 8 = .ok (.getfield 7, 3) := by decide +kernel
theorem dX7_dayOf_11 : decode cX7_dayOf 11 = .ok (.bipush 8, 2) := by decide +kernel
theorem dX7_dayOf_13 : decode cX7_dayOf 13 = .ok (.iload_n 1, 1) := by decide +kernel
theorem dX7_dayOf_14 : decode cX7_dayOf 14 = .ok (.imul, 1) := by decide +kernel
theorem dX7_dayOf_15 : decode cX7_dayOf 15 = .ok (.iload_n 2, 1) := by decide +kernel
theorem dX7_dayOf_16 : decode cX7_dayOf 16 = .ok (.aload_n 0, 1) := by decide +kernel
theorem dX7_dayOf_17 : decode cX7_dayOf 17 = .ok (.getfield 16, 3) := by decide +kernel
theorem dX7_dayOf_20 : decode cX7_dayOf 20 = .ok (.iload_n 1, 1) := by decide +kernel
theorem dX7_dayOf_21 : decode cX7_dayOf 21 = .ok (.iaload, 1) := by decide +kernel
theorem dX7_dayOf_22 : decode cX7_dayOf 22 = .ok (.isub, 1) := by decide +kernel
theorem dX7_dayOf_23 : decode cX7_dayOf 23 = .ok (.iload_n 3, 1) := by decide +kernel
theorem dX7_dayOf_24 : decode cX7_dayOf 24 = .ok (.irem, 1) := by decide +kernel
theorem dX7_dayOf_25 : decode cX7_dayOf 25 = .ok (.iload_n 3, 1) := by decide +kernel
theorem dX7_dayOf_26 : decode cX7_dayOf 26 = .ok (.iadd, 1) := by decide +kernel
theorem dX7_dayOf_27 : decode cX7_dayOf 27 = .ok (.iload_n 3, 1) := by decide +kernel
theorem dX7_dayOf_28 : decode cX7_dayOf 28 = .ok (.irem, 1) := by decide +kernel
theorem dX7_dayOf_29 : decode cX7_dayOf 29 = .ok (.iadd, 1) := by decide +kernel
theorem dX7_dayOf_30 : decode cX7_dayOf 30 = .ok (.iaload, 1) := by decide +kernel
theorem dX7_dayOf_31 : decode cX7_dayOf 31 = .ok (.ireturn, 1) := by decide +kernel
theorem dX7_today_0 : decode cX7_today 0 = .ok (.aload_n 0, 1) := by decide +kernel
theorem dX7_today_1 : decode cX7_today 1 = .ok (.iload_n 1, 1) := by decide +kernel
theorem dX7_today_2 : decode cX7_today 2 = .ok (.invokevirtual 67, 3) := by decide +kernel
theorem dX7_today_5 : decode cX7_today 5 = .ok (.ifCond .ne 5, 3) := by decide +kernel
theorem dX7_today_8 : decode cX7_today 8 = .ok (.iconst (-1), 1) := by decide +kernel
theorem dX7_today_9 : decode cX7_today 9 = .ok (.ireturn, 1) := by decide +kernel
theorem dX7_today_10 : decode cX7_today 10 = .ok (.iload_n 2, 1) := by decide +kernel
theorem dX7_today_11 : decode cX7_today 11 = .ok (.invokestatic 77, 3) := by decide +kernel
theorem dX7_today_14 : decode cX7_today 14 = .ok (.ifCond .eq 12, 3) := by decide +kernel
theorem dX7_today_17 : decode cX7_today 17 = .ok (.aload_n 0, 1) := by decide +kernel
