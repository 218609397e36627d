theorem dX7_today_18 : decode cX7_today 18 = .ok (.iload_n 1, 1) := by decide +kernel
theorem dX7_today_19 : decode cX7_today 19 = .ok (.iload_n 2, 1) := by decide +kernel
theorem dX7_today_20 : decode cX7_today 20 = .ok (.invokevirtual 80, 3) := by decide +kernel
theorem dX7_today_23 : decode cX7_today 23 = .ok (.goto 5, 3) := by decide +kernel
theorem dX7_today_26 : decode cX7_today 26 = .ok (.bipush (-2), 2) := by decide +kernel
theorem dX7_today_28 : decode cX7_today 28 = .ok (.ireturn, 1) := by decide +kernel
theorem dX7_having_0 : decode cX7_having 0 = .ok (.iconst 0, 1) := by decide +kernel
theorem dX7_having_1 : decode cX7_having 1 = .ok (.istore 4, 2) := by decide +kernel
theorem dX7_having_3 : decode cX7_having 3 = .ok (.iconst 0, 1) := by decide +kernel
theorem dX7_having_4 : decode cX7_having 4 = .ok (.istore 5, 2) := by decide +kernel
theorem dX7_having_6 : decode cX7_having 6 = .ok (.iload 5, 2) := by decide +kernel
theorem dX7_having_8 : decode cX7_having 8 = .ok (.bipush 6, 2) := by decide +kernel
theorem dX7_having_10 : decode cX7_having 10 = .ok (.if_icmp .ge 42, 3) := by decide +kernel
theorem dX7_having_13 : decode cX7_having 13 = .ok (.iload 4, 2) := by decide +kernel
theorem dX7_having_15 : decode cX7_having 15 = .ok (.iload_n 1, 1) := by decide +kernel
theorem dX7_having_16 : decode cX7_having 16 = .ok (.iload 5, 2) := by decide +kernel
theorem dX7_having_18 : decode cX7_having 18 = .ok (.invokestatic 49, 3) := by decide +kernel
theorem dX7_having_21 : decode cX7_having 21 = .ok (.ifCond .eq 21, 3) := by decide +kernel
theorem dX7_having_24 : decode cX7_having 24 = .ok (.aload_n 0, 1) := by decide +kernel
theorem dX7_having_25 : decode cX7_having 25 = .ok (.iload 5, 2) := by decide +kernel
theorem dX7_having_27 : decode cX7_having 27 = .ok (.iload_n 3, 1) := by decide +kernel
theorem dX7_having_28 : decode cX7_having 28 = .ok (.invokevirtual 80, 3) := by decide +kernel
theorem dX7_having_31 : decode cX7_having 31 = .ok (.iload_n 2, 1) := by decide +kernel
theorem dX7_having_32 : decode cX7_having 32 = .ok (.if_icmp .ne 10, 3) := by decide +kernel
theorem dX7_having_35 : decode cX7_having 35 = .ok (.iconst 1, 1) := by decide +kernel
theorem dX7_having_36 : decode cX7_having 36 = .ok (.iload 5, 2) := by decide +kernel
theorem dX7_having_38 : decode cX7_having 38 = .ok (.ishl, 1) := by decide +kernel
theorem dX7_having_39 : decode cX7_having 39 = .ok (.goto 4, 3) := by decide +kernel
theorem dX7_having_42 : decode cX7_having 42 = .ok (.iconst 0, 1) := by decide +kernel
theorem dX7_having_43 : decode cX7_having 43 = .ok (.ior, 1) := by decide +kernel
theorem dX7_having_44 : decode cX7_having 44 = .ok (.istore 4, 2) := by decide +kernel
theorem dX7_having_46 : decode cX7_having 46 = .ok (.iinc 5 1, 3) := by decide +kernel
theorem dX7_having_49 : decode cX7_having 49 = .ok (.goto (-43), 3) := by decide +kernel
theorem dX7_having_52 : decode cX7_having 52 = .ok (.iload 4, 2) := by decide +kernel
theorem dX7_having_54 : decode cX7_having 54 = .ok (.ireturn, 1) := by decide +kernel
theorem dX7_same_0 : decode cX7_same 0 = .ok (.iload_n 1, 1) := by decide +kernel
theorem dX7_same_1 : decode cX7_same 1 = .ok (.invokestatic 56, 3) := by decide +kernel
theorem dX7_same_4 : decode cX7_same 4 = .ok (.ifCond .ne 5, 3) := by decide +kernel
theorem dX7_same_7 : decode cX7_same 7 = .ok (.iconst (-1), 1) := by decide +kernel
theorem dX7_same_8 : decode cX7_same 8 = .ok (.ireturn, 1) := by decide +kernel
theorem dX7_same_9 : decode cX7_same 9 = .ok (.iload_n 2, 1) := by decide +kernel
theorem dX7_same_10 : decode cX7_same 10 = .ok (.invokestatic 77, 3) := by decide +kernel
theorem dX7_same_13 : decode cX7_same 13 = .ok (.ifCond .eq 16, 3) := by decide +kernel
theorem dX7_same_16 : decode cX7_same 16 = .ok (.aload_n 0, 1) := by decide +kernel
theorem dX7_same_17 : decode cX7_same 17 = .ok (.aload_n 0, 1) := by decide +kernel
theorem dX7_same_18 : decode cX7_same 18 = .ok (.getfield 41, 3) := by decide +kernel
theorem dX7_same_21 : decode cX7_same 21 = .ok (.iload_n 1, 1) := by decide +kernel
theorem dX7_same_22 : decode cX7_same 22 = .ok (.iload_n 2, 1) := by decide +kernel
theorem dX7_same_23 : decode cX7_same 23 = .ok (.invokevirtual 84, 3) := by decide +kernel
theorem dX7_same_26 : decode cX7_same 26 = .ok (.goto 5, 3) := by decide +kernel
theorem dX7_same_29 : decode cX7_same 29 = .ok (.bipush (-2), 2) := by decide +kernel
theorem dX7_same_31 : decode cX7_same 31 = .ok (.ireturn, 1) := by decide +kernel
theorem dX7_next_0 : decode cX7_next 0 = .ok (.aload_n 0, 1) := by decide +kernel
theorem dX7_next_1 : decode cX7_next 1 = .ok (.iload_n 1, 1) := by decide +kernel
theorem dX7_next_2 : decode cX7_next 2 = .ok (.invokevirtual 67, 3) := by decide +kernel
theorem dX7_next_5 : decode cX7_next 5 = .ok (.ifCond .eq 10, 3) := by decide +kernel
theorem dX7_next_8 : decode cX7_next 8 = .ok (.iload_n 2, 1) := by decide +kernel
theorem dX7_next_9 : decode cX7_next 9 = .ok (.invokestatic 56, 3) := by decide +kernel
theorem dX7_next_12 : decode cX7_next 12 = .ok (.ifCond .ne 5, 3) := by decide +kernel
theorem dX7_next_15 : decode cX7_next 15 = .ok (.iconst (-1), 1) := by decide +kernel
theorem dX7_next_16 : decode cX7_next 16 = .ok (.ireturn, 1) := by decide +kernel
theorem dX7_next_17 : decode cX7_next 17 = .ok (.iload_n 3, 1) := by decide +kernel
theorem dX7_next_18 : decode cX7_next 18 = .ok (.invokestatic 77, 3) := by decide +kernel
theorem dX7_next_21 : decode cX7_next 21 = .ok (.ifCond .ne 6, 3) := by decide +kernel
theorem dX7_next_24 : decode cX7_next 24 = .ok (.bipush (-2), 2) := by decide +kernel
theorem dX7_next_26 : decode cX7_next 26 = .ok (.ireturn, 1) := by decide +kernel
theorem dX7_next_27 : decode cX7_next 27 = .ok (.iload_n 3, 1) := by decide +kernel
theorem dX7_next_28 : decode cX7_next 28 = .ok (.istore 4, 2) := by decide +kernel
theorem dX7_next_30 : decode cX7_next 30 = .ok (.iload 4, 2) := by decide +kernel
theorem dX7_next_32 : decode cX7_next 32 = .ok (.sipush 10000, 3) := by decide +kernel
theorem dX7_next_35 : decode cX7_next 35 = .ok (.if_icmp .ge 23, 3) := by decide +kernel
theorem dX7_next_38 : decode cX7_next 38 = .ok (.aload_n 0, 1) := by decide +kernel
theorem dX7_next_39 : decode cX7_next 39 = .ok (.iload_n 1, 1) := by decide +kernel
theorem dX7_next_40 : decode cX7_next 40 = .ok (.iload 4, 2) := by decide +kernel
theorem dX7_next_42 : decode cX7_next 42 = .ok (.invokevirtual 80, 3) := by decide +kernel
theorem dX7_next_45 : decode cX7_next 45 = .ok (.iload_n 2, 1) := by decide +kernel
theorem dX7_next_46 : decode cX7_next 46 = .ok (.if_icmp .ne 6, 3) := by decide +kernel
theorem dX7_next_49 : decode cX7_next 49 = .ok (.iload 4, 2) := by decide +kernel
theorem dX7_next_51 : decode cX7_next 51 = .ok (.ireturn, 1) := by decide +kernel
theorem dX7_next_52 : decode cX7_next 52 = .ok (.iinc 4 1, 3) := by decide +kernel
theorem dX7_next_55 : decode cX7_next 55 = .ok (.goto (-25), 3) := by decide +kernel
theorem dX7_next_58 : decode cX7_next 58 = .ok (.bipush (-6), 2) := by decide +kernel
theorem dX7_next_60 : decode cX7_next 60 = .ok (.ireturn, 1) := by decide +kernel
theorem dX7_areThere_0 : decode cX7_areThere 0 = .ok (.iload_n 1, 1) := by decide +kernel
theorem dX7_areThere_1 : decode cX7_areThere 1 = .ok (.iconst 1, 1) := by decide +kernel
theorem dX7_areThere_2 : decode cX7_areThere 2 = .ok (.bipush 63, 2) := by decide +kernel
theorem dX7_areThere_4 : decode cX7_areThere 4 = .ok (.invokestatic 45, 3) := by decide +kernel
theorem dX7_areThere_7 : decode cX7_areThere 7 = .ok (.ifCond .eq 18, 3) := by decide +kernel
theorem dX7_areThere_10 : decode cX7_areThere 10 = .ok (.iload_n 1, 1) := by decide +kernel
theorem dX7_areThere_11 : decode cX7_areThere 11 = .ok (.aload_n 0, 1) := by decide +kernel
theorem dX7_areThere_12 : decode cX7_areThere 12 = .ok (.getfield 41, 3) := by decide +kernel
theorem dX7_areThere_15 : decode cX7_areThere 15 = .ok (.iconst (-1), 1) := by decide +kernel
theorem dX7_areThere_16 : decode cX7_areThere 16 = .ok (.ixor, 1) := by decide +kernel
theorem dX7_areThere_17 : decode cX7_areThere 17 = .ok (.iand, 1) := by decide +kernel
theorem dX7_areThere_18 : decode cX7_areThere 18 = .ok (.ifCond .ne 7, 3) := by decide +kernel
theorem dX7_areThere_21 : decode cX7_areThere 21 = .ok (.iconst 1, 1) := by decide +kernel
theorem dX7_areThere_22 : decode cX7_areThere 22 = .ok (.goto 4, 3) := by decide +kernel
theorem dX7_areThere_25 : decode cX7_areThere 25 = .ok (.iconst 0, 1) := by decide +kernel
theorem dX7_areThere_26 : decode cX7_areThere 26 = .ok (.ireturn, 1) := by decide +kernel
theorem dX7_oneDay_0 : decode cX7_oneDay 0 = .ok (.bipush (-6), 2) := by decide +kernel
theorem dX7_oneDay_2 : decode cX7_oneDay 2 = .ok (.istore_n 3, 1) := by decide +kernel
theorem dX7_oneDay_3 : decode cX7_oneDay 3 = .ok (.iconst 0, 1) := by decide +kernel
theorem dX7_oneDay_4 : decode cX7_oneDay 4 = .ok (.istore 4, 2) := by decide +kernel
theorem dX7_oneDay_6 : decode cX7_oneDay 6 = .ok (.iload 4, 2) := by decide +kernel
theorem dX7_oneDay_8 : decode cX7_oneDay 8 = .ok (.bipush 8, 2) := by decide +kernel
theorem dX7_oneDay_10 : decode cX7_oneDay 10 = .ok (.if_icmp .ge 28, 3) := by decide +kernel
theorem dX7_oneDay_13 : decode cX7_oneDay 13 = .ok (.aload_n 0, 1) := by decide +kernel
theorem dX7_oneDay_14 : decode cX7_oneDay 14 = .ok (.iload_n 1, 1) := by decide +kernel
theorem dX7_oneDay_15 : decode cX7_oneDay 15 = .ok (.iload 4, 2) := by decide +kernel
theorem dX7_oneDay_17 : decode cX7_oneDay 17 = .ok (.iload_n 2, 1) := by decide +kernel
theorem dX7_oneDay_18 : decode cX7_oneDay 18 = .ok (.invokevirtual 84, 3) := by decide +kernel
theorem dX7_oneDay_21 : decode cX7_oneDay 21 = .ok (.iload_n 1, 1) := by decide +kernel
theorem dX7_oneDay_22 : decode cX7_oneDay 22 = .ok (.if_icmp .ne 8, 3) := by decide +kernel
theorem dX7_oneDay_25 : decode cX7_oneDay 25 = .ok (.iload 4, 2) := by decide +kernel
theorem dX7_oneDay_27 : decode cX7_oneDay 27 = .ok (.goto 4, 3) := by decide +kernel
theorem dX7_oneDay_30 : decode cX7_oneDay 30 = .ok (.iload_n 3, 1) := by decide +kernel
theorem dX7_oneDay_31 : decode cX7_oneDay 31 = .ok (.istore_n 3, 1) := by decide +kernel
theorem dX7_oneDay_32 : decode cX7_oneDay 32 = .ok (.iinc 4 1, 3) := by decide +kernel
theorem dX7_oneDay_35 : decode cX7_oneDay 35 = .ok (.goto (-29), 3) := by decide +kernel
theorem dX7_oneDay_38 : decode cX7_oneDay 38 = .ok (.iload_n 3, 1) := by decide +kernel
theorem dX7_oneDay_39 : decode cX7_oneDay 39 = .ok (.ireturn, 1) := by decide +kernel
theorem dX7_meet_0 : decode cX7_meet 0 = .ok (.aload_n 0, 1) := by decide +kernel
theorem dX7_meet_1 : decode cX7_meet 1 = .ok (.iload_n 1, 1) := by decide +kernel
theorem dX7_meet_2 : decode cX7_meet 2 = .ok (.invokevirtual 88, 3) := by decide +kernel
theorem dX7_meet_5 : decode cX7_meet 5 = .ok (.ifCond .eq 19, 3) := by decide +kernel
theorem dX7_meet_8 : decode cX7_meet 8 = .ok (.iload_n 2, 1) := by decide +kernel
theorem dX7_meet_9 : decode cX7_meet 9 = .ok (.invokestatic 77, 3) := by decide +kernel
theorem dX7_meet_12 : decode cX7_meet 12 = .ok (.ifCond .eq 12, 3) := by decide +kernel
theorem dX7_meet_15 : decode cX7_meet 15 = .ok (.iload_n 3, 1) := by decide +kernel
theorem dX7_meet_16 : decode cX7_meet 16 = .ok (.iconst 0, 1) := by decide +kernel
theorem dX7_meet_17 : decode cX7_meet 17 = .ok (.iconst 1, 1) := by decide +kernel
theorem dX7_meet_18 : decode cX7_meet 18 = .ok (.invokestatic 45, 3) := by decide +kernel
theorem dX7_meet_21 : decode cX7_meet 21 = .ok (.ifCond .ne 6, 3) := by decide +kernel
theorem dX7_meet_24 : decode cX7_meet 24 = .ok (.bipush (-2), 2) := by decide +kernel
theorem dX7_meet_26 : decode cX7_meet 26 = .ok (.ireturn, 1) := by decide +kernel
theorem dX7_meet_27 : decode cX7_meet 27 = .ok (.iload_n 2, 1) := by decide +kernel
theorem dX7_meet_28 : decode cX7_meet 28 = .ok (.istore 4, 2) := by decide +kernel
theorem dX7_meet_30 : decode cX7_meet 30 = .ok (.iload 4, 2) := by decide +kernel
theorem dX7_meet_32 : decode cX7_meet 32 = .ok (.iload_n 2, 1) := by decide +kernel
theorem dX7_meet_33 : decode cX7_meet 33 = .ok (.sipush 840, 3) := by decide +kernel
theorem dX7_meet_36 : decode cX7_meet 36 = .ok (.iadd, 1) := by decide +kernel
theorem dX7_meet_37 : decode cX7_meet 37 = .ok (.if_icmp .ge 35, 3) := by decide +kernel
theorem dX7_meet_40 : decode cX7_meet 40 = .ok (.aload_n 0, 1) := by decide +kernel
theorem dX7_meet_41 : decode cX7_meet 41 = .ok (.iload_n 1, 1) := by decide +kernel
theorem dX7_meet_42 : decode cX7_meet 42 = .ok (.iload 4, 2) := by decide +kernel
theorem dX7_meet_44 : decode cX7_meet 44 = .ok (.invokevirtual 91, 3) := by decide +kernel
theorem dX7_meet_47 : decode cX7_meet 47 = .ok (.istore 5, 2) := by decide +kernel
theorem dX7_meet_49 : decode cX7_meet 49 = .ok (.iload 5, 2) := by decide +kernel
theorem dX7_meet_51 : decode cX7_meet 51 = .ok (.ifCond .lt 15, 3) := by decide +kernel
theorem dX7_meet_54 : decode cX7_meet 54 = .ok (.iload_n 3, 1) := by decide +kernel
theorem dX7_meet_55 : decode cX7_meet 55 = .ok (.ifCond .ne 8, 3) := by decide +kernel
theorem dX7_meet_58 : decode cX7_meet 58 = .ok (.iload 4, 2) := by decide +kernel
theorem dX7_meet_60 : decode cX7_meet 60 = .ok (.goto 5, 3) := by decide +kernel
theorem dX7_meet_63 : decode cX7_meet 63 = .ok (.iload 5, 2) := by decide +kernel
theorem dX7_meet_65 : decode cX7_meet 65 = .ok (.ireturn, 1) := by decide +kernel
theorem dX7_meet_66 : decode cX7_meet 66 = .ok (.iinc 4 1, 3) := by decide +kernel
theorem dX7_meet_69 : decode cX7_meet 69 = .ok (.goto (-39), 3) := by decide +kernel
theorem dX7_meet_72 : decode cX7_meet 72 = .ok (.bipush (-6), 2) := by decide +kernel
theorem dX7_meet_74 : decode cX7_meet 74 = .ok (.ireturn, 1) := by decide +kernel
theorem dX7_sharedBy_0 : decode cX7_sharedBy 0 = .ok (.iconst 0, 1) := by decide +kernel
theorem dX7_sharedBy_1 : decode cX7_sharedBy 1 = .ok (.istore 4, 2) := by decide +kernel
theorem dX7_sharedBy_3 : decode cX7_sharedBy 3 = .ok (.iconst 0, 1) := by decide +kernel
theorem dX7_sharedBy_4 : decode cX7_sharedBy 4 = .ok (.istore 5, 2) := by decide +kernel
theorem dX7_sharedBy_6 : decode cX7_sharedBy 6 = .ok (.iload 5, 2) := by decide +kernel
theorem dX7_sharedBy_8 : decode cX7_sharedBy 8 = .ok (.iload_n 3, 1) := by decide +kernel
theorem dX7_sharedBy_9 : decode cX7_sharedBy 9 = .ok (.if_icmp .ge 36, 3) := by decide +kernel
theorem dX7_sharedBy_12 : decode cX7_sharedBy 12 = .ok (.iload 4, 2) := by decide +kernel
theorem dX7_sharedBy_14 : decode cX7_sharedBy 14 = .ok (.aload_n 0, 1) := by decide +kernel
theorem dX7_sharedBy_15 : decode cX7_sharedBy 15 = .ok (.iload_n 1, 1) := by decide +kernel
theorem dX7_sharedBy_16 : decode cX7_sharedBy 16 = .ok (.iload 5, 2) := by decide +kernel
theorem dX7_sharedBy_18 : decode cX7_sharedBy 18 = .ok (.invokevirtual 80, 3) := by decide +kernel
theorem dX7_sharedBy_21 : decode cX7_sharedBy 21 = .ok (.aload_n 0, 1) := by decide +kernel
theorem dX7_sharedBy_22 : decode cX7_sharedBy 22 = .ok (.iload_n 2, 1) := by decide +kernel
theorem dX7_sharedBy_23 : decode cX7_sharedBy 23 = .ok (.iload 5, 2) := by decide +kernel
theorem dX7_sharedBy_25 : decode cX7_sharedBy 25 = .ok (.invokevirtual 80, 3) := by decide +kernel
theorem dX7_sharedBy_28 : decode cX7_sharedBy 28 = .ok (.if_icmp .ne 7, 3) := by decide +kernel
theorem dX7_sharedBy_31 : decode cX7_sharedBy 31 = .ok (.iconst 1, 1) := by decide +kernel
theorem dX7_sharedBy_32 : decode cX7_sharedBy 32 = .ok (.goto 4, 3) := by decide +kernel
theorem dX7_sharedBy_35 : decode cX7_sharedBy 35 = .ok (.iconst 0, 1) := by decide +kernel
theorem dX7_sharedBy_36 : decode cX7_sharedBy 36 = .ok (.iadd, 1) := by decide +kernel
theorem dX7_sharedBy_37 : decode cX7_sharedBy 37 = .ok (.istore 4, 2) := by decide +kernel
theorem dX7_sharedBy_39 : decode cX7_sharedBy 39 = .ok (.iinc 5 1, 3) := by decide +kernel
theorem dX7_sharedBy_42 : decode cX7_sharedBy 42 = .ok (.goto (-36), 3) := by decide +kernel
theorem dX7_sharedBy_45 : decode cX7_sharedBy 45 = .ok (.iload 4, 2) := by decide +kernel
theorem dX7_sharedBy_47 : decode cX7_sharedBy 47 = .ok (.ireturn, 1) := by decide +kernel
theorem dX7_shared_0 : decode cX7_shared 0 = .ok (.aload_n 0, 1) := by decide +kernel
theorem dX7_shared_1 : decode cX7_shared 1 = .ok (.iload_n 1, 1) := by decide +kernel
theorem dX7_shared_2 : decode cX7_shared 2 = .ok (.invokevirtual 67, 3) := by decide +kernel
theorem dX7_shared_5 : decode cX7_shared 5 = .ok (.ifCond .eq 28, 3) := by decide +kernel
theorem dX7_shared_8 : decode cX7_shared 8 = .ok (.aload_n 0, 1) := by decide +kernel
theorem dX7_shared_9 : decode cX7_shared 9 = .ok (.iload_n 2, 1) := by decide +kernel
theorem dX7_shared_10 : decode cX7_shared 10 = .ok (.invokevirtual 67, 3) := by decide +kernel
theorem dX7_shared_13 : decode cX7_shared 13 = .ok (.ifCond .eq 20, 3) := by decide +kernel
theorem dX7_shared_16 : decode cX7_shared 16 = .ok (.iload_n 1, 1) := by decide +kernel
theorem dX7_shared_17 : decode cX7_shared 17 = .ok (.iload_n 2, 1) := by decide +kernel
theorem dX7_shared_18 : decode cX7_shared 18 = .ok (.if_icmp .eq 15, 3) := by decide +kernel
theorem dX7_shared_21 : decode cX7_shared 21 = .ok (.aload_n 0, 1) := by decide +kernel
theorem dX7_shared_22 : decode cX7_shared 22 = .ok (.iload_n 1, 1) := by decide +kernel
theorem dX7_shared_23 : decode cX7_shared 23 = .ok (.iload_n 2, 1) := by decide +kernel
theorem dX7_shared_24 : decode cX7_shared 24 = .ok (.sipush 840, 3) := by decide +kernel
theorem dX7_shared_27 : decode cX7_shared 27 = .ok (.invokevirtual 94, 3) := by decide +kernel
theorem dX7_shared_30 : decode cX7_shared 30 = .ok (.goto 4, 3) := by decide +kernel
theorem dX7_shared_33 : decode cX7_shared 33 = .ok (.iconst (-1), 1) := by decide +kernel
theorem dX7_shared_34 : decode cX7_shared 34 = .ok (.ireturn, 1) := by decide +kernel
theorem dX7_never_0 : decode cX7_never 0 = .ok (.iconst 0, 1) := by decide +kernel
theorem dX7_never_1 : decode cX7_never 1 = .ok (.istore_n 2, 1) := by decide +kernel
theorem dX7_never_2 : decode cX7_never 2 = .ok (.iconst 0, 1) := by decide +kernel
theorem dX7_never_3 : decode cX7_never 3 = .ok (.istore_n 3, 1) := by decide +kernel
theorem dX7_never_4 : decode cX7_never 4 = .ok (.iload_n 3, 1) := by decide +kernel
theorem dX7_never_5 : decode cX7_never 5 = .ok (.bipush 6, 2) := by decide +kernel
theorem dX7_never_7 : decode cX7_never 7 = .ok (.if_icmp .ge 79, 3) := by decide +kernel
theorem dX7_never_10 : decode cX7_never 10 = .ok (.iload_n 3, 1) := by decide +kernel
theorem dX7_never_11 : decode cX7_never 11 = .ok (.iconst 1, 1) := by decide +kernel
theorem dX7_never_12 : decode cX7_never 12 = .ok (.iadd, 1) := by decide +kernel
theorem dX7_never_13 : decode cX7_never 13 = .ok (.istore 4, 2) := by decide +kernel
theorem dX7_never_15 : decode cX7_never 15 = .ok (.iload 4, 2) := by decide +kernel
theorem dX7_never_17 : decode cX7_never 17 = .ok (.bipush 6, 2) := by decide +kernel
theorem dX7_never_19 : decode cX7_never 19 = .ok (.if_icmp .ge 61, 3) := by decide +kernel
theorem dX7_never_22 : decode cX7_never 22 = .ok (.aload_n 0, 1) := by decide +kernel
theorem dX7_never_23 : decode cX7_never 23 = .ok (.getfield 41, 3) := by decide +kernel
theorem dX7_never_26 : decode cX7_never 26 = .ok (.iload_n 3, 1) := by decide +kernel
theorem dX7_never_27 : decode cX7_never 27 = .ok (.invokestatic 49, 3) := by decide +kernel
theorem dX7_never_30 : decode cX7_never 30 = .ok (.ifCond .eq 44, 3) := by decide +kernel
theorem dX7_never_33 : decode cX7_never 33 = .ok (.aload_n 0, 1) := by decide +kernel
theorem dX7_never_34 : decode cX7_never 34 = .ok (.getfield 41, 3) := by decide +kernel
theorem dX7_never_37 : decode cX7_never 37 = .ok (.iload 4, 2) := by decide +kernel
theorem dX7_never_39 : decode cX7_never 39 = .ok (.invokestatic 49, 3) := by decide +kernel
theorem dX7_never_42 : decode cX7_never 42 = .ok (.ifCond .eq 32, 3) := by decide +kernel
theorem dX7_never_45 : decode cX7_never 45 = .ok (.aload_n 0, 1) := by decide +kernel
theorem dX7_never_46 : decode cX7_never 46 = .ok (.iload_n 3, 1) := by decide +kernel
theorem dX7_never_47 : decode cX7_never 47 = .ok (.iload 4, 2) := by decide +kernel
theorem dX7_never_49 : decode cX7_never 49 = .ok (.sipush 840, 3) := by decide +kernel
theorem dX7_never_52 : decode cX7_never 52 = .ok (.invokevirtual 94, 3) := by decide +kernel
theorem dX7_never_55 : decode cX7_never 55 = .ok (.ifCond .ne 19, 3) := by decide +kernel
theorem dX7_never_58 : decode cX7_never 58 = .ok (.iload_n 2, 1) := by decide +kernel
theorem dX7_never_59 : decode cX7_never 59 = .ok (.iload_n 1, 1) := by decide +kernel
theorem dX7_never_60 : decode cX7_never 60 = .ok (.if_icmp .ne 11, 3) := by decide +kernel
theorem dX7_never_63 : decode cX7_never 63 = .ok (.bipush 10, 2) := by decide +kernel
theorem dX7_never_65 : decode cX7_never 65 = .ok (.iload_n 3, 1) := by decide +kernel
theorem dX7_never_66 : decode cX7_never 66 = .ok (.imul, 1) := by decide +kernel
theorem dX7_never_67 : decode cX7_never 67 = .ok (.iload 4, 2) := by decide +kernel
theorem dX7_never_69 : decode cX7_never 69 = .ok (.iadd, 1) := by decide +kernel
theorem dX7_never_70 : decode cX7_never 70 = .ok (.ireturn, 1) := by decide +kernel
theorem dX7_never_71 : decode cX7_never 71 = .ok (.iinc 2 1, 3) := by decide +kernel
theorem dX7_never_74 : decode cX7_never 74 = .ok (.iinc 4 1, 3) := by decide +kernel
theorem dX7_never_77 : decode cX7_never 77 = .ok (.goto (-62), 3) := by decide +kernel
theorem dX7_never_80 : decode cX7_never 80 = .ok (.iinc 3 1, 3) := by decide +kernel
theorem dX7_never_83 : decode cX7_never 83 = .ok (.goto (-79), 3) := by decide +kernel
theorem dX7_never_86 : decode cX7_never 86 = .ok (.iload_n 1, 1) := by decide +kernel
theorem dX7_never_87 : decode cX7_never 87 = .ok (.iconst (-1), 1) := by decide +kernel
theorem dX7_never_88 : decode cX7_never 88 = .ok (.if_icmp .ne 7, 3) := by decide +kernel
theorem dX7_never_91 : decode cX7_never 91 = .ok (.iload_n 2, 1) := by decide +kernel
theorem dX7_never_92 : decode cX7_never 92 = .ok (.goto 5, 3) := by decide +kernel
theorem dX7_never_95 : decode cX7_never 95 = .ok (.bipush (-6), 2) := by decide +kernel
theorem dX7_never_97 : decode cX7_never 97 = .ok (.ireturn, 1) := by decide +kernel
theorem dX7_market_0 : decode cX7_market 0 = .ok (.iload_n 1, 1) := by decide +kernel
theorem dX7_market_1 : decode cX7_market 1 = .ok (.invokestatic 56, 3) := by decide +kernel
theorem dX7_market_4 : decode cX7_market 4 = .ok (.ifCond .ne 5, 3) := by decide +kernel
theorem dX7_market_7 : decode cX7_market 7 = .ok (.iconst (-1), 1) := by decide +kernel
theorem dX7_market_8 : decode cX7_market 8 = .ok (.ireturn, 1) := by decide +kernel
theorem dX7_market_9 : decode cX7_market 9 = .ok (.iload_n 2, 1) := by decide +kernel
theorem dX7_market_10 : decode cX7_market 10 = .ok (.iconst 1, 1) := by decide +kernel
theorem dX7_market_11 : decode cX7_market 11 = .ok (.bipush 6, 2) := by decide +kernel
theorem dX7_market_13 : decode cX7_market 13 = .ok (.invokestatic 45, 3) := by decide +kernel
theorem dX7_market_16 : decode cX7_market 16 = .ok (.ifCond .eq 12, 3) := by decide +kernel
theorem dX7_market_19 : decode cX7_market 19 = .ok (.iload_n 3, 1) := by decide +kernel
theorem dX7_market_20 : decode cX7_market 20 = .ok (.iconst 0, 1) := by decide +kernel
theorem dX7_market_21 : decode cX7_market 21 = .ok (.iconst 2, 1) := by decide +kernel
theorem dX7_market_22 : decode cX7_market 22 = .ok (.invokestatic 45, 3) := by decide +kernel
theorem dX7_market_25 : decode cX7_market 25 = .ok (.ifCond .ne 6, 3) := by decide +kernel
theorem dX7_market_28 : decode cX7_market 28 = .ok (.bipush (-2), 2) := by decide +kernel
theorem dX7_market_30 : decode cX7_market 30 = .ok (.ireturn, 1) := by decide +kernel
theorem dX7_market_31 : decode cX7_market 31 = .ok (.iconst 0, 1) := by decide +kernel
theorem dX7_market_32 : decode cX7_market 32 = .ok (.istore 4, 2) := by decide +kernel
theorem dX7_market_34 : decode cX7_market 34 = .ok (.bipush (-6), 2) := by decide +kernel
theorem dX7_market_36 : decode cX7_market 36 = .ok (.istore 5, 2) := by decide +kernel
theorem dX7_market_38 : decode cX7_market 38 = .ok (.iconst 0, 1) := by decide +kernel
theorem dX7_market_39 : decode cX7_market 39 = .ok (.istore 6, 2) := by decide +kernel
theorem dX7_market_41 : decode cX7_market 41 = .ok (.iconst 0, 1) := by decide +kernel
theorem dX7_market_42 : decode cX7_market 42 = .ok (.istore 7, 2) := by decide +kernel
theorem dX7_market_44 : decode cX7_market 44 = .ok (.iconst 0, 1) := by decide +kernel
theorem dX7_market_45 : decode cX7_market 45 = .ok (.istore 8, 2) := by decide +kernel
theorem dX7_market_47 : decode cX7_market 47 = .ok (.iload 8, 2) := by decide +kernel
theorem dX7_market_49 : decode cX7_market 49 = .ok (.sipush 1680, 3) := by decide +kernel
theorem dX7_market_52 : decode cX7_market 52 = .ok (.if_icmp .ge 111, 3) := by decide +kernel
theorem dX7_market_55 : decode cX7_market 55 = .ok (.aload_n 0, 1) := by decide +kernel
theorem dX7_market_56 : decode cX7_market 56 = .ok (.aload_n 0, 1) := by decide +kernel
theorem dX7_market_57 : decode cX7_market 57 = .ok (.getfield 41, 3) := by decide +kernel
theorem dX7_market_60 : decode cX7_market 60 = .ok (.iload_n 1, 1) := by decide +kernel
theorem dX7_market_61 : decode cX7_market 61 = .ok (.iload 8, 2) := by decide +kernel
theorem dX7_market_63 : decode cX7_market 63 = .ok (.sipush 840, 3) := by decide +kernel
theorem dX7_market_66 : decode cX7_market 66 = .ok (.irem, 1) := by decide +kernel
theorem dX7_market_67 : decode cX7_market 67 = .ok (.invokevirtual 84, 3) := by decide +kernel
theorem dX7_market_70 : decode cX7_market 70 = .ok (.invokestatic 70, 3) := by decide +kernel
theorem dX7_market_73 : decode cX7_market 73 = .ok (.iload_n 2, 1) := by decide +kernel
theorem dX7_market_74 : decode cX7_market 74 = .ok (.if_icmp .lt 7, 3) := by decide +kernel
theorem dX7_market_77 : decode cX7_market 77 = .ok (.iconst 1, 1) := by decide +kernel
theorem dX7_market_78 : decode cX7_market 78 = .ok (.goto 4, 3) := by decide +kernel
theorem dX7_market_81 : decode cX7_market 81 = .ok (.iconst 0, 1) := by decide +kernel
theorem dX7_market_82 : decode cX7_market 82 = .ok (.istore 9, 2) := by decide +kernel
theorem dX7_market_84 : decode cX7_market 84 = .ok (.iload 5, 2) := by decide +kernel
theorem dX7_market_86 : decode cX7_market 86 = .ok (.ifCond .ge 13, 3) := by decide +kernel
theorem dX7_market_89 : decode cX7_market 89 = .ok (.iload 9, 2) := by decide +kernel
theorem dX7_market_91 : decode cX7_market 91 = .ok (.ifCond .eq 8, 3) := by decide +kernel
theorem dX7_market_94 : decode cX7_market 94 = .ok (.iload 8, 2) := by decide +kernel
theorem dX7_market_96 : decode cX7_market 96 = .ok (.goto 5, 3) := by decide +kernel
theorem dX7_market_99 : decode cX7_market 99 = .ok (.iload 5, 2) := by decide +kernel
theorem dX7_market_101 : decode cX7_market 101 = .ok (.istore 5, 2) := by decide +kernel
theorem dX7_market_103 : decode cX7_market 103 = .ok (.iload 4, 2) := by decide +kernel
theorem dX7_market_105 : decode cX7_market 105 = .ok (.iload 9, 2) := by decide +kernel
theorem dX7_market_107 : decode cX7_market 107 = .ok (.ifCond .eq 15, 3) := by decide +kernel
theorem dX7_market_110 : decode cX7_market 110 = .ok (.iload 8, 2) := by decide +kernel
theorem dX7_market_112 : decode cX7_market 112 = .ok (.sipush 840, 3) := by decide +kernel
theorem dX7_market_115 : decode cX7_market 115 = .ok (.if_icmp .ge 7, 3) := by decide +kernel
theorem dX7_market_118 : decode cX7_market 118 = .ok (.iconst 1, 1) := by decide +kernel
theorem dX7_market_119 : decode cX7_market 119 = .ok (.goto 4, 3) := by decide +kernel
theorem dX7_market_122 : decode cX7_market 122 = .ok (.iconst 0, 1) := by decide +kernel
theorem dX7_market_123 : decode cX7_market 123 = .ok (.iadd, 1) := by decide +kernel
theorem dX7_market_124 : decode cX7_market 124 = .ok (.istore 4, 2) := by decide +kernel
theorem dX7_market_126 : decode cX7_market 126 = .ok (.iload 9, 2) := by decide +kernel
theorem dX7_market_128 : decode cX7_market 128 = .ok (.ifCond .eq 7, 3) := by decide +kernel
theorem dX7_market_131 : decode cX7_market 131 = .ok (.iconst 0, 1) := by decide +kernel
theorem dX7_market_132 : decode cX7_market 132 = .ok (.goto 7, 3) := by decide +kernel
theorem dX7_market_135 : decode cX7_market 135 = .ok (.iload 6, 2) := by decide +kernel
theorem dX7_market_137 : decode cX7_market 137 = .ok (.iconst 1, 1) := by decide +kernel
theorem dX7_market_138 : decode cX7_market 138 = .ok (.iadd, 1) := by decide +kernel
theorem dX7_market_139 : decode cX7_market 139 = .ok (.istore 6, 2) := by decide +kernel
theorem dX7_market_141 : decode cX7_market 141 = .ok (.iload 6, 2) := by decide +kernel
theorem dX7_market_143 : decode cX7_market 143 = .ok (.iload 7, 2) := by decide +kernel
theorem dX7_market_145 : decode cX7_market 145 = .ok (.if_icmp .le 8, 3) := by decide +kernel
theorem dX7_market_148 : decode cX7_market 148 = .ok (.iload 6, 2) := by decide +kernel
theorem dX7_market_150 : decode cX7_market 150 = .ok (.goto 5, 3) := by decide +kernel
theorem dX7_market_153 : decode cX7_market 153 = .ok (.iload 7, 2) := by decide +kernel
theorem dX7_market_155 : decode cX7_market 155 = .ok (.istore 7, 2) := by decide +kernel
theorem dX7_market_157 : decode cX7_market 157 = .ok (.iinc 8 1, 3) := by decide +kernel
theorem dX7_market_160 : decode cX7_market 160 = .ok (.goto (-113), 3) := by decide +kernel
theorem dX7_market_163 : decode cX7_market 163 = .ok (.iload_n 3, 1) := by decide +kernel
theorem dX7_market_164 : decode cX7_market 164 = .ok (.ifCond .ne 8, 3) := by decide +kernel
theorem dX7_market_167 : decode cX7_market 167 = .ok (.iload 4, 2) := by decide +kernel
theorem dX7_market_169 : decode cX7_market 169 = .ok (.goto 26, 3) := by decide +kernel
theorem dX7_market_172 : decode cX7_market 172 = .ok (.iload_n 3, 1) := by decide +kernel
theorem dX7_market_173 : decode cX7_market 173 = .ok (.iconst 1, 1) := by decide +kernel
theorem dX7_market_174 : decode cX7_market 174 = .ok (.if_icmp .ne 8, 3) := by decide +kernel
theorem dX7_market_177 : decode cX7_market 177 = .ok (.iload 5, 2) := by decide +kernel
theorem dX7_market_179 : decode cX7_market 179 = .ok (.goto 16, 3) := by decide +kernel
theorem dX7_market_182 : decode cX7_market 182 = .ok (.iload 4, 2) := by decide +kernel
theorem dX7_market_184 : decode cX7_market 184 = .ok (.ifCond .ne 9, 3) := by decide +kernel
theorem dX7_market_187 : decode cX7_market 187 = .ok (.sipush 840, 3) := by decide +kernel
theorem dX7_market_190 : decode cX7_market 190 = .ok (.goto 5, 3) := by decide +kernel
theorem dX7_market_193 : decode cX7_market 193 = .ok (.iload 7, 2) := by decide +kernel
theorem dX7_market_195 : decode cX7_market 195 = .ok (.ireturn, 1) := by decide +kernel
theorem dX7_isWork_0 : decode cX7_isWork 0 = .ok (.iload_n 1, 1) := by decide +kernel
theorem dX7_isWork_1 : decode cX7_isWork 1 = .ok (.iconst 0, 1) := by decide +kernel
theorem dX7_isWork_2 : decode cX7_isWork 2 = .ok (.aload_n 0, 1) := by decide +kernel
theorem dX7_isWork_3 : decode cX7_isWork 3 = .ok (.getfield 74, 3) := by decide +kernel
theorem dX7_isWork_6 : decode cX7_isWork 6 = .ok (.iconst 1, 1) := by decide +kernel
theorem dX7_isWork_7 : decode cX7_isWork 7 = .ok (.isub, 1) := by decide +kernel
theorem dX7_isWork_8 : decode cX7_isWork 8 = .ok (.invokestatic 45, 3) := by decide +kernel
theorem dX7_isWork_11 : decode cX7_isWork 11 = .ok (.ireturn, 1) := by decide +kernel
theorem dX7_canBe_0 : decode cX7_canBe 0 = .ok (.aload_n 0, 1) := by decide +kernel
theorem dX7_canBe_1 : decode cX7_canBe 1 = .ok (.getfield 22, 3) := by decide +kernel
theorem dX7_canBe_4 : decode cX7_canBe 4 = .ok (.iload_n 1, 1) := by decide +kernel
theorem dX7_canBe_5 : decode cX7_canBe 5 = .ok (.iaload, 1) := by decide +kernel
theorem dX7_canBe_6 : decode cX7_canBe 6 = .ok (.aload_n 0, 1) := by decide +kernel
theorem dX7_canBe_7 : decode cX7_canBe 7 = .ok (.getfield 41, 3) := by decide +kernel
theorem dX7_canBe_10 : decode cX7_canBe 10 = .ok (.iconst (-1), 1) := by decide +kernel
theorem dX7_canBe_11 : decode cX7_canBe 11 = .ok (.ixor, 1) := by decide +kernel
theorem dX7_canBe_12 : decode cX7_canBe 12 = .ok (.iand, 1) := by decide +kernel
theorem dX7_canBe_13 : decode cX7_canBe 13 = .ok (.ifCond .ne 33, 3) := by decide +kernel
theorem dX7_canBe_16 : decode cX7_canBe 16 = .ok (.aload_n 0, 1) := by decide +kernel
theorem dX7_canBe_17 : decode cX7_canBe 17 = .ok (.aload_n 0, 1) := by decide +kernel
theorem dX7_canBe_18 : decode cX7_canBe 18 = .ok (.getfield 22, 3) := by decide +kernel
theorem dX7_canBe_21 : decode cX7_canBe 21 = .ok (.iload_n 1, 1) := by decide +kernel
theorem dX7_canBe_22 : decode cX7_canBe 22 = .ok (.iaload, 1) := by decide +kernel
theorem dX7_canBe_23 : decode cX7_canBe 23 = .ok (.aload_n 0, 1) := by decide +kernel
theorem dX7_canBe_24 : decode cX7_canBe 24 = .ok (.getfield 19, 3) := by decide +kernel
theorem dX7_canBe_27 : decode cX7_canBe 27 = .ok (.iload_n 1, 1) := by decide +kernel
theorem dX7_canBe_28 : decode cX7_canBe 28 = .ok (.iaload, 1) := by decide +kernel
theorem dX7_canBe_29 : decode cX7_canBe 29 = .ok (.iload_n 2, 1) := by decide +kernel
theorem dX7_canBe_30 : decode cX7_canBe 30 = .ok (.invokevirtual 84, 3) := by decide +kernel
theorem dX7_canBe_33 : decode cX7_canBe 33 = .ok (.aload_n 0, 1) := by decide +kernel
theorem dX7_canBe_34 : decode cX7_canBe 34 = .ok (.getfield 22, 3) := by decide +kernel
theorem dX7_canBe_37 : decode cX7_canBe 37 = .ok (.iload_n 1, 1) := by decide +kernel
theorem dX7_canBe_38 : decode cX7_canBe 38 = .ok (.iaload, 1) := by decide +kernel
theorem dX7_canBe_39 : decode cX7_canBe 39 = .ok (.if_icmp .ne 7, 3) := by decide +kernel
theorem dX7_canBe_42 : decode cX7_canBe 42 = .ok (.iconst 1, 1) := by decide +kernel
theorem dX7_canBe_43 : decode cX7_canBe 43 = .ok (.goto 4, 3) := by decide +kernel
theorem dX7_canBe_46 : decode cX7_canBe 46 = .ok (.iconst 0, 1) := by decide +kernel
theorem dX7_canBe_47 : decode cX7_canBe 47 = .ok (.ireturn, 1) := by decide +kernel
theorem dX7_can_0 : decode cX7_can 0 = .ok (.aload_n 0, 1) := by decide +kernel
theorem dX7_can_1 : decode cX7_can 1 = .ok (.iload_n 1, 1) := by decide +kernel
theorem dX7_can_2 : decode cX7_can 2 = .ok (.invokevirtual 97, 3) := by decide +kernel
theorem dX7_can_5 : decode cX7_can 5 = .ok (.ifCond .ne 5, 3) := by decide +kernel
theorem dX7_can_8 : decode cX7_can 8 = .ok (.iconst (-1), 1) := by decide +kernel
theorem dX7_can_9 : decode cX7_can 9 = .ok (.ireturn, 1) := by decide +kernel
theorem dX7_can_10 : decode cX7_can 10 = .ok (.iload_n 2, 1) := by decide +kernel
theorem dX7_can_11 : decode cX7_can 11 = .ok (.invokestatic 77, 3) := by decide +kernel
theorem dX7_can_14 : decode cX7_can 14 = .ok (.ifCond .ne 8, 3) := by decide +kernel
theorem dX7_can_17 : decode cX7_can 17 = .ok (.bipush (-2), 2) := by decide +kernel
theorem dX7_can_19 : decode cX7_can 19 = .ok (.goto 17, 3) := by decide +kernel
theorem dX7_can_22 : decode cX7_can 22 = .ok (.aload_n 0, 1) := by decide +kernel
theorem dX7_can_23 : decode cX7_can 23 = .ok (.iload_n 1, 1) := by decide +kernel
theorem dX7_can_24 : decode cX7_can 24 = .ok (.iload_n 2, 1) := by decide +kernel
theorem dX7_can_25 : decode cX7_can 25 = .ok (.invokevirtual 100, 3) := by decide +kernel
theorem dX7_can_28 : decode cX7_can 28 = .ok (.ifCond .eq 7, 3) := by decide +kernel
theorem dX7_can_31 : decode cX7_can 31 = .ok (.iconst 1, 1) := by decide +kernel
theorem dX7_can_32 : decode cX7_can 32 = .ok (.goto 4, 3) := by decide +kernel
theorem dX7_can_35 : decode cX7_can 35 = .ok (.iconst 0, 1) := by decide +kernel
theorem dX7_can_36 : decode cX7_can 36 = .ok (.ireturn, 1) := by decide +kernel
theorem dX7_fitsAhead_0 : decode cX7_fitsAhead 0 = .ok (.aload_n 0, 1) := by decide +kernel
theorem dX7_fitsAhead_1 : decode cX7_fitsAhead 1 = .ok (.iload_n 1, 1) := by decide +kernel
theorem dX7_fitsAhead_2 : decode cX7_fitsAhead 2 = .ok (.iload_n 2, 1) := by decide +kernel
theorem dX7_fitsAhead_3 : decode cX7_fitsAhead 3 = .ok (.aload_n 0, 1) := by decide +kernel
theorem dX7_fitsAhead_4 : decode cX7_fitsAhead 4 = .ok (.getfield 31, 3) := by decide +kernel
theorem dX7_fitsAhead_7 : decode cX7_fitsAhead 7 = .ok (.iload_n 1, 1) := by decide +kernel
theorem dX7_fitsAhead_8 : decode cX7_fitsAhead 8 = .ok (.iaload, 1) := by decide +kernel
theorem dX7_fitsAhead_9 : decode cX7_fitsAhead 9 = .ok (.iadd, 1) := by decide +kernel
theorem dX7_fitsAhead_10 : decode cX7_fitsAhead 10 = .ok (.invokevirtual 100, 3) := by decide +kernel
theorem dX7_fitsAhead_13 : decode cX7_fitsAhead 13 = .ok (.istore_n 3, 1) := by decide +kernel
theorem dX7_fitsAhead_14 : decode cX7_fitsAhead 14 = .ok (.iconst 0, 1) := by decide +kernel
theorem dX7_fitsAhead_15 : decode cX7_fitsAhead 15 = .ok (.istore 4, 2) := by decide +kernel
theorem dX7_fitsAhead_17 : decode cX7_fitsAhead 17 = .ok (.iload 4, 2) := by decide +kernel
theorem dX7_fitsAhead_19 : decode cX7_fitsAhead 19 = .ok (.iload_n 1, 1) := by decide +kernel
theorem dX7_fitsAhead_20 : decode cX7_fitsAhead 20 = .ok (.if_icmp .ge 52, 3) := by decide +kernel
theorem dX7_fitsAhead_23 : decode cX7_fitsAhead 23 = .ok (.iload_n 3, 1) := by decide +kernel
theorem dX7_fitsAhead_24 : decode cX7_fitsAhead 24 = .ok (.ifCond .eq 48, 3) := by decide +kernel
theorem dX7_fitsAhead_27 : decode cX7_fitsAhead 27 = .ok (.aload_n 0, 1) := by decide +kernel
theorem dX7_fitsAhead_28 : decode cX7_fitsAhead 28 = .ok (.getfield 31, 3) := by decide +kernel
theorem dX7_fitsAhead_31 : decode cX7_fitsAhead 31 = .ok (.iload 4, 2) := by decide +kernel
theorem dX7_fitsAhead_33 : decode cX7_fitsAhead 33 = .ok (.iaload, 1) := by decide +kernel
theorem dX7_fitsAhead_34 : decode cX7_fitsAhead 34 = .ok (.aload_n 0, 1) := by decide +kernel
theorem dX7_fitsAhead_35 : decode cX7_fitsAhead 35 = .ok (.getfield 31, 3) := by decide +kernel
theorem dX7_fitsAhead_38 : decode cX7_fitsAhead 38 = .ok (.iload_n 1, 1) := by decide +kernel
theorem dX7_fitsAhead_39 : decode cX7_fitsAhead 39 = .ok (.iaload, 1) := by decide +kernel
theorem dX7_fitsAhead_40 : decode cX7_fitsAhead 40 = .ok (.if_icmp .ne 20, 3) := by decide +kernel
theorem dX7_fitsAhead_43 : decode cX7_fitsAhead 43 = .ok (.aload_n 0, 1) := by decide +kernel
theorem dX7_fitsAhead_44 : decode cX7_fitsAhead 44 = .ok (.getfield 22, 3) := by decide +kernel
theorem dX7_fitsAhead_47 : decode cX7_fitsAhead 47 = .ok (.iload 4, 2) := by decide +kernel
theorem dX7_fitsAhead_49 : decode cX7_fitsAhead 49 = .ok (.iaload, 1) := by decide +kernel
theorem dX7_fitsAhead_50 : decode cX7_fitsAhead 50 = .ok (.aload_n 0, 1) := by decide +kernel
theorem dX7_fitsAhead_51 : decode cX7_fitsAhead 51 = .ok (.getfield 22, 3) := by decide +kernel
theorem dX7_fitsAhead_54 : decode cX7_fitsAhead 54 = .ok (.iload_n 1, 1) := by decide +kernel
theorem dX7_fitsAhead_55 : decode cX7_fitsAhead 55 = .ok (.iaload, 1) := by decide +kernel
theorem dX7_fitsAhead_56 : decode cX7_fitsAhead 56 = .ok (.iand, 1) := by decide +kernel
theorem dX7_fitsAhead_57 : decode cX7_fitsAhead 57 = .ok (.ifCond .ne 7, 3) := by decide +kernel
theorem dX7_fitsAhead_60 : decode cX7_fitsAhead 60 = .ok (.iconst 1, 1) := by decide +kernel
theorem dX7_fitsAhead_61 : decode cX7_fitsAhead 61 = .ok (.goto 4, 3) := by decide +kernel
theorem dX7_fitsAhead_64 : decode cX7_fitsAhead 64 = .ok (.iconst 0, 1) := by decide +kernel
theorem dX7_fitsAhead_65 : decode cX7_fitsAhead 65 = .ok (.istore_n 3, 1) := by decide +kernel
theorem dX7_fitsAhead_66 : decode cX7_fitsAhead 66 = .ok (.iinc 4 1, 3) := by decide +kernel
theorem dX7_fitsAhead_69 : decode cX7_fitsAhead 69 = .ok (.goto (-52), 3) := by decide +kernel
theorem dX7_fitsAhead_72 : decode cX7_fitsAhead 72 = .ok (.iload_n 3, 1) := by decide +kernel
theorem dX7_fitsAhead_73 : decode cX7_fitsAhead 73 = .ok (.ireturn, 1) := by decide +kernel
theorem dX7_canMonth_0 : decode cX7_canMonth 0 = .ok (.iconst 0, 1) := by decide +kernel
theorem dX7_canMonth_1 : decode cX7_canMonth 1 = .ok (.istore_n 3, 1) := by decide +kernel
theorem dX7_canMonth_2 : decode cX7_canMonth 2 = .ok (.iload_n 2, 1) := by decide +kernel
theorem dX7_canMonth_3 : decode cX7_canMonth 3 = .ok (.istore 4, 2) := by decide +kernel
theorem dX7_canMonth_5 : decode cX7_canMonth 5 = .ok (.aload_n 0, 1) := by decide +kernel
theorem dX7_canMonth_6 : decode cX7_canMonth 6 = .ok (.getfield 31, 3) := by decide +kernel
theorem dX7_canMonth_9 : decode cX7_canMonth 9 = .ok (.iconst 0, 1) := by decide +kernel
theorem dX7_canMonth_10 : decode cX7_canMonth 10 = .ok (.iconst (-1), 1) := by decide +kernel
theorem dX7_canMonth_11 : decode cX7_canMonth 11 = .ok (.iastore, 1) := by decide +kernel
theorem dX7_canMonth_12 : decode cX7_canMonth 12 = .ok (.iload_n 3, 1) := by decide +kernel
theorem dX7_canMonth_13 : decode cX7_canMonth 13 = .ok (.ifCond .lt 142, 3) := by decide +kernel
theorem dX7_canMonth_16 : decode cX7_canMonth 16 = .ok (.iload_n 3, 1) := by decide +kernel
theorem dX7_canMonth_17 : decode cX7_canMonth 17 = .ok (.aload_n 0, 1) := by decide +kernel
theorem dX7_canMonth_18 : decode cX7_canMonth 18 = .ok (.getfield 74, 3) := by decide +kernel
theorem dX7_canMonth_21 : decode cX7_canMonth 21 = .ok (.if_icmp .ge 134, 3) := by decide +kernel
theorem dX7_canMonth_24 : decode cX7_canMonth 24 = .ok (.iload 4, 2) := by decide +kernel
theorem dX7_canMonth_26 : decode cX7_canMonth 26 = .ok (.aload_n 0, 1) := by decide +kernel
theorem dX7_canMonth_27 : decode cX7_canMonth 27 = .ok (.getfield 31, 3) := by decide +kernel
theorem dX7_canMonth_30 : decode cX7_canMonth 30 = .ok (.iload_n 3, 1) := by decide +kernel
theorem dX7_canMonth_31 : decode cX7_canMonth 31 = .ok (.iaload, 1) := by decide +kernel
theorem dX7_canMonth_32 : decode cX7_canMonth 32 = .ok (.bipush 30, 2) := by decide +kernel
theorem dX7_canMonth_34 : decode cX7_canMonth 34 = .ok (.if_icmp .ne 7, 3) := by decide +kernel
theorem dX7_canMonth_37 : decode cX7_canMonth 37 = .ok (.iconst 1, 1) := by decide +kernel
theorem dX7_canMonth_38 : decode cX7_canMonth 38 = .ok (.goto 4, 3) := by decide +kernel
theorem dX7_canMonth_41 : decode cX7_canMonth 41 = .ok (.iconst 0, 1) := by decide +kernel
theorem dX7_canMonth_42 : decode cX7_canMonth 42 = .ok (.iadd, 1) := by decide +kernel
theorem dX7_canMonth_43 : decode cX7_canMonth 43 = .ok (.istore 4, 2) := by decide +kernel
theorem dX7_canMonth_45 : decode cX7_canMonth 45 = .ok (.aload_n 0, 1) := by decide +kernel
theorem dX7_canMonth_46 : decode cX7_canMonth 46 = .ok (.getfield 31, 3) := by decide +kernel
theorem dX7_canMonth_49 : decode cX7_canMonth 49 = .ok (.iload_n 3, 1) := by decide +kernel
theorem dX7_canMonth_50 : decode cX7_canMonth 50 = .ok (.dup2, 1) := by decide +kernel
theorem dX7_canMonth_51 : decode cX7_canMonth 51 = .ok (.iaload, 1) := by decide +kernel
theorem dX7_canMonth_52 : decode cX7_canMonth 52 = .ok (.iconst 1, 1) := by decide +kernel
theorem dX7_canMonth_53 : decode cX7_canMonth 53 = .ok (.iadd, 1) := by decide +kernel
theorem dX7_canMonth_54 : decode cX7_canMonth 54 = .ok (.iastore, 1) := by decide +kernel
theorem dX7_canMonth_55 : decode cX7_canMonth 55 = .ok (.aload_n 0, 1) := by decide +kernel
theorem dX7_canMonth_56 : decode cX7_canMonth 56 = .ok (.getfield 31, 3) := by decide +kernel
theorem dX7_canMonth_59 : decode cX7_canMonth 59 = .ok (.iload_n 3, 1) := by decide +kernel
theorem dX7_canMonth_60 : decode cX7_canMonth 60 = .ok (.iaload, 1) := by decide +kernel
theorem dX7_canMonth_61 : decode cX7_canMonth 61 = .ok (.bipush 30, 2) := by decide +kernel
theorem dX7_canMonth_63 : decode cX7_canMonth 63 = .ok (.if_icmp .ge 25, 3) := by decide +kernel
theorem dX7_canMonth_66 : decode cX7_canMonth 66 = .ok (.aload_n 0, 1) := by decide +kernel
theorem dX7_canMonth_67 : decode cX7_canMonth 67 = .ok (.iload_n 3, 1) := by decide +kernel
theorem dX7_canMonth_68 : decode cX7_canMonth 68 = .ok (.iload_n 1, 1) := by decide +kernel
theorem dX7_canMonth_69 : decode cX7_canMonth 69 = .ok (.invokevirtual 103, 3) := by decide +kernel
theorem dX7_canMonth_72 : decode cX7_canMonth 72 = .ok (.ifCond .ne 16, 3) := by decide +kernel
theorem dX7_canMonth_75 : decode cX7_canMonth 75 = .ok (.aload_n 0, 1) := by decide +kernel
theorem dX7_canMonth_76 : decode cX7_canMonth 76 = .ok (.getfield 31, 3) := by decide +kernel
theorem dX7_canMonth_79 : decode cX7_canMonth 79 = .ok (.iload_n 3, 1) := by decide +kernel
theorem dX7_canMonth_80 : decode cX7_canMonth 80 = .ok (.dup2, 1) := by decide +kernel
theorem dX7_canMonth_81 : decode cX7_canMonth 81 = .ok (.iaload, 1) := by decide +kernel
theorem dX7_canMonth_82 : decode cX7_canMonth 82 = .ok (.iconst 1, 1) := by decide +kernel
theorem dX7_canMonth_83 : decode cX7_canMonth 83 = .ok (.iadd, 1) := by decide +kernel
theorem dX7_canMonth_84 : decode cX7_canMonth 84 = .ok (.iastore, 1) := by decide +kernel
theorem dX7_canMonth_85 : decode cX7_canMonth 85 = .ok (.goto (-30), 3) := by decide +kernel
theorem dX7_canMonth_88 : decode cX7_canMonth 88 = .ok (.aload_n 0, 1) := by decide +kernel
theorem dX7_canMonth_89 : decode cX7_canMonth 89 = .ok (.getfield 31, 3) := by decide +kernel
theorem dX7_canMonth_92 : decode cX7_canMonth 92 = .ok (.iload_n 3, 1) := by decide +kernel
theorem dX7_canMonth_93 : decode cX7_canMonth 93 = .ok (.iaload, 1) := by decide +kernel
theorem dX7_canMonth_94 : decode cX7_canMonth 94 = .ok (.bipush 30, 2) := by decide +kernel
theorem dX7_canMonth_96 : decode cX7_canMonth 96 = .ok (.if_icmp .lt 19, 3) := by decide +kernel
theorem dX7_canMonth_99 : decode cX7_canMonth 99 = .ok (.aload_n 0, 1) := by decide +kernel
theorem dX7_canMonth_100 : decode cX7_canMonth 100 = .ok (.getfield 31, 3) := by decide +kernel
theorem dX7_canMonth_103 : decode cX7_canMonth 103 = .ok (.iload_n 3, 1) := by decide +kernel
theorem dX7_canMonth_104 : decode cX7_canMonth 104 = .ok (.iaload, 1) := by decide +kernel
theorem dX7_canMonth_105 : decode cX7_canMonth 105 = .ok (.bipush 30, 2) := by decide +kernel
theorem dX7_canMonth_107 : decode cX7_canMonth 107 = .ok (.if_icmp .ne 42, 3) := by decide +kernel
theorem dX7_canMonth_110 : decode cX7_canMonth 110 = .ok (.iload 4, 2) := by decide +kernel
theorem dX7_canMonth_112 : decode cX7_canMonth 112 = .ok (.ifCond .le 37, 3) := by decide +kernel
theorem dX7_canMonth_115 : decode cX7_canMonth 115 = .ok (.iload 4, 2) := by decide +kernel
theorem dX7_canMonth_117 : decode cX7_canMonth 117 = .ok (.aload_n 0, 1) := by decide +kernel
theorem dX7_canMonth_118 : decode cX7_canMonth 118 = .ok (.getfield 31, 3) := by decide +kernel
theorem dX7_canMonth_121 : decode cX7_canMonth 121 = .ok (.iload_n 3, 1) := by decide +kernel
theorem dX7_canMonth_122 : decode cX7_canMonth 122 = .ok (.iaload, 1) := by decide +kernel
theorem dX7_canMonth_123 : decode cX7_canMonth 123 = .ok (.bipush 30, 2) := by decide +kernel
theorem dX7_canMonth_125 : decode cX7_canMonth 125 = .ok (.if_icmp .ne 7, 3) := by decide +kernel
theorem dX7_canMonth_128 : decode cX7_canMonth 128 = .ok (.iconst 1, 1) := by decide +kernel
theorem dX7_canMonth_129 : decode cX7_canMonth 129 = .ok (.goto 4, 3) := by decide +kernel
theorem dX7_canMonth_132 : decode cX7_canMonth 132 = .ok (.iconst 0, 1) := by decide +kernel
theorem dX7_canMonth_133 : decode cX7_canMonth 133 = .ok (.isub, 1) := by decide +kernel
theorem dX7_canMonth_134 : decode cX7_canMonth 134 = .ok (.istore 4, 2) := by decide +kernel
theorem dX7_canMonth_136 : decode cX7_canMonth 136 = .ok (.iinc 3 1, 3) := by decide +kernel
theorem dX7_canMonth_139 : decode cX7_canMonth 139 = .ok (.aload_n 0, 1) := by decide +kernel
theorem dX7_canMonth_140 : decode cX7_canMonth 140 = .ok (.getfield 31, 3) := by decide +kernel
theorem dX7_canMonth_143 : decode cX7_canMonth 143 = .ok (.iload_n 3, 1) := by decide +kernel
theorem dX7_canMonth_144 : decode cX7_canMonth 144 = .ok (.iconst (-1), 1) := by decide +kernel
theorem dX7_canMonth_145 : decode cX7_canMonth 145 = .ok (.iastore, 1) := by decide +kernel
theorem dX7_canMonth_146 : decode cX7_canMonth 146 = .ok (.goto (-134), 3) := by decide +kernel
theorem dX7_canMonth_149 : decode cX7_canMonth 149 = .ok (.iinc 3 (-1), 3) := by decide +kernel
theorem dX7_canMonth_152 : decode cX7_canMonth 152 = .ok (.goto (-140), 3) := by decide +kernel
theorem dX7_canMonth_155 : decode cX7_canMonth 155 = .ok (.iload_n 3, 1) := by decide +kernel
theorem dX7_canMonth_156 : decode cX7_canMonth 156 = .ok (.aload_n 0, 1) := by decide +kernel
theorem dX7_canMonth_157 : decode cX7_canMonth 157 = .ok (.getfield 74, 3) := by decide +kernel
theorem dX7_canMonth_160 : decode cX7_canMonth 160 = .ok (.if_icmp .ne 7, 3) := by decide +kernel
theorem dX7_canMonth_163 : decode cX7_canMonth 163 = .ok (.iconst 1, 1) := by decide +kernel
theorem dX7_canMonth_164 : decode cX7_canMonth 164 = .ok (.goto 4, 3) := by decide +kernel
theorem dX7_canMonth_167 : decode cX7_canMonth 167 = .ok (.iconst 0, 1) := by decide +kernel
theorem dX7_canMonth_168 : decode cX7_canMonth 168 = .ok (.ireturn, 1) := by decide +kernel
theorem dX7_month_0 : decode cX7_month 0 = .ok (.iload_n 2, 1) := by decide +kernel
theorem dX7_month_1 : decode cX7_month 1 = .ok (.iconst (-1), 1) := by decide +kernel
theorem dX7_month_2 : decode cX7_month 2 = .ok (.if_icmp .eq 13, 3) := by decide +kernel
theorem dX7_month_5 : decode cX7_month 5 = .ok (.aload_n 0, 1) := by decide +kernel
theorem dX7_month_6 : decode cX7_month 6 = .ok (.iload_n 2, 1) := by decide +kernel
theorem dX7_month_7 : decode cX7_month 7 = .ok (.invokevirtual 97, 3) := by decide +kernel
theorem dX7_month_10 : decode cX7_month 10 = .ok (.ifCond .ne 5, 3) := by decide +kernel
theorem dX7_month_13 : decode cX7_month 13 = .ok (.iconst (-1), 1) := by decide +kernel
theorem dX7_month_14 : decode cX7_month 14 = .ok (.ireturn, 1) := by decide +kernel
theorem dX7_month_15 : decode cX7_month 15 = .ok (.iload_n 1, 1) := by decide +kernel
theorem dX7_month_16 : decode cX7_month 16 = .ok (.iconst 0, 1) := by decide +kernel
theorem dX7_month_17 : decode cX7_month 17 = .ok (.sipush 9970, 3) := by decide +kernel
theorem dX7_month_20 : decode cX7_month 20 = .ok (.invokestatic 45, 3) := by decide +kernel
theorem dX7_month_23 : decode cX7_month 23 = .ok (.ifCond .ne 6, 3) := by decide +kernel
theorem dX7_month_26 : decode cX7_month 26 = .ok (.bipush (-2), 2) := by decide +kernel
theorem dX7_month_28 : decode cX7_month 28 = .ok (.ireturn, 1) := by decide +kernel
theorem dX7_month_29 : decode cX7_month 29 = .ok (.iconst 0, 1) := by decide +kernel
theorem dX7_month_30 : decode cX7_month 30 = .ok (.istore_n 3, 1) := by decide +kernel
theorem dX7_month_31 : decode cX7_month 31 = .ok (.aload_n 0, 1) := by decide +kernel
theorem dX7_month_32 : decode cX7_month 32 = .ok (.iload_n 1, 1) := by decide +kernel
theorem dX7_month_33 : decode cX7_month 33 = .ok (.iload_n 3, 1) := by decide +kernel
theorem dX7_month_34 : decode cX7_month 34 = .ok (.invokevirtual 106, 3) := by decide +kernel
theorem dX7_month_37 : decode cX7_month 37 = .ok (.ifCond .ne 9, 3) := by decide +kernel
theorem dX7_month_40 : decode cX7_month 40 = .ok (.iinc 3 1, 3) := by decide +kernel
theorem dX7_month_43 : decode cX7_month 43 = .ok (.goto (-12), 3) := by decide +kernel
theorem dX7_month_46 : decode cX7_month 46 = .ok (.iload_n 2, 1) := by decide +kernel
theorem dX7_month_47 : decode cX7_month 47 = .ok (.ifCond .ge 12, 3) := by decide +kernel
theorem dX7_month_50 : decode cX7_month 50 = .ok (.aload_n 0, 1) := by decide +kernel
theorem dX7_month_51 : decode cX7_month 51 = .ok (.getfield 74, 3) := by decide +kernel
theorem dX7_month_54 : decode cX7_month 54 = .ok (.iload_n 3, 1) := by decide +kernel
theorem dX7_month_55 : decode cX7_month 55 = .ok (.isub, 1) := by decide +kernel
theorem dX7_month_56 : decode cX7_month 56 = .ok (.goto 27, 3) := by decide +kernel
theorem dX7_month_59 : decode cX7_month 59 = .ok (.aload_n 0, 1) := by decide +kernel
theorem dX7_month_60 : decode cX7_month 60 = .ok (.getfield 31, 3) := by decide +kernel
theorem dX7_month_63 : decode cX7_month 63 = .ok (.iload_n 2, 1) := by decide +kernel
theorem dX7_month_64 : decode cX7_month 64 = .ok (.iaload, 1) := by decide +kernel
theorem dX7_month_65 : decode cX7_month 65 = .ok (.bipush 30, 2) := by decide +kernel
theorem dX7_month_67 : decode cX7_month 67 = .ok (.if_icmp .ge 14, 3) := by decide +kernel
theorem dX7_month_70 : decode cX7_month 70 = .ok (.iload_n 1, 1) := by decide +kernel
theorem dX7_month_71 : decode cX7_month 71 = .ok (.aload_n 0, 1) := by decide +kernel
theorem dX7_month_72 : decode cX7_month 72 = .ok (.getfield 31, 3) := by decide +kernel
theorem dX7_month_75 : decode cX7_month 75 = .ok (.iload_n 2, 1) := by decide +kernel
theorem dX7_month_76 : decode cX7_month 76 = .ok (.iaload, 1) := by decide +kernel
theorem dX7_month_77 : decode cX7_month 77 = .ok (.iadd, 1) := by decide +kernel
theorem dX7_month_78 : decode cX7_month 78 = .ok (.goto 5, 3) := by decide +kernel
theorem dX7_month_81 : decode cX7_month 81 = .ok (.bipush (-6), 2) := by decide +kernel
theorem dX7_month_83 : decode cX7_month 83 = .ok (.ireturn, 1) := by decide +kernel
theorem dX7_isBarred_0 : decode cX7_isBarred 0 = .ok (.iconst 1, 1) := by decide +kernel
theorem dX7_isBarred_1 : decode cX7_isBarred 1 = .ok (.istore_n 2, 1) := by decide +kernel
theorem dX7_isBarred_2 : decode cX7_isBarred 2 = .ok (.iconst 0, 1) := by decide +kernel
theorem dX7_isBarred_3 : decode cX7_isBarred 3 = .ok (.istore_n 3, 1) := by decide +kernel
theorem dX7_isBarred_4 : decode cX7_isBarred 4 = .ok (.iload_n 3, 1) := by decide +kernel
theorem dX7_isBarred_5 : decode cX7_isBarred 5 = .ok (.sipush 840, 3) := by decide +kernel
theorem dX7_isBarred_8 : decode cX7_isBarred 8 = .ok (.if_icmp .ge 28, 3) := by decide +kernel
theorem dX7_isBarred_11 : decode cX7_isBarred 11 = .ok (.iload_n 2, 1) := by decide +kernel
theorem dX7_isBarred_12 : decode cX7_isBarred 12 = .ok (.ifCond .eq 24, 3) := by decide +kernel
theorem dX7_isBarred_15 : decode cX7_isBarred 15 = .ok (.aload_n 0, 1) := by decide +kernel
theorem dX7_isBarred_16 : decode cX7_isBarred 16 = .ok (.iload_n 1, 1) := by decide +kernel
theorem dX7_isBarred_17 : decode cX7_isBarred 17 = .ok (.iload_n 3, 1) := by decide +kernel
theorem dX7_isBarred_18 : decode cX7_isBarred 18 = .ok (.invokevirtual 100, 3) := by decide +kernel
theorem dX7_isBarred_21 : decode cX7_isBarred 21 = .ok (.ifCond .ne 7, 3) := by decide +kernel
theorem dX7_isBarred_24 : decode cX7_isBarred 24 = .ok (.iconst 1, 1) := by decide +kernel
theorem dX7_isBarred_25 : decode cX7_isBarred 25 = .ok (.goto 4, 3) := by decide +kernel
theorem dX7_isBarred_28 : decode cX7_isBarred 28 = .ok (.iconst 0, 1) := by decide +kernel
theorem dX7_isBarred_29 : decode cX7_isBarred 29 = .ok (.istore_n 2, 1) := by decide +kernel
theorem dX7_isBarred_30 : decode cX7_isBarred 30 = .ok (.iinc 3 1, 3) := by decide +kernel
theorem dX7_isBarred_33 : decode cX7_isBarred 33 = .ok (.goto (-29), 3) := by decide +kernel
theorem dX7_isBarred_36 : decode cX7_isBarred 36 = .ok (.iload_n 2, 1) := by decide +kernel
theorem dX7_isBarred_37 : decode cX7_isBarred 37 = .ok (.ireturn, 1) := by decide +kernel
theorem dX7_barred_0 : decode cX7_barred 0 = .ok (.iconst 0, 1) := by decide +kernel
theorem dX7_barred_1 : decode cX7_barred 1 = .ok (.istore_n 1, 1) := by decide +kernel
theorem dX7_barred_2 : decode cX7_barred 2 = .ok (.iconst 0, 1) := by decide +kernel
theorem dX7_barred_3 : decode cX7_barred 3 = .ok (.istore_n 2, 1) := by decide +kernel
theorem dX7_barred_4 : decode cX7_barred 4 = .ok (.iload_n 2, 1) := by decide +kernel
theorem dX7_barred_5 : decode cX7_barred 5 = .ok (.aload_n 0, 1) := by decide +kernel
theorem dX7_barred_6 : decode cX7_barred 6 = .ok (.getfield 74, 3) := by decide +kernel
theorem dX7_barred_9 : decode cX7_barred 9 = .ok (.if_icmp .ge 27, 3) := by decide +kernel
theorem dX7_barred_12 : decode cX7_barred 12 = .ok (.iload_n 1, 1) := by decide +kernel
theorem dX7_barred_13 : decode cX7_barred 13 = .ok (.aload_n 0, 1) := by decide +kernel
theorem dX7_barred_14 : decode cX7_barred 14 = .ok (.iload_n 2, 1) := by decide +kernel
theorem dX7_barred_15 : decode cX7_barred 15 = .ok (.invokevirtual 109, 3) := by decide +kernel
theorem dX7_barred_18 : decode cX7_barred 18 = .ok (.ifCond .eq 9, 3) := by decide +kernel
theorem dX7_barred_21 : decode cX7_barred 21 = .ok (.iconst 1, 1) := by decide +kernel
theorem dX7_barred_22 : decode cX7_barred 22 = .ok (.iload_n 2, 1) := by decide +kernel
theorem dX7_barred_23 : decode cX7_barred 23 = .ok (.ishl, 1) := by decide +kernel
theorem dX7_barred_24 : decode cX7_barred 24 = .ok (.goto 4, 3) := by decide +kernel
theorem dX7_barred_27 : decode cX7_barred 27 = .ok (.iconst 0, 1) := by decide +kernel
theorem dX7_barred_28 : decode cX7_barred 28 = .ok (.ior, 1) := by decide +kernel
theorem dX7_barred_29 : decode cX7_barred 29 = .ok (.istore_n 1, 1) := by decide +kernel
theorem dX7_barred_30 : decode cX7_barred 30 = .ok (.iinc 2 1, 3) := by decide +kernel
theorem dX7_barred_33 : decode cX7_barred 33 = .ok (.goto (-29), 3) := by decide +kernel
theorem dX7_barred_36 : decode cX7_barred 36 = .ok (.iload_n 1, 1) := by decide +kernel
theorem dX7_barred_37 : decode cX7_barred 37 = .ok (.ireturn, 1) := by decide +kernel
theorem dX7_haveAtOnce_0 : decode cX7_haveAtOnce 0 = .ok (.iconst 0, 1) := by decide +kernel
theorem dX7_haveAtOnce_1 : decode cX7_haveAtOnce 1 = .ok (.istore_n 3, 1) := by decide +kernel
theorem dX7_haveAtOnce_2 : decode cX7_haveAtOnce 2 = .ok (.iconst 0, 1) := by decide +kernel
theorem dX7_haveAtOnce_3 : decode cX7_haveAtOnce 3 = .ok (.istore 4, 2) := by decide +kernel
theorem dX7_haveAtOnce_5 : decode cX7_haveAtOnce 5 = .ok (.iload 4, 2) := by decide +kernel
theorem dX7_haveAtOnce_7 : decode cX7_haveAtOnce 7 = .ok (.sipush 840, 3) := by decide +kernel
theorem dX7_haveAtOnce_10 : decode cX7_haveAtOnce 10 = .ok (.if_icmp .ge 31, 3) := by decide +kernel
theorem dX7_haveAtOnce_13 : decode cX7_haveAtOnce 13 = .ok (.iload_n 3, 1) := by decide +kernel
theorem dX7_haveAtOnce_14 : decode cX7_haveAtOnce 14 = .ok (.ifCond .ne 27, 3) := by decide +kernel
theorem dX7_haveAtOnce_17 : decode cX7_haveAtOnce 17 = .ok (.aload_n 0, 1) := by decide +kernel
theorem dX7_haveAtOnce_18 : decode cX7_haveAtOnce 18 = .ok (.iload_n 1, 1) := by decide +kernel
theorem dX7_haveAtOnce_19 : decode cX7_haveAtOnce 19 = .ok (.iload_n 2, 1) := by decide +kernel
theorem dX7_haveAtOnce_20 : decode cX7_haveAtOnce 20 = .ok (.iload 4, 2) := by decide +kernel
theorem dX7_haveAtOnce_22 : decode cX7_haveAtOnce 22 = .ok (.invokevirtual 84, 3) := by decide +kernel
theorem dX7_haveAtOnce_25 : decode cX7_haveAtOnce 25 = .ok (.iload_n 1, 1) := by decide +kernel
theorem dX7_haveAtOnce_26 : decode cX7_haveAtOnce 26 = .ok (.if_icmp .ne 7, 3) := by decide +kernel
theorem dX7_haveAtOnce_29 : decode cX7_haveAtOnce 29 = .ok (.iconst 1, 1) := by decide +kernel
theorem dX7_haveAtOnce_30 : decode cX7_haveAtOnce 30 = .ok (.goto 4, 3) := by decide +kernel
theorem dX7_haveAtOnce_33 : decode cX7_haveAtOnce 33 = .ok (.iconst 0, 1) := by decide +kernel
theorem dX7_haveAtOnce_34 : decode cX7_haveAtOnce 34 = .ok (.istore_n 3, 1) := by decide +kernel
theorem dX7_haveAtOnce_35 : decode cX7_haveAtOnce 35 = .ok (.iinc 4 1, 3) := by decide +kernel
theorem dX7_haveAtOnce_38 : decode cX7_haveAtOnce 38 = .ok (.goto (-33), 3) := by decide +kernel
theorem dX7_haveAtOnce_41 : decode cX7_haveAtOnce 41 = .ok (.iload_n 3, 1) := by decide +kernel
theorem dX7_haveAtOnce_42 : decode cX7_haveAtOnce 42 = .ok (.ireturn, 1) := by decide +kernel
theorem dX7_why_0 : decode cX7_why 0 = .ok (.aload_n 0, 1) := by decide +kernel
theorem dX7_why_1 : decode cX7_why 1 = .ok (.iload_n 1, 1) := by decide +kernel
theorem dX7_why_2 : decode cX7_why 2 = .ok (.invokevirtual 97, 3) := by decide +kernel
theorem dX7_why_5 : decode cX7_why 5 = .ok (.ifCond .ne 5, 3) := by decide +kernel
theorem dX7_why_8 : decode cX7_why 8 = .ok (.iconst (-1), 1) := by decide +kernel
theorem dX7_why_9 : decode cX7_why 9 = .ok (.ireturn, 1) := by decide +kernel
theorem dX7_why_10 : decode cX7_why 10 = .ok (.aload_n 0, 1) := by decide +kernel
theorem dX7_why_11 : decode cX7_why 11 = .ok (.iload_n 1, 1) := by decide +kernel
theorem dX7_why_12 : decode cX7_why 12 = .ok (.invokevirtual 109, 3) := by decide +kernel
theorem dX7_why_15 : decode cX7_why 15 = .ok (.ifCond .ne 6, 3) := by decide +kernel
theorem dX7_why_18 : decode cX7_why 18 = .ok (.bipush (-5), 2) := by decide +kernel
theorem dX7_why_20 : decode cX7_why 20 = .ok (.ireturn, 1) := by decide +kernel
theorem dX7_why_21 : decode cX7_why 21 = .ok (.aload_n 0, 1) := by decide +kernel
theorem dX7_why_22 : decode cX7_why 22 = .ok (.getfield 22, 3) := by decide +kernel
theorem dX7_why_25 : decode cX7_why 25 = .ok (.iload_n 1, 1) := by decide +kernel
theorem dX7_why_26 : decode cX7_why 26 = .ok (.iaload, 1) := by decide +kernel
theorem dX7_why_27 : decode cX7_why 27 = .ok (.aload_n 0, 1) := by decide +kernel
theorem dX7_why_28 : decode cX7_why 28 = .ok (.getfield 41, 3) := by decide +kernel
theorem dX7_why_31 : decode cX7_why 31 = .ok (.iconst (-1), 1) := by decide +kernel
theorem dX7_why_32 : decode cX7_why 32 = .ok (.ixor, 1) := by decide +kernel
theorem dX7_why_33 : decode cX7_why 33 = .ok (.iand, 1) := by decide +kernel
theorem dX7_why_34 : decode cX7_why 34 = .ok (.ifCond .eq 6, 3) := by decide +kernel
theorem dX7_why_37 : decode cX7_why 37 = .ok (.bipush (-3), 2) := by decide +kernel
theorem dX7_why_39 : decode cX7_why 39 = .ok (.ireturn, 1) := by decide +kernel
theorem dX7_why_40 : decode cX7_why 40 = .ok (.iconst 0, 1) := by decide +kernel
theorem dX7_why_41 : decode cX7_why 41 = .ok (.istore_n 2, 1) := by decide +kernel
theorem dX7_why_42 : decode cX7_why 42 = .ok (.iload_n 2, 1) := by decide +kernel
theorem dX7_why_43 : decode cX7_why 43 = .ok (.bipush 6, 2) := by decide +kernel
theorem dX7_why_45 : decode cX7_why 45 = .ok (.if_icmp .ge 43, 3) := by decide +kernel
theorem dX7_why_48 : decode cX7_why 48 = .ok (.aload_n 0, 1) := by decide +kernel
theorem dX7_why_49 : decode cX7_why 49 = .ok (.getfield 22, 3) := by decide +kernel
theorem dX7_why_52 : decode cX7_why 52 = .ok (.iload_n 1, 1) := by decide +kernel
theorem dX7_why_53 : decode cX7_why 53 = .ok (.iaload, 1) := by decide +kernel
theorem dX7_why_54 : decode cX7_why 54 = .ok (.iload_n 2, 1) := by decide +kernel
theorem dX7_why_55 : decode cX7_why 55 = .ok (.invokestatic 49, 3) := by decide +kernel
theorem dX7_why_58 : decode cX7_why 58 = .ok (.ifCond .eq 24, 3) := by decide +kernel
theorem dX7_why_61 : decode cX7_why 61 = .ok (.aload_n 0, 1) := by decide +kernel
theorem dX7_why_62 : decode cX7_why 62 = .ok (.iconst 1, 1) := by decide +kernel
theorem dX7_why_63 : decode cX7_why 63 = .ok (.iload_n 2, 1) := by decide +kernel
theorem dX7_why_64 : decode cX7_why 64 = .ok (.ishl, 1) := by decide +kernel
theorem dX7_why_65 : decode cX7_why 65 = .ok (.aload_n 0, 1) := by decide +kernel
theorem dX7_why_66 : decode cX7_why 66 = .ok (.getfield 19, 3) := by decide +kernel
theorem dX7_why_69 : decode cX7_why 69 = .ok (.iload_n 1, 1) := by decide +kernel
theorem dX7_why_70 : decode cX7_why 70 = .ok (.iaload, 1) := by decide +kernel
theorem dX7_why_71 : decode cX7_why 71 = .ok (.invokevirtual 112, 3) := by decide +kernel
theorem dX7_why_74 : decode cX7_why 74 = .ok (.ifCond .ne 8, 3) := by decide +kernel
theorem dX7_why_77 : decode cX7_why 77 = .ok (.bipush 11, 2) := by decide +kernel
theorem dX7_why_79 : decode cX7_why 79 = .ok (.iload_n 2, 1) := by decide +kernel
theorem dX7_why_80 : decode cX7_why 80 = .ok (.imul, 1) := by decide +kernel
theorem dX7_why_81 : decode cX7_why 81 = .ok (.ireturn, 1) := by decide +kernel
theorem dX7_why_82 : decode cX7_why 82 = .ok (.iinc 2 1, 3) := by decide +kernel
theorem dX7_why_85 : decode cX7_why 85 = .ok (.goto (-43), 3) := by decide +kernel
theorem dX7_why_88 : decode cX7_why 88 = .ok (.iconst 0, 1) := by decide +kernel
theorem dX7_why_89 : decode cX7_why 89 = .ok (.istore_n 2, 1) := by decide +kernel
theorem dX7_why_90 : decode cX7_why 90 = .ok (.iload_n 2, 1) := by decide +kernel
theorem dX7_why_91 : decode cX7_why 91 = .ok (.bipush 6, 2) := by decide +kernel
theorem dX7_why_93 : decode cX7_why 93 = .ok (.if_icmp .ge 78, 3) := by decide +kernel
theorem dX7_why_96 : decode cX7_why 96 = .ok (.iload_n 2, 1) := by decide +kernel
theorem dX7_why_97 : decode cX7_why 97 = .ok (.iconst 1, 1) := by decide +kernel
theorem dX7_why_98 : decode cX7_why 98 = .ok (.iadd, 1) := by decide +kernel
theorem dX7_why_99 : decode cX7_why 99 = .ok (.istore_n 3, 1) := by decide +kernel
theorem dX7_why_100 : decode cX7_why 100 = .ok (.iload_n 3, 1) := by decide +kernel
theorem dX7_why_101 : decode cX7_why 101 = .ok (.bipush 6, 2) := by decide +kernel
theorem dX7_why_103 : decode cX7_why 103 = .ok (.if_icmp .ge 62, 3) := by decide +kernel
theorem dX7_why_106 : decode cX7_why 106 = .ok (.aload_n 0, 1) := by decide +kernel
theorem dX7_why_107 : decode cX7_why 107 = .ok (.getfield 22, 3) := by decide +kernel
theorem dX7_why_110 : decode cX7_why 110 = .ok (.iload_n 1, 1) := by decide +kernel
theorem dX7_why_111 : decode cX7_why 111 = .ok (.iaload, 1) := by decide +kernel
theorem dX7_why_112 : decode cX7_why 112 = .ok (.iload_n 2, 1) := by decide +kernel
theorem dX7_why_113 : decode cX7_why 113 = .ok (.invokestatic 49, 3) := by decide +kernel
theorem dX7_why_116 : decode cX7_why 116 = .ok (.ifCond .eq 43, 3) := by decide +kernel
theorem dX7_why_119 : decode cX7_why 119 = .ok (.aload_n 0, 1) := by decide +kernel
theorem dX7_why_120 : decode cX7_why 120 = .ok (.getfield 22, 3) := by decide +kernel
theorem dX7_why_123 : decode cX7_why 123 = .ok (.iload_n 1, 1) := by decide +kernel
theorem dX7_why_124 : decode cX7_why 124 = .ok (.iaload, 1) := by decide +kernel
theorem dX7_why_125 : decode cX7_why 125 = .ok (.iload_n 3, 1) := by decide +kernel
theorem dX7_why_126 : decode cX7_why 126 = .ok (.invokestatic 49, 3) := by decide +kernel
theorem dX7_why_129 : decode cX7_why 129 = .ok (.ifCond .eq 30, 3) := by decide +kernel
theorem dX7_why_132 : decode cX7_why 132 = .ok (.aload_n 0, 1) := by decide +kernel
theorem dX7_why_133 : decode cX7_why 133 = .ok (.iconst 1, 1) := by decide +kernel
theorem dX7_why_134 : decode cX7_why 134 = .ok (.iload_n 2, 1) := by decide +kernel
theorem dX7_why_135 : decode cX7_why 135 = .ok (.ishl, 1) := by decide +kernel
theorem dX7_why_136 : decode cX7_why 136 = .ok (.iconst 1, 1) := by decide +kernel
theorem dX7_why_137 : decode cX7_why 137 = .ok (.iload_n 3, 1) := by decide +kernel
theorem dX7_why_138 : decode cX7_why 138 = .ok (.ishl, 1) := by decide +kernel
theorem dX7_why_139 : decode cX7_why 139 = .ok (.ior, 1) := by decide +kernel
theorem dX7_why_140 : decode cX7_why 140 = .ok (.aload_n 0, 1) := by decide +kernel
theorem dX7_why_141 : decode cX7_why 141 = .ok (.getfield 19, 3) := by decide +kernel
theorem dX7_why_144 : decode cX7_why 144 = .ok (.iload_n 1, 1) := by decide +kernel
theorem dX7_why_145 : decode cX7_why 145 = .ok (.iaload, 1) := by decide +kernel
theorem dX7_why_146 : decode cX7_why 146 = .ok (.invokevirtual 112, 3) := by decide +kernel
theorem dX7_why_149 : decode cX7_why 149 = .ok (.ifCond .ne 10, 3) := by decide +kernel
theorem dX7_why_152 : decode cX7_why 152 = .ok (.bipush 10, 2) := by decide +kernel
theorem dX7_why_154 : decode cX7_why 154 = .ok (.iload_n 2, 1) := by decide +kernel
theorem dX7_why_155 : decode cX7_why 155 = .ok (.imul, 1) := by decide +kernel
theorem dX7_why_156 : decode cX7_why 156 = .ok (.iload_n 3, 1) := by decide +kernel
theorem dX7_why_157 : decode cX7_why 157 = .ok (.iadd, 1) := by decide +kernel
theorem dX7_why_158 : decode cX7_why 158 = .ok (.ireturn, 1) := by decide +kernel
theorem dX7_why_159 : decode cX7_why 159 = .ok (.iinc 3 1, 3) := by decide +kernel
theorem dX7_why_162 : decode cX7_why 162 = .ok (.goto (-62), 3) := by decide +kernel
theorem dX7_why_165 : decode cX7_why 165 = .ok (.iinc 2 1, 3) := by decide +kernel
theorem dX7_why_168 : decode cX7_why 168 = .ok (.goto (-78), 3) := by decide +kernel
theorem dX7_why_171 : decode cX7_why 171 = .ok (.bipush (-6), 2) := by decide +kernel
theorem dX7_why_173 : decode cX7_why 173 = .ok (.ireturn, 1) := by decide +kernel
theorem dX7_common_0 : decode cX7_common 0 = .ok (.aload_n 0, 1) := by decide +kernel
theorem dX7_common_1 : decode cX7_common 1 = .ok (.iload_n 1, 1) := by decide +kernel
theorem dX7_common_2 : decode cX7_common 2 = .ok (.invokevirtual 88, 3) := by decide +kernel
theorem dX7_common_5 : decode cX7_common 5 = .ok (.ifCond .eq 23, 3) := by decide +kernel
theorem dX7_common_8 : decode cX7_common 8 = .ok (.iload_n 2, 1) := by decide +kernel
theorem dX7_common_9 : decode cX7_common 9 = .ok (.iconst 0, 1) := by decide +kernel
theorem dX7_common_10 : decode cX7_common 10 = .ok (.sipush 9990, 3) := by decide +kernel
theorem dX7_common_13 : decode cX7_common 13 = .ok (.invokestatic 45, 3) := by decide +kernel
theorem dX7_common_16 : decode cX7_common 16 = .ok (.ifCond .eq 12, 3) := by decide +kernel
theorem dX7_common_19 : decode cX7_common 19 = .ok (.iload_n 3, 1) := by decide +kernel
theorem dX7_common_20 : decode cX7_common 20 = .ok (.iconst 0, 1) := by decide +kernel
theorem dX7_common_21 : decode cX7_common 21 = .ok (.iconst 1, 1) := by decide +kernel
theorem dX7_common_22 : decode cX7_common 22 = .ok (.invokestatic 45, 3) := by decide +kernel
theorem dX7_common_25 : decode cX7_common 25 = .ok (.ifCond .ne 6, 3) := by decide +kernel
theorem dX7_common_28 : decode cX7_common 28 = .ok (.bipush (-2), 2) := by decide +kernel
theorem dX7_common_30 : decode cX7_common 30 = .ok (.ireturn, 1) := by decide +kernel
theorem dX7_common_31 : decode cX7_common 31 = .ok (.ldc 115, 2) := by decide +kernel
theorem dX7_common_33 : decode cX7_common 33 = .ok (.istore 4, 2) := by decide +kernel
theorem dX7_common_35 : decode cX7_common 35 = .ok (.bipush (-6), 2) := by decide +kernel
theorem dX7_common_37 : decode cX7_common 37 = .ok (.istore 5, 2) := by decide +kernel
theorem dX7_common_39 : decode cX7_common 39 = .ok (.iconst 0, 1) := by decide +kernel
theorem dX7_common_40 : decode cX7_common 40 = .ok (.istore 6, 2) := by decide +kernel
theorem dX7_common_42 : decode cX7_common 42 = .ok (.iload 6, 2) := by decide +kernel
theorem dX7_common_44 : decode cX7_common 44 = .ok (.bipush 7, 2) := by decide +kernel
theorem dX7_common_46 : decode cX7_common 46 = .ok (.if_icmp .ge 120, 3) := by decide +kernel
theorem dX7_common_49 : decode cX7_common 49 = .ok (.iconst 0, 1) := by decide +kernel
theorem dX7_common_50 : decode cX7_common 50 = .ok (.istore 7, 2) := by decide +kernel
theorem dX7_common_52 : decode cX7_common 52 = .ok (.iload 7, 2) := by decide +kernel
theorem dX7_common_54 : decode cX7_common 54 = .ok (.bipush 8, 2) := by decide +kernel
theorem dX7_common_56 : decode cX7_common 56 = .ok (.if_icmp .ge 104, 3) := by decide +kernel
theorem dX7_common_59 : decode cX7_common 59 = .ok (.iload_n 1, 1) := by decide +kernel
theorem dX7_common_60 : decode cX7_common 60 = .ok (.aload_n 0, 1) := by decide +kernel
theorem dX7_common_61 : decode cX7_common 61 = .ok (.aload_n 0, 1) := by decide +kernel
theorem dX7_common_62 : decode cX7_common 62 = .ok (.getfield 41, 3) := by decide +kernel
theorem dX7_common_65 : decode cX7_common 65 = .ok (.iload 7, 2) := by decide +kernel
theorem dX7_common_67 : decode cX7_common 67 = .ok (.iload_n 2, 1) := by decide +kernel
theorem dX7_common_68 : decode cX7_common 68 = .ok (.iload 6, 2) := by decide +kernel
theorem dX7_common_70 : decode cX7_common 70 = .ok (.iadd, 1) := by decide +kernel
theorem dX7_common_71 : decode cX7_common 71 = .ok (.invokevirtual 84, 3) := by decide +kernel
theorem dX7_common_74 : decode cX7_common 74 = .ok (.iconst (-1), 1) := by decide +kernel
theorem dX7_common_75 : decode cX7_common 75 = .ok (.ixor, 1) := by decide +kernel
theorem dX7_common_76 : decode cX7_common 76 = .ok (.iand, 1) := by decide +kernel
theorem dX7_common_77 : decode cX7_common 77 = .ok (.invokestatic 70, 3) := by decide +kernel
theorem dX7_common_80 : decode cX7_common 80 = .ok (.istore 8, 2) := by decide +kernel
theorem dX7_common_82 : decode cX7_common 82 = .ok (.aload_n 0, 1) := by decide +kernel
theorem dX7_common_83 : decode cX7_common 83 = .ok (.aload_n 0, 1) := by decide +kernel
theorem dX7_common_84 : decode cX7_common 84 = .ok (.getfield 41, 3) := by decide +kernel
theorem dX7_common_87 : decode cX7_common 87 = .ok (.iload 7, 2) := by decide +kernel
theorem dX7_common_89 : decode cX7_common 89 = .ok (.iload_n 2, 1) := by decide +kernel
theorem dX7_common_90 : decode cX7_common 90 = .ok (.iload 6, 2) := by decide +kernel
theorem dX7_common_92 : decode cX7_common 92 = .ok (.iadd, 1) := by decide +kernel
theorem dX7_common_93 : decode cX7_common 93 = .ok (.invokevirtual 84, 3) := by decide +kernel
theorem dX7_common_96 : decode cX7_common 96 = .ok (.ifCond .eq 7, 3) := by decide +kernel
theorem dX7_common_99 : decode cX7_common 99 = .ok (.iconst 1, 1) := by decide +kernel
theorem dX7_common_100 : decode cX7_common 100 = .ok (.goto 4, 3) := by decide +kernel
theorem dX7_common_103 : decode cX7_common 103 = .ok (.iconst 0, 1) := by decide +kernel
theorem dX7_common_104 : decode cX7_common 104 = .ok (.istore 9, 2) := by decide +kernel
theorem dX7_common_106 : decode cX7_common 106 = .ok (.iload 9, 2) := by decide +kernel
theorem dX7_common_108 : decode cX7_common 108 = .ok (.ifCond .eq 21, 3) := by decide +kernel
theorem dX7_common_111 : decode cX7_common 111 = .ok (.iload 8, 2) := by decide +kernel
theorem dX7_common_113 : decode cX7_common 113 = .ok (.iload 4, 2) := by decide +kernel
theorem dX7_common_115 : decode cX7_common 115 = .ok (.if_icmp .ge 14, 3) := by decide +kernel
theorem dX7_common_118 : decode cX7_common 118 = .ok (.bipush 100, 2) := by decide +kernel
theorem dX7_common_120 : decode cX7_common 120 = .ok (.iload 6, 2) := by decide +kernel
theorem dX7_common_122 : decode cX7_common 122 = .ok (.imul, 1) := by decide +kernel
theorem dX7_common_123 : decode cX7_common 123 = .ok (.iload 7, 2) := by decide +kernel
theorem dX7_common_125 : decode cX7_common 125 = .ok (.iadd, 1) := by decide +kernel
theorem dX7_common_126 : decode cX7_common 126 = .ok (.goto 5, 3) := by decide +kernel
theorem dX7_common_129 : decode cX7_common 129 = .ok (.iload 5, 2) := by decide +kernel
theorem dX7_common_131 : decode cX7_common 131 = .ok (.istore 5, 2) := by decide +kernel
theorem dX7_common_133 : decode cX7_common 133 = .ok (.iload 9, 2) := by decide +kernel
theorem dX7_common_135 : decode cX7_common 135 = .ok (.ifCond .eq 15, 3) := by decide +kernel
theorem dX7_common_138 : decode cX7_common 138 = .ok (.iload 8, 2) := by decide +kernel
theorem dX7_common_140 : decode cX7_common 140 = .ok (.iload 4, 2) := by decide +kernel
theorem dX7_common_142 : decode cX7_common 142 = .ok (.if_icmp .ge 8, 3) := by decide +kernel
theorem dX7_common_145 : decode cX7_common 145 = .ok (.iload 8, 2) := by decide +kernel
theorem dX7_common_147 : decode cX7_common 147 = .ok (.goto 5, 3) := by decide +kernel
theorem dX7_common_150 : decode cX7_common 150 = .ok (.iload 4, 2) := by decide +kernel
theorem dX7_common_152 : decode cX7_common 152 = .ok (.istore 4, 2) := by decide +kernel
theorem dX7_common_154 : decode cX7_common 154 = .ok (.iinc 7 1, 3) := by decide +kernel
theorem dX7_common_157 : decode cX7_common 157 = .ok (.goto (-105), 3) := by decide +kernel
theorem dX7_common_160 : decode cX7_common 160 = .ok (.iinc 6 1, 3) := by decide +kernel
theorem dX7_common_163 : decode cX7_common 163 = .ok (.goto (-121), 3) := by decide +kernel
theorem dX7_common_166 : decode cX7_common 166 = .ok (.iload_n 3, 1) := by decide +kernel
theorem dX7_common_167 : decode cX7_common 167 = .ok (.ifCond .ne 8, 3) := by decide +kernel
theorem dX7_common_170 : decode cX7_common 170 = .ok (.iload 4, 2) := by decide +kernel
theorem dX7_common_172 : decode cX7_common 172 = .ok (.goto 5, 3) := by decide +kernel
theorem dX7_common_175 : decode cX7_common 175 = .ok (.iload 5, 2) := by decide +kernel
theorem dX7_common_177 : decode cX7_common 177 = .ok (.ireturn, 1) := by decide +kernel
theorem dX7_costOf_0 : decode cX7_costOf 0 = .ok (.bipush 28, 2) := by decide +kernel
theorem dX7_costOf_2 : decode cX7_costOf 2 = .ok (.aload_n 0, 1) := by decide +kernel
theorem dX7_costOf_3 : decode cX7_costOf 3 = .ok (.iload_n 1, 1) := by decide +kernel
theorem dX7_costOf_4 : decode cX7_costOf 4 = .ok (.iload_n 2, 1) := by decide +kernel
theorem dX7_costOf_5 : decode cX7_costOf 5 = .ok (.bipush 28, 2) := by decide +kernel
theorem dX7_costOf_7 : decode cX7_costOf 7 = .ok (.invokevirtual 94, 3) := by decide +kernel
theorem dX7_costOf_10 : decode cX7_costOf 10 = .ok (.isub, 1) := by decide +kernel
theorem dX7_costOf_11 : decode cX7_costOf 11 = .ok (.ireturn, 1) := by decide +kernel
theorem dX7_wedding_0 : decode cX7_wedding 0 = .ok (.aload_n 0, 1) := by decide +kernel
theorem dX7_wedding_1 : decode cX7_wedding 1 = .ok (.iload_n 1, 1) := by decide +kernel
theorem dX7_wedding_2 : decode cX7_wedding 2 = .ok (.invokevirtual 67, 3) := by decide +kernel
theorem dX7_wedding_5 : decode cX7_wedding 5 = .ok (.ifCond .eq 16, 3) := by decide +kernel
theorem dX7_wedding_8 : decode cX7_wedding 8 = .ok (.aload_n 0, 1) := by decide +kernel
theorem dX7_wedding_9 : decode cX7_wedding 9 = .ok (.iload_n 2, 1) := by decide +kernel
theorem dX7_wedding_10 : decode cX7_wedding 10 = .ok (.invokevirtual 67, 3) := by decide +kernel
theorem dX7_wedding_13 : decode cX7_wedding 13 = .ok (.ifCond .eq 8, 3) := by decide +kernel
theorem dX7_wedding_16 : decode cX7_wedding 16 = .ok (.iload_n 1, 1) := by decide +kernel
theorem dX7_wedding_17 : decode cX7_wedding 17 = .ok (.iload_n 2, 1) := by decide +kernel
theorem dX7_wedding_18 : decode cX7_wedding 18 = .ok (.if_icmp .ne 5, 3) := by decide +kernel
theorem dX7_wedding_21 : decode cX7_wedding 21 = .ok (.iconst (-1), 1) := by decide +kernel
theorem dX7_wedding_22 : decode cX7_wedding 22 = .ok (.ireturn, 1) := by decide +kernel
theorem dX7_wedding_23 : decode cX7_wedding 23 = .ok (.iload_n 3, 1) := by decide +kernel
theorem dX7_wedding_24 : decode cX7_wedding 24 = .ok (.iconst 0, 1) := by decide +kernel
theorem dX7_wedding_25 : decode cX7_wedding 25 = .ok (.iconst 1, 1) := by decide +kernel
theorem dX7_wedding_26 : decode cX7_wedding 26 = .ok (.invokestatic 45, 3) := by decide +kernel
theorem dX7_wedding_29 : decode cX7_wedding 29 = .ok (.ifCond .ne 6, 3) := by decide +kernel
theorem dX7_wedding_32 : decode cX7_wedding 32 = .ok (.bipush (-2), 2) := by decide +kernel
theorem dX7_wedding_34 : decode cX7_wedding 34 = .ok (.ireturn, 1) := by decide +kernel
theorem dX7_wedding_35 : decode cX7_wedding 35 = .ok (.aload_n 0, 1) := by decide +kernel
theorem dX7_wedding_36 : decode cX7_wedding 36 = .ok (.iload_n 1, 1) := by decide +kernel
theorem dX7_wedding_37 : decode cX7_wedding 37 = .ok (.iload_n 2, 1) := by decide +kernel
theorem dX7_wedding_38 : decode cX7_wedding 38 = .ok (.bipush 28, 2) := by decide +kernel
theorem dX7_wedding_40 : decode cX7_wedding 40 = .ok (.invokevirtual 94, 3) := by decide +kernel
theorem dX7_wedding_43 : decode cX7_wedding 43 = .ok (.iconst 4, 1) := by decide +kernel
theorem dX7_wedding_44 : decode cX7_wedding 44 = .ok (.if_icmp .lt 7, 3) := by decide +kernel
theorem dX7_wedding_47 : decode cX7_wedding 47 = .ok (.iconst 0, 1) := by decide +kernel
theorem dX7_wedding_48 : decode cX7_wedding 48 = .ok (.goto 5, 3) := by decide +kernel
theorem dX7_wedding_51 : decode cX7_wedding 51 = .ok (.ldc 115, 2) := by decide +kernel
theorem dX7_wedding_53 : decode cX7_wedding 53 = .ok (.istore 4, 2) := by decide +kernel
theorem dX7_wedding_55 : decode cX7_wedding 55 = .ok (.iload 4, 2) := by decide +kernel
theorem dX7_wedding_57 : decode cX7_wedding 57 = .ok (.ifCond .ne 7, 3) := by decide +kernel
theorem dX7_wedding_60 : decode cX7_wedding 60 = .ok (.iconst 0, 1) := by decide +kernel
theorem dX7_wedding_61 : decode cX7_wedding 61 = .ok (.goto 5, 3) := by decide +kernel
theorem dX7_wedding_64 : decode cX7_wedding 64 = .ok (.bipush (-6), 2) := by decide +kernel
theorem dX7_wedding_66 : decode cX7_wedding 66 = .ok (.istore 5, 2) := by decide +kernel
theorem dX7_wedding_68 : decode cX7_wedding 68 = .ok (.aload_n 0, 1) := by decide +kernel
theorem dX7_wedding_69 : decode cX7_wedding 69 = .ok (.iload_n 1, 1) := by decide +kernel
theorem dX7_wedding_70 : decode cX7_wedding 70 = .ok (.iload_n 2, 1) := by decide +kernel
theorem dX7_wedding_71 : decode cX7_wedding 71 = .ok (.invokevirtual 116, 3) := by decide +kernel
theorem dX7_wedding_74 : decode cX7_wedding 74 = .ok (.istore 6, 2) := by decide +kernel
theorem dX7_wedding_76 : decode cX7_wedding 76 = .ok (.iload 6, 2) := by decide +kernel
theorem dX7_wedding_78 : decode cX7_wedding 78 = .ok (.iload 4, 2) := by decide +kernel
theorem dX7_wedding_80 : decode cX7_wedding 80 = .ok (.if_icmp .ge 7, 3) := by decide +kernel
theorem dX7_wedding_83 : decode cX7_wedding 83 = .ok (.iconst 1, 1) := by decide +kernel
theorem dX7_wedding_84 : decode cX7_wedding 84 = .ok (.goto 5, 3) := by decide +kernel
theorem dX7_wedding_87 : decode cX7_wedding 87 = .ok (.iload 5, 2) := by decide +kernel
theorem dX7_wedding_89 : decode cX7_wedding 89 = .ok (.istore 5, 2) := by decide +kernel
theorem dX7_wedding_91 : decode cX7_wedding 91 = .ok (.iload 6, 2) := by decide +kernel
theorem dX7_wedding_93 : decode cX7_wedding 93 = .ok (.iload 4, 2) := by decide +kernel
theorem dX7_wedding_95 : decode cX7_wedding 95 = .ok (.if_icmp .ge 8, 3) := by decide +kernel
theorem dX7_wedding_98 : decode cX7_wedding 98 = .ok (.iload 6, 2) := by decide +kernel
theorem dX7_wedding_100 : decode cX7_wedding 100 = .ok (.goto 5, 3) := by decide +kernel
theorem dX7_wedding_103 : decode cX7_wedding 103 = .ok (.iload 4, 2) := by decide +kernel
theorem dX7_wedding_105 : decode cX7_wedding 105 = .ok (.istore 4, 2) := by decide +kernel
theorem dX7_wedding_107 : decode cX7_wedding 107 = .ok (.aload_n 0, 1) := by decide +kernel
theorem dX7_wedding_108 : decode cX7_wedding 108 = .ok (.iload_n 2, 1) := by decide +kernel
theorem dX7_wedding_109 : decode cX7_wedding 109 = .ok (.iload_n 1, 1) := by decide +kernel
theorem dX7_wedding_110 : decode cX7_wedding 110 = .ok (.invokevirtual 116, 3) := by decide +kernel
theorem dX7_wedding_113 : decode cX7_wedding 113 = .ok (.istore 7, 2) := by decide +kernel
theorem dX7_wedding_115 : decode cX7_wedding 115 = .ok (.iload 7, 2) := by decide +kernel
theorem dX7_wedding_117 : decode cX7_wedding 117 = .ok (.iload 4, 2) := by decide +kernel
theorem dX7_wedding_119 : decode cX7_wedding 119 = .ok (.if_icmp .ge 7, 3) := by decide +kernel
theorem dX7_wedding_122 : decode cX7_wedding 122 = .ok (.iconst 2, 1) := by decide +kernel
theorem dX7_wedding_123 : decode cX7_wedding 123 = .ok (.goto 5, 3) := by decide +kernel
theorem dX7_wedding_126 : decode cX7_wedding 126 = .ok (.iload 5, 2) := by decide +kernel
theorem dX7_wedding_128 : decode cX7_wedding 128 = .ok (.istore 5, 2) := by decide +kernel
theorem dX7_wedding_130 : decode cX7_wedding 130 = .ok (.iload 7, 2) := by decide +kernel
theorem dX7_wedding_132 : decode cX7_wedding 132 = .ok (.iload 4, 2) := by decide +kernel
theorem dX7_wedding_134 : decode cX7_wedding 134 = .ok (.if_icmp .ge 8, 3) := by decide +kernel
theorem dX7_wedding_137 : decode cX7_wedding 137 = .ok (.iload 7, 2) := by decide +kernel
theorem dX7_wedding_139 : decode cX7_wedding 139 = .ok (.goto 5, 3) := by decide +kernel
theorem dX7_wedding_142 : decode cX7_wedding 142 = .ok (.iload 4, 2) := by decide +kernel
theorem dX7_wedding_144 : decode cX7_wedding 144 = .ok (.istore 4, 2) := by decide +kernel
theorem dX7_wedding_146 : decode cX7_wedding 146 = .ok (.iconst 0, 1) := by decide +kernel
theorem dX7_wedding_147 : decode cX7_wedding 147 = .ok (.istore 8, 2) := by decide +kernel
theorem dX7_wedding_149 : decode cX7_wedding 149 = .ok (.iload 8, 2) := by decide +kernel
theorem dX7_wedding_151 : decode cX7_wedding 151 = .ok (.bipush 6, 2) := by decide +kernel
theorem dX7_wedding_153 : decode cX7_wedding 153 = .ok (.if_icmp .ge 85, 3) := by decide +kernel
theorem dX7_wedding_156 : decode cX7_wedding 156 = .ok (.aload_n 0, 1) := by decide +kernel
theorem dX7_wedding_157 : decode cX7_wedding 157 = .ok (.getfield 41, 3) := by decide +kernel
theorem dX7_wedding_160 : decode cX7_wedding 160 = .ok (.iload 8, 2) := by decide +kernel
theorem dX7_wedding_162 : decode cX7_wedding 162 = .ok (.invokestatic 49, 3) := by decide +kernel
theorem dX7_wedding_165 : decode cX7_wedding 165 = .ok (.ifCond .eq 67, 3) := by decide +kernel
theorem dX7_wedding_168 : decode cX7_wedding 168 = .ok (.iload 8, 2) := by decide +kernel
theorem dX7_wedding_170 : decode cX7_wedding 170 = .ok (.iload_n 1, 1) := by decide +kernel
theorem dX7_wedding_171 : decode cX7_wedding 171 = .ok (.if_icmp .eq 61, 3) := by decide +kernel
theorem dX7_wedding_174 : decode cX7_wedding 174 = .ok (.iload 8, 2) := by decide +kernel
theorem dX7_wedding_176 : decode cX7_wedding 176 = .ok (.iload_n 2, 1) := by decide +kernel
theorem dX7_wedding_177 : decode cX7_wedding 177 = .ok (.if_icmp .eq 55, 3) := by decide +kernel
theorem dX7_wedding_180 : decode cX7_wedding 180 = .ok (.aload_n 0, 1) := by decide +kernel
theorem dX7_wedding_181 : decode cX7_wedding 181 = .ok (.iload_n 1, 1) := by decide +kernel
theorem dX7_wedding_182 : decode cX7_wedding 182 = .ok (.iload 8, 2) := by decide +kernel
theorem dX7_wedding_184 : decode cX7_wedding 184 = .ok (.invokevirtual 116, 3) := by decide +kernel
theorem dX7_wedding_187 : decode cX7_wedding 187 = .ok (.aload_n 0, 1) := by decide +kernel
theorem dX7_wedding_188 : decode cX7_wedding 188 = .ok (.iload_n 2, 1) := by decide +kernel
theorem dX7_wedding_189 : decode cX7_wedding 189 = .ok (.iload 8, 2) := by decide +kernel
theorem dX7_wedding_191 : decode cX7_wedding 191 = .ok (.invokevirtual 116, 3) := by decide +kernel
theorem dX7_wedding_194 : decode cX7_wedding 194 = .ok (.iadd, 1) := by decide +kernel
theorem dX7_wedding_195 : decode cX7_wedding 195 = .ok (.istore 9, 2) := by decide +kernel
theorem dX7_wedding_197 : decode cX7_wedding 197 = .ok (.iload 9, 2) := by decide +kernel
theorem dX7_wedding_199 : decode cX7_wedding 199 = .ok (.iload 4, 2) := by decide +kernel
theorem dX7_wedding_201 : decode cX7_wedding 201 = .ok (.if_icmp .ge 11, 3) := by decide +kernel
theorem dX7_wedding_204 : decode cX7_wedding 204 = .ok (.bipush 10, 2) := by decide +kernel
theorem dX7_wedding_206 : decode cX7_wedding 206 = .ok (.iload 8, 2) := by decide +kernel
theorem dX7_wedding_208 : decode cX7_wedding 208 = .ok (.iadd, 1) := by decide +kernel
theorem dX7_wedding_209 : decode cX7_wedding 209 = .ok (.goto 5, 3) := by decide +kernel
theorem dX7_wedding_212 : decode cX7_wedding 212 = .ok (.iload 5, 2) := by decide +kernel
theorem dX7_wedding_214 : decode cX7_wedding 214 = .ok (.istore 5, 2) := by decide +kernel
theorem dX7_wedding_216 : decode cX7_wedding 216 = .ok (.iload 9, 2) := by decide +kernel
theorem dX7_wedding_218 : decode cX7_wedding 218 = .ok (.iload 4, 2) := by decide +kernel
theorem dX7_wedding_220 : decode cX7_wedding 220 = .ok (.if_icmp .ge 8, 3) := by decide +kernel
theorem dX7_wedding_223 : decode cX7_wedding 223 = .ok (.iload 9, 2) := by decide +kernel
theorem dX7_wedding_225 : decode cX7_wedding 225 = .ok (.goto 5, 3) := by decide +kernel
theorem dX7_wedding_228 : decode cX7_wedding 228 = .ok (.iload 4, 2) := by decide +kernel
theorem dX7_wedding_230 : decode cX7_wedding 230 = .ok (.istore 4, 2) := by decide +kernel
theorem dX7_wedding_232 : decode cX7_wedding 232 = .ok (.iinc 8 1, 3) := by decide +kernel
theorem dX7_wedding_235 : decode cX7_wedding 235 = .ok (.goto (-86), 3) := by decide +kernel
theorem dX7_wedding_238 : decode cX7_wedding 238 = .ok (.iload_n 3, 1) := by decide +kernel
theorem dX7_wedding_239 : decode cX7_wedding 239 = .ok (.ifCond .ne 8, 3) := by decide +kernel
theorem dX7_wedding_242 : decode cX7_wedding 242 = .ok (.iload 4, 2) := by decide +kernel
theorem dX7_wedding_244 : decode cX7_wedding 244 = .ok (.goto 5, 3) := by decide +kernel
theorem dX7_wedding_247 : decode cX7_wedding 247 = .ok (.iload 5, 2) := by decide +kernel
theorem dX7_wedding_249 : decode cX7_wedding 249 = .ok (.ireturn, 1) := by decide +kernel
theorem dX7_turned_0 : decode cX7_turned 0 = .ok (.iload_n 1, 1) := by decide +kernel
theorem dX7_turned_1 : decode cX7_turned 1 = .ok (.bipush 7, 2) := by decide +kernel
theorem dX7_turned_3 : decode cX7_turned 3 = .ok (.irem, 1) := by decide +kernel
theorem dX7_turned_4 : decode cX7_turned 4 = .ok (.bipush 7, 2) := by decide +kernel
theorem dX7_turned_6 : decode cX7_turned 6 = .ok (.iadd, 1) := by decide +kernel
theorem dX7_turned_7 : decode cX7_turned 7 = .ok (.bipush 7, 2) := by decide +kernel
theorem dX7_turned_9 : decode cX7_turned 9 = .ok (.irem, 1) := by decide +kernel
theorem dX7_turned_10 : decode cX7_turned 10 = .ok (.istore_n 2, 1) := by decide +kernel
theorem dX7_turned_11 : decode cX7_turned 11 = .ok (.iload_n 0, 1) := by decide +kernel
theorem dX7_turned_12 : decode cX7_turned 12 = .ok (.bipush 7, 2) := by decide +kernel
theorem dX7_turned_14 : decode cX7_turned 14 = .ok (.irem, 1) := by decide +kernel
theorem dX7_turned_15 : decode cX7_turned 15 = .ok (.istore_n 3, 1) := by decide +kernel
theorem dX7_turned_16 : decode cX7_turned 16 = .ok (.iload_n 0, 1) := by decide +kernel
theorem dX7_turned_17 : decode cX7_turned 17 = .ok (.bipush 7, 2) := by decide +kernel
theorem dX7_turned_19 : decode cX7_turned 19 = .ok (.if_icmp .ge 12, 3) := by decide +kernel
theorem dX7_turned_22 : decode cX7_turned 22 = .ok (.iload_n 3, 1) := by decide +kernel
theorem dX7_turned_23 : decode cX7_turned 23 = .ok (.iload_n 2, 1) := by decide +kernel
theorem dX7_turned_24 : decode cX7_turned 24 = .ok (.iadd, 1) := by decide +kernel
theorem dX7_turned_25 : decode cX7_turned 25 = .ok (.bipush 7, 2) := by decide +kernel
theorem dX7_turned_27 : decode cX7_turned 27 = .ok (.irem, 1) := by decide +kernel
theorem dX7_turned_28 : decode cX7_turned 28 = .ok (.goto 12, 3) := by decide +kernel
theorem dX7_turned_31 : decode cX7_turned 31 = .ok (.iload_n 3, 1) := by decide +kernel
theorem dX7_turned_32 : decode cX7_turned 32 = .ok (.bipush 7, 2) := by decide +kernel
theorem dX7_turned_34 : decode cX7_turned 34 = .ok (.iadd, 1) := by decide +kernel
theorem dX7_turned_35 : decode cX7_turned 35 = .ok (.iload_n 2, 1) := by decide +kernel
theorem dX7_turned_36 : decode cX7_turned 36 = .ok (.isub, 1) := by decide +kernel
theorem dX7_turned_37 : decode cX7_turned 37 = .ok (.bipush 7, 2) := by decide +kernel
theorem dX7_turned_39 : decode cX7_turned 39 = .ok (.irem, 1) := by decide +kernel
theorem dX7_turned_40 : decode cX7_turned 40 = .ok (.ireturn, 1) := by decide +kernel
theorem dX7_best_0 : decode cX7_best 0 = .ok (.iload_n 1, 1) := by decide +kernel
theorem dX7_best_1 : decode cX7_best 1 = .ok (.iconst 0, 1) := by decide +kernel
theorem dX7_best_2 : decode cX7_best 2 = .ok (.bipush 99, 2) := by decide +kernel
theorem dX7_best_4 : decode cX7_best 4 = .ok (.invokestatic 45, 3) := by decide +kernel
theorem dX7_best_7 : decode cX7_best 7 = .ok (.ifCond .eq 12, 3) := by decide +kernel
theorem dX7_best_10 : decode cX7_best 10 = .ok (.iload_n 2, 1) := by decide +kernel
theorem dX7_best_11 : decode cX7_best 11 = .ok (.iconst 0, 1) := by decide +kernel
theorem dX7_best_12 : decode cX7_best 12 = .ok (.iconst 1, 1) := by decide +kernel
theorem dX7_best_13 : decode cX7_best 13 = .ok (.invokestatic 45, 3) := by decide +kernel
theorem dX7_best_16 : decode cX7_best 16 = .ok (.ifCond .ne 6, 3) := by decide +kernel
theorem dX7_best_19 : decode cX7_best 19 = .ok (.bipush (-2), 2) := by decide +kernel
theorem dX7_best_21 : decode cX7_best 21 = .ok (.ireturn, 1) := by decide +kernel
theorem dX7_best_22 : decode cX7_best 22 = .ok (.iconst (-1), 1) := by decide +kernel
theorem dX7_best_23 : decode cX7_best 23 = .ok (.istore_n 3, 1) := by decide +kernel
theorem dX7_best_24 : decode cX7_best 24 = .ok (.bipush (-6), 2) := by decide +kernel
theorem dX7_best_26 : decode cX7_best 26 = .ok (.istore 4, 2) := by decide +kernel
theorem dX7_best_28 : decode cX7_best 28 = .ok (.iconst 0, 1) := by decide +kernel
theorem dX7_best_29 : decode cX7_best 29 = .ok (.istore 5, 2) := by decide +kernel
theorem dX7_best_31 : decode cX7_best 31 = .ok (.iload 5, 2) := by decide +kernel
theorem dX7_best_33 : decode cX7_best 33 = .ok (.bipush 14, 2) := by decide +kernel
theorem dX7_best_35 : decode cX7_best 35 = .ok (.if_icmp .ge 158, 3) := by decide +kernel
theorem dX7_best_38 : decode cX7_best 38 = .ok (.bipush 14, 2) := by decide +kernel
theorem dX7_best_40 : decode cX7_best 40 = .ok (.istore 6, 2) := by decide +kernel
theorem dX7_best_42 : decode cX7_best 42 = .ok (.iconst 0, 1) := by decide +kernel
theorem dX7_best_43 : decode cX7_best 43 = .ok (.istore 7, 2) := by decide +kernel
theorem dX7_best_45 : decode cX7_best 45 = .ok (.iload 7, 2) := by decide +kernel
theorem dX7_best_47 : decode cX7_best 47 = .ok (.bipush 6, 2) := by decide +kernel
theorem dX7_best_49 : decode cX7_best 49 = .ok (.if_icmp .ge 98, 3) := by decide +kernel
theorem dX7_best_52 : decode cX7_best 52 = .ok (.iconst 0, 1) := by decide +kernel
theorem dX7_best_53 : decode cX7_best 53 = .ok (.istore 8, 2) := by decide +kernel
theorem dX7_best_55 : decode cX7_best 55 = .ok (.iconst 0, 1) := by decide +kernel
theorem dX7_best_56 : decode cX7_best 56 = .ok (.istore 9, 2) := by decide +kernel
theorem dX7_best_58 : decode cX7_best 58 = .ok (.iload 9, 2) := by decide +kernel
theorem dX7_best_60 : decode cX7_best 60 = .ok (.bipush 14, 2) := by decide +kernel
theorem dX7_best_62 : decode cX7_best 62 = .ok (.if_icmp .ge 51, 3) := by decide +kernel
theorem dX7_best_65 : decode cX7_best 65 = .ok (.aload_n 0, 1) := by decide +kernel
theorem dX7_best_66 : decode cX7_best 66 = .ok (.getfield 41, 3) := by decide +kernel
theorem dX7_best_69 : decode cX7_best 69 = .ok (.iload 7, 2) := by decide +kernel
theorem dX7_best_71 : decode cX7_best 71 = .ok (.invokestatic 49, 3) := by decide +kernel
theorem dX7_best_74 : decode cX7_best 74 = .ok (.ifCond .eq 39, 3) := by decide +kernel
theorem dX7_best_77 : decode cX7_best 77 = .ok (.iload 8, 2) := by decide +kernel
theorem dX7_best_79 : decode cX7_best 79 = .ok (.aload_n 0, 1) := by decide +kernel
theorem dX7_best_80 : decode cX7_best 80 = .ok (.iload 7, 2) := by decide +kernel
theorem dX7_best_82 : decode cX7_best 82 = .ok (.iload_n 1, 1) := by decide +kernel
theorem dX7_best_83 : decode cX7_best 83 = .ok (.iload 9, 2) := by decide +kernel
theorem dX7_best_85 : decode cX7_best 85 = .ok (.iadd, 1) := by decide +kernel
theorem dX7_best_86 : decode cX7_best 86 = .ok (.invokevirtual 80, 3) := by decide +kernel
theorem dX7_best_89 : decode cX7_best 89 = .ok (.iload 5, 2) := by decide +kernel
theorem dX7_best_91 : decode cX7_best 91 = .ok (.iload 9, 2) := by decide +kernel
theorem dX7_best_93 : decode cX7_best 93 = .ok (.invokestatic 119, 3) := by decide +kernel
theorem dX7_best_96 : decode cX7_best 96 = .ok (.if_icmp .ne 7, 3) := by decide +kernel
theorem dX7_best_99 : decode cX7_best 99 = .ok (.iconst 1, 1) := by decide +kernel
theorem dX7_best_100 : decode cX7_best 100 = .ok (.goto 4, 3) := by decide +kernel
theorem dX7_best_103 : decode cX7_best 103 = .ok (.iconst 0, 1) := by decide +kernel
theorem dX7_best_104 : decode cX7_best 104 = .ok (.iadd, 1) := by decide +kernel
theorem dX7_best_105 : decode cX7_best 105 = .ok (.istore 8, 2) := by decide +kernel
theorem dX7_best_107 : decode cX7_best 107 = .ok (.iinc 9 1, 3) := by decide +kernel
theorem dX7_best_110 : decode cX7_best 110 = .ok (.goto (-52), 3) := by decide +kernel
theorem dX7_best_113 : decode cX7_best 113 = .ok (.aload_n 0, 1) := by decide +kernel
theorem dX7_best_114 : decode cX7_best 114 = .ok (.getfield 41, 3) := by decide +kernel
theorem dX7_best_117 : decode cX7_best 117 = .ok (.iload 7, 2) := by decide +kernel
theorem dX7_best_119 : decode cX7_best 119 = .ok (.invokestatic 49, 3) := by decide +kernel
theorem dX7_best_122 : decode cX7_best 122 = .ok (.ifCond .eq 15, 3) := by decide +kernel
theorem dX7_best_125 : decode cX7_best 125 = .ok (.iload 8, 2) := by decide +kernel
theorem dX7_best_127 : decode cX7_best 127 = .ok (.iload 6, 2) := by decide +kernel
theorem dX7_best_129 : decode cX7_best 129 = .ok (.if_icmp .ge 8, 3) := by decide +kernel
theorem dX7_best_132 : decode cX7_best 132 = .ok (.iload 8, 2) := by decide +kernel
theorem dX7_best_134 : decode cX7_best 134 = .ok (.goto 5, 3) := by decide +kernel
theorem dX7_best_137 : decode cX7_best 137 = .ok (.iload 6, 2) := by decide +kernel
theorem dX7_best_139 : decode cX7_best 139 = .ok (.istore 6, 2) := by decide +kernel
theorem dX7_best_141 : decode cX7_best 141 = .ok (.iinc 7 1, 3) := by decide +kernel
theorem dX7_best_144 : decode cX7_best 144 = .ok (.goto (-99), 3) := by decide +kernel
theorem dX7_best_147 : decode cX7_best 147 = .ok (.iload 6, 2) := by decide +kernel
theorem dX7_best_149 : decode cX7_best 149 = .ok (.iload_n 3, 1) := by decide +kernel
theorem dX7_best_150 : decode cX7_best 150 = .ok (.if_icmp .le 20, 3) := by decide +kernel
theorem dX7_best_153 : decode cX7_best 153 = .ok (.bipush 10, 2) := by decide +kernel
theorem dX7_best_155 : decode cX7_best 155 = .ok (.iload 5, 2) := by decide +kernel
