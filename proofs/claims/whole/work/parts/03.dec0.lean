theorem dX0_init_0 : decode cX0_init 0 = .ok (.aload_n 0, 1) := by decide +kernel
theorem dX0_init_1 : decode cX0_init 1 = .ok (.invokespecial 3, 3) := by decide +kernel
theorem dX0_init_4 : decode cX0_init 4 = .ok (.aload_n 0, 1) := by decide +kernel
theorem dX0_init_5 : decode cX0_init 5 = .ok (.bipush 6, 2) := by decide +kernel
theorem dX0_init_7 : decode cX0_init 7 = .ok (.newarray .int, 2) := by decide +kernel
theorem dX0_init_9 : decode cX0_init 9 = .ok (.putfield 9, 3) := by decide +kernel
theorem dX0_init_12 : decode cX0_init 12 = .ok (.aload_n 0, 1) := by decide +kernel
theorem dX0_init_13 : decode cX0_init 13 = .ok (.bipush 6, 2) := by decide +kernel
theorem dX0_init_15 : decode cX0_init 15 = .ok (.newarray .int, 2) := by decide +kernel
theorem dX0_init_17 : decode cX0_init 17 = .ok (.putfield 15, 3) := by decide +kernel
theorem dX0_init_20 : decode cX0_init 20 = .ok (.aload_n 0, 1) := by decide +kernel
theorem dX0_init_21 : decode cX0_init 21 = .ok (.bipush 48, 2) := by decide +kernel
theorem dX0_init_23 : decode cX0_init 23 = .ok (.newarray .int, 2) := by decide +kernel
theorem dX0_init_25 : decode cX0_init 25 = .ok (.putfield 18, 3) := by decide +kernel
theorem dX0_init_28 : decode cX0_init 28 = .ok (.aload_n 0, 1) := by decide +kernel
theorem dX0_init_29 : decode cX0_init 29 = .ok (.bipush 8, 2) := by decide +kernel
theorem dX0_init_31 : decode cX0_init 31 = .ok (.newarray .int, 2) := by decide +kernel
theorem dX0_init_33 : decode cX0_init 33 = .ok (.putfield 21, 3) := by decide +kernel
theorem dX0_init_36 : decode cX0_init 36 = .ok (.return_, 1) := by decide +kernel
theorem dX0_become_0 : decode cX0_become 0 = .ok (.aload_n 1, 1) := by decide +kernel
theorem dX0_become_1 : decode cX0_become 1 = .ok (.ifnonnull 4, 3) := by decide +kernel
theorem dX0_become_4 : decode cX0_become 4 = .ok (.return_, 1) := by decide +kernel
theorem dX0_become_5 : decode cX0_become 5 = .ok (.aload_n 0, 1) := by decide +kernel
theorem dX0_become_6 : decode cX0_become 6 = .ok (.aload_n 1, 1) := by decide +kernel
theorem dX0_become_7 : decode cX0_become 7 = .ok (.getfield 24, 3) := by decide +kernel
theorem dX0_become_10 : decode cX0_become 10 = .ok (.putfield 24, 3) := by decide +kernel
theorem dX0_become_13 : decode cX0_become 13 = .ok (.aload_n 1, 1) := by decide +kernel
theorem dX0_become_14 : decode cX0_become 14 = .ok (.getfield 9, 3) := by decide +kernel
theorem dX0_become_17 : decode cX0_become 17 = .ok (.iconst 0, 1) := by decide +kernel
theorem dX0_become_18 : decode cX0_become 18 = .ok (.aload_n 0, 1) := by decide +kernel
theorem dX0_become_19 : decode cX0_become 19 = .ok (.getfield 9, 3) := by decide +kernel
theorem dX0_become_22 : decode cX0_become 22 = .ok (.iconst 0, 1) := by decide +kernel
theorem dX0_become_23 : decode cX0_become 23 = .ok (.bipush 6, 2) := by decide +kernel
theorem dX0_become_25 : decode cX0_become 25 = .ok (.invokestatic 28, 3) := by decide +kernel
theorem dX0_become_28 : decode cX0_become 28 = .ok (.aload_n 1, 1) := by decide +kernel
theorem dX0_become_29 : decode cX0_become 29 = .ok (.getfield 15, 3) := by decide +kernel
theorem dX0_become_32 : decode cX0_become 32 = .ok (.iconst 0, 1) := by decide +kernel
theorem dX0_become_33 : decode cX0_become 33 = .ok (.aload_n 0, 1) := by decide +kernel
theorem dX0_become_34 : decode cX0_become 34 = .ok (.getfield 15, 3) := by decide +kernel
theorem dX0_become_37 : decode cX0_become 37 = .ok (.iconst 0, 1) := by decide +kernel
theorem dX0_become_38 : decode cX0_become 38 = .ok (.bipush 6, 2) := by decide +kernel
theorem dX0_become_40 : decode cX0_become 40 = .ok (.invokestatic 28, 3) := by decide +kernel
theorem dX0_become_43 : decode cX0_become 43 = .ok (.aload_n 1, 1) := by decide +kernel
theorem dX0_become_44 : decode cX0_become 44 = .ok (.getfield 18, 3) := by decide +kernel
theorem dX0_become_47 : decode cX0_become 47 = .ok (.iconst 0, 1) := by decide +kernel
theorem dX0_become_48 : decode cX0_become 48 = .ok (.aload_n 0, 1) := by decide +kernel
theorem dX0_become_49 : decode cX0_become 49 = .ok (.getfield 18, 3) := by decide +kernel
theorem dX0_become_52 : decode cX0_become 52 = .ok (.iconst 0, 1) := by decide +kernel
theorem dX0_become_53 : decode cX0_become 53 = .ok (.bipush 48, 2) := by decide +kernel
theorem dX0_become_55 : decode cX0_become 55 = .ok (.invokestatic 28, 3) := by decide +kernel
theorem dX0_become_58 : decode cX0_become 58 = .ok (.return_, 1) := by decide +kernel
theorem dX0_settle_0 : decode cX0_settle 0 = .ok (.iload_n 1, 1) := by decide +kernel
theorem dX0_settle_1 : decode cX0_settle 1 = .ok (.bipush 6, 2) := by decide +kernel
theorem dX0_settle_3 : decode cX0_settle 3 = .ok (.invokestatic 34, 3) := by decide +kernel
theorem dX0_settle_6 : decode cX0_settle 6 = .ok (.ifCond .eq 16, 3) := by decide +kernel
theorem dX0_settle_9 : decode cX0_settle 9 = .ok (.aload_n 3, 1) := by decide +kernel
theorem dX0_settle_10 : decode cX0_settle 10 = .ok (.ifnull 12, 3) := by decide +kernel
theorem dX0_settle_13 : decode cX0_settle 13 = .ok (.aload_n 3, 1) := by decide +kernel
theorem dX0_settle_14 : decode cX0_settle 14 = .ok (.getfield 38, 3) := by decide +kernel
theorem dX0_settle_17 : decode cX0_settle 17 = .ok (.bipush 8, 2) := by decide +kernel
theorem dX0_settle_19 : decode cX0_settle 19 = .ok (.if_icmp .le 4, 3) := by decide +kernel
theorem dX0_settle_22 : decode cX0_settle 22 = .ok (.return_, 1) := by decide +kernel
theorem dX0_settle_23 : decode cX0_settle 23 = .ok (.aload_n 0, 1) := by decide +kernel
theorem dX0_settle_24 : decode cX0_settle 24 = .ok (.dup, 1) := by decide +kernel
theorem dX0_settle_25 : decode cX0_settle 25 = .ok (.getfield 24, 3) := by decide +kernel
theorem dX0_settle_28 : decode cX0_settle 28 = .ok (.iconst 1, 1) := by decide +kernel
theorem dX0_settle_29 : decode cX0_settle 29 = .ok (.iload_n 1, 1) := by decide +kernel
theorem dX0_settle_30 : decode cX0_settle 30 = .ok (.ishl, 1) := by decide +kernel
theorem dX0_settle_31 : decode cX0_settle 31 = .ok (.ior, 1) := by decide +kernel
theorem dX0_settle_32 : decode cX0_settle 32 = .ok (.putfield 24, 3) := by decide +kernel
theorem dX0_settle_35 : decode cX0_settle 35 = .ok (.aload_n 0, 1) := by decide +kernel
theorem dX0_settle_36 : decode cX0_settle 36 = .ok (.getfield 9, 3) := by decide +kernel
theorem dX0_settle_39 : decode cX0_settle 39 = .ok (.iload_n 1, 1) := by decide +kernel
theorem dX0_settle_40 : decode cX0_settle 40 = .ok (.iload_n 2, 1) := by decide +kernel
theorem dX0_settle_41 : decode cX0_settle 41 = .ok (.iastore, 1) := by decide +kernel
theorem dX0_settle_42 : decode cX0_settle 42 = .ok (.aload_n 0, 1) := by decide +kernel
theorem dX0_settle_43 : decode cX0_settle 43 = .ok (.getfield 15, 3) := by decide +kernel
theorem dX0_settle_46 : decode cX0_settle 46 = .ok (.iload_n 1, 1) := by decide +kernel
theorem dX0_settle_47 : decode cX0_settle 47 = .ok (.aload_n 3, 1) := by decide +kernel
theorem dX0_settle_48 : decode cX0_settle 48 = .ok (.getfield 38, 3) := by decide +kernel
theorem dX0_settle_51 : decode cX0_settle 51 = .ok (.iastore, 1) := by decide +kernel
theorem dX0_settle_52 : decode cX0_settle 52 = .ok (.iconst 0, 1) := by decide +kernel
theorem dX0_settle_53 : decode cX0_settle 53 = .ok (.istore 4, 2) := by decide +kernel
theorem dX0_settle_55 : decode cX0_settle 55 = .ok (.iload 4, 2) := by decide +kernel
theorem dX0_settle_57 : decode cX0_settle 57 = .ok (.aload_n 3, 1) := by decide +kernel
theorem dX0_settle_58 : decode cX0_settle 58 = .ok (.getfield 38, 3) := by decide +kernel
theorem dX0_settle_61 : decode cX0_settle 61 = .ok (.if_icmp .ge 30, 3) := by decide +kernel
theorem dX0_settle_64 : decode cX0_settle 64 = .ok (.aload_n 0, 1) := by decide +kernel
theorem dX0_settle_65 : decode cX0_settle 65 = .ok (.getfield 18, 3) := by decide +kernel
theorem dX0_settle_68 : decode cX0_settle 68 = .ok (.iload_n 1, 1) := by decide +kernel
theorem dX0_settle_69 : decode cX0_settle 69 = .ok (.bipush 8, 2) := by decide +kernel
theorem dX0_settle_71 : decode cX0_settle 71 = .ok (.imul, 1) := by decide +kernel
theorem dX0_settle_72 : decode cX0_settle 72 = .ok (.iload 4, 2) := by decide +kernel
theorem dX0_settle_74 : decode cX0_settle 74 = .ok (.iadd, 1) := by decide +kernel
theorem dX0_settle_75 : decode cX0_settle 75 = .ok (.aload_n 3, 1) := by decide +kernel
theorem dX0_settle_76 : decode cX0_settle 76 = .ok (.iload 4, 2) := by decide +kernel
theorem dX0_settle_78 : decode cX0_settle 78 = .ok (.invokevirtual 43, 3) := by decide +kernel
theorem dX0_settle_81 : decode cX0_settle 81 = .ok (.bipush 97, 2) := by decide +kernel
theorem dX0_settle_83 : decode cX0_settle 83 = .ok (.isub, 1) := by decide +kernel
theorem dX0_settle_84 : decode cX0_settle 84 = .ok (.iastore, 1) := by decide +kernel
theorem dX0_settle_85 : decode cX0_settle 85 = .ok (.iinc 4 1, 3) := by decide +kernel
theorem dX0_settle_88 : decode cX0_settle 88 = .ok (.goto (-33), 3) := by decide +kernel
theorem dX0_settle_91 : decode cX0_settle 91 = .ok (.return_, 1) := by decide +kernel
theorem dX0_isThere_0 : decode cX0_isThere 0 = .ok (.iload_n 1, 1) := by decide +kernel
theorem dX0_isThere_1 : decode cX0_isThere 1 = .ok (.bipush 6, 2) := by decide +kernel
theorem dX0_isThere_3 : decode cX0_isThere 3 = .ok (.invokestatic 34, 3) := by decide +kernel
theorem dX0_isThere_6 : decode cX0_isThere 6 = .ok (.ifCond .eq 19, 3) := by decide +kernel
theorem dX0_isThere_9 : decode cX0_isThere 9 = .ok (.aload_n 0, 1) := by decide +kernel
theorem dX0_isThere_10 : decode cX0_isThere 10 = .ok (.getfield 24, 3) := by decide +kernel
theorem dX0_isThere_13 : decode cX0_isThere 13 = .ok (.iload_n 1, 1) := by decide +kernel
theorem dX0_isThere_14 : decode cX0_isThere 14 = .ok (.ishr, 1) := by decide +kernel
theorem dX0_isThere_15 : decode cX0_isThere 15 = .ok (.iconst 1, 1) := by decide +kernel
theorem dX0_isThere_16 : decode cX0_isThere 16 = .ok (.iand, 1) := by decide +kernel
theorem dX0_isThere_17 : decode cX0_isThere 17 = .ok (.iconst 1, 1) := by decide +kernel
theorem dX0_isThere_18 : decode cX0_isThere 18 = .ok (.if_icmp .ne 7, 3) := by decide +kernel
theorem dX0_isThere_21 : decode cX0_isThere 21 = .ok (.iconst 1, 1) := by decide +kernel
theorem dX0_isThere_22 : decode cX0_isThere 22 = .ok (.goto 4, 3) := by decide +kernel
theorem dX0_isThere_25 : decode cX0_isThere 25 = .ok (.iconst 0, 1) := by decide +kernel
theorem dX0_isThere_26 : decode cX0_isThere 26 = .ok (.ireturn, 1) := by decide +kernel
theorem dX0_birthOf_0 : decode cX0_birthOf 0 = .ok (.iload_n 1, 1) := by decide +kernel
theorem dX0_birthOf_1 : decode cX0_birthOf 1 = .ok (.bipush 6, 2) := by decide +kernel
theorem dX0_birthOf_3 : decode cX0_birthOf 3 = .ok (.invokestatic 34, 3) := by decide +kernel
theorem dX0_birthOf_6 : decode cX0_birthOf 6 = .ok (.ifCond .eq 12, 3) := by decide +kernel
theorem dX0_birthOf_9 : decode cX0_birthOf 9 = .ok (.aload_n 0, 1) := by decide +kernel
theorem dX0_birthOf_10 : decode cX0_birthOf 10 = .ok (.getfield 9, 3) := by decide +kernel
theorem dX0_birthOf_13 : decode cX0_birthOf 13 = .ok (.iload_n 1, 1) := by decide +kernel
theorem dX0_birthOf_14 : decode cX0_birthOf 14 = .ok (.iaload, 1) := by decide +kernel
theorem dX0_birthOf_15 : decode cX0_birthOf 15 = .ok (.goto 4, 3) := by decide +kernel
theorem dX0_birthOf_18 : decode cX0_birthOf 18 = .ok (.iconst 0, 1) := by decide +kernel
theorem dX0_birthOf_19 : decode cX0_birthOf 19 = .ok (.ireturn, 1) := by decide +kernel
theorem dX0_sizeOf_0 : decode cX0_sizeOf 0 = .ok (.iload_n 1, 1) := by decide +kernel
theorem dX0_sizeOf_1 : decode cX0_sizeOf 1 = .ok (.bipush 6, 2) := by decide +kernel
theorem dX0_sizeOf_3 : decode cX0_sizeOf 3 = .ok (.invokestatic 34, 3) := by decide +kernel
theorem dX0_sizeOf_6 : decode cX0_sizeOf 6 = .ok (.ifCond .eq 12, 3) := by decide +kernel
theorem dX0_sizeOf_9 : decode cX0_sizeOf 9 = .ok (.aload_n 0, 1) := by decide +kernel
theorem dX0_sizeOf_10 : decode cX0_sizeOf 10 = .ok (.getfield 15, 3) := by decide +kernel
theorem dX0_sizeOf_13 : decode cX0_sizeOf 13 = .ok (.iload_n 1, 1) := by decide +kernel
theorem dX0_sizeOf_14 : decode cX0_sizeOf 14 = .ok (.iaload, 1) := by decide +kernel
theorem dX0_sizeOf_15 : decode cX0_sizeOf 15 = .ok (.goto 4, 3) := by decide +kernel
theorem dX0_sizeOf_18 : decode cX0_sizeOf 18 = .ok (.iconst 0, 1) := by decide +kernel
theorem dX0_sizeOf_19 : decode cX0_sizeOf 19 = .ok (.ireturn, 1) := by decide +kernel
theorem dX0_dayAt_0 : decode cX0_dayAt 0 = .ok (.iload_n 1, 1) := by decide +kernel
theorem dX0_dayAt_1 : decode cX0_dayAt 1 = .ok (.bipush 6, 2) := by decide +kernel
theorem dX0_dayAt_3 : decode cX0_dayAt 3 = .ok (.invokestatic 34, 3) := by decide +kernel
theorem dX0_dayAt_6 : decode cX0_dayAt 6 = .ok (.ifCond .eq 12, 3) := by decide +kernel
theorem dX0_dayAt_9 : decode cX0_dayAt 9 = .ok (.iload_n 2, 1) := by decide +kernel
theorem dX0_dayAt_10 : decode cX0_dayAt 10 = .ok (.bipush 8, 2) := by decide +kernel
theorem dX0_dayAt_12 : decode cX0_dayAt 12 = .ok (.invokestatic 34, 3) := by decide +kernel
theorem dX0_dayAt_15 : decode cX0_dayAt 15 = .ok (.ifCond .ne 6, 3) := by decide +kernel
theorem dX0_dayAt_18 : decode cX0_dayAt 18 = .ok (.bipush (-6), 2) := by decide +kernel
theorem dX0_dayAt_20 : decode cX0_dayAt 20 = .ok (.ireturn, 1) := by decide +kernel
theorem dX0_dayAt_21 : decode cX0_dayAt 21 = .ok (.aload_n 0, 1) := by decide +kernel
theorem dX0_dayAt_22 : decode cX0_dayAt 22 = .ok (.getfield 18, 3) := by decide +kernel
theorem dX0_dayAt_25 : decode cX0_dayAt 25 = .ok (.iload_n 1, 1) := by decide +kernel
theorem dX0_dayAt_26 : decode cX0_dayAt 26 = .ok (.bipush 8, 2) := by decide +kernel
theorem dX0_dayAt_28 : decode cX0_dayAt 28 = .ok (.imul, 1) := by decide +kernel
theorem dX0_dayAt_29 : decode cX0_dayAt 29 = .ok (.iload_n 2, 1) := by decide +kernel
theorem dX0_dayAt_30 : decode cX0_dayAt 30 = .ok (.iadd, 1) := by decide +kernel
theorem dX0_dayAt_31 : decode cX0_dayAt 31 = .ok (.iaload, 1) := by decide +kernel
theorem dX0_dayAt_32 : decode cX0_dayAt 32 = .ok (.ireturn, 1) := by decide +kernel
theorem dX0_dayOn_0 : decode cX0_dayOn 0 = .ok (.iload_n 1, 1) := by decide +kernel
theorem dX0_dayOn_1 : decode cX0_dayOn 1 = .ok (.ifCond .lt 20, 3) := by decide +kernel
theorem dX0_dayOn_4 : decode cX0_dayOn 4 = .ok (.iload_n 1, 1) := by decide +kernel
theorem dX0_dayOn_5 : decode cX0_dayOn 5 = .ok (.bipush 6, 2) := by decide +kernel
theorem dX0_dayOn_7 : decode cX0_dayOn 7 = .ok (.if_icmp .ge 14, 3) := by decide +kernel
theorem dX0_dayOn_10 : decode cX0_dayOn 10 = .ok (.aload_n 0, 1) := by decide +kernel
theorem dX0_dayOn_11 : decode cX0_dayOn 11 = .ok (.getfield 24, 3) := by decide +kernel
theorem dX0_dayOn_14 : decode cX0_dayOn 14 = .ok (.iload_n 1, 1) := by decide +kernel
theorem dX0_dayOn_15 : decode cX0_dayOn 15 = .ok (.ishr, 1) := by decide +kernel
theorem dX0_dayOn_16 : decode cX0_dayOn 16 = .ok (.iconst 1, 1) := by decide +kernel
theorem dX0_dayOn_17 : decode cX0_dayOn 17 = .ok (.iand, 1) := by decide +kernel
theorem dX0_dayOn_18 : decode cX0_dayOn 18 = .ok (.ifCond .ne 6, 3) := by decide +kernel
theorem dX0_dayOn_21 : decode cX0_dayOn 21 = .ok (.bipush (-6), 2) := by decide +kernel
theorem dX0_dayOn_23 : decode cX0_dayOn 23 = .ok (.ireturn, 1) := by decide +kernel
theorem dX0_dayOn_24 : decode cX0_dayOn 24 = .ok (.aload_n 0, 1) := by decide +kernel
theorem dX0_dayOn_25 : decode cX0_dayOn 25 = .ok (.getfield 15, 3) := by decide +kernel
theorem dX0_dayOn_28 : decode cX0_dayOn 28 = .ok (.iload_n 1, 1) := by decide +kernel
theorem dX0_dayOn_29 : decode cX0_dayOn 29 = .ok (.iaload, 1) := by decide +kernel
theorem dX0_dayOn_30 : decode cX0_dayOn 30 = .ok (.istore_n 3, 1) := by decide +kernel
theorem dX0_dayOn_31 : decode cX0_dayOn 31 = .ok (.iload_n 3, 1) := by decide +kernel
theorem dX0_dayOn_32 : decode cX0_dayOn 32 = .ok (.iconst 1, 1) := by decide +kernel
theorem dX0_dayOn_33 : decode cX0_dayOn 33 = .ok (.if_icmp .lt 9, 3) := by decide +kernel
theorem dX0_dayOn_36 : decode cX0_dayOn 36 = .ok (.iload_n 3, 1) := by decide +kernel
theorem dX0_dayOn_37 : decode cX0_dayOn 37 = .ok (.bipush 8, 2) := by decide +kernel
theorem dX0_dayOn_39 : decode cX0_dayOn 39 = .ok (.if_icmp .le 6, 3) := by decide +kernel
theorem dX0_dayOn_42 : decode cX0_dayOn 42 = .ok (.bipush (-6), 2) := by decide +kernel
theorem dX0_dayOn_44 : decode cX0_dayOn 44 = .ok (.ireturn, 1) := by decide +kernel
theorem dX0_dayOn_45 : decode cX0_dayOn 45 = .ok (.aload_n 0, 1) := by decide +kernel
theorem dX0_dayOn_46 : decode cX0_dayOn 46 = .ok (.getfield 18, 3) := by decide +kernel
theorem dX0_dayOn_49 : decode cX0_dayOn 49 = .ok (.iload_n 1, 1) := by decide +kernel
theorem dX0_dayOn_50 : decode cX0_dayOn 50 = .ok (.bipush 8, 2) := by decide +kernel
theorem dX0_dayOn_52 : decode cX0_dayOn 52 = .ok (.imul, 1) := by decide +kernel
theorem dX0_dayOn_53 : decode cX0_dayOn 53 = .ok (.iload_n 2, 1) := by decide +kernel
theorem dX0_dayOn_54 : decode cX0_dayOn 54 = .ok (.aload_n 0, 1) := by decide +kernel
theorem dX0_dayOn_55 : decode cX0_dayOn 55 = .ok (.getfield 9, 3) := by decide +kernel
theorem dX0_dayOn_58 : decode cX0_dayOn 58 = .ok (.iload_n 1, 1) := by decide +kernel
theorem dX0_dayOn_59 : decode cX0_dayOn 59 = .ok (.iaload, 1) := by decide +kernel
theorem dX0_dayOn_60 : decode cX0_dayOn 60 = .ok (.isub, 1) := by decide +kernel
theorem dX0_dayOn_61 : decode cX0_dayOn 61 = .ok (.iload_n 3, 1) := by decide +kernel
theorem dX0_dayOn_62 : decode cX0_dayOn 62 = .ok (.invokestatic 47, 3) := by decide +kernel
theorem dX0_dayOn_65 : decode cX0_dayOn 65 = .ok (.iadd, 1) := by decide +kernel
theorem dX0_dayOn_66 : decode cX0_dayOn 66 = .ok (.iaload, 1) := by decide +kernel
theorem dX0_dayOn_67 : decode cX0_dayOn 67 = .ok (.ireturn, 1) := by decide +kernel
theorem dX0_having_0 : decode cX0_having 0 = .ok (.iconst 0, 1) := by decide +kernel
theorem dX0_having_1 : decode cX0_having 1 = .ok (.istore_n 3, 1) := by decide +kernel
theorem dX0_having_2 : decode cX0_having 2 = .ok (.iconst 0, 1) := by decide +kernel
theorem dX0_having_3 : decode cX0_having 3 = .ok (.istore 4, 2) := by decide +kernel
theorem dX0_having_5 : decode cX0_having 5 = .ok (.iload 4, 2) := by decide +kernel
theorem dX0_having_7 : decode cX0_having 7 = .ok (.bipush 6, 2) := by decide +kernel
theorem dX0_having_9 : decode cX0_having 9 = .ok (.if_icmp .ge 27, 3) := by decide +kernel
theorem dX0_having_12 : decode cX0_having 12 = .ok (.aload_n 0, 1) := by decide +kernel
theorem dX0_having_13 : decode cX0_having 13 = .ok (.iload 4, 2) := by decide +kernel
theorem dX0_having_15 : decode cX0_having 15 = .ok (.iload_n 2, 1) := by decide +kernel
theorem dX0_having_16 : decode cX0_having 16 = .ok (.invokevirtual 53, 3) := by decide +kernel
theorem dX0_having_19 : decode cX0_having 19 = .ok (.iload_n 1, 1) := by decide +kernel
theorem dX0_having_20 : decode cX0_having 20 = .ok (.if_icmp .ne 10, 3) := by decide +kernel
theorem dX0_having_23 : decode cX0_having 23 = .ok (.iload_n 3, 1) := by decide +kernel
theorem dX0_having_24 : decode cX0_having 24 = .ok (.iconst 1, 1) := by decide +kernel
theorem dX0_having_25 : decode cX0_having 25 = .ok (.iload 4, 2) := by decide +kernel
theorem dX0_having_27 : decode cX0_having 27 = .ok (.ishl, 1) := by decide +kernel
theorem dX0_having_28 : decode cX0_having 28 = .ok (.ior, 1) := by decide +kernel
theorem dX0_having_29 : decode cX0_having 29 = .ok (.istore_n 3, 1) := by decide +kernel
theorem dX0_having_30 : decode cX0_having 30 = .ok (.iinc 4 1, 3) := by decide +kernel
theorem dX0_having_33 : decode cX0_having 33 = .ok (.goto (-28), 3) := by decide +kernel
theorem dX0_having_36 : decode cX0_having 36 = .ok (.iload_n 3, 1) := by decide +kernel
theorem dX0_having_37 : decode cX0_having 37 = .ok (.ireturn, 1) := by decide +kernel
theorem dX0_commonDay_0 : decode cX0_commonDay 0 = .ok (.bipush (-6), 2) := by decide +kernel
theorem dX0_commonDay_2 : decode cX0_commonDay 2 = .ok (.istore_n 3, 1) := by decide +kernel
theorem dX0_commonDay_3 : decode cX0_commonDay 3 = .ok (.iconst 0, 1) := by decide +kernel
theorem dX0_commonDay_4 : decode cX0_commonDay 4 = .ok (.istore 4, 2) := by decide +kernel
theorem dX0_commonDay_6 : decode cX0_commonDay 6 = .ok (.iload 4, 2) := by decide +kernel
theorem dX0_commonDay_8 : decode cX0_commonDay 8 = .ok (.bipush 6, 2) := by decide +kernel
theorem dX0_commonDay_10 : decode cX0_commonDay 10 = .ok (.if_icmp .ge 46, 3) := by decide +kernel
theorem dX0_commonDay_13 : decode cX0_commonDay 13 = .ok (.iload_n 1, 1) := by decide +kernel
theorem dX0_commonDay_14 : decode cX0_commonDay 14 = .ok (.iload 4, 2) := by decide +kernel
theorem dX0_commonDay_16 : decode cX0_commonDay 16 = .ok (.ishr, 1) := by decide +kernel
theorem dX0_commonDay_17 : decode cX0_commonDay 17 = .ok (.iconst 1, 1) := by decide +kernel
theorem dX0_commonDay_18 : decode cX0_commonDay 18 = .ok (.iand, 1) := by decide +kernel
theorem dX0_commonDay_19 : decode cX0_commonDay 19 = .ok (.iconst 1, 1) := by decide +kernel
theorem dX0_commonDay_20 : decode cX0_commonDay 20 = .ok (.if_icmp .ne 30, 3) := by decide +kernel
theorem dX0_commonDay_23 : decode cX0_commonDay 23 = .ok (.aload_n 0, 1) := by decide +kernel
theorem dX0_commonDay_24 : decode cX0_commonDay 24 = .ok (.iload 4, 2) := by decide +kernel
theorem dX0_commonDay_26 : decode cX0_commonDay 26 = .ok (.iload_n 2, 1) := by decide +kernel
theorem dX0_commonDay_27 : decode cX0_commonDay 27 = .ok (.invokevirtual 53, 3) := by decide +kernel
theorem dX0_commonDay_30 : decode cX0_commonDay 30 = .ok (.istore 5, 2) := by decide +kernel
theorem dX0_commonDay_32 : decode cX0_commonDay 32 = .ok (.iload_n 3, 1) := by decide +kernel
theorem dX0_commonDay_33 : decode cX0_commonDay 33 = .ok (.bipush (-6), 2) := by decide +kernel
theorem dX0_commonDay_35 : decode cX0_commonDay 35 = .ok (.if_icmp .eq 12, 3) := by decide +kernel
theorem dX0_commonDay_38 : decode cX0_commonDay 38 = .ok (.iload 5, 2) := by decide +kernel
theorem dX0_commonDay_40 : decode cX0_commonDay 40 = .ok (.iload_n 3, 1) := by decide +kernel
theorem dX0_commonDay_41 : decode cX0_commonDay 41 = .ok (.if_icmp .eq 6, 3) := by decide +kernel
theorem dX0_commonDay_44 : decode cX0_commonDay 44 = .ok (.bipush (-6), 2) := by decide +kernel
theorem dX0_commonDay_46 : decode cX0_commonDay 46 = .ok (.ireturn, 1) := by decide +kernel
theorem dX0_commonDay_47 : decode cX0_commonDay 47 = .ok (.iload 5, 2) := by decide +kernel
theorem dX0_commonDay_49 : decode cX0_commonDay 49 = .ok (.istore_n 3, 1) := by decide +kernel
theorem dX0_commonDay_50 : decode cX0_commonDay 50 = .ok (.iinc 4 1, 3) := by decide +kernel
theorem dX0_commonDay_53 : decode cX0_commonDay 53 = .ok (.goto (-47), 3) := by decide +kernel
theorem dX0_commonDay_56 : decode cX0_commonDay 56 = .ok (.iload_n 3, 1) := by decide +kernel
theorem dX0_commonDay_57 : decode cX0_commonDay 57 = .ok (.ireturn, 1) := by decide +kernel
theorem dX0_share_0 : decode cX0_share 0 = .ok (.aload_n 0, 1) := by decide +kernel
theorem dX0_share_1 : decode cX0_share 1 = .ok (.iload_n 1, 1) := by decide +kernel
theorem dX0_share_2 : decode cX0_share 2 = .ok (.iload_n 3, 1) := by decide +kernel
theorem dX0_share_3 : decode cX0_share 3 = .ok (.invokevirtual 53, 3) := by decide +kernel
theorem dX0_share_6 : decode cX0_share 6 = .ok (.aload_n 0, 1) := by decide +kernel
theorem dX0_share_7 : decode cX0_share 7 = .ok (.iload_n 2, 1) := by decide +kernel
theorem dX0_share_8 : decode cX0_share 8 = .ok (.iload_n 3, 1) := by decide +kernel
theorem dX0_share_9 : decode cX0_share 9 = .ok (.invokevirtual 53, 3) := by decide +kernel
theorem dX0_share_12 : decode cX0_share 12 = .ok (.if_icmp .ne 7, 3) := by decide +kernel
theorem dX0_share_15 : decode cX0_share 15 = .ok (.iconst 1, 1) := by decide +kernel
theorem dX0_share_16 : decode cX0_share 16 = .ok (.goto 4, 3) := by decide +kernel
theorem dX0_share_19 : decode cX0_share 19 = .ok (.iconst 0, 1) := by decide +kernel
theorem dX0_share_20 : decode cX0_share 20 = .ok (.ireturn, 1) := by decide +kernel
theorem dX0_sharedDates_0 : decode cX0_sharedDates 0 = .ok (.iconst 0, 1) := by decide +kernel
theorem dX0_sharedDates_1 : decode cX0_sharedDates 1 = .ok (.istore 4, 2) := by decide +kernel
theorem dX0_sharedDates_3 : decode cX0_sharedDates 3 = .ok (.iconst 0, 1) := by decide +kernel
theorem dX0_sharedDates_4 : decode cX0_sharedDates 4 = .ok (.istore 5, 2) := by decide +kernel
theorem dX0_sharedDates_6 : decode cX0_sharedDates 6 = .ok (.iload 5, 2) := by decide +kernel
theorem dX0_sharedDates_8 : decode cX0_sharedDates 8 = .ok (.iload_n 3, 1) := by decide +kernel
theorem dX0_sharedDates_9 : decode cX0_sharedDates 9 = .ok (.if_icmp .ge 23, 3) := by decide +kernel
theorem dX0_sharedDates_12 : decode cX0_sharedDates 12 = .ok (.aload_n 0, 1) := by decide +kernel
theorem dX0_sharedDates_13 : decode cX0_sharedDates 13 = .ok (.iload_n 1, 1) := by decide +kernel
theorem dX0_sharedDates_14 : decode cX0_sharedDates 14 = .ok (.iload_n 2, 1) := by decide +kernel
theorem dX0_sharedDates_15 : decode cX0_sharedDates 15 = .ok (.iload 5, 2) := by decide +kernel
theorem dX0_sharedDates_17 : decode cX0_sharedDates 17 = .ok (.invokevirtual 56, 3) := by decide +kernel
theorem dX0_sharedDates_20 : decode cX0_sharedDates 20 = .ok (.ifCond .eq 6, 3) := by decide +kernel
theorem dX0_sharedDates_23 : decode cX0_sharedDates 23 = .ok (.iinc 4 1, 3) := by decide +kernel
theorem dX0_sharedDates_26 : decode cX0_sharedDates 26 = .ok (.iinc 5 1, 3) := by decide +kernel
theorem dX0_sharedDates_29 : decode cX0_sharedDates 29 = .ok (.goto (-23), 3) := by decide +kernel
theorem dX0_sharedDates_32 : decode cX0_sharedDates 32 = .ok (.iload 4, 2) := by decide +kernel
theorem dX0_sharedDates_34 : decode cX0_sharedDates 34 = .ok (.ireturn, 1) := by decide +kernel
theorem dX0_everShare_0 : decode cX0_everShare 0 = .ok (.iconst 0, 1) := by decide +kernel
theorem dX0_everShare_1 : decode cX0_everShare 1 = .ok (.istore_n 3, 1) := by decide +kernel
theorem dX0_everShare_2 : decode cX0_everShare 2 = .ok (.iload_n 3, 1) := by decide +kernel
theorem dX0_everShare_3 : decode cX0_everShare 3 = .ok (.sipush 840, 3) := by decide +kernel
theorem dX0_everShare_6 : decode cX0_everShare 6 = .ok (.if_icmp .ge 21, 3) := by decide +kernel
theorem dX0_everShare_9 : decode cX0_everShare 9 = .ok (.aload_n 0, 1) := by decide +kernel
theorem dX0_everShare_10 : decode cX0_everShare 10 = .ok (.iload_n 1, 1) := by decide +kernel
theorem dX0_everShare_11 : decode cX0_everShare 11 = .ok (.iload_n 2, 1) := by decide +kernel
theorem dX0_everShare_12 : decode cX0_everShare 12 = .ok (.iload_n 3, 1) := by decide +kernel
theorem dX0_everShare_13 : decode cX0_everShare 13 = .ok (.invokevirtual 56, 3) := by decide +kernel
theorem dX0_everShare_16 : decode cX0_everShare 16 = .ok (.ifCond .eq 5, 3) := by decide +kernel
theorem dX0_everShare_19 : decode cX0_everShare 19 = .ok (.iconst 1, 1) := by decide +kernel
theorem dX0_everShare_20 : decode cX0_everShare 20 = .ok (.ireturn, 1) := by decide +kernel
theorem dX0_everShare_21 : decode cX0_everShare 21 = .ok (.iinc 3 1, 3) := by decide +kernel
theorem dX0_everShare_24 : decode cX0_everShare 24 = .ok (.goto (-22), 3) := by decide +kernel
theorem dX0_everShare_27 : decode cX0_everShare 27 = .ok (.iconst 0, 1) := by decide +kernel
theorem dX0_everShare_28 : decode cX0_everShare 28 = .ok (.ireturn, 1) := by decide +kernel
theorem dX0_allHave_0 : decode cX0_allHave 0 = .ok (.iconst 0, 1) := by decide +kernel
theorem dX0_allHave_1 : decode cX0_allHave 1 = .ok (.istore 4, 2) := by decide +kernel
theorem dX0_allHave_3 : decode cX0_allHave 3 = .ok (.iload 4, 2) := by decide +kernel
theorem dX0_allHave_5 : decode cX0_allHave 5 = .ok (.bipush 6, 2) := by decide +kernel
theorem dX0_allHave_7 : decode cX0_allHave 7 = .ok (.if_icmp .ge 32, 3) := by decide +kernel
theorem dX0_allHave_10 : decode cX0_allHave 10 = .ok (.iload_n 1, 1) := by decide +kernel
theorem dX0_allHave_11 : decode cX0_allHave 11 = .ok (.iload 4, 2) := by decide +kernel
theorem dX0_allHave_13 : decode cX0_allHave 13 = .ok (.ishr, 1) := by decide +kernel
theorem dX0_allHave_14 : decode cX0_allHave 14 = .ok (.iconst 1, 1) := by decide +kernel
theorem dX0_allHave_15 : decode cX0_allHave 15 = .ok (.iand, 1) := by decide +kernel
theorem dX0_allHave_16 : decode cX0_allHave 16 = .ok (.iconst 1, 1) := by decide +kernel
theorem dX0_allHave_17 : decode cX0_allHave 17 = .ok (.if_icmp .ne 16, 3) := by decide +kernel
theorem dX0_allHave_20 : decode cX0_allHave 20 = .ok (.aload_n 0, 1) := by decide +kernel
theorem dX0_allHave_21 : decode cX0_allHave 21 = .ok (.iload 4, 2) := by decide +kernel
theorem dX0_allHave_23 : decode cX0_allHave 23 = .ok (.iload_n 3, 1) := by decide +kernel
theorem dX0_allHave_24 : decode cX0_allHave 24 = .ok (.invokevirtual 53, 3) := by decide +kernel
theorem dX0_allHave_27 : decode cX0_allHave 27 = .ok (.iload_n 2, 1) := by decide +kernel
theorem dX0_allHave_28 : decode cX0_allHave 28 = .ok (.if_icmp .eq 5, 3) := by decide +kernel
theorem dX0_allHave_31 : decode cX0_allHave 31 = .ok (.iconst 0, 1) := by decide +kernel
theorem dX0_allHave_32 : decode cX0_allHave 32 = .ok (.ireturn, 1) := by decide +kernel
theorem dX0_allHave_33 : decode cX0_allHave 33 = .ok (.iinc 4 1, 3) := by decide +kernel
theorem dX0_allHave_36 : decode cX0_allHave 36 = .ok (.goto (-33), 3) := by decide +kernel
theorem dX0_allHave_39 : decode cX0_allHave 39 = .ok (.iconst 1, 1) := by decide +kernel
theorem dX0_allHave_40 : decode cX0_allHave 40 = .ok (.ireturn, 1) := by decide +kernel
theorem dX0_everAllHave_0 : decode cX0_everAllHave 0 = .ok (.iconst 0, 1) := by decide +kernel
theorem dX0_everAllHave_1 : decode cX0_everAllHave 1 = .ok (.istore_n 3, 1) := by decide +kernel
theorem dX0_everAllHave_2 : decode cX0_everAllHave 2 = .ok (.iload_n 3, 1) := by decide +kernel
theorem dX0_everAllHave_3 : decode cX0_everAllHave 3 = .ok (.sipush 840, 3) := by decide +kernel
theorem dX0_everAllHave_6 : decode cX0_everAllHave 6 = .ok (.if_icmp .ge 21, 3) := by decide +kernel
theorem dX0_everAllHave_9 : decode cX0_everAllHave 9 = .ok (.aload_n 0, 1) := by decide +kernel
theorem dX0_everAllHave_10 : decode cX0_everAllHave 10 = .ok (.iload_n 1, 1) := by decide +kernel
theorem dX0_everAllHave_11 : decode cX0_everAllHave 11 = .ok (.iload_n 2, 1) := by decide +kernel
theorem dX0_everAllHave_12 : decode cX0_everAllHave 12 = .ok (.iload_n 3, 1) := by decide +kernel
theorem dX0_everAllHave_13 : decode cX0_everAllHave 13 = .ok (.invokevirtual 60, 3) := by decide +kernel
theorem dX0_everAllHave_16 : decode cX0_everAllHave 16 = .ok (.ifCond .eq 5, 3) := by decide +kernel
theorem dX0_everAllHave_19 : decode cX0_everAllHave 19 = .ok (.iconst 1, 1) := by decide +kernel
theorem dX0_everAllHave_20 : decode cX0_everAllHave 20 = .ok (.ireturn, 1) := by decide +kernel
theorem dX0_everAllHave_21 : decode cX0_everAllHave 21 = .ok (.iinc 3 1, 3) := by decide +kernel
theorem dX0_everAllHave_24 : decode cX0_everAllHave 24 = .ok (.goto (-22), 3) := by decide +kernel
theorem dX0_everAllHave_27 : decode cX0_everAllHave 27 = .ok (.iconst 0, 1) := by decide +kernel
theorem dX0_everAllHave_28 : decode cX0_everAllHave 28 = .ok (.ireturn, 1) := by decide +kernel
theorem dX0_whyNever_0 : decode cX0_whyNever 0 = .ok (.iconst 0, 1) := by decide +kernel
theorem dX0_whyNever_1 : decode cX0_whyNever 1 = .ok (.istore_n 3, 1) := by decide +kernel
theorem dX0_whyNever_2 : decode cX0_whyNever 2 = .ok (.iload_n 3, 1) := by decide +kernel
theorem dX0_whyNever_3 : decode cX0_whyNever 3 = .ok (.bipush 6, 2) := by decide +kernel
theorem dX0_whyNever_5 : decode cX0_whyNever 5 = .ok (.if_icmp .ge 34, 3) := by decide +kernel
theorem dX0_whyNever_8 : decode cX0_whyNever 8 = .ok (.iload_n 1, 1) := by decide +kernel
theorem dX0_whyNever_9 : decode cX0_whyNever 9 = .ok (.iload_n 3, 1) := by decide +kernel
theorem dX0_whyNever_10 : decode cX0_whyNever 10 = .ok (.ishr, 1) := by decide +kernel
theorem dX0_whyNever_11 : decode cX0_whyNever 11 = .ok (.iconst 1, 1) := by decide +kernel
theorem dX0_whyNever_12 : decode cX0_whyNever 12 = .ok (.iand, 1) := by decide +kernel
theorem dX0_whyNever_13 : decode cX0_whyNever 13 = .ok (.iconst 1, 1) := by decide +kernel
theorem dX0_whyNever_14 : decode cX0_whyNever 14 = .ok (.if_icmp .ne 19, 3) := by decide +kernel
theorem dX0_whyNever_17 : decode cX0_whyNever 17 = .ok (.aload_n 0, 1) := by decide +kernel
theorem dX0_whyNever_18 : decode cX0_whyNever 18 = .ok (.iconst 1, 1) := by decide +kernel
theorem dX0_whyNever_19 : decode cX0_whyNever 19 = .ok (.iload_n 3, 1) := by decide +kernel
theorem dX0_whyNever_20 : decode cX0_whyNever 20 = .ok (.ishl, 1) := by decide +kernel
theorem dX0_whyNever_21 : decode cX0_whyNever 21 = .ok (.iload_n 2, 1) := by decide +kernel
theorem dX0_whyNever_22 : decode cX0_whyNever 22 = .ok (.invokevirtual 63, 3) := by decide +kernel
theorem dX0_whyNever_25 : decode cX0_whyNever 25 = .ok (.ifCond .ne 8, 3) := by decide +kernel
theorem dX0_whyNever_28 : decode cX0_whyNever 28 = .ok (.bipush 11, 2) := by decide +kernel
theorem dX0_whyNever_30 : decode cX0_whyNever 30 = .ok (.iload_n 3, 1) := by decide +kernel
theorem dX0_whyNever_31 : decode cX0_whyNever 31 = .ok (.imul, 1) := by decide +kernel
theorem dX0_whyNever_32 : decode cX0_whyNever 32 = .ok (.ireturn, 1) := by decide +kernel
theorem dX0_whyNever_33 : decode cX0_whyNever 33 = .ok (.iinc 3 1, 3) := by decide +kernel
theorem dX0_whyNever_36 : decode cX0_whyNever 36 = .ok (.goto (-34), 3) := by decide +kernel
theorem dX0_whyNever_39 : decode cX0_whyNever 39 = .ok (.iconst 0, 1) := by decide +kernel
theorem dX0_whyNever_40 : decode cX0_whyNever 40 = .ok (.istore_n 3, 1) := by decide +kernel
theorem dX0_whyNever_41 : decode cX0_whyNever 41 = .ok (.iload_n 3, 1) := by decide +kernel
theorem dX0_whyNever_42 : decode cX0_whyNever 42 = .ok (.bipush 6, 2) := by decide +kernel
theorem dX0_whyNever_44 : decode cX0_whyNever 44 = .ok (.if_icmp .ge 64, 3) := by decide +kernel
theorem dX0_whyNever_47 : decode cX0_whyNever 47 = .ok (.iload_n 3, 1) := by decide +kernel
theorem dX0_whyNever_48 : decode cX0_whyNever 48 = .ok (.iconst 1, 1) := by decide +kernel
theorem dX0_whyNever_49 : decode cX0_whyNever 49 = .ok (.iadd, 1) := by decide +kernel
theorem dX0_whyNever_50 : decode cX0_whyNever 50 = .ok (.istore 4, 2) := by decide +kernel
theorem dX0_whyNever_52 : decode cX0_whyNever 52 = .ok (.iload 4, 2) := by decide +kernel
theorem dX0_whyNever_54 : decode cX0_whyNever 54 = .ok (.bipush 6, 2) := by decide +kernel
theorem dX0_whyNever_56 : decode cX0_whyNever 56 = .ok (.if_icmp .ge 46, 3) := by decide +kernel
theorem dX0_whyNever_59 : decode cX0_whyNever 59 = .ok (.iconst 1, 1) := by decide +kernel
theorem dX0_whyNever_60 : decode cX0_whyNever 60 = .ok (.iload_n 3, 1) := by decide +kernel
theorem dX0_whyNever_61 : decode cX0_whyNever 61 = .ok (.ishl, 1) := by decide +kernel
theorem dX0_whyNever_62 : decode cX0_whyNever 62 = .ok (.iconst 1, 1) := by decide +kernel
theorem dX0_whyNever_63 : decode cX0_whyNever 63 = .ok (.iload 4, 2) := by decide +kernel
theorem dX0_whyNever_65 : decode cX0_whyNever 65 = .ok (.ishl, 1) := by decide +kernel
theorem dX0_whyNever_66 : decode cX0_whyNever 66 = .ok (.ior, 1) := by decide +kernel
theorem dX0_whyNever_67 : decode cX0_whyNever 67 = .ok (.istore 5, 2) := by decide +kernel
theorem dX0_whyNever_69 : decode cX0_whyNever 69 = .ok (.iload_n 1, 1) := by decide +kernel
theorem dX0_whyNever_70 : decode cX0_whyNever 70 = .ok (.iload 5, 2) := by decide +kernel
theorem dX0_whyNever_72 : decode cX0_whyNever 72 = .ok (.iand, 1) := by decide +kernel
theorem dX0_whyNever_73 : decode cX0_whyNever 73 = .ok (.iload 5, 2) := by decide +kernel
theorem dX0_whyNever_75 : decode cX0_whyNever 75 = .ok (.if_icmp .ne 21, 3) := by decide +kernel
theorem dX0_whyNever_78 : decode cX0_whyNever 78 = .ok (.aload_n 0, 1) := by decide +kernel
theorem dX0_whyNever_79 : decode cX0_whyNever 79 = .ok (.iload 5, 2) := by decide +kernel
theorem dX0_whyNever_81 : decode cX0_whyNever 81 = .ok (.iload_n 2, 1) := by decide +kernel
theorem dX0_whyNever_82 : decode cX0_whyNever 82 = .ok (.invokevirtual 63, 3) := by decide +kernel
theorem dX0_whyNever_85 : decode cX0_whyNever 85 = .ok (.ifCond .ne 11, 3) := by decide +kernel
theorem dX0_whyNever_88 : decode cX0_whyNever 88 = .ok (.bipush 10, 2) := by decide +kernel
theorem dX0_whyNever_90 : decode cX0_whyNever 90 = .ok (.iload_n 3, 1) := by decide +kernel
theorem dX0_whyNever_91 : decode cX0_whyNever 91 = .ok (.imul, 1) := by decide +kernel
theorem dX0_whyNever_92 : decode cX0_whyNever 92 = .ok (.iload 4, 2) := by decide +kernel
theorem dX0_whyNever_94 : decode cX0_whyNever 94 = .ok (.iadd, 1) := by decide +kernel
theorem dX0_whyNever_95 : decode cX0_whyNever 95 = .ok (.ireturn, 1) := by decide +kernel
theorem dX0_whyNever_96 : decode cX0_whyNever 96 = .ok (.iinc 4 1, 3) := by decide +kernel
theorem dX0_whyNever_99 : decode cX0_whyNever 99 = .ok (.goto (-47), 3) := by decide +kernel
theorem dX0_whyNever_102 : decode cX0_whyNever 102 = .ok (.iinc 3 1, 3) := by decide +kernel
theorem dX0_whyNever_105 : decode cX0_whyNever 105 = .ok (.goto (-64), 3) := by decide +kernel
theorem dX0_whyNever_108 : decode cX0_whyNever 108 = .ok (.bipush (-6), 2) := by decide +kernel
theorem dX0_whyNever_110 : decode cX0_whyNever 110 = .ok (.ireturn, 1) := by decide +kernel
theorem dX0_cost_0 : decode cX0_cost 0 = .ok (.bipush 28, 2) := by decide +kernel
theorem dX0_cost_2 : decode cX0_cost 2 = .ok (.aload_n 0, 1) := by decide +kernel
theorem dX0_cost_3 : decode cX0_cost 3 = .ok (.iload_n 1, 1) := by decide +kernel
theorem dX0_cost_4 : decode cX0_cost 4 = .ok (.iload_n 2, 1) := by decide +kernel
theorem dX0_cost_5 : decode cX0_cost 5 = .ok (.bipush 28, 2) := by decide +kernel
theorem dX0_cost_7 : decode cX0_cost 7 = .ok (.invokevirtual 66, 3) := by decide +kernel
theorem dX0_cost_10 : decode cX0_cost 10 = .ok (.isub, 1) := by decide +kernel
theorem dX0_cost_11 : decode cX0_cost 11 = .ok (.ireturn, 1) := by decide +kernel
theorem dX0_costOfAll_0 : decode cX0_costOfAll 0 = .ok (.iconst 0, 1) := by decide +kernel
theorem dX0_costOfAll_1 : decode cX0_costOfAll 1 = .ok (.istore_n 2, 1) := by decide +kernel
theorem dX0_costOfAll_2 : decode cX0_costOfAll 2 = .ok (.iconst 0, 1) := by decide +kernel
theorem dX0_costOfAll_3 : decode cX0_costOfAll 3 = .ok (.istore_n 3, 1) := by decide +kernel
theorem dX0_costOfAll_4 : decode cX0_costOfAll 4 = .ok (.iload_n 3, 1) := by decide +kernel
theorem dX0_costOfAll_5 : decode cX0_costOfAll 5 = .ok (.bipush 6, 2) := by decide +kernel
theorem dX0_costOfAll_7 : decode cX0_costOfAll 7 = .ok (.if_icmp .ge 26, 3) := by decide +kernel
theorem dX0_costOfAll_10 : decode cX0_costOfAll 10 = .ok (.aload_n 0, 1) := by decide +kernel
theorem dX0_costOfAll_11 : decode cX0_costOfAll 11 = .ok (.iload_n 3, 1) := by decide +kernel
theorem dX0_costOfAll_12 : decode cX0_costOfAll 12 = .ok (.invokevirtual 70, 3) := by decide +kernel
theorem dX0_costOfAll_15 : decode cX0_costOfAll 15 = .ok (.ifCond .eq 12, 3) := by decide +kernel
theorem dX0_costOfAll_18 : decode cX0_costOfAll 18 = .ok (.iload_n 2, 1) := by decide +kernel
theorem dX0_costOfAll_19 : decode cX0_costOfAll 19 = .ok (.aload_n 0, 1) := by decide +kernel
theorem dX0_costOfAll_20 : decode cX0_costOfAll 20 = .ok (.iload_n 3, 1) := by decide +kernel
theorem dX0_costOfAll_21 : decode cX0_costOfAll 21 = .ok (.iload_n 1, 1) := by decide +kernel
theorem dX0_costOfAll_22 : decode cX0_costOfAll 22 = .ok (.invokevirtual 74, 3) := by decide +kernel
theorem dX0_costOfAll_25 : decode cX0_costOfAll 25 = .ok (.iadd, 1) := by decide +kernel
theorem dX0_costOfAll_26 : decode cX0_costOfAll 26 = .ok (.istore_n 2, 1) := by decide +kernel
theorem dX0_costOfAll_27 : decode cX0_costOfAll 27 = .ok (.iinc 3 1, 3) := by decide +kernel
theorem dX0_costOfAll_30 : decode cX0_costOfAll 30 = .ok (.goto (-26), 3) := by decide +kernel
theorem dX0_costOfAll_33 : decode cX0_costOfAll 33 = .ok (.iload_n 2, 1) := by decide +kernel
theorem dX0_costOfAll_34 : decode cX0_costOfAll 34 = .ok (.ireturn, 1) := by decide +kernel
theorem dX0_datesApart_0 : decode cX0_datesApart 0 = .ok (.iconst 0, 1) := by decide +kernel
theorem dX0_datesApart_1 : decode cX0_datesApart 1 = .ok (.istore_n 1, 1) := by decide +kernel
theorem dX0_datesApart_2 : decode cX0_datesApart 2 = .ok (.iconst 0, 1) := by decide +kernel
theorem dX0_datesApart_3 : decode cX0_datesApart 3 = .ok (.istore_n 2, 1) := by decide +kernel
theorem dX0_datesApart_4 : decode cX0_datesApart 4 = .ok (.iload_n 2, 1) := by decide +kernel
theorem dX0_datesApart_5 : decode cX0_datesApart 5 = .ok (.bipush 28, 2) := by decide +kernel
theorem dX0_datesApart_7 : decode cX0_datesApart 7 = .ok (.if_icmp .ge 26, 3) := by decide +kernel
theorem dX0_datesApart_10 : decode cX0_datesApart 10 = .ok (.aload_n 0, 1) := by decide +kernel
theorem dX0_datesApart_11 : decode cX0_datesApart 11 = .ok (.aload_n 0, 1) := by decide +kernel
theorem dX0_datesApart_12 : decode cX0_datesApart 12 = .ok (.getfield 24, 3) := by decide +kernel
theorem dX0_datesApart_15 : decode cX0_datesApart 15 = .ok (.iload_n 2, 1) := by decide +kernel
theorem dX0_datesApart_16 : decode cX0_datesApart 16 = .ok (.invokevirtual 77, 3) := by decide +kernel
theorem dX0_datesApart_19 : decode cX0_datesApart 19 = .ok (.bipush (-6), 2) := by decide +kernel
theorem dX0_datesApart_21 : decode cX0_datesApart 21 = .ok (.if_icmp .ne 6, 3) := by decide +kernel
theorem dX0_datesApart_24 : decode cX0_datesApart 24 = .ok (.iinc 1 1, 3) := by decide +kernel
theorem dX0_datesApart_27 : decode cX0_datesApart 27 = .ok (.iinc 2 1, 3) := by decide +kernel
theorem dX0_datesApart_30 : decode cX0_datesApart 30 = .ok (.goto (-26), 3) := by decide +kernel
theorem dX0_datesApart_33 : decode cX0_datesApart 33 = .ok (.iload_n 1, 1) := by decide +kernel
theorem dX0_datesApart_34 : decode cX0_datesApart 34 = .ok (.ireturn, 1) := by decide +kernel
theorem dX0_fewestShared_0 : decode cX0_fewestShared 0 = .ok (.bipush 14, 2) := by decide +kernel
theorem dX0_fewestShared_2 : decode cX0_fewestShared 2 = .ok (.istore 4, 2) := by decide +kernel
theorem dX0_fewestShared_4 : decode cX0_fewestShared 4 = .ok (.iconst 0, 1) := by decide +kernel
theorem dX0_fewestShared_5 : decode cX0_fewestShared 5 = .ok (.istore 5, 2) := by decide +kernel
theorem dX0_fewestShared_7 : decode cX0_fewestShared 7 = .ok (.iload 5, 2) := by decide +kernel
theorem dX0_fewestShared_9 : decode cX0_fewestShared 9 = .ok (.bipush 6, 2) := by decide +kernel
theorem dX0_fewestShared_11 : decode cX0_fewestShared 11 = .ok (.if_icmp .ge 77, 3) := by decide +kernel
theorem dX0_fewestShared_14 : decode cX0_fewestShared 14 = .ok (.aload_n 0, 1) := by decide +kernel
theorem dX0_fewestShared_15 : decode cX0_fewestShared 15 = .ok (.iload 5, 2) := by decide +kernel
theorem dX0_fewestShared_17 : decode cX0_fewestShared 17 = .ok (.invokevirtual 70, 3) := by decide +kernel
theorem dX0_fewestShared_20 : decode cX0_fewestShared 20 = .ok (.ifCond .eq 62, 3) := by decide +kernel
theorem dX0_fewestShared_23 : decode cX0_fewestShared 23 = .ok (.iconst 0, 1) := by decide +kernel
theorem dX0_fewestShared_24 : decode cX0_fewestShared 24 = .ok (.istore 6, 2) := by decide +kernel
theorem dX0_fewestShared_26 : decode cX0_fewestShared 26 = .ok (.iload_n 3, 1) := by decide +kernel
theorem dX0_fewestShared_27 : decode cX0_fewestShared 27 = .ok (.istore 7, 2) := by decide +kernel
theorem dX0_fewestShared_29 : decode cX0_fewestShared 29 = .ok (.iload 7, 2) := by decide +kernel
theorem dX0_fewestShared_31 : decode cX0_fewestShared 31 = .ok (.iload_n 3, 1) := by decide +kernel
theorem dX0_fewestShared_32 : decode cX0_fewestShared 32 = .ok (.bipush 14, 2) := by decide +kernel
theorem dX0_fewestShared_34 : decode cX0_fewestShared 34 = .ok (.iadd, 1) := by decide +kernel
theorem dX0_fewestShared_35 : decode cX0_fewestShared 35 = .ok (.if_icmp .ge 38, 3) := by decide +kernel
theorem dX0_fewestShared_38 : decode cX0_fewestShared 38 = .ok (.iload 6, 2) := by decide +kernel
theorem dX0_fewestShared_40 : decode cX0_fewestShared 40 = .ok (.aload_n 0, 1) := by decide +kernel
theorem dX0_fewestShared_41 : decode cX0_fewestShared 41 = .ok (.iload 5, 2) := by decide +kernel
theorem dX0_fewestShared_43 : decode cX0_fewestShared 43 = .ok (.iload 7, 2) := by decide +kernel
theorem dX0_fewestShared_45 : decode cX0_fewestShared 45 = .ok (.invokevirtual 53, 3) := by decide +kernel
theorem dX0_fewestShared_48 : decode cX0_fewestShared 48 = .ok (.iload_n 1, 1) := by decide +kernel
theorem dX0_fewestShared_49 : decode cX0_fewestShared 49 = .ok (.iload_n 2, 1) := by decide +kernel
theorem dX0_fewestShared_50 : decode cX0_fewestShared 50 = .ok (.iload_n 3, 1) := by decide +kernel
theorem dX0_fewestShared_51 : decode cX0_fewestShared 51 = .ok (.iload 7, 2) := by decide +kernel
theorem dX0_fewestShared_53 : decode cX0_fewestShared 53 = .ok (.invokestatic 80, 3) := by decide +kernel
theorem dX0_fewestShared_56 : decode cX0_fewestShared 56 = .ok (.if_icmp .ne 7, 3) := by decide +kernel
theorem dX0_fewestShared_59 : decode cX0_fewestShared 59 = .ok (.iconst 1, 1) := by decide +kernel
theorem dX0_fewestShared_60 : decode cX0_fewestShared 60 = .ok (.goto 4, 3) := by decide +kernel
theorem dX0_fewestShared_63 : decode cX0_fewestShared 63 = .ok (.iconst 0, 1) := by decide +kernel
theorem dX0_fewestShared_64 : decode cX0_fewestShared 64 = .ok (.iadd, 1) := by decide +kernel
theorem dX0_fewestShared_65 : decode cX0_fewestShared 65 = .ok (.istore 6, 2) := by decide +kernel
theorem dX0_fewestShared_67 : decode cX0_fewestShared 67 = .ok (.iinc 7 1, 3) := by decide +kernel
theorem dX0_fewestShared_70 : decode cX0_fewestShared 70 = .ok (.goto (-41), 3) := by decide +kernel
theorem dX0_fewestShared_73 : decode cX0_fewestShared 73 = .ok (.iload 4, 2) := by decide +kernel
theorem dX0_fewestShared_75 : decode cX0_fewestShared 75 = .ok (.iload 6, 2) := by decide +kernel
theorem dX0_fewestShared_77 : decode cX0_fewestShared 77 = .ok (.invokestatic 84, 3) := by decide +kernel
theorem dX0_fewestShared_80 : decode cX0_fewestShared 80 = .ok (.istore 4, 2) := by decide +kernel
theorem dX0_fewestShared_82 : decode cX0_fewestShared 82 = .ok (.iinc 5 1, 3) := by decide +kernel
theorem dX0_fewestShared_85 : decode cX0_fewestShared 85 = .ok (.goto (-78), 3) := by decide +kernel
theorem dX0_fewestShared_88 : decode cX0_fewestShared 88 = .ok (.iload 4, 2) := by decide +kernel
theorem dX0_fewestShared_90 : decode cX0_fewestShared 90 = .ok (.ireturn, 1) := by decide +kernel
theorem dX0_feastOn_0 : decode cX0_feastOn 0 = .ok (.iconst 0, 1) := by decide +kernel
theorem dX0_feastOn_1 : decode cX0_feastOn 1 = .ok (.istore_n 2, 1) := by decide +kernel
theorem dX0_feastOn_2 : decode cX0_feastOn 2 = .ok (.iload_n 2, 1) := by decide +kernel
theorem dX0_feastOn_3 : decode cX0_feastOn 3 = .ok (.bipush 8, 2) := by decide +kernel
theorem dX0_feastOn_5 : decode cX0_feastOn 5 = .ok (.if_icmp .ge 16, 3) := by decide +kernel
theorem dX0_feastOn_8 : decode cX0_feastOn 8 = .ok (.aload_n 0, 1) := by decide +kernel
theorem dX0_feastOn_9 : decode cX0_feastOn 9 = .ok (.getfield 21, 3) := by decide +kernel
theorem dX0_feastOn_12 : decode cX0_feastOn 12 = .ok (.iload_n 2, 1) := by decide +kernel
theorem dX0_feastOn_13 : decode cX0_feastOn 13 = .ok (.iconst 0, 1) := by decide +kernel
theorem dX0_feastOn_14 : decode cX0_feastOn 14 = .ok (.iastore, 1) := by decide +kernel
theorem dX0_feastOn_15 : decode cX0_feastOn 15 = .ok (.iinc 2 1, 3) := by decide +kernel
theorem dX0_feastOn_18 : decode cX0_feastOn 18 = .ok (.goto (-16), 3) := by decide +kernel
theorem dX0_feastOn_21 : decode cX0_feastOn 21 = .ok (.iconst 0, 1) := by decide +kernel
theorem dX0_feastOn_22 : decode cX0_feastOn 22 = .ok (.istore_n 2, 1) := by decide +kernel
theorem dX0_feastOn_23 : decode cX0_feastOn 23 = .ok (.iload_n 2, 1) := by decide +kernel
theorem dX0_feastOn_24 : decode cX0_feastOn 24 = .ok (.bipush 6, 2) := by decide +kernel
theorem dX0_feastOn_26 : decode cX0_feastOn 26 = .ok (.if_icmp .ge 35, 3) := by decide +kernel
theorem dX0_feastOn_29 : decode cX0_feastOn 29 = .ok (.aload_n 0, 1) := by decide +kernel
theorem dX0_feastOn_30 : decode cX0_feastOn 30 = .ok (.iload_n 2, 1) := by decide +kernel
theorem dX0_feastOn_31 : decode cX0_feastOn 31 = .ok (.iload_n 1, 1) := by decide +kernel
theorem dX0_feastOn_32 : decode cX0_feastOn 32 = .ok (.invokevirtual 53, 3) := by decide +kernel
theorem dX0_feastOn_35 : decode cX0_feastOn 35 = .ok (.istore_n 3, 1) := by decide +kernel
theorem dX0_feastOn_36 : decode cX0_feastOn 36 = .ok (.iload_n 3, 1) := by decide +kernel
theorem dX0_feastOn_37 : decode cX0_feastOn 37 = .ok (.bipush 8, 2) := by decide +kernel
theorem dX0_feastOn_39 : decode cX0_feastOn 39 = .ok (.invokestatic 34, 3) := by decide +kernel
theorem dX0_feastOn_42 : decode cX0_feastOn 42 = .ok (.ifCond .eq 13, 3) := by decide +kernel
theorem dX0_feastOn_45 : decode cX0_feastOn 45 = .ok (.aload_n 0, 1) := by decide +kernel
theorem dX0_feastOn_46 : decode cX0_feastOn 46 = .ok (.getfield 21, 3) := by decide +kernel
theorem dX0_feastOn_49 : decode cX0_feastOn 49 = .ok (.iload_n 3, 1) := by decide +kernel
theorem dX0_feastOn_50 : decode cX0_feastOn 50 = .ok (.dup2, 1) := by decide +kernel
theorem dX0_feastOn_51 : decode cX0_feastOn 51 = .ok (.iaload, 1) := by decide +kernel
theorem dX0_feastOn_52 : decode cX0_feastOn 52 = .ok (.iconst 1, 1) := by decide +kernel
theorem dX0_feastOn_53 : decode cX0_feastOn 53 = .ok (.iadd, 1) := by decide +kernel
theorem dX0_feastOn_54 : decode cX0_feastOn 54 = .ok (.iastore, 1) := by decide +kernel
theorem dX0_feastOn_55 : decode cX0_feastOn 55 = .ok (.iinc 2 1, 3) := by decide +kernel
theorem dX0_feastOn_58 : decode cX0_feastOn 58 = .ok (.goto (-35), 3) := by decide +kernel
theorem dX0_feastOn_61 : decode cX0_feastOn 61 = .ok (.iconst 0, 1) := by decide +kernel
theorem dX0_feastOn_62 : decode cX0_feastOn 62 = .ok (.istore_n 2, 1) := by decide +kernel
theorem dX0_feastOn_63 : decode cX0_feastOn 63 = .ok (.bipush (-6), 2) := by decide +kernel
theorem dX0_feastOn_65 : decode cX0_feastOn 65 = .ok (.istore_n 3, 1) := by decide +kernel
theorem dX0_feastOn_66 : decode cX0_feastOn 66 = .ok (.iconst 0, 1) := by decide +kernel
theorem dX0_feastOn_67 : decode cX0_feastOn 67 = .ok (.istore 4, 2) := by decide +kernel
theorem dX0_feastOn_69 : decode cX0_feastOn 69 = .ok (.iload 4, 2) := by decide +kernel
theorem dX0_feastOn_71 : decode cX0_feastOn 71 = .ok (.bipush 8, 2) := by decide +kernel
theorem dX0_feastOn_73 : decode cX0_feastOn 73 = .ok (.if_icmp .ge 31, 3) := by decide +kernel
theorem dX0_feastOn_76 : decode cX0_feastOn 76 = .ok (.aload_n 0, 1) := by decide +kernel
theorem dX0_feastOn_77 : decode cX0_feastOn 77 = .ok (.getfield 21, 3) := by decide +kernel
theorem dX0_feastOn_80 : decode cX0_feastOn 80 = .ok (.iload 4, 2) := by decide +kernel
theorem dX0_feastOn_82 : decode cX0_feastOn 82 = .ok (.iaload, 1) := by decide +kernel
theorem dX0_feastOn_83 : decode cX0_feastOn 83 = .ok (.iload_n 2, 1) := by decide +kernel
theorem dX0_feastOn_84 : decode cX0_feastOn 84 = .ok (.if_icmp .le 14, 3) := by decide +kernel
theorem dX0_feastOn_87 : decode cX0_feastOn 87 = .ok (.aload_n 0, 1) := by decide +kernel
theorem dX0_feastOn_88 : decode cX0_feastOn 88 = .ok (.getfield 21, 3) := by decide +kernel
theorem dX0_feastOn_91 : decode cX0_feastOn 91 = .ok (.iload 4, 2) := by decide +kernel
theorem dX0_feastOn_93 : decode cX0_feastOn 93 = .ok (.iaload, 1) := by decide +kernel
theorem dX0_feastOn_94 : decode cX0_feastOn 94 = .ok (.istore_n 2, 1) := by decide +kernel
theorem dX0_feastOn_95 : decode cX0_feastOn 95 = .ok (.iload 4, 2) := by decide +kernel
theorem dX0_feastOn_97 : decode cX0_feastOn 97 = .ok (.istore_n 3, 1) := by decide +kernel
theorem dX0_feastOn_98 : decode cX0_feastOn 98 = .ok (.iinc 4 1, 3) := by decide +kernel
theorem dX0_feastOn_101 : decode cX0_feastOn 101 = .ok (.goto (-32), 3) := by decide +kernel
theorem dX0_feastOn_104 : decode cX0_feastOn 104 = .ok (.iload_n 3, 1) := by decide +kernel
theorem dX0_feastOn_105 : decode cX0_feastOn 105 = .ok (.ireturn, 1) := by decide +kernel
theorem dX0_areTwins_0 : decode cX0_areTwins 0 = .ok (.aload_n 0, 1) := by decide +kernel
theorem dX0_areTwins_1 : decode cX0_areTwins 1 = .ok (.iload_n 1, 1) := by decide +kernel
theorem dX0_areTwins_2 : decode cX0_areTwins 2 = .ok (.iload_n 2, 1) := by decide +kernel
theorem dX0_areTwins_3 : decode cX0_areTwins 3 = .ok (.iconst (-1), 1) := by decide +kernel
theorem dX0_areTwins_4 : decode cX0_areTwins 4 = .ok (.invokevirtual 87, 3) := by decide +kernel
theorem dX0_areTwins_7 : decode cX0_areTwins 7 = .ok (.ifCond .ne 13, 3) := by decide +kernel
theorem dX0_areTwins_10 : decode cX0_areTwins 10 = .ok (.aload_n 0, 1) := by decide +kernel
theorem dX0_areTwins_11 : decode cX0_areTwins 11 = .ok (.iload_n 1, 1) := by decide +kernel
theorem dX0_areTwins_12 : decode cX0_areTwins 12 = .ok (.iload_n 2, 1) := by decide +kernel
theorem dX0_areTwins_13 : decode cX0_areTwins 13 = .ok (.iconst 1, 1) := by decide +kernel
theorem dX0_areTwins_14 : decode cX0_areTwins 14 = .ok (.invokevirtual 87, 3) := by decide +kernel
theorem dX0_areTwins_17 : decode cX0_areTwins 17 = .ok (.ifCond .eq 7, 3) := by decide +kernel
theorem dX0_areTwins_20 : decode cX0_areTwins 20 = .ok (.iconst 1, 1) := by decide +kernel
theorem dX0_areTwins_21 : decode cX0_areTwins 21 = .ok (.goto 4, 3) := by decide +kernel
theorem dX0_areTwins_24 : decode cX0_areTwins 24 = .ok (.iconst 0, 1) := by decide +kernel
theorem dX0_areTwins_25 : decode cX0_areTwins 25 = .ok (.ireturn, 1) := by decide +kernel
theorem dX0_isDelayed_0 : decode cX0_isDelayed 0 = .ok (.iconst 0, 1) := by decide +kernel
theorem dX0_isDelayed_1 : decode cX0_isDelayed 1 = .ok (.istore 4, 2) := by decide +kernel
theorem dX0_isDelayed_3 : decode cX0_isDelayed 3 = .ok (.iload 4, 2) := by decide +kernel
theorem dX0_isDelayed_5 : decode cX0_isDelayed 5 = .ok (.sipush 840, 3) := by decide +kernel
theorem dX0_isDelayed_8 : decode cX0_isDelayed 8 = .ok (.if_icmp .ge 30, 3) := by decide +kernel
theorem dX0_isDelayed_11 : decode cX0_isDelayed 11 = .ok (.aload_n 0, 1) := by decide +kernel
theorem dX0_isDelayed_12 : decode cX0_isDelayed 12 = .ok (.iload_n 2, 1) := by decide +kernel
theorem dX0_isDelayed_13 : decode cX0_isDelayed 13 = .ok (.iload 4, 2) := by decide +kernel
theorem dX0_isDelayed_15 : decode cX0_isDelayed 15 = .ok (.invokevirtual 53, 3) := by decide +kernel
theorem dX0_isDelayed_18 : decode cX0_isDelayed 18 = .ok (.aload_n 0, 1) := by decide +kernel
theorem dX0_isDelayed_19 : decode cX0_isDelayed 19 = .ok (.iload_n 1, 1) := by decide +kernel
theorem dX0_isDelayed_20 : decode cX0_isDelayed 20 = .ok (.iload 4, 2) := by decide +kernel
theorem dX0_isDelayed_22 : decode cX0_isDelayed 22 = .ok (.iload_n 3, 1) := by decide +kernel
theorem dX0_isDelayed_23 : decode cX0_isDelayed 23 = .ok (.iadd, 1) := by decide +kernel
theorem dX0_isDelayed_24 : decode cX0_isDelayed 24 = .ok (.invokevirtual 53, 3) := by decide +kernel
theorem dX0_isDelayed_27 : decode cX0_isDelayed 27 = .ok (.if_icmp .eq 5, 3) := by decide +kernel
theorem dX0_isDelayed_30 : decode cX0_isDelayed 30 = .ok (.iconst 0, 1) := by decide +kernel
theorem dX0_isDelayed_31 : decode cX0_isDelayed 31 = .ok (.ireturn, 1) := by decide +kernel
theorem dX0_isDelayed_32 : decode cX0_isDelayed 32 = .ok (.iinc 4 1, 3) := by decide +kernel
theorem dX0_isDelayed_35 : decode cX0_isDelayed 35 = .ok (.goto (-32), 3) := by decide +kernel
theorem dX0_isDelayed_38 : decode cX0_isDelayed 38 = .ok (.iconst 1, 1) := by decide +kernel
theorem dX0_isDelayed_39 : decode cX0_isDelayed 39 = .ok (.ireturn, 1) := by decide +kernel
theorem dX1_init_0 : decode cX1_init 0 = .ok (.aload_n 0, 1) := by decide +kernel
theorem dX1_init_1 : decode cX1_init 1 = .ok (.invokespecial 1, 3) := by decide +kernel
theorem dX1_init_4 : decode cX1_init 4 = .ok (.aload_n 0, 1) := by decide +kernel
theorem dX1_init_5 : decode cX1_init 5 = .ok (.new 7, 3) := by decide +kernel
theorem dX1_init_8 : decode cX1_init 8 = .ok (.dup, 1) := by decide +kernel
theorem dX1_init_9 : decode cX1_init 9 = .ok (.invokespecial 9, 3) := by decide +kernel
theorem dX1_init_12 : decode cX1_init 12 = .ok (.putfield 10, 3) := by decide +kernel
theorem dX1_init_15 : decode cX1_init 15 = .ok (.aload_n 0, 1) := by decide +kernel
theorem dX1_init_16 : decode cX1_init 16 = .ok (.new 16, 3) := by decide +kernel
theorem dX1_init_19 : decode cX1_init 19 = .ok (.dup, 1) := by decide +kernel
theorem dX1_init_20 : decode cX1_init 20 = .ok (.invokespecial 18, 3) := by decide +kernel
theorem dX1_init_23 : decode cX1_init 23 = .ok (.putfield 19, 3) := by decide +kernel
theorem dX1_init_26 : decode cX1_init 26 = .ok (.aload_n 0, 1) := by decide +kernel
theorem dX1_init_27 : decode cX1_init 27 = .ok (.new 23, 3) := by decide +kernel
theorem dX1_init_30 : decode cX1_init 30 = .ok (.dup, 1) := by decide +kernel
theorem dX1_init_31 : decode cX1_init 31 = .ok (.invokespecial 25, 3) := by decide +kernel
theorem dX1_init_34 : decode cX1_init 34 = .ok (.putfield 26, 3) := by decide +kernel
theorem dX1_init_37 : decode cX1_init 37 = .ok (.return_, 1) := by decide +kernel
theorem dX1_become_0 : decode cX1_become 0 = .ok (.aload_n 1, 1) := by decide +kernel
theorem dX1_become_1 : decode cX1_become 1 = .ok (.ifnonnull 4, 3) := by decide +kernel
theorem dX1_become_4 : decode cX1_become 4 = .ok (.return_, 1) := by decide +kernel
theorem dX1_become_5 : decode cX1_become 5 = .ok (.aload_n 0, 1) := by decide +kernel
theorem dX1_become_6 : decode cX1_become 6 = .ok (.getfield 10, 3) := by decide +kernel
theorem dX1_become_9 : decode cX1_become 9 = .ok (.aload_n 1, 1) := by decide +kernel
theorem dX1_become_10 : decode cX1_become 10 = .ok (.getfield 10, 3) := by decide +kernel
theorem dX1_become_13 : decode cX1_become 13 = .ok (.invokevirtual 30, 3) := by decide +kernel
theorem dX1_become_16 : decode cX1_become 16 = .ok (.aload_n 0, 1) := by decide +kernel
theorem dX1_become_17 : decode cX1_become 17 = .ok (.getfield 19, 3) := by decide +kernel
theorem dX1_become_20 : decode cX1_become 20 = .ok (.aload_n 1, 1) := by decide +kernel
theorem dX1_become_21 : decode cX1_become 21 = .ok (.getfield 19, 3) := by decide +kernel
theorem dX1_become_24 : decode cX1_become 24 = .ok (.invokevirtual 34, 3) := by decide +kernel
theorem dX1_become_27 : decode cX1_become 27 = .ok (.aload_n 0, 1) := by decide +kernel
theorem dX1_become_28 : decode cX1_become 28 = .ok (.getfield 26, 3) := by decide +kernel
theorem dX1_become_31 : decode cX1_become 31 = .ok (.aload_n 1, 1) := by decide +kernel
theorem dX1_become_32 : decode cX1_become 32 = .ok (.getfield 26, 3) := by decide +kernel
theorem dX1_become_35 : decode cX1_become 35 = .ok (.invokevirtual 37, 3) := by decide +kernel
theorem dX1_become_38 : decode cX1_become 38 = .ok (.return_, 1) := by decide +kernel
theorem dX1_isDoable_0 : decode cX1_isDoable 0 = .ok (.aload_n 0, 1) := by decide +kernel
theorem dX1_isDoable_1 : decode cX1_isDoable 1 = .ok (.getfield 10, 3) := by decide +kernel
theorem dX1_isDoable_4 : decode cX1_isDoable 4 = .ok (.aload_n 0, 1) := by decide +kernel
theorem dX1_isDoable_5 : decode cX1_isDoable 5 = .ok (.getfield 19, 3) := by decide +kernel
theorem dX1_isDoable_8 : decode cX1_isDoable 8 = .ok (.iload_n 1, 1) := by decide +kernel
theorem dX1_isDoable_9 : decode cX1_isDoable 9 = .ok (.invokevirtual 40, 3) := by decide +kernel
theorem dX1_isDoable_12 : decode cX1_isDoable 12 = .ok (.aload_n 0, 1) := by decide +kernel
theorem dX1_isDoable_13 : decode cX1_isDoable 13 = .ok (.getfield 19, 3) := by decide +kernel
theorem dX1_isDoable_16 : decode cX1_isDoable 16 = .ok (.iload_n 1, 1) := by decide +kernel
theorem dX1_isDoable_17 : decode cX1_isDoable 17 = .ok (.invokevirtual 44, 3) := by decide +kernel
theorem dX1_isDoable_20 : decode cX1_isDoable 20 = .ok (.iload_n 2, 1) := by decide +kernel
theorem dX1_isDoable_21 : decode cX1_isDoable 21 = .ok (.invokevirtual 47, 3) := by decide +kernel
theorem dX1_isDoable_24 : decode cX1_isDoable 24 = .ok (.ireturn, 1) := by decide +kernel
theorem dX1_isBarred_0 : decode cX1_isBarred 0 = .ok (.aload_n 0, 1) := by decide +kernel
theorem dX1_isBarred_1 : decode cX1_isBarred 1 = .ok (.getfield 10, 3) := by decide +kernel
theorem dX1_isBarred_4 : decode cX1_isBarred 4 = .ok (.aload_n 0, 1) := by decide +kernel
theorem dX1_isBarred_5 : decode cX1_isBarred 5 = .ok (.getfield 19, 3) := by decide +kernel
theorem dX1_isBarred_8 : decode cX1_isBarred 8 = .ok (.iload_n 1, 1) := by decide +kernel
theorem dX1_isBarred_9 : decode cX1_isBarred 9 = .ok (.invokevirtual 40, 3) := by decide +kernel
theorem dX1_isBarred_12 : decode cX1_isBarred 12 = .ok (.aload_n 0, 1) := by decide +kernel
theorem dX1_isBarred_13 : decode cX1_isBarred 13 = .ok (.getfield 19, 3) := by decide +kernel
theorem dX1_isBarred_16 : decode cX1_isBarred 16 = .ok (.iload_n 1, 1) := by decide +kernel
theorem dX1_isBarred_17 : decode cX1_isBarred 17 = .ok (.invokevirtual 44, 3) := by decide +kernel
theorem dX1_isBarred_20 : decode cX1_isBarred 20 = .ok (.invokevirtual 51, 3) := by decide +kernel
theorem dX1_isBarred_23 : decode cX1_isBarred 23 = .ok (.ifCond .ne 7, 3) := by decide +kernel
theorem dX1_isBarred_26 : decode cX1_isBarred 26 = .ok (.iconst 1, 1) := by decide +kernel
theorem dX1_isBarred_27 : decode cX1_isBarred 27 = .ok (.goto 4, 3) := by decide +kernel
theorem dX1_isBarred_30 : decode cX1_isBarred 30 = .ok (.iconst 0, 1) := by decide +kernel
theorem dX1_isBarred_31 : decode cX1_isBarred 31 = .ok (.ireturn, 1) := by decide +kernel
theorem dX1_fitsSights_0 : decode cX1_fitsSights 0 = .ok (.aload_n 0, 1) := by decide +kernel
theorem dX1_fitsSights_1 : decode cX1_fitsSights 1 = .ok (.getfield 10, 3) := by decide +kernel
theorem dX1_fitsSights_4 : decode cX1_fitsSights 4 = .ok (.iload_n 1, 1) := by decide +kernel
theorem dX1_fitsSights_5 : decode cX1_fitsSights 5 = .ok (.invokevirtual 55, 3) := by decide +kernel
theorem dX1_fitsSights_8 : decode cX1_fitsSights 8 = .ok (.ifCond .ne 5, 3) := by decide +kernel
theorem dX1_fitsSights_11 : decode cX1_fitsSights 11 = .ok (.iconst 0, 1) := by decide +kernel
theorem dX1_fitsSights_12 : decode cX1_fitsSights 12 = .ok (.ireturn, 1) := by decide +kernel
theorem dX1_fitsSights_13 : decode cX1_fitsSights 13 = .ok (.iconst 0, 1) := by decide +kernel
theorem dX1_fitsSights_14 : decode cX1_fitsSights 14 = .ok (.istore_n 3, 1) := by decide +kernel
theorem dX1_fitsSights_15 : decode cX1_fitsSights 15 = .ok (.iload_n 3, 1) := by decide +kernel
theorem dX1_fitsSights_16 : decode cX1_fitsSights 16 = .ok (.aload_n 0, 1) := by decide +kernel
theorem dX1_fitsSights_17 : decode cX1_fitsSights 17 = .ok (.getfield 26, 3) := by decide +kernel
theorem dX1_fitsSights_20 : decode cX1_fitsSights 20 = .ok (.getfield 59, 3) := by decide +kernel
theorem dX1_fitsSights_23 : decode cX1_fitsSights 23 = .ok (.if_icmp .ge 47, 3) := by decide +kernel
theorem dX1_fitsSights_26 : decode cX1_fitsSights 26 = .ok (.aload_n 0, 1) := by decide +kernel
theorem dX1_fitsSights_27 : decode cX1_fitsSights 27 = .ok (.getfield 10, 3) := by decide +kernel
theorem dX1_fitsSights_30 : decode cX1_fitsSights 30 = .ok (.iload_n 1, 1) := by decide +kernel
theorem dX1_fitsSights_31 : decode cX1_fitsSights 31 = .ok (.aload_n 0, 1) := by decide +kernel
theorem dX1_fitsSights_32 : decode cX1_fitsSights 32 = .ok (.getfield 26, 3) := by decide +kernel
theorem dX1_fitsSights_35 : decode cX1_fitsSights 35 = .ok (.iload_n 3, 1) := by decide +kernel
theorem dX1_fitsSights_36 : decode cX1_fitsSights 36 = .ok (.invokevirtual 63, 3) := by decide +kernel
theorem dX1_fitsSights_39 : decode cX1_fitsSights 39 = .ok (.invokevirtual 66, 3) := by decide +kernel
theorem dX1_fitsSights_42 : decode cX1_fitsSights 42 = .ok (.iload_n 2, 1) := by decide +kernel
theorem dX1_fitsSights_43 : decode cX1_fitsSights 43 = .ok (.if_icmp .ne 7, 3) := by decide +kernel
theorem dX1_fitsSights_46 : decode cX1_fitsSights 46 = .ok (.iconst 1, 1) := by decide +kernel
theorem dX1_fitsSights_47 : decode cX1_fitsSights 47 = .ok (.goto 4, 3) := by decide +kernel
theorem dX1_fitsSights_50 : decode cX1_fitsSights 50 = .ok (.iconst 0, 1) := by decide +kernel
theorem dX1_fitsSights_51 : decode cX1_fitsSights 51 = .ok (.aload_n 0, 1) := by decide +kernel
theorem dX1_fitsSights_52 : decode cX1_fitsSights 52 = .ok (.getfield 26, 3) := by decide +kernel
theorem dX1_fitsSights_55 : decode cX1_fitsSights 55 = .ok (.iload_n 3, 1) := by decide +kernel
theorem dX1_fitsSights_56 : decode cX1_fitsSights 56 = .ok (.invokevirtual 70, 3) := by decide +kernel
theorem dX1_fitsSights_59 : decode cX1_fitsSights 59 = .ok (.if_icmp .eq 5, 3) := by decide +kernel
theorem dX1_fitsSights_62 : decode cX1_fitsSights 62 = .ok (.iconst 0, 1) := by decide +kernel
theorem dX1_fitsSights_63 : decode cX1_fitsSights 63 = .ok (.ireturn, 1) := by decide +kernel
theorem dX1_fitsSights_64 : decode cX1_fitsSights 64 = .ok (.iinc 3 1, 3) := by decide +kernel
theorem dX1_fitsSights_67 : decode cX1_fitsSights 67 = .ok (.goto (-52), 3) := by decide +kernel
theorem dX1_fitsSights_70 : decode cX1_fitsSights 70 = .ok (.iconst 1, 1) := by decide +kernel
theorem dX1_fitsSights_71 : decode cX1_fitsSights 71 = .ok (.ireturn, 1) := by decide +kernel
theorem dX2_init_0 : decode cX2_init 0 = .ok (.aload_n 0, 1) := by decide +kernel
theorem dX2_init_1 : decode cX2_init 1 = .ok (.invokespecial 3, 3) := by decide +kernel
theorem dX2_init_4 : decode cX2_init 4 = .ok (.aload_n 0, 1) := by decide +kernel
theorem dX2_init_5 : decode cX2_init 5 = .ok (.bipush 6, 2) := by decide +kernel
theorem dX2_init_7 : decode cX2_init 7 = .ok (.newarray .int, 2) := by decide +kernel
theorem dX2_init_9 : decode cX2_init 9 = .ok (.putfield 9, 3) := by decide +kernel
theorem dX2_init_12 : decode cX2_init 12 = .ok (.aload_n 0, 1) := by decide +kernel
theorem dX2_init_13 : decode cX2_init 13 = .ok (.bipush 6, 2) := by decide +kernel
theorem dX2_init_15 : decode cX2_init 15 = .ok (.newarray .int, 2) := by decide +kernel
theorem dX2_init_17 : decode cX2_init 17 = .ok (.putfield 15, 3) := by decide +kernel
theorem dX2_init_20 : decode cX2_init 20 = .ok (.aload_n 0, 1) := by decide +kernel
theorem dX2_init_21 : decode cX2_init 21 = .ok (.bipush 36, 2) := by decide +kernel
theorem dX2_init_23 : decode cX2_init 23 = .ok (.newarray .int, 2) := by decide +kernel
theorem dX2_init_25 : decode cX2_init 25 = .ok (.putfield 18, 3) := by decide +kernel
theorem dX2_init_28 : decode cX2_init 28 = .ok (.aload_n 0, 1) := by decide +kernel
theorem dX2_init_29 : decode cX2_init 29 = .ok (.bipush 6, 2) := by decide +kernel
theorem dX2_init_31 : decode cX2_init 31 = .ok (.newarray .int, 2) := by decide +kernel
theorem dX2_init_33 : decode cX2_init 33 = .ok (.putfield 21, 3) := by decide +kernel
theorem dX2_init_36 : decode cX2_init 36 = .ok (.aload_n 0, 1) := by decide +kernel
theorem dX2_init_37 : decode cX2_init 37 = .ok (.bipush 6, 2) := by decide +kernel
theorem dX2_init_39 : decode cX2_init 39 = .ok (.newarray .int, 2) := by decide +kernel
theorem dX2_init_41 : decode cX2_init 41 = .ok (.putfield 24, 3) := by decide +kernel
theorem dX2_init_44 : decode cX2_init 44 = .ok (.return_, 1) := by decide +kernel
theorem dX2_settle_0 : decode cX2_settle 0 = .ok (.aload_n 1, 1) := by decide +kernel
theorem dX2_settle_1 : decode cX2_settle 1 = .ok (.ifnonnull 4, 3) := by decide +kernel
theorem dX2_settle_4 : decode cX2_settle 4 = .ok (.return_, 1) := by decide +kernel
theorem dX2_settle_5 : decode cX2_settle 5 = .ok (.aload_n 0, 1) := by decide +kernel
theorem dX2_settle_6 : decode cX2_settle 6 = .ok (.aload_n 1, 1) := by decide +kernel
theorem dX2_settle_7 : decode cX2_settle 7 = .ok (.getfield 27, 3) := by decide +kernel
theorem dX2_settle_10 : decode cX2_settle 10 = .ok (.getfield 33, 3) := by decide +kernel
theorem dX2_settle_13 : decode cX2_settle 13 = .ok (.bipush 6, 2) := by decide +kernel
theorem dX2_settle_15 : decode cX2_settle 15 = .ok (.invokestatic 39, 3) := by decide +kernel
theorem dX2_settle_18 : decode cX2_settle 18 = .ok (.putfield 45, 3) := by decide +kernel
theorem dX2_settle_21 : decode cX2_settle 21 = .ok (.aload_n 0, 1) := by decide +kernel
theorem dX2_settle_22 : decode cX2_settle 22 = .ok (.iconst (-1), 1) := by decide +kernel
theorem dX2_settle_23 : decode cX2_settle 23 = .ok (.putfield 48, 3) := by decide +kernel
theorem dX2_settle_26 : decode cX2_settle 26 = .ok (.iconst 0, 1) := by decide +kernel
theorem dX2_settle_27 : decode cX2_settle 27 = .ok (.istore_n 3, 1) := by decide +kernel
theorem dX2_settle_28 : decode cX2_settle 28 = .ok (.iload_n 3, 1) := by decide +kernel
theorem dX2_settle_29 : decode cX2_settle 29 = .ok (.aload_n 0, 1) := by decide +kernel
theorem dX2_settle_30 : decode cX2_settle 30 = .ok (.getfield 45, 3) := by decide +kernel
theorem dX2_settle_33 : decode cX2_settle 33 = .ok (.if_icmp .ge 30, 3) := by decide +kernel
theorem dX2_settle_36 : decode cX2_settle 36 = .ok (.aload_n 0, 1) := by decide +kernel
theorem dX2_settle_37 : decode cX2_settle 37 = .ok (.getfield 9, 3) := by decide +kernel
theorem dX2_settle_40 : decode cX2_settle 40 = .ok (.iload_n 3, 1) := by decide +kernel
theorem dX2_settle_41 : decode cX2_settle 41 = .ok (.aload_n 1, 1) := by decide +kernel
theorem dX2_settle_42 : decode cX2_settle 42 = .ok (.getfield 27, 3) := by decide +kernel
theorem dX2_settle_45 : decode cX2_settle 45 = .ok (.iload_n 3, 1) := by decide +kernel
theorem dX2_settle_46 : decode cX2_settle 46 = .ok (.invokevirtual 51, 3) := by decide +kernel
theorem dX2_settle_49 : decode cX2_settle 49 = .ok (.iastore, 1) := by decide +kernel
theorem dX2_settle_50 : decode cX2_settle 50 = .ok (.aload_n 0, 1) := by decide +kernel
theorem dX2_settle_51 : decode cX2_settle 51 = .ok (.aload_n 1, 1) := by decide +kernel
theorem dX2_settle_52 : decode cX2_settle 52 = .ok (.iload_n 3, 1) := by decide +kernel
theorem dX2_settle_53 : decode cX2_settle 53 = .ok (.iload_n 2, 1) := by decide +kernel
theorem dX2_settle_54 : decode cX2_settle 54 = .ok (.invokevirtual 55, 3) := by decide +kernel
theorem dX2_settle_57 : decode cX2_settle 57 = .ok (.iinc 3 1, 3) := by decide +kernel
theorem dX2_settle_60 : decode cX2_settle 60 = .ok (.goto (-32), 3) := by decide +kernel
theorem dX2_settle_63 : decode cX2_settle 63 = .ok (.aload_n 0, 1) := by decide +kernel
theorem dX2_settle_64 : decode cX2_settle 64 = .ok (.iconst 0, 1) := by decide +kernel
theorem dX2_settle_65 : decode cX2_settle 65 = .ok (.iconst 0, 1) := by decide +kernel
theorem dX2_settle_66 : decode cX2_settle 66 = .ok (.invokestatic 59, 3) := by decide +kernel
theorem dX2_settle_69 : decode cX2_settle 69 = .ok (.return_, 1) := by decide +kernel
theorem dX2_dateOf_0 : decode cX2_dateOf 0 = .ok (.iload_n 1, 1) := by decide +kernel
theorem dX2_dateOf_1 : decode cX2_dateOf 1 = .ok (.aload_n 0, 1) := by decide +kernel
theorem dX2_dateOf_2 : decode cX2_dateOf 2 = .ok (.getfield 45, 3) := by decide +kernel
theorem dX2_dateOf_5 : decode cX2_dateOf 5 = .ok (.invokestatic 63, 3) := by decide +kernel
theorem dX2_dateOf_8 : decode cX2_dateOf 8 = .ok (.ifCond .eq 12, 3) := by decide +kernel
theorem dX2_dateOf_11 : decode cX2_dateOf 11 = .ok (.aload_n 0, 1) := by decide +kernel
theorem dX2_dateOf_12 : decode cX2_dateOf 12 = .ok (.getfield 24, 3) := by decide +kernel
theorem dX2_dateOf_15 : decode cX2_dateOf 15 = .ok (.iload_n 1, 1) := by decide +kernel
theorem dX2_dateOf_16 : decode cX2_dateOf 16 = .ok (.iaload, 1) := by decide +kernel
theorem dX2_dateOf_17 : decode cX2_dateOf 17 = .ok (.goto 5, 3) := by decide +kernel
theorem dX2_dateOf_20 : decode cX2_dateOf 20 = .ok (.bipush (-6), 2) := by decide +kernel
theorem dX2_dateOf_22 : decode cX2_dateOf 22 = .ok (.ireturn, 1) := by decide +kernel
theorem dX2_collect_0 : decode cX2_collect 0 = .ok (.iconst 0, 1) := by decide +kernel
theorem dX2_collect_1 : decode cX2_collect 1 = .ok (.istore 4, 2) := by decide +kernel
theorem dX2_collect_3 : decode cX2_collect 3 = .ok (.iload_n 3, 1) := by decide +kernel
theorem dX2_collect_4 : decode cX2_collect 4 = .ok (.istore 5, 2) := by decide +kernel
theorem dX2_collect_6 : decode cX2_collect 6 = .ok (.iload 5, 2) := by decide +kernel
theorem dX2_collect_8 : decode cX2_collect 8 = .ok (.iload_n 3, 1) := by decide +kernel
theorem dX2_collect_9 : decode cX2_collect 9 = .ok (.bipush 30, 2) := by decide +kernel
theorem dX2_collect_11 : decode cX2_collect 11 = .ok (.iadd, 1) := by decide +kernel
theorem dX2_collect_12 : decode cX2_collect 12 = .ok (.if_icmp .ge 43, 3) := by decide +kernel
theorem dX2_collect_15 : decode cX2_collect 15 = .ok (.iload 4, 2) := by decide +kernel
theorem dX2_collect_17 : decode cX2_collect 17 = .ok (.bipush 6, 2) := by decide +kernel
theorem dX2_collect_19 : decode cX2_collect 19 = .ok (.if_icmp .ge 36, 3) := by decide +kernel
theorem dX2_collect_22 : decode cX2_collect 22 = .ok (.aload_n 1, 1) := by decide +kernel
theorem dX2_collect_23 : decode cX2_collect 23 = .ok (.iload_n 2, 1) := by decide +kernel
theorem dX2_collect_24 : decode cX2_collect 24 = .ok (.iload 5, 2) := by decide +kernel
theorem dX2_collect_26 : decode cX2_collect 26 = .ok (.invokevirtual 67, 3) := by decide +kernel
theorem dX2_collect_29 : decode cX2_collect 29 = .ok (.ifCond .eq 20, 3) := by decide +kernel
theorem dX2_collect_32 : decode cX2_collect 32 = .ok (.aload_n 0, 1) := by decide +kernel
theorem dX2_collect_33 : decode cX2_collect 33 = .ok (.getfield 18, 3) := by decide +kernel
theorem dX2_collect_36 : decode cX2_collect 36 = .ok (.iload_n 2, 1) := by decide +kernel
theorem dX2_collect_37 : decode cX2_collect 37 = .ok (.bipush 6, 2) := by decide +kernel
theorem dX2_collect_39 : decode cX2_collect 39 = .ok (.imul, 1) := by decide +kernel
theorem dX2_collect_40 : decode cX2_collect 40 = .ok (.iload 4, 2) := by decide +kernel
theorem dX2_collect_42 : decode cX2_collect 42 = .ok (.iadd, 1) := by decide +kernel
theorem dX2_collect_43 : decode cX2_collect 43 = .ok (.iload 5, 2) := by decide +kernel
theorem dX2_collect_45 : decode cX2_collect 45 = .ok (.iastore, 1) := by decide +kernel
theorem dX2_collect_46 : decode cX2_collect 46 = .ok (.iinc 4 1, 3) := by decide +kernel
theorem dX2_collect_49 : decode cX2_collect 49 = .ok (.iinc 5 1, 3) := by decide +kernel
theorem dX2_collect_52 : decode cX2_collect 52 = .ok (.goto (-46), 3) := by decide +kernel
theorem dX2_collect_55 : decode cX2_collect 55 = .ok (.aload_n 0, 1) := by decide +kernel
theorem dX2_collect_56 : decode cX2_collect 56 = .ok (.getfield 15, 3) := by decide +kernel
theorem dX2_collect_59 : decode cX2_collect 59 = .ok (.iload_n 2, 1) := by decide +kernel
theorem dX2_collect_60 : decode cX2_collect 60 = .ok (.iload 4, 2) := by decide +kernel
theorem dX2_collect_62 : decode cX2_collect 62 = .ok (.iastore, 1) := by decide +kernel
theorem dX2_collect_63 : decode cX2_collect 63 = .ok (.return_, 1) := by decide +kernel
theorem dX2_search_0 : decode cX2_search 0 = .ok (.aload_n 0, 1) := by decide +kernel
theorem dX2_search_1 : decode cX2_search 1 = .ok (.ifnull 18, 3) := by decide +kernel
theorem dX2_search_4 : decode cX2_search 4 = .ok (.iload_n 2, 1) := by decide +kernel
theorem dX2_search_5 : decode cX2_search 5 = .ok (.aload_n 0, 1) := by decide +kernel
theorem dX2_search_6 : decode cX2_search 6 = .ok (.getfield 45, 3) := by decide +kernel
theorem dX2_search_9 : decode cX2_search 9 = .ok (.iadd, 1) := by decide +kernel
theorem dX2_search_10 : decode cX2_search 10 = .ok (.iload_n 1, 1) := by decide +kernel
theorem dX2_search_11 : decode cX2_search 11 = .ok (.isub, 1) := by decide +kernel
theorem dX2_search_12 : decode cX2_search 12 = .ok (.aload_n 0, 1) := by decide +kernel
theorem dX2_search_13 : decode cX2_search 13 = .ok (.getfield 48, 3) := by decide +kernel
theorem dX2_search_16 : decode cX2_search 16 = .ok (.if_icmp .gt 4, 3) := by decide +kernel
theorem dX2_search_19 : decode cX2_search 19 = .ok (.return_, 1) := by decide +kernel
theorem dX2_search_20 : decode cX2_search 20 = .ok (.iload_n 1, 1) := by decide +kernel
theorem dX2_search_21 : decode cX2_search 21 = .ok (.aload_n 0, 1) := by decide +kernel
theorem dX2_search_22 : decode cX2_search 22 = .ok (.getfield 45, 3) := by decide +kernel
theorem dX2_search_25 : decode cX2_search 25 = .ok (.invokestatic 63, 3) := by decide +kernel
theorem dX2_search_28 : decode cX2_search 28 = .ok (.ifCond .ne 9, 3) := by decide +kernel
theorem dX2_search_31 : decode cX2_search 31 = .ok (.aload_n 0, 1) := by decide +kernel
theorem dX2_search_32 : decode cX2_search 32 = .ok (.iload_n 2, 1) := by decide +kernel
theorem dX2_search_33 : decode cX2_search 33 = .ok (.invokevirtual 70, 3) := by decide +kernel
theorem dX2_search_36 : decode cX2_search 36 = .ok (.return_, 1) := by decide +kernel
theorem dX2_search_37 : decode cX2_search 37 = .ok (.iconst 0, 1) := by decide +kernel
theorem dX2_search_38 : decode cX2_search 38 = .ok (.istore_n 3, 1) := by decide +kernel
theorem dX2_search_39 : decode cX2_search 39 = .ok (.iload_n 3, 1) := by decide +kernel
theorem dX2_search_40 : decode cX2_search 40 = .ok (.aload_n 0, 1) := by decide +kernel
theorem dX2_search_41 : decode cX2_search 41 = .ok (.getfield 15, 3) := by decide +kernel
theorem dX2_search_44 : decode cX2_search 44 = .ok (.iload_n 1, 1) := by decide +kernel
theorem dX2_search_45 : decode cX2_search 45 = .ok (.iaload, 1) := by decide +kernel
theorem dX2_search_46 : decode cX2_search 46 = .ok (.if_icmp .ge 50, 3) := by decide +kernel
theorem dX2_search_49 : decode cX2_search 49 = .ok (.aload_n 0, 1) := by decide +kernel
theorem dX2_search_50 : decode cX2_search 50 = .ok (.getfield 18, 3) := by decide +kernel
theorem dX2_search_53 : decode cX2_search 53 = .ok (.iload_n 1, 1) := by decide +kernel
theorem dX2_search_54 : decode cX2_search 54 = .ok (.bipush 6, 2) := by decide +kernel
theorem dX2_search_56 : decode cX2_search 56 = .ok (.imul, 1) := by decide +kernel
theorem dX2_search_57 : decode cX2_search 57 = .ok (.iload_n 3, 1) := by decide +kernel
theorem dX2_search_58 : decode cX2_search 58 = .ok (.iadd, 1) := by decide +kernel
theorem dX2_search_59 : decode cX2_search 59 = .ok (.iaload, 1) := by decide +kernel
theorem dX2_search_60 : decode cX2_search 60 = .ok (.istore 4, 2) := by decide +kernel
theorem dX2_search_62 : decode cX2_search 62 = .ok (.aload_n 0, 1) := by decide +kernel
theorem dX2_search_63 : decode cX2_search 63 = .ok (.iload_n 1, 1) := by decide +kernel
theorem dX2_search_64 : decode cX2_search 64 = .ok (.iload 4, 2) := by decide +kernel
theorem dX2_search_66 : decode cX2_search 66 = .ok (.invokevirtual 74, 3) := by decide +kernel
theorem dX2_search_69 : decode cX2_search 69 = .ok (.ifCond .eq 21, 3) := by decide +kernel
theorem dX2_search_72 : decode cX2_search 72 = .ok (.aload_n 0, 1) := by decide +kernel
theorem dX2_search_73 : decode cX2_search 73 = .ok (.getfield 21, 3) := by decide +kernel
theorem dX2_search_76 : decode cX2_search 76 = .ok (.iload_n 1, 1) := by decide +kernel
theorem dX2_search_77 : decode cX2_search 77 = .ok (.iload 4, 2) := by decide +kernel
theorem dX2_search_79 : decode cX2_search 79 = .ok (.iastore, 1) := by decide +kernel
theorem dX2_search_80 : decode cX2_search 80 = .ok (.aload_n 0, 1) := by decide +kernel
theorem dX2_search_81 : decode cX2_search 81 = .ok (.iload_n 1, 1) := by decide +kernel
theorem dX2_search_82 : decode cX2_search 82 = .ok (.iconst 1, 1) := by decide +kernel
theorem dX2_search_83 : decode cX2_search 83 = .ok (.iadd, 1) := by decide +kernel
theorem dX2_search_84 : decode cX2_search 84 = .ok (.iload_n 2, 1) := by decide +kernel
theorem dX2_search_85 : decode cX2_search 85 = .ok (.iconst 1, 1) := by decide +kernel
theorem dX2_search_86 : decode cX2_search 86 = .ok (.iadd, 1) := by decide +kernel
theorem dX2_search_87 : decode cX2_search 87 = .ok (.invokestatic 59, 3) := by decide +kernel
theorem dX2_search_90 : decode cX2_search 90 = .ok (.iinc 3 1, 3) := by decide +kernel
theorem dX2_search_93 : decode cX2_search 93 = .ok (.goto (-54), 3) := by decide +kernel
theorem dX2_search_96 : decode cX2_search 96 = .ok (.aload_n 0, 1) := by decide +kernel
theorem dX2_search_97 : decode cX2_search 97 = .ok (.getfield 21, 3) := by decide +kernel
theorem dX2_search_100 : decode cX2_search 100 = .ok (.iload_n 1, 1) := by decide +kernel
theorem dX2_search_101 : decode cX2_search 101 = .ok (.bipush (-6), 2) := by decide +kernel
theorem dX2_search_103 : decode cX2_search 103 = .ok (.iastore, 1) := by decide +kernel
theorem dX2_search_104 : decode cX2_search 104 = .ok (.aload_n 0, 1) := by decide +kernel
theorem dX2_search_105 : decode cX2_search 105 = .ok (.iload_n 1, 1) := by decide +kernel
theorem dX2_search_106 : decode cX2_search 106 = .ok (.iconst 1, 1) := by decide +kernel
theorem dX2_search_107 : decode cX2_search 107 = .ok (.iadd, 1) := by decide +kernel
theorem dX2_search_108 : decode cX2_search 108 = .ok (.iload_n 2, 1) := by decide +kernel
theorem dX2_search_109 : decode cX2_search 109 = .ok (.invokestatic 59, 3) := by decide +kernel
theorem dX2_search_112 : decode cX2_search 112 = .ok (.return_, 1) := by decide +kernel
theorem dX2_keep_0 : decode cX2_keep 0 = .ok (.aload_n 0, 1) := by decide +kernel
theorem dX2_keep_1 : decode cX2_keep 1 = .ok (.iload_n 1, 1) := by decide +kernel
theorem dX2_keep_2 : decode cX2_keep 2 = .ok (.putfield 48, 3) := by decide +kernel
theorem dX2_keep_5 : decode cX2_keep 5 = .ok (.aload_n 0, 1) := by decide +kernel
theorem dX2_keep_6 : decode cX2_keep 6 = .ok (.getfield 21, 3) := by decide +kernel
theorem dX2_keep_9 : decode cX2_keep 9 = .ok (.iconst 0, 1) := by decide +kernel
theorem dX2_keep_10 : decode cX2_keep 10 = .ok (.aload_n 0, 1) := by decide +kernel
theorem dX2_keep_11 : decode cX2_keep 11 = .ok (.getfield 24, 3) := by decide +kernel
theorem dX2_keep_14 : decode cX2_keep 14 = .ok (.iconst 0, 1) := by decide +kernel
theorem dX2_keep_15 : decode cX2_keep 15 = .ok (.bipush 6, 2) := by decide +kernel
theorem dX2_keep_17 : decode cX2_keep 17 = .ok (.invokestatic 77, 3) := by decide +kernel
theorem dX2_keep_20 : decode cX2_keep 20 = .ok (.return_, 1) := by decide +kernel
theorem dX2_isFree_0 : decode cX2_isFree 0 = .ok (.iconst 0, 1) := by decide +kernel
theorem dX2_isFree_1 : decode cX2_isFree 1 = .ok (.istore_n 3, 1) := by decide +kernel
theorem dX2_isFree_2 : decode cX2_isFree 2 = .ok (.iload_n 3, 1) := by decide +kernel
theorem dX2_isFree_3 : decode cX2_isFree 3 = .ok (.iload_n 1, 1) := by decide +kernel
theorem dX2_isFree_4 : decode cX2_isFree 4 = .ok (.if_icmp .ge 37, 3) := by decide +kernel
theorem dX2_isFree_7 : decode cX2_isFree 7 = .ok (.aload_n 0, 1) := by decide +kernel
theorem dX2_isFree_8 : decode cX2_isFree 8 = .ok (.getfield 21, 3) := by decide +kernel
theorem dX2_isFree_11 : decode cX2_isFree 11 = .ok (.iload_n 3, 1) := by decide +kernel
theorem dX2_isFree_12 : decode cX2_isFree 12 = .ok (.iaload, 1) := by decide +kernel
theorem dX2_isFree_13 : decode cX2_isFree 13 = .ok (.iload_n 2, 1) := by decide +kernel
theorem dX2_isFree_14 : decode cX2_isFree 14 = .ok (.if_icmp .ne 21, 3) := by decide +kernel
theorem dX2_isFree_17 : decode cX2_isFree 17 = .ok (.aload_n 0, 1) := by decide +kernel
theorem dX2_isFree_18 : decode cX2_isFree 18 = .ok (.getfield 9, 3) := by decide +kernel
theorem dX2_isFree_21 : decode cX2_isFree 21 = .ok (.iload_n 3, 1) := by decide +kernel
theorem dX2_isFree_22 : decode cX2_isFree 22 = .ok (.iaload, 1) := by decide +kernel
theorem dX2_isFree_23 : decode cX2_isFree 23 = .ok (.aload_n 0, 1) := by decide +kernel
theorem dX2_isFree_24 : decode cX2_isFree 24 = .ok (.getfield 9, 3) := by decide +kernel
theorem dX2_isFree_27 : decode cX2_isFree 27 = .ok (.iload_n 1, 1) := by decide +kernel
theorem dX2_isFree_28 : decode cX2_isFree 28 = .ok (.iaload, 1) := by decide +kernel
theorem dX2_isFree_29 : decode cX2_isFree 29 = .ok (.iand, 1) := by decide +kernel
theorem dX2_isFree_30 : decode cX2_isFree 30 = .ok (.ifCond .eq 5, 3) := by decide +kernel
theorem dX2_isFree_33 : decode cX2_isFree 33 = .ok (.iconst 0, 1) := by decide +kernel
theorem dX2_isFree_34 : decode cX2_isFree 34 = .ok (.ireturn, 1) := by decide +kernel
theorem dX2_isFree_35 : decode cX2_isFree 35 = .ok (.iinc 3 1, 3) := by decide +kernel
theorem dX2_isFree_38 : decode cX2_isFree 38 = .ok (.goto (-36), 3) := by decide +kernel
theorem dX2_isFree_41 : decode cX2_isFree 41 = .ok (.iconst 1, 1) := by decide +kernel
theorem dX2_isFree_42 : decode cX2_isFree 42 = .ok (.ireturn, 1) := by decide +kernel
theorem dX3_init_0 : decode cX3_init 0 = .ok (.aload_n 0, 1) := by decide +kernel
theorem dX3_init_1 : decode cX3_init 1 = .ok (.invokespecial 3, 3) := by decide +kernel
theorem dX3_init_4 : decode cX3_init 4 = .ok (.aload_n 0, 1) := by decide +kernel
theorem dX3_init_5 : decode cX3_init 5 = .ok (.bipush 60, 2) := by decide +kernel
theorem dX3_init_7 : decode cX3_init 7 = .ok (.newarray .int, 2) := by decide +kernel
theorem dX3_init_9 : decode cX3_init 9 = .ok (.putfield 9, 3) := by decide +kernel
theorem dX3_init_12 : decode cX3_init 12 = .ok (.return_, 1) := by decide +kernel
theorem dX3_add_0 : decode cX3_add 0 = .ok (.aload_n 0, 1) := by decide +kernel
theorem dX3_add_1 : decode cX3_add 1 = .ok (.getfield 15, 3) := by decide +kernel
theorem dX3_add_4 : decode cX3_add 4 = .ok (.bipush 60, 2) := by decide +kernel
theorem dX3_add_6 : decode cX3_add 6 = .ok (.invokestatic 19, 3) := by decide +kernel
theorem dX3_add_9 : decode cX3_add 9 = .ok (.ifCond .ne 5, 3) := by decide +kernel
theorem dX3_add_12 : decode cX3_add 12 = .ok (.iconst 0, 1) := by decide +kernel
theorem dX3_add_13 : decode cX3_add 13 = .ok (.ireturn, 1) := by decide +kernel
theorem dX3_add_14 : decode cX3_add 14 = .ok (.aload_n 0, 1) := by decide +kernel
theorem dX3_add_15 : decode cX3_add 15 = .ok (.getfield 9, 3) := by decide +kernel
theorem dX3_add_18 : decode cX3_add 18 = .ok (.aload_n 0, 1) := by decide +kernel
theorem dX3_add_19 : decode cX3_add 19 = .ok (.getfield 15, 3) := by decide +kernel
theorem dX3_add_22 : decode cX3_add 22 = .ok (.iload_n 1, 1) := by decide +kernel
theorem dX3_add_23 : decode cX3_add 23 = .ok (.iastore, 1) := by decide +kernel
theorem dX3_add_24 : decode cX3_add 24 = .ok (.aload_n 0, 1) := by decide +kernel
theorem dX3_add_25 : decode cX3_add 25 = .ok (.dup, 1) := by decide +kernel
theorem dX3_add_26 : decode cX3_add 26 = .ok (.getfield 15, 3) := by decide +kernel
theorem dX3_add_29 : decode cX3_add 29 = .ok (.iconst 1, 1) := by decide +kernel
theorem dX3_add_30 : decode cX3_add 30 = .ok (.iadd, 1) := by decide +kernel
theorem dX3_add_31 : decode cX3_add 31 = .ok (.putfield 15, 3) := by decide +kernel
theorem dX3_add_34 : decode cX3_add 34 = .ok (.iconst 1, 1) := by decide +kernel
theorem dX3_add_35 : decode cX3_add 35 = .ok (.ireturn, 1) := by decide +kernel
theorem dX3_signAt_0 : decode cX3_signAt 0 = .ok (.iload_n 1, 1) := by decide +kernel
theorem dX3_signAt_1 : decode cX3_signAt 1 = .ok (.bipush 60, 2) := by decide +kernel
theorem dX3_signAt_3 : decode cX3_signAt 3 = .ok (.invokestatic 19, 3) := by decide +kernel
theorem dX3_signAt_6 : decode cX3_signAt 6 = .ok (.ifCond .eq 12, 3) := by decide +kernel
theorem dX3_signAt_9 : decode cX3_signAt 9 = .ok (.aload_n 0, 1) := by decide +kernel
theorem dX3_signAt_10 : decode cX3_signAt 10 = .ok (.getfield 9, 3) := by decide +kernel
theorem dX3_signAt_13 : decode cX3_signAt 13 = .ok (.iload_n 1, 1) := by decide +kernel
theorem dX3_signAt_14 : decode cX3_signAt 14 = .ok (.iaload, 1) := by decide +kernel
theorem dX3_signAt_15 : decode cX3_signAt 15 = .ok (.goto 4, 3) := by decide +kernel
theorem dX3_signAt_18 : decode cX3_signAt 18 = .ok (.iconst 0, 1) := by decide +kernel
theorem dX3_signAt_19 : decode cX3_signAt 19 = .ok (.ireturn, 1) := by decide +kernel
theorem dX3_orderFault_0 : decode cX3_orderFault 0 = .ok (.iconst 0, 1) := by decide +kernel
theorem dX3_orderFault_1 : decode cX3_orderFault 1 = .ok (.istore_n 1, 1) := by decide +kernel
theorem dX3_orderFault_2 : decode cX3_orderFault 2 = .ok (.iconst 0, 1) := by decide +kernel
theorem dX3_orderFault_3 : decode cX3_orderFault 3 = .ok (.istore_n 2, 1) := by decide +kernel
theorem dX3_orderFault_4 : decode cX3_orderFault 4 = .ok (.iload_n 2, 1) := by decide +kernel
theorem dX3_orderFault_5 : decode cX3_orderFault 5 = .ok (.aload_n 0, 1) := by decide +kernel
theorem dX3_orderFault_6 : decode cX3_orderFault 6 = .ok (.getfield 15, 3) := by decide +kernel
theorem dX3_orderFault_9 : decode cX3_orderFault 9 = .ok (.if_icmp .ge 44, 3) := by decide +kernel
theorem dX3_orderFault_12 : decode cX3_orderFault 12 = .ok (.aload_n 0, 1) := by decide +kernel
theorem dX3_orderFault_13 : decode cX3_orderFault 13 = .ok (.iload_n 2, 1) := by decide +kernel
theorem dX3_orderFault_14 : decode cX3_orderFault 14 = .ok (.invokevirtual 23, 3) := by decide +kernel
theorem dX3_orderFault_17 : decode cX3_orderFault 17 = .ok (.bipush 97, 2) := by decide +kernel
theorem dX3_orderFault_19 : decode cX3_orderFault 19 = .ok (.isub, 1) := by decide +kernel
theorem dX3_orderFault_20 : decode cX3_orderFault 20 = .ok (.istore_n 3, 1) := by decide +kernel
theorem dX3_orderFault_21 : decode cX3_orderFault 21 = .ok (.iload_n 3, 1) := by decide +kernel
theorem dX3_orderFault_22 : decode cX3_orderFault 22 = .ok (.bipush 8, 2) := by decide +kernel
theorem dX3_orderFault_24 : decode cX3_orderFault 24 = .ok (.invokestatic 19, 3) := by decide +kernel
theorem dX3_orderFault_27 : decode cX3_orderFault 27 = .ok (.ifCond .eq 12, 3) := by decide +kernel
theorem dX3_orderFault_30 : decode cX3_orderFault 30 = .ok (.iload_n 1, 1) := by decide +kernel
theorem dX3_orderFault_31 : decode cX3_orderFault 31 = .ok (.iload_n 3, 1) := by decide +kernel
theorem dX3_orderFault_32 : decode cX3_orderFault 32 = .ok (.ishr, 1) := by decide +kernel
theorem dX3_orderFault_33 : decode cX3_orderFault 33 = .ok (.iconst 1, 1) := by decide +kernel
theorem dX3_orderFault_34 : decode cX3_orderFault 34 = .ok (.iand, 1) := by decide +kernel
theorem dX3_orderFault_35 : decode cX3_orderFault 35 = .ok (.iconst 1, 1) := by decide +kernel
theorem dX3_orderFault_36 : decode cX3_orderFault 36 = .ok (.if_icmp .ne 5, 3) := by decide +kernel
theorem dX3_orderFault_39 : decode cX3_orderFault 39 = .ok (.iload_n 2, 1) := by decide +kernel
theorem dX3_orderFault_40 : decode cX3_orderFault 40 = .ok (.ireturn, 1) := by decide +kernel
theorem dX3_orderFault_41 : decode cX3_orderFault 41 = .ok (.iload_n 1, 1) := by decide +kernel
theorem dX3_orderFault_42 : decode cX3_orderFault 42 = .ok (.iconst 1, 1) := by decide +kernel
theorem dX3_orderFault_43 : decode cX3_orderFault 43 = .ok (.iload_n 3, 1) := by decide +kernel
theorem dX3_orderFault_44 : decode cX3_orderFault 44 = .ok (.ishl, 1) := by decide +kernel
theorem dX3_orderFault_45 : decode cX3_orderFault 45 = .ok (.ior, 1) := by decide +kernel
theorem dX3_orderFault_46 : decode cX3_orderFault 46 = .ok (.istore_n 1, 1) := by decide +kernel
theorem dX3_orderFault_47 : decode cX3_orderFault 47 = .ok (.iinc 2 1, 3) := by decide +kernel
theorem dX3_orderFault_50 : decode cX3_orderFault 50 = .ok (.goto (-46), 3) := by decide +kernel
theorem dX3_orderFault_53 : decode cX3_orderFault 53 = .ok (.aload_n 0, 1) := by decide +kernel
theorem dX3_orderFault_54 : decode cX3_orderFault 54 = .ok (.getfield 15, 3) := by decide +kernel
theorem dX3_orderFault_57 : decode cX3_orderFault 57 = .ok (.iconst 5, 1) := by decide +kernel
theorem dX3_orderFault_58 : decode cX3_orderFault 58 = .ok (.if_icmp .ge 10, 3) := by decide +kernel
theorem dX3_orderFault_61 : decode cX3_orderFault 61 = .ok (.aload_n 0, 1) := by decide +kernel
theorem dX3_orderFault_62 : decode cX3_orderFault 62 = .ok (.getfield 15, 3) := by decide +kernel
theorem dX3_orderFault_65 : decode cX3_orderFault 65 = .ok (.goto 5, 3) := by decide +kernel
theorem dX3_orderFault_68 : decode cX3_orderFault 68 = .ok (.bipush (-6), 2) := by decide +kernel
theorem dX3_orderFault_70 : decode cX3_orderFault 70 = .ok (.ireturn, 1) := by decide +kernel
theorem dX3_planFault_0 : decode cX3_planFault 0 = .ok (.iconst 0, 1) := by decide +kernel
theorem dX3_planFault_1 : decode cX3_planFault 1 = .ok (.istore_n 1, 1) := by decide +kernel
theorem dX3_planFault_2 : decode cX3_planFault 2 = .ok (.iconst 0, 1) := by decide +kernel
theorem dX3_planFault_3 : decode cX3_planFault 3 = .ok (.istore_n 2, 1) := by decide +kernel
theorem dX3_planFault_4 : decode cX3_planFault 4 = .ok (.iconst (-1), 1) := by decide +kernel
theorem dX3_planFault_5 : decode cX3_planFault 5 = .ok (.istore_n 3, 1) := by decide +kernel
theorem dX3_planFault_6 : decode cX3_planFault 6 = .ok (.iconst 0, 1) := by decide +kernel
theorem dX3_planFault_7 : decode cX3_planFault 7 = .ok (.istore 4, 2) := by decide +kernel
theorem dX3_planFault_9 : decode cX3_planFault 9 = .ok (.iload 4, 2) := by decide +kernel
theorem dX3_planFault_11 : decode cX3_planFault 11 = .ok (.aload_n 0, 1) := by decide +kernel
theorem dX3_planFault_12 : decode cX3_planFault 12 = .ok (.getfield 15, 3) := by decide +kernel
theorem dX3_planFault_15 : decode cX3_planFault 15 = .ok (.if_icmp .ge 95, 3) := by decide +kernel
theorem dX3_planFault_18 : decode cX3_planFault 18 = .ok (.aload_n 0, 1) := by decide +kernel
theorem dX3_planFault_19 : decode cX3_planFault 19 = .ok (.iload 4, 2) := by decide +kernel
theorem dX3_planFault_21 : decode cX3_planFault 21 = .ok (.invokevirtual 23, 3) := by decide +kernel
theorem dX3_planFault_24 : decode cX3_planFault 24 = .ok (.istore 5, 2) := by decide +kernel
theorem dX3_planFault_26 : decode cX3_planFault 26 = .ok (.iload_n 2, 1) := by decide +kernel
theorem dX3_planFault_27 : decode cX3_planFault 27 = .ok (.ifCond .ne 35, 3) := by decide +kernel
theorem dX3_planFault_30 : decode cX3_planFault 30 = .ok (.iload 5, 2) := by decide +kernel
theorem dX3_planFault_32 : decode cX3_planFault 32 = .ok (.bipush 97, 2) := by decide +kernel
theorem dX3_planFault_34 : decode cX3_planFault 34 = .ok (.isub, 1) := by decide +kernel
theorem dX3_planFault_35 : decode cX3_planFault 35 = .ok (.bipush 8, 2) := by decide +kernel
theorem dX3_planFault_37 : decode cX3_planFault 37 = .ok (.invokestatic 19, 3) := by decide +kernel
theorem dX3_planFault_40 : decode cX3_planFault 40 = .ok (.ifCond .eq 9, 3) := by decide +kernel
theorem dX3_planFault_43 : decode cX3_planFault 43 = .ok (.iload_n 1, 1) := by decide +kernel
theorem dX3_planFault_44 : decode cX3_planFault 44 = .ok (.bipush 6, 2) := by decide +kernel
theorem dX3_planFault_46 : decode cX3_planFault 46 = .ok (.if_icmp .ne 6, 3) := by decide +kernel
theorem dX3_planFault_49 : decode cX3_planFault 49 = .ok (.iload 4, 2) := by decide +kernel
theorem dX3_planFault_51 : decode cX3_planFault 51 = .ok (.ireturn, 1) := by decide +kernel
theorem dX3_planFault_52 : decode cX3_planFault 52 = .ok (.iinc 1 1, 3) := by decide +kernel
theorem dX3_planFault_55 : decode cX3_planFault 55 = .ok (.iconst 1, 1) := by decide +kernel
theorem dX3_planFault_56 : decode cX3_planFault 56 = .ok (.istore_n 2, 1) := by decide +kernel
theorem dX3_planFault_57 : decode cX3_planFault 57 = .ok (.iconst (-1), 1) := by decide +kernel
theorem dX3_planFault_58 : decode cX3_planFault 58 = .ok (.istore_n 3, 1) := by decide +kernel
theorem dX3_planFault_59 : decode cX3_planFault 59 = .ok (.goto 45, 3) := by decide +kernel
theorem dX3_planFault_62 : decode cX3_planFault 62 = .ok (.iload 5, 2) := by decide +kernel
theorem dX3_planFault_64 : decode cX3_planFault 64 = .ok (.bipush 59, 2) := by decide +kernel
theorem dX3_planFault_66 : decode cX3_planFault 66 = .ok (.if_icmp .ne 12, 3) := by decide +kernel
theorem dX3_planFault_69 : decode cX3_planFault 69 = .ok (.iload_n 3, 1) := by decide +kernel
theorem dX3_planFault_70 : decode cX3_planFault 70 = .ok (.ifCond .lt 8, 3) := by decide +kernel
theorem dX3_planFault_73 : decode cX3_planFault 73 = .ok (.iconst 0, 1) := by decide +kernel
theorem dX3_planFault_74 : decode cX3_planFault 74 = .ok (.istore_n 2, 1) := by decide +kernel
theorem dX3_planFault_75 : decode cX3_planFault 75 = .ok (.goto 29, 3) := by decide +kernel
theorem dX3_planFault_78 : decode cX3_planFault 78 = .ok (.iload 5, 2) := by decide +kernel
theorem dX3_planFault_80 : decode cX3_planFault 80 = .ok (.bipush 48, 2) := by decide +kernel
theorem dX3_planFault_82 : decode cX3_planFault 82 = .ok (.isub, 1) := by decide +kernel
theorem dX3_planFault_83 : decode cX3_planFault 83 = .ok (.istore 6, 2) := by decide +kernel
theorem dX3_planFault_85 : decode cX3_planFault 85 = .ok (.iload 6, 2) := by decide +kernel
theorem dX3_planFault_87 : decode cX3_planFault 87 = .ok (.iload_n 3, 1) := by decide +kernel
theorem dX3_planFault_88 : decode cX3_planFault 88 = .ok (.if_icmp .le 10, 3) := by decide +kernel
theorem dX3_planFault_91 : decode cX3_planFault 91 = .ok (.iload 6, 2) := by decide +kernel
theorem dX3_planFault_93 : decode cX3_planFault 93 = .ok (.bipush 6, 2) := by decide +kernel
theorem dX3_planFault_95 : decode cX3_planFault 95 = .ok (.if_icmp .lt 6, 3) := by decide +kernel
theorem dX3_planFault_98 : decode cX3_planFault 98 = .ok (.iload 4, 2) := by decide +kernel
theorem dX3_planFault_100 : decode cX3_planFault 100 = .ok (.ireturn, 1) := by decide +kernel
theorem dX3_planFault_101 : decode cX3_planFault 101 = .ok (.iload 6, 2) := by decide +kernel
theorem dX3_planFault_103 : decode cX3_planFault 103 = .ok (.istore_n 3, 1) := by decide +kernel
theorem dX3_planFault_104 : decode cX3_planFault 104 = .ok (.iinc 4 1, 3) := by decide +kernel
theorem dX3_planFault_107 : decode cX3_planFault 107 = .ok (.goto (-98), 3) := by decide +kernel
theorem dX3_planFault_110 : decode cX3_planFault 110 = .ok (.iload_n 2, 1) := by decide +kernel
theorem dX3_planFault_111 : decode cX3_planFault 111 = .ok (.ifCond .eq 10, 3) := by decide +kernel
theorem dX3_planFault_114 : decode cX3_planFault 114 = .ok (.aload_n 0, 1) := by decide +kernel
theorem dX3_planFault_115 : decode cX3_planFault 115 = .ok (.getfield 15, 3) := by decide +kernel
theorem dX3_planFault_118 : decode cX3_planFault 118 = .ok (.goto 5, 3) := by decide +kernel
theorem dX3_planFault_121 : decode cX3_planFault 121 = .ok (.bipush (-6), 2) := by decide +kernel
theorem dX3_planFault_123 : decode cX3_planFault 123 = .ok (.ireturn, 1) := by decide +kernel
theorem dX4_init_0 : decode cX4_init 0 = .ok (.aload_n 0, 1) := by decide +kernel
theorem dX4_init_1 : decode cX4_init 1 = .ok (.invokespecial 3, 3) := by decide +kernel
theorem dX4_init_4 : decode cX4_init 4 = .ok (.aload_n 0, 1) := by decide +kernel
theorem dX4_init_5 : decode cX4_init 5 = .ok (.bipush 6, 2) := by decide +kernel
theorem dX4_init_7 : decode cX4_init 7 = .ok (.newarray .int, 2) := by decide +kernel
theorem dX4_init_9 : decode cX4_init 9 = .ok (.putfield 9, 3) := by decide +kernel
theorem dX4_init_12 : decode cX4_init 12 = .ok (.aload_n 0, 1) := by decide +kernel
theorem dX4_init_13 : decode cX4_init 13 = .ok (.bipush 6, 2) := by decide +kernel
theorem dX4_init_15 : decode cX4_init 15 = .ok (.newarray .int, 2) := by decide +kernel
theorem dX4_init_17 : decode cX4_init 17 = .ok (.putfield 15, 3) := by decide +kernel
theorem dX4_init_20 : decode cX4_init 20 = .ok (.return_, 1) := by decide +kernel
theorem dX4_become_0 : decode cX4_become 0 = .ok (.aload_n 1, 1) := by decide +kernel
theorem dX4_become_1 : decode cX4_become 1 = .ok (.ifnonnull 4, 3) := by decide +kernel
theorem dX4_become_4 : decode cX4_become 4 = .ok (.return_, 1) := by decide +kernel
theorem dX4_become_5 : decode cX4_become 5 = .ok (.aload_n 0, 1) := by decide +kernel
theorem dX4_become_6 : decode cX4_become 6 = .ok (.aload_n 1, 1) := by decide +kernel
theorem dX4_become_7 : decode cX4_become 7 = .ok (.getfield 18, 3) := by decide +kernel
theorem dX4_become_10 : decode cX4_become 10 = .ok (.putfield 18, 3) := by decide +kernel
theorem dX4_become_13 : decode cX4_become 13 = .ok (.aload_n 1, 1) := by decide +kernel
