theorem dX4_become_14 : decode cX4_become 14 = .ok (.getfield 9, 3) := by decide +kernel
theorem dX4_become_17 : decode cX4_become 17 = .ok (.iconst 0, 1) := by decide +kernel
theorem dX4_become_18 : decode cX4_become 18 = .ok (.aload_n 0, 1) := by decide +kernel
theorem dX4_become_19 : decode cX4_become 19 = .ok (.getfield 9, 3) := by decide +kernel
theorem dX4_become_22 : decode cX4_become 22 = .ok (.iconst 0, 1) := by decide +kernel
theorem dX4_become_23 : decode cX4_become 23 = .ok (.bipush 6, 2) := by decide +kernel
theorem dX4_become_25 : decode cX4_become 25 = .ok (.invokestatic 22, 3) := by decide +kernel
theorem dX4_become_28 : decode cX4_become 28 = .ok (.aload_n 1, 1) := by decide +kernel
theorem dX4_become_29 : decode cX4_become 29 = .ok (.getfield 15, 3) := by decide +kernel
theorem dX4_become_32 : decode cX4_become 32 = .ok (.iconst 0, 1) := by decide +kernel
theorem dX4_become_33 : decode cX4_become 33 = .ok (.aload_n 0, 1) := by decide +kernel
theorem dX4_become_34 : decode cX4_become 34 = .ok (.getfield 15, 3) := by decide +kernel
theorem dX4_become_37 : decode cX4_become 37 = .ok (.iconst 0, 1) := by decide +kernel
theorem dX4_become_38 : decode cX4_become 38 = .ok (.bipush 6, 2) := by decide +kernel
theorem dX4_become_40 : decode cX4_become 40 = .ok (.invokestatic 22, 3) := by decide +kernel
theorem dX4_become_43 : decode cX4_become 43 = .ok (.return_, 1) := by decide +kernel
theorem dX4_read_0 : decode cX4_read 0 = .ok (.aload_n 1, 1) := by decide +kernel
theorem dX4_read_1 : decode cX4_read 1 = .ok (.ifnonnull 4, 3) := by decide +kernel
theorem dX4_read_4 : decode cX4_read 4 = .ok (.return_, 1) := by decide +kernel
theorem dX4_read_5 : decode cX4_read 5 = .ok (.aload_n 0, 1) := by decide +kernel
theorem dX4_read_6 : decode cX4_read 6 = .ok (.iconst 0, 1) := by decide +kernel
theorem dX4_read_7 : decode cX4_read 7 = .ok (.putfield 18, 3) := by decide +kernel
theorem dX4_read_10 : decode cX4_read 10 = .ok (.iconst 0, 1) := by decide +kernel
theorem dX4_read_11 : decode cX4_read 11 = .ok (.istore_n 2, 1) := by decide +kernel
theorem dX4_read_12 : decode cX4_read 12 = .ok (.iload_n 2, 1) := by decide +kernel
theorem dX4_read_13 : decode cX4_read 13 = .ok (.aload_n 1, 1) := by decide +kernel
theorem dX4_read_14 : decode cX4_read 14 = .ok (.getfield 28, 3) := by decide +kernel
theorem dX4_read_17 : decode cX4_read 17 = .ok (.if_icmp .ge 121, 3) := by decide +kernel
theorem dX4_read_20 : decode cX4_read 20 = .ok (.aload_n 1, 1) := by decide +kernel
theorem dX4_read_21 : decode cX4_read 21 = .ok (.iload_n 2, 1) := by decide +kernel
theorem dX4_read_22 : decode cX4_read 22 = .ok (.invokevirtual 31, 3) := by decide +kernel
theorem dX4_read_25 : decode cX4_read 25 = .ok (.istore_n 3, 1) := by decide +kernel
theorem dX4_read_26 : decode cX4_read 26 = .ok (.aload_n 0, 1) := by decide +kernel
theorem dX4_read_27 : decode cX4_read 27 = .ok (.getfield 18, 3) := by decide +kernel
theorem dX4_read_30 : decode cX4_read 30 = .ok (.iconst 1, 1) := by decide +kernel
theorem dX4_read_31 : decode cX4_read 31 = .ok (.isub, 1) := by decide +kernel
theorem dX4_read_32 : decode cX4_read 32 = .ok (.istore 4, 2) := by decide +kernel
theorem dX4_read_34 : decode cX4_read 34 = .ok (.iload_n 3, 1) := by decide +kernel
theorem dX4_read_35 : decode cX4_read 35 = .ok (.bipush 97, 2) := by decide +kernel
theorem dX4_read_37 : decode cX4_read 37 = .ok (.isub, 1) := by decide +kernel
theorem dX4_read_38 : decode cX4_read 38 = .ok (.bipush 8, 2) := by decide +kernel
theorem dX4_read_40 : decode cX4_read 40 = .ok (.invokestatic 35, 3) := by decide +kernel
theorem dX4_read_43 : decode cX4_read 43 = .ok (.ifCond .eq 51, 3) := by decide +kernel
theorem dX4_read_46 : decode cX4_read 46 = .ok (.aload_n 0, 1) := by decide +kernel
theorem dX4_read_47 : decode cX4_read 47 = .ok (.getfield 18, 3) := by decide +kernel
theorem dX4_read_50 : decode cX4_read 50 = .ok (.bipush 6, 2) := by decide +kernel
theorem dX4_read_52 : decode cX4_read 52 = .ok (.invokestatic 35, 3) := by decide +kernel
theorem dX4_read_55 : decode cX4_read 55 = .ok (.ifCond .eq 39, 3) := by decide +kernel
theorem dX4_read_58 : decode cX4_read 58 = .ok (.aload_n 0, 1) := by decide +kernel
theorem dX4_read_59 : decode cX4_read 59 = .ok (.getfield 9, 3) := by decide +kernel
theorem dX4_read_62 : decode cX4_read 62 = .ok (.aload_n 0, 1) := by decide +kernel
theorem dX4_read_63 : decode cX4_read 63 = .ok (.getfield 18, 3) := by decide +kernel
theorem dX4_read_66 : decode cX4_read 66 = .ok (.iload_n 3, 1) := by decide +kernel
theorem dX4_read_67 : decode cX4_read 67 = .ok (.bipush 97, 2) := by decide +kernel
theorem dX4_read_69 : decode cX4_read 69 = .ok (.isub, 1) := by decide +kernel
theorem dX4_read_70 : decode cX4_read 70 = .ok (.iastore, 1) := by decide +kernel
theorem dX4_read_71 : decode cX4_read 71 = .ok (.aload_n 0, 1) := by decide +kernel
theorem dX4_read_72 : decode cX4_read 72 = .ok (.getfield 15, 3) := by decide +kernel
theorem dX4_read_75 : decode cX4_read 75 = .ok (.aload_n 0, 1) := by decide +kernel
theorem dX4_read_76 : decode cX4_read 76 = .ok (.getfield 18, 3) := by decide +kernel
theorem dX4_read_79 : decode cX4_read 79 = .ok (.iconst 0, 1) := by decide +kernel
theorem dX4_read_80 : decode cX4_read 80 = .ok (.iastore, 1) := by decide +kernel
theorem dX4_read_81 : decode cX4_read 81 = .ok (.aload_n 0, 1) := by decide +kernel
theorem dX4_read_82 : decode cX4_read 82 = .ok (.dup, 1) := by decide +kernel
theorem dX4_read_83 : decode cX4_read 83 = .ok (.getfield 18, 3) := by decide +kernel
theorem dX4_read_86 : decode cX4_read 86 = .ok (.iconst 1, 1) := by decide +kernel
theorem dX4_read_87 : decode cX4_read 87 = .ok (.iadd, 1) := by decide +kernel
theorem dX4_read_88 : decode cX4_read 88 = .ok (.putfield 18, 3) := by decide +kernel
theorem dX4_read_91 : decode cX4_read 91 = .ok (.goto 41, 3) := by decide +kernel
theorem dX4_read_94 : decode cX4_read 94 = .ok (.iload_n 3, 1) := by decide +kernel
theorem dX4_read_95 : decode cX4_read 95 = .ok (.bipush 48, 2) := by decide +kernel
theorem dX4_read_97 : decode cX4_read 97 = .ok (.isub, 1) := by decide +kernel
theorem dX4_read_98 : decode cX4_read 98 = .ok (.bipush 6, 2) := by decide +kernel
theorem dX4_read_100 : decode cX4_read 100 = .ok (.invokestatic 35, 3) := by decide +kernel
theorem dX4_read_103 : decode cX4_read 103 = .ok (.ifCond .eq 29, 3) := by decide +kernel
theorem dX4_read_106 : decode cX4_read 106 = .ok (.iload 4, 2) := by decide +kernel
theorem dX4_read_108 : decode cX4_read 108 = .ok (.bipush 6, 2) := by decide +kernel
theorem dX4_read_110 : decode cX4_read 110 = .ok (.invokestatic 35, 3) := by decide +kernel
theorem dX4_read_113 : decode cX4_read 113 = .ok (.ifCond .eq 19, 3) := by decide +kernel
theorem dX4_read_116 : decode cX4_read 116 = .ok (.aload_n 0, 1) := by decide +kernel
theorem dX4_read_117 : decode cX4_read 117 = .ok (.getfield 15, 3) := by decide +kernel
theorem dX4_read_120 : decode cX4_read 120 = .ok (.iload 4, 2) := by decide +kernel
theorem dX4_read_122 : decode cX4_read 122 = .ok (.dup2, 1) := by decide +kernel
theorem dX4_read_123 : decode cX4_read 123 = .ok (.iaload, 1) := by decide +kernel
theorem dX4_read_124 : decode cX4_read 124 = .ok (.iconst 1, 1) := by decide +kernel
theorem dX4_read_125 : decode cX4_read 125 = .ok (.iload_n 3, 1) := by decide +kernel
theorem dX4_read_126 : decode cX4_read 126 = .ok (.bipush 48, 2) := by decide +kernel
theorem dX4_read_128 : decode cX4_read 128 = .ok (.isub, 1) := by decide +kernel
theorem dX4_read_129 : decode cX4_read 129 = .ok (.ishl, 1) := by decide +kernel
theorem dX4_read_130 : decode cX4_read 130 = .ok (.ior, 1) := by decide +kernel
theorem dX4_read_131 : decode cX4_read 131 = .ok (.iastore, 1) := by decide +kernel
theorem dX4_read_132 : decode cX4_read 132 = .ok (.iinc 2 1, 3) := by decide +kernel
theorem dX4_read_135 : decode cX4_read 135 = .ok (.goto (-123), 3) := by decide +kernel
theorem dX4_read_138 : decode cX4_read 138 = .ok (.return_, 1) := by decide +kernel
theorem dX4_dayOf_0 : decode cX4_dayOf 0 = .ok (.iload_n 1, 1) := by decide +kernel
theorem dX4_dayOf_1 : decode cX4_dayOf 1 = .ok (.bipush 6, 2) := by decide +kernel
theorem dX4_dayOf_3 : decode cX4_dayOf 3 = .ok (.invokestatic 35, 3) := by decide +kernel
theorem dX4_dayOf_6 : decode cX4_dayOf 6 = .ok (.ifCond .eq 12, 3) := by decide +kernel
theorem dX4_dayOf_9 : decode cX4_dayOf 9 = .ok (.aload_n 0, 1) := by decide +kernel
theorem dX4_dayOf_10 : decode cX4_dayOf 10 = .ok (.getfield 9, 3) := by decide +kernel
theorem dX4_dayOf_13 : decode cX4_dayOf 13 = .ok (.iload_n 1, 1) := by decide +kernel
theorem dX4_dayOf_14 : decode cX4_dayOf 14 = .ok (.iaload, 1) := by decide +kernel
theorem dX4_dayOf_15 : decode cX4_dayOf 15 = .ok (.goto 5, 3) := by decide +kernel
theorem dX4_dayOf_18 : decode cX4_dayOf 18 = .ok (.bipush (-6), 2) := by decide +kernel
theorem dX4_dayOf_20 : decode cX4_dayOf 20 = .ok (.ireturn, 1) := by decide +kernel
theorem dX4_peopleOf_0 : decode cX4_peopleOf 0 = .ok (.iload_n 1, 1) := by decide +kernel
theorem dX4_peopleOf_1 : decode cX4_peopleOf 1 = .ok (.bipush 6, 2) := by decide +kernel
theorem dX4_peopleOf_3 : decode cX4_peopleOf 3 = .ok (.invokestatic 35, 3) := by decide +kernel
theorem dX4_peopleOf_6 : decode cX4_peopleOf 6 = .ok (.ifCond .eq 12, 3) := by decide +kernel
theorem dX4_peopleOf_9 : decode cX4_peopleOf 9 = .ok (.aload_n 0, 1) := by decide +kernel
theorem dX4_peopleOf_10 : decode cX4_peopleOf 10 = .ok (.getfield 15, 3) := by decide +kernel
theorem dX4_peopleOf_13 : decode cX4_peopleOf 13 = .ok (.iload_n 1, 1) := by decide +kernel
theorem dX4_peopleOf_14 : decode cX4_peopleOf 14 = .ok (.iaload, 1) := by decide +kernel
theorem dX4_peopleOf_15 : decode cX4_peopleOf 15 = .ok (.goto 4, 3) := by decide +kernel
theorem dX4_peopleOf_18 : decode cX4_peopleOf 18 = .ok (.iconst 0, 1) := by decide +kernel
theorem dX4_peopleOf_19 : decode cX4_peopleOf 19 = .ok (.ireturn, 1) := by decide +kernel
theorem dX5_init_0 : decode cX5_init 0 = .ok (.aload_n 0, 1) := by decide +kernel
theorem dX5_init_1 : decode cX5_init 1 = .ok (.invokespecial 3, 3) := by decide +kernel
theorem dX5_init_4 : decode cX5_init 4 = .ok (.aload_n 0, 1) := by decide +kernel
theorem dX5_init_5 : decode cX5_init 5 = .ok (.bipush 6, 2) := by decide +kernel
theorem dX5_init_7 : decode cX5_init 7 = .ok (.newarray .int, 2) := by decide +kernel
theorem dX5_init_9 : decode cX5_init 9 = .ok (.putfield 9, 3) := by decide +kernel
theorem dX5_init_12 : decode cX5_init 12 = .ok (.aload_n 0, 1) := by decide +kernel
theorem dX5_init_13 : decode cX5_init 13 = .ok (.bipush 6, 2) := by decide +kernel
theorem dX5_init_15 : decode cX5_init 15 = .ok (.newarray .int, 2) := by decide +kernel
theorem dX5_init_17 : decode cX5_init 17 = .ok (.putfield 15, 3) := by decide +kernel
theorem dX5_init_20 : decode cX5_init 20 = .ok (.return_, 1) := by decide +kernel
theorem dX5_become_0 : decode cX5_become 0 = .ok (.aload_n 1, 1) := by decide +kernel
theorem dX5_become_1 : decode cX5_become 1 = .ok (.ifnonnull 4, 3) := by decide +kernel
theorem dX5_become_4 : decode cX5_become 4 = .ok (.return_, 1) := by decide +kernel
theorem dX5_become_5 : decode cX5_become 5 = .ok (.aload_n 0, 1) := by decide +kernel
theorem dX5_become_6 : decode cX5_become 6 = .ok (.aload_n 1, 1) := by decide +kernel
theorem dX5_become_7 : decode cX5_become 7 = .ok (.getfield 18, 3) := by decide +kernel
theorem dX5_become_10 : decode cX5_become 10 = .ok (.putfield 18, 3) := by decide +kernel
theorem dX5_become_13 : decode cX5_become 13 = .ok (.aload_n 1, 1) := by decide +kernel
theorem dX5_become_14 : decode cX5_become 14 = .ok (.getfield 9, 3) := by decide +kernel
theorem dX5_become_17 : decode cX5_become 17 = .ok (.iconst 0, 1) := by decide +kernel
theorem dX5_become_18 : decode cX5_become 18 = .ok (.aload_n 0, 1) := by decide +kernel
theorem dX5_become_19 : decode cX5_become 19 = .ok (.getfield 9, 3) := by decide +kernel
theorem dX5_become_22 : decode cX5_become 22 = .ok (.iconst 0, 1) := by decide +kernel
theorem dX5_become_23 : decode cX5_become 23 = .ok (.bipush 6, 2) := by decide +kernel
theorem dX5_become_25 : decode cX5_become 25 = .ok (.invokestatic 22, 3) := by decide +kernel
theorem dX5_become_28 : decode cX5_become 28 = .ok (.aload_n 1, 1) := by decide +kernel
theorem dX5_become_29 : decode cX5_become 29 = .ok (.getfield 15, 3) := by decide +kernel
theorem dX5_become_32 : decode cX5_become 32 = .ok (.iconst 0, 1) := by decide +kernel
theorem dX5_become_33 : decode cX5_become 33 = .ok (.aload_n 0, 1) := by decide +kernel
theorem dX5_become_34 : decode cX5_become 34 = .ok (.getfield 15, 3) := by decide +kernel
theorem dX5_become_37 : decode cX5_become 37 = .ok (.iconst 0, 1) := by decide +kernel
theorem dX5_become_38 : decode cX5_become 38 = .ok (.bipush 6, 2) := by decide +kernel
theorem dX5_become_40 : decode cX5_become 40 = .ok (.invokestatic 22, 3) := by decide +kernel
theorem dX5_become_43 : decode cX5_become 43 = .ok (.return_, 1) := by decide +kernel
theorem dX5_add_0 : decode cX5_add 0 = .ok (.aload_n 0, 1) := by decide +kernel
theorem dX5_add_1 : decode cX5_add 1 = .ok (.getfield 18, 3) := by decide +kernel
theorem dX5_add_4 : decode cX5_add 4 = .ok (.bipush 6, 2) := by decide +kernel
theorem dX5_add_6 : decode cX5_add 6 = .ok (.invokestatic 28, 3) := by decide +kernel
theorem dX5_add_9 : decode cX5_add 9 = .ok (.ifCond .ne 5, 3) := by decide +kernel
theorem dX5_add_12 : decode cX5_add 12 = .ok (.iconst 0, 1) := by decide +kernel
theorem dX5_add_13 : decode cX5_add 13 = .ok (.ireturn, 1) := by decide +kernel
theorem dX5_add_14 : decode cX5_add 14 = .ok (.aload_n 0, 1) := by decide +kernel
theorem dX5_add_15 : decode cX5_add 15 = .ok (.getfield 9, 3) := by decide +kernel
theorem dX5_add_18 : decode cX5_add 18 = .ok (.aload_n 0, 1) := by decide +kernel
theorem dX5_add_19 : decode cX5_add 19 = .ok (.getfield 18, 3) := by decide +kernel
theorem dX5_add_22 : decode cX5_add 22 = .ok (.iload_n 1, 1) := by decide +kernel
theorem dX5_add_23 : decode cX5_add 23 = .ok (.iastore, 1) := by decide +kernel
theorem dX5_add_24 : decode cX5_add 24 = .ok (.aload_n 0, 1) := by decide +kernel
theorem dX5_add_25 : decode cX5_add 25 = .ok (.getfield 15, 3) := by decide +kernel
theorem dX5_add_28 : decode cX5_add 28 = .ok (.aload_n 0, 1) := by decide +kernel
theorem dX5_add_29 : decode cX5_add 29 = .ok (.getfield 18, 3) := by decide +kernel
theorem dX5_add_32 : decode cX5_add 32 = .ok (.iload_n 2, 1) := by decide +kernel
theorem dX5_add_33 : decode cX5_add 33 = .ok (.iastore, 1) := by decide +kernel
theorem dX5_add_34 : decode cX5_add 34 = .ok (.aload_n 0, 1) := by decide +kernel
theorem dX5_add_35 : decode cX5_add 35 = .ok (.dup, 1) := by decide +kernel
theorem dX5_add_36 : decode cX5_add 36 = .ok (.getfield 18, 3) := by decide +kernel
theorem dX5_add_39 : decode cX5_add 39 = .ok (.iconst 1, 1) := by decide +kernel
theorem dX5_add_40 : decode cX5_add 40 = .ok (.iadd, 1) := by decide +kernel
theorem dX5_add_41 : decode cX5_add 41 = .ok (.putfield 18, 3) := by decide +kernel
theorem dX5_add_44 : decode cX5_add 44 = .ok (.iconst 1, 1) := by decide +kernel
theorem dX5_add_45 : decode cX5_add 45 = .ok (.ireturn, 1) := by decide +kernel
theorem dX5_dateOf_0 : decode cX5_dateOf 0 = .ok (.iload_n 1, 1) := by decide +kernel
theorem dX5_dateOf_1 : decode cX5_dateOf 1 = .ok (.bipush 6, 2) := by decide +kernel
theorem dX5_dateOf_3 : decode cX5_dateOf 3 = .ok (.invokestatic 28, 3) := by decide +kernel
theorem dX5_dateOf_6 : decode cX5_dateOf 6 = .ok (.ifCond .eq 12, 3) := by decide +kernel
theorem dX5_dateOf_9 : decode cX5_dateOf 9 = .ok (.aload_n 0, 1) := by decide +kernel
theorem dX5_dateOf_10 : decode cX5_dateOf 10 = .ok (.getfield 9, 3) := by decide +kernel
theorem dX5_dateOf_13 : decode cX5_dateOf 13 = .ok (.iload_n 1, 1) := by decide +kernel
theorem dX5_dateOf_14 : decode cX5_dateOf 14 = .ok (.iaload, 1) := by decide +kernel
theorem dX5_dateOf_15 : decode cX5_dateOf 15 = .ok (.goto 4, 3) := by decide +kernel
theorem dX5_dateOf_18 : decode cX5_dateOf 18 = .ok (.iconst 0, 1) := by decide +kernel
theorem dX5_dateOf_19 : decode cX5_dateOf 19 = .ok (.ireturn, 1) := by decide +kernel
theorem dX5_wasShut_0 : decode cX5_wasShut 0 = .ok (.iload_n 1, 1) := by decide +kernel
theorem dX5_wasShut_1 : decode cX5_wasShut 1 = .ok (.bipush 6, 2) := by decide +kernel
theorem dX5_wasShut_3 : decode cX5_wasShut 3 = .ok (.invokestatic 28, 3) := by decide +kernel
theorem dX5_wasShut_6 : decode cX5_wasShut 6 = .ok (.ifCond .eq 17, 3) := by decide +kernel
theorem dX5_wasShut_9 : decode cX5_wasShut 9 = .ok (.aload_n 0, 1) := by decide +kernel
theorem dX5_wasShut_10 : decode cX5_wasShut 10 = .ok (.getfield 15, 3) := by decide +kernel
theorem dX5_wasShut_13 : decode cX5_wasShut 13 = .ok (.iload_n 1, 1) := by decide +kernel
theorem dX5_wasShut_14 : decode cX5_wasShut 14 = .ok (.iaload, 1) := by decide +kernel
theorem dX5_wasShut_15 : decode cX5_wasShut 15 = .ok (.iconst 1, 1) := by decide +kernel
theorem dX5_wasShut_16 : decode cX5_wasShut 16 = .ok (.if_icmp .ne 7, 3) := by decide +kernel
theorem dX5_wasShut_19 : decode cX5_wasShut 19 = .ok (.iconst 1, 1) := by decide +kernel
theorem dX5_wasShut_20 : decode cX5_wasShut 20 = .ok (.goto 4, 3) := by decide +kernel
theorem dX5_wasShut_23 : decode cX5_wasShut 23 = .ok (.iconst 0, 1) := by decide +kernel
theorem dX5_wasShut_24 : decode cX5_wasShut 24 = .ok (.ireturn, 1) := by decide +kernel
theorem dX6_init_0 : decode cX6_init 0 = .ok (.aload_n 0, 1) := by decide +kernel
theorem dX6_init_1 : decode cX6_init 1 = .ok (.invokespecial 1, 3) := by decide +kernel
theorem dX6_init_4 : decode cX6_init 4 = .ok (.aload_n 0, 1) := by decide +kernel
theorem dX6_init_5 : decode cX6_init 5 = .ok (.new 7, 3) := by decide +kernel
theorem dX6_init_8 : decode cX6_init 8 = .ok (.dup, 1) := by decide +kernel
theorem dX6_init_9 : decode cX6_init 9 = .ok (.invokespecial 9, 3) := by decide +kernel
theorem dX6_init_12 : decode cX6_init 12 = .ok (.putfield 10, 3) := by decide +kernel
theorem dX6_init_15 : decode cX6_init 15 = .ok (.aload_n 0, 1) := by decide +kernel
theorem dX6_init_16 : decode cX6_init 16 = .ok (.new 16, 3) := by decide +kernel
theorem dX6_init_19 : decode cX6_init 19 = .ok (.dup, 1) := by decide +kernel
theorem dX6_init_20 : decode cX6_init 20 = .ok (.invokespecial 18, 3) := by decide +kernel
theorem dX6_init_23 : decode cX6_init 23 = .ok (.putfield 19, 3) := by decide +kernel
theorem dX6_init_26 : decode cX6_init 26 = .ok (.aload_n 0, 1) := by decide +kernel
theorem dX6_init_27 : decode cX6_init 27 = .ok (.iconst 2, 1) := by decide +kernel
theorem dX6_init_28 : decode cX6_init 28 = .ok (.anewarray 16, 3) := by decide +kernel
theorem dX6_init_31 : decode cX6_init 31 = .ok (.putfield 23, 3) := by decide +kernel
theorem dX6_init_34 : decode cX6_init 34 = .ok (.aload_n 0, 1) := by decide +kernel
theorem dX6_init_35 : decode cX6_init 35 = .ok (.new 27, 3) := by decide +kernel
theorem dX6_init_38 : decode cX6_init 38 = .ok (.dup, 1) := by decide +kernel
theorem dX6_init_39 : decode cX6_init 39 = .ok (.invokespecial 29, 3) := by decide +kernel
theorem dX6_init_42 : decode cX6_init 42 = .ok (.putfield 30, 3) := by decide +kernel
theorem dX6_init_45 : decode cX6_init 45 = .ok (.return_, 1) := by decide +kernel
theorem dX6_say_0 : decode cX6_say 0 = .ok (.iload_n 1, 1) := by decide +kernel
theorem dX6_say_1 : decode cX6_say 1 = .ok (.bipush 33, 2) := by decide +kernel
theorem dX6_say_3 : decode cX6_say 3 = .ok (.if_icmp .lt 9, 3) := by decide +kernel
theorem dX6_say_6 : decode cX6_say 6 = .ok (.iload_n 1, 1) := by decide +kernel
theorem dX6_say_7 : decode cX6_say 7 = .ok (.bipush 126, 2) := by decide +kernel
theorem dX6_say_9 : decode cX6_say 9 = .ok (.if_icmp .le 6, 3) := by decide +kernel
theorem dX6_say_12 : decode cX6_say 12 = .ok (.bipush (-2), 2) := by decide +kernel
theorem dX6_say_14 : decode cX6_say 14 = .ok (.ireturn, 1) := by decide +kernel
theorem dX6_say_15 : decode cX6_say 15 = .ok (.aload_n 0, 1) := by decide +kernel
theorem dX6_say_16 : decode cX6_say 16 = .ok (.getfield 10, 3) := by decide +kernel
theorem dX6_say_19 : decode cX6_say 19 = .ok (.iload_n 1, 1) := by decide +kernel
theorem dX6_say_20 : decode cX6_say 20 = .ok (.invokevirtual 34, 3) := by decide +kernel
theorem dX6_say_23 : decode cX6_say 23 = .ok (.ifCond .eq 13, 3) := by decide +kernel
theorem dX6_say_26 : decode cX6_say 26 = .ok (.aload_n 0, 1) := by decide +kernel
theorem dX6_say_27 : decode cX6_say 27 = .ok (.getfield 10, 3) := by decide +kernel
theorem dX6_say_30 : decode cX6_say 30 = .ok (.getfield 38, 3) := by decide +kernel
theorem dX6_say_33 : decode cX6_say 33 = .ok (.goto 5, 3) := by decide +kernel
theorem dX6_say_36 : decode cX6_say 36 = .ok (.bipush (-4), 2) := by decide +kernel
theorem dX6_say_38 : decode cX6_say 38 = .ok (.ireturn, 1) := by decide +kernel
theorem dX6_wipe_0 : decode cX6_wipe 0 = .ok (.aload_n 0, 1) := by decide +kernel
theorem dX6_wipe_1 : decode cX6_wipe 1 = .ok (.getfield 10, 3) := by decide +kernel
theorem dX6_wipe_4 : decode cX6_wipe 4 = .ok (.getfield 38, 3) := by decide +kernel
theorem dX6_wipe_7 : decode cX6_wipe 7 = .ok (.istore_n 1, 1) := by decide +kernel
theorem dX6_wipe_8 : decode cX6_wipe 8 = .ok (.aload_n 0, 1) := by decide +kernel
theorem dX6_wipe_9 : decode cX6_wipe 9 = .ok (.getfield 10, 3) := by decide +kernel
theorem dX6_wipe_12 : decode cX6_wipe 12 = .ok (.iconst 0, 1) := by decide +kernel
theorem dX6_wipe_13 : decode cX6_wipe 13 = .ok (.putfield 38, 3) := by decide +kernel
theorem dX6_wipe_16 : decode cX6_wipe 16 = .ok (.iload_n 1, 1) := by decide +kernel
theorem dX6_wipe_17 : decode cX6_wipe 17 = .ok (.ireturn, 1) := by decide +kernel
theorem dX6_fault_0 : decode cX6_fault 0 = .ok (.iload_n 1, 1) := by decide +kernel
theorem dX6_fault_1 : decode cX6_fault 1 = .ok (.iconst 2, 1) := by decide +kernel
theorem dX6_fault_2 : decode cX6_fault 2 = .ok (.invokestatic 42, 3) := by decide +kernel
theorem dX6_fault_5 : decode cX6_fault 5 = .ok (.ifCond .ne 6, 3) := by decide +kernel
theorem dX6_fault_8 : decode cX6_fault 8 = .ok (.bipush (-2), 2) := by decide +kernel
theorem dX6_fault_10 : decode cX6_fault 10 = .ok (.ireturn, 1) := by decide +kernel
theorem dX6_fault_11 : decode cX6_fault 11 = .ok (.iload_n 1, 1) := by decide +kernel
theorem dX6_fault_12 : decode cX6_fault 12 = .ok (.ifCond .ne 13, 3) := by decide +kernel
theorem dX6_fault_15 : decode cX6_fault 15 = .ok (.aload_n 0, 1) := by decide +kernel
theorem dX6_fault_16 : decode cX6_fault 16 = .ok (.getfield 10, 3) := by decide +kernel
theorem dX6_fault_19 : decode cX6_fault 19 = .ok (.invokevirtual 46, 3) := by decide +kernel
theorem dX6_fault_22 : decode cX6_fault 22 = .ok (.goto 10, 3) := by decide +kernel
theorem dX6_fault_25 : decode cX6_fault 25 = .ok (.aload_n 0, 1) := by decide +kernel
theorem dX6_fault_26 : decode cX6_fault 26 = .ok (.getfield 10, 3) := by decide +kernel
theorem dX6_fault_29 : decode cX6_fault 29 = .ok (.invokevirtual 50, 3) := by decide +kernel
theorem dX6_fault_32 : decode cX6_fault 32 = .ok (.ireturn, 1) := by decide +kernel
theorem dX6_born_0 : decode cX6_born 0 = .ok (.iload_n 1, 1) := by decide +kernel
theorem dX6_born_1 : decode cX6_born 1 = .ok (.bipush 6, 2) := by decide +kernel
theorem dX6_born_3 : decode cX6_born 3 = .ok (.invokestatic 42, 3) := by decide +kernel
theorem dX6_born_6 : decode cX6_born 6 = .ok (.ifCond .ne 5, 3) := by decide +kernel
theorem dX6_born_9 : decode cX6_born 9 = .ok (.iconst (-1), 1) := by decide +kernel
theorem dX6_born_10 : decode cX6_born 10 = .ok (.ireturn, 1) := by decide +kernel
theorem dX6_born_11 : decode cX6_born 11 = .ok (.iload_n 2, 1) := by decide +kernel
theorem dX6_born_12 : decode cX6_born 12 = .ok (.invokestatic 53, 3) := by decide +kernel
theorem dX6_born_15 : decode cX6_born 15 = .ok (.ifCond .ne 6, 3) := by decide +kernel
theorem dX6_born_18 : decode cX6_born 18 = .ok (.bipush (-2), 2) := by decide +kernel
theorem dX6_born_20 : decode cX6_born 20 = .ok (.ireturn, 1) := by decide +kernel
theorem dX6_born_21 : decode cX6_born 21 = .ok (.aload_n 0, 1) := by decide +kernel
theorem dX6_born_22 : decode cX6_born 22 = .ok (.getfield 10, 3) := by decide +kernel
theorem dX6_born_25 : decode cX6_born 25 = .ok (.invokevirtual 46, 3) := by decide +kernel
theorem dX6_born_28 : decode cX6_born 28 = .ok (.bipush (-6), 2) := by decide +kernel
theorem dX6_born_30 : decode cX6_born 30 = .ok (.if_icmp .eq 6, 3) := by decide +kernel
theorem dX6_born_33 : decode cX6_born 33 = .ok (.bipush (-5), 2) := by decide +kernel
theorem dX6_born_35 : decode cX6_born 35 = .ok (.ireturn, 1) := by decide +kernel
theorem dX6_born_36 : decode cX6_born 36 = .ok (.aload_n 0, 1) := by decide +kernel
theorem dX6_born_37 : decode cX6_born 37 = .ok (.getfield 19, 3) := by decide +kernel
theorem dX6_born_40 : decode cX6_born 40 = .ok (.getfield 56, 3) := by decide +kernel
theorem dX6_born_43 : decode cX6_born 43 = .ok (.iload_n 1, 1) := by decide +kernel
theorem dX6_born_44 : decode cX6_born 44 = .ok (.iload_n 2, 1) := by decide +kernel
theorem dX6_born_45 : decode cX6_born 45 = .ok (.aload_n 0, 1) := by decide +kernel
theorem dX6_born_46 : decode cX6_born 46 = .ok (.getfield 10, 3) := by decide +kernel
theorem dX6_born_49 : decode cX6_born 49 = .ok (.invokevirtual 60, 3) := by decide +kernel
theorem dX6_born_52 : decode cX6_born 52 = .ok (.aload_n 0, 1) := by decide +kernel
theorem dX6_born_53 : decode cX6_born 53 = .ok (.invokevirtual 66, 3) := by decide +kernel
theorem dX6_born_56 : decode cX6_born 56 = .ok (.ireturn, 1) := by decide +kernel
theorem dX6_exile_0 : decode cX6_exile 0 = .ok (.aload_n 0, 1) := by decide +kernel
theorem dX6_exile_1 : decode cX6_exile 1 = .ok (.iload_n 1, 1) := by decide +kernel
theorem dX6_exile_2 : decode cX6_exile 2 = .ok (.invokevirtual 69, 3) := by decide +kernel
theorem dX6_exile_5 : decode cX6_exile 5 = .ok (.ifCond .ne 5, 3) := by decide +kernel
theorem dX6_exile_8 : decode cX6_exile 8 = .ok (.iconst (-1), 1) := by decide +kernel
theorem dX6_exile_9 : decode cX6_exile 9 = .ok (.ireturn, 1) := by decide +kernel
theorem dX6_exile_10 : decode cX6_exile 10 = .ok (.aload_n 0, 1) := by decide +kernel
theorem dX6_exile_11 : decode cX6_exile 11 = .ok (.getfield 19, 3) := by decide +kernel
theorem dX6_exile_14 : decode cX6_exile 14 = .ok (.getfield 56, 3) := by decide +kernel
theorem dX6_exile_17 : decode cX6_exile 17 = .ok (.dup, 1) := by decide +kernel
theorem dX6_exile_18 : decode cX6_exile 18 = .ok (.getfield 72, 3) := by decide +kernel
theorem dX6_exile_21 : decode cX6_exile 21 = .ok (.iconst 1, 1) := by decide +kernel
theorem dX6_exile_22 : decode cX6_exile 22 = .ok (.iload_n 1, 1) := by decide +kernel
theorem dX6_exile_23 : decode cX6_exile 23 = .ok (.ishl, 1) := by decide +kernel
theorem dX6_exile_24 : decode cX6_exile 24 = .ok (.iconst (-1), 1) := by decide +kernel
theorem dX6_exile_25 : decode cX6_exile 25 = .ok (.ixor, 1) := by decide +kernel
theorem dX6_exile_26 : decode cX6_exile 26 = .ok (.iand, 1) := by decide +kernel
theorem dX6_exile_27 : decode cX6_exile 27 = .ok (.putfield 72, 3) := by decide +kernel
theorem dX6_exile_30 : decode cX6_exile 30 = .ok (.aload_n 0, 1) := by decide +kernel
theorem dX6_exile_31 : decode cX6_exile 31 = .ok (.getfield 19, 3) := by decide +kernel
theorem dX6_exile_34 : decode cX6_exile 34 = .ok (.getfield 56, 3) := by decide +kernel
theorem dX6_exile_37 : decode cX6_exile 37 = .ok (.getfield 72, 3) := by decide +kernel
theorem dX6_exile_40 : decode cX6_exile 40 = .ok (.invokestatic 75, 3) := by decide +kernel
theorem dX6_exile_43 : decode cX6_exile 43 = .ok (.ireturn, 1) := by decide +kernel
theorem dX6_plan_0 : decode cX6_plan 0 = .ok (.aload_n 0, 1) := by decide +kernel
theorem dX6_plan_1 : decode cX6_plan 1 = .ok (.getfield 10, 3) := by decide +kernel
theorem dX6_plan_4 : decode cX6_plan 4 = .ok (.invokevirtual 50, 3) := by decide +kernel
theorem dX6_plan_7 : decode cX6_plan 7 = .ok (.bipush (-6), 2) := by decide +kernel
theorem dX6_plan_9 : decode cX6_plan 9 = .ok (.if_icmp .eq 6, 3) := by decide +kernel
theorem dX6_plan_12 : decode cX6_plan 12 = .ok (.bipush (-5), 2) := by decide +kernel
theorem dX6_plan_14 : decode cX6_plan 14 = .ok (.ireturn, 1) := by decide +kernel
theorem dX6_plan_15 : decode cX6_plan 15 = .ok (.aload_n 0, 1) := by decide +kernel
theorem dX6_plan_16 : decode cX6_plan 16 = .ok (.getfield 19, 3) := by decide +kernel
theorem dX6_plan_19 : decode cX6_plan 19 = .ok (.getfield 81, 3) := by decide +kernel
theorem dX6_plan_22 : decode cX6_plan 22 = .ok (.aload_n 0, 1) := by decide +kernel
theorem dX6_plan_23 : decode cX6_plan 23 = .ok (.getfield 10, 3) := by decide +kernel
theorem dX6_plan_26 : decode cX6_plan 26 = .ok (.invokevirtual 85, 3) := by decide +kernel
theorem dX6_plan_29 : decode cX6_plan 29 = .ok (.aload_n 0, 1) := by decide +kernel
theorem dX6_plan_30 : decode cX6_plan 30 = .ok (.invokevirtual 66, 3) := by decide +kernel
theorem dX6_plan_33 : decode cX6_plan 33 = .ok (.pop, 1) := by decide +kernel
theorem dX6_plan_34 : decode cX6_plan 34 = .ok (.aload_n 0, 1) := by decide +kernel
theorem dX6_plan_35 : decode cX6_plan 35 = .ok (.getfield 19, 3) := by decide +kernel
theorem dX6_plan_38 : decode cX6_plan 38 = .ok (.getfield 81, 3) := by decide +kernel
theorem dX6_plan_41 : decode cX6_plan 41 = .ok (.getfield 91, 3) := by decide +kernel
theorem dX6_plan_44 : decode cX6_plan 44 = .ok (.ireturn, 1) := by decide +kernel
theorem dX6_today_0 : decode cX6_today 0 = .ok (.aload_n 0, 1) := by decide +kernel
theorem dX6_today_1 : decode cX6_today 1 = .ok (.iload_n 1, 1) := by decide +kernel
theorem dX6_today_2 : decode cX6_today 2 = .ok (.invokevirtual 69, 3) := by decide +kernel
theorem dX6_today_5 : decode cX6_today 5 = .ok (.ifCond .ne 5, 3) := by decide +kernel
theorem dX6_today_8 : decode cX6_today 8 = .ok (.iconst (-1), 1) := by decide +kernel
theorem dX6_today_9 : decode cX6_today 9 = .ok (.ireturn, 1) := by decide +kernel
theorem dX6_today_10 : decode cX6_today 10 = .ok (.iload_n 2, 1) := by decide +kernel
theorem dX6_today_11 : decode cX6_today 11 = .ok (.invokestatic 92, 3) := by decide +kernel
theorem dX6_today_14 : decode cX6_today 14 = .ok (.ifCond .eq 18, 3) := by decide +kernel
theorem dX6_today_17 : decode cX6_today 17 = .ok (.aload_n 0, 1) := by decide +kernel
theorem dX6_today_18 : decode cX6_today 18 = .ok (.getfield 19, 3) := by decide +kernel
theorem dX6_today_21 : decode cX6_today 21 = .ok (.getfield 56, 3) := by decide +kernel
theorem dX6_today_24 : decode cX6_today 24 = .ok (.iload_n 1, 1) := by decide +kernel
theorem dX6_today_25 : decode cX6_today 25 = .ok (.iload_n 2, 1) := by decide +kernel
theorem dX6_today_26 : decode cX6_today 26 = .ok (.invokevirtual 95, 3) := by decide +kernel
theorem dX6_today_29 : decode cX6_today 29 = .ok (.goto 5, 3) := by decide +kernel
theorem dX6_today_32 : decode cX6_today 32 = .ok (.bipush (-2), 2) := by decide +kernel
theorem dX6_today_34 : decode cX6_today 34 = .ok (.ireturn, 1) := by decide +kernel
theorem dX6_same_0 : decode cX6_same 0 = .ok (.iload_n 1, 1) := by decide +kernel
theorem dX6_same_1 : decode cX6_same 1 = .ok (.bipush 8, 2) := by decide +kernel
theorem dX6_same_3 : decode cX6_same 3 = .ok (.invokestatic 42, 3) := by decide +kernel
theorem dX6_same_6 : decode cX6_same 6 = .ok (.ifCond .ne 5, 3) := by decide +kernel
theorem dX6_same_9 : decode cX6_same 9 = .ok (.iconst (-1), 1) := by decide +kernel
theorem dX6_same_10 : decode cX6_same 10 = .ok (.ireturn, 1) := by decide +kernel
theorem dX6_same_11 : decode cX6_same 11 = .ok (.iload_n 2, 1) := by decide +kernel
theorem dX6_same_12 : decode cX6_same 12 = .ok (.invokestatic 92, 3) := by decide +kernel
theorem dX6_same_15 : decode cX6_same 15 = .ok (.ifCond .eq 18, 3) := by decide +kernel
theorem dX6_same_18 : decode cX6_same 18 = .ok (.aload_n 0, 1) := by decide +kernel
theorem dX6_same_19 : decode cX6_same 19 = .ok (.getfield 19, 3) := by decide +kernel
theorem dX6_same_22 : decode cX6_same 22 = .ok (.getfield 56, 3) := by decide +kernel
theorem dX6_same_25 : decode cX6_same 25 = .ok (.iload_n 1, 1) := by decide +kernel
theorem dX6_same_26 : decode cX6_same 26 = .ok (.iload_n 2, 1) := by decide +kernel
theorem dX6_same_27 : decode cX6_same 27 = .ok (.invokevirtual 99, 3) := by decide +kernel
theorem dX6_same_30 : decode cX6_same 30 = .ok (.goto 5, 3) := by decide +kernel
theorem dX6_same_33 : decode cX6_same 33 = .ok (.bipush (-2), 2) := by decide +kernel
theorem dX6_same_35 : decode cX6_same 35 = .ok (.ireturn, 1) := by decide +kernel
theorem dX6_next_0 : decode cX6_next 0 = .ok (.aload_n 0, 1) := by decide +kernel
theorem dX6_next_1 : decode cX6_next 1 = .ok (.iload_n 1, 1) := by decide +kernel
theorem dX6_next_2 : decode cX6_next 2 = .ok (.invokevirtual 69, 3) := by decide +kernel
theorem dX6_next_5 : decode cX6_next 5 = .ok (.ifCond .eq 12, 3) := by decide +kernel
theorem dX6_next_8 : decode cX6_next 8 = .ok (.iload_n 2, 1) := by decide +kernel
theorem dX6_next_9 : decode cX6_next 9 = .ok (.bipush 8, 2) := by decide +kernel
theorem dX6_next_11 : decode cX6_next 11 = .ok (.invokestatic 42, 3) := by decide +kernel
theorem dX6_next_14 : decode cX6_next 14 = .ok (.ifCond .ne 5, 3) := by decide +kernel
theorem dX6_next_17 : decode cX6_next 17 = .ok (.iconst (-1), 1) := by decide +kernel
theorem dX6_next_18 : decode cX6_next 18 = .ok (.ireturn, 1) := by decide +kernel
theorem dX6_next_19 : decode cX6_next 19 = .ok (.iload_n 3, 1) := by decide +kernel
theorem dX6_next_20 : decode cX6_next 20 = .ok (.invokestatic 92, 3) := by decide +kernel
theorem dX6_next_23 : decode cX6_next 23 = .ok (.ifCond .ne 6, 3) := by decide +kernel
theorem dX6_next_26 : decode cX6_next 26 = .ok (.bipush (-2), 2) := by decide +kernel
theorem dX6_next_28 : decode cX6_next 28 = .ok (.ireturn, 1) := by decide +kernel
theorem dX6_next_29 : decode cX6_next 29 = .ok (.iload_n 3, 1) := by decide +kernel
theorem dX6_next_30 : decode cX6_next 30 = .ok (.istore 4, 2) := by decide +kernel
theorem dX6_next_32 : decode cX6_next 32 = .ok (.iload 4, 2) := by decide +kernel
theorem dX6_next_34 : decode cX6_next 34 = .ok (.sipush 9999, 3) := by decide +kernel
theorem dX6_next_37 : decode cX6_next 37 = .ok (.if_icmp .gt 38, 3) := by decide +kernel
theorem dX6_next_40 : decode cX6_next 40 = .ok (.iload 4, 2) := by decide +kernel
theorem dX6_next_42 : decode cX6_next 42 = .ok (.iload_n 3, 1) := by decide +kernel
theorem dX6_next_43 : decode cX6_next 43 = .ok (.bipush 8, 2) := by decide +kernel
theorem dX6_next_45 : decode cX6_next 45 = .ok (.iadd, 1) := by decide +kernel
theorem dX6_next_46 : decode cX6_next 46 = .ok (.if_icmp .ge 29, 3) := by decide +kernel
theorem dX6_next_49 : decode cX6_next 49 = .ok (.aload_n 0, 1) := by decide +kernel
theorem dX6_next_50 : decode cX6_next 50 = .ok (.getfield 19, 3) := by decide +kernel
theorem dX6_next_53 : decode cX6_next 53 = .ok (.getfield 56, 3) := by decide +kernel
theorem dX6_next_56 : decode cX6_next 56 = .ok (.iload_n 1, 1) := by decide +kernel
theorem dX6_next_57 : decode cX6_next 57 = .ok (.iload 4, 2) := by decide +kernel
theorem dX6_next_59 : decode cX6_next 59 = .ok (.invokevirtual 95, 3) := by decide +kernel
theorem dX6_next_62 : decode cX6_next 62 = .ok (.iload_n 2, 1) := by decide +kernel
theorem dX6_next_63 : decode cX6_next 63 = .ok (.if_icmp .ne 6, 3) := by decide +kernel
theorem dX6_next_66 : decode cX6_next 66 = .ok (.iload 4, 2) := by decide +kernel
theorem dX6_next_68 : decode cX6_next 68 = .ok (.ireturn, 1) := by decide +kernel
theorem dX6_next_69 : decode cX6_next 69 = .ok (.iinc 4 1, 3) := by decide +kernel
theorem dX6_next_72 : decode cX6_next 72 = .ok (.goto (-40), 3) := by decide +kernel
theorem dX6_next_75 : decode cX6_next 75 = .ok (.bipush (-6), 2) := by decide +kernel
theorem dX6_next_77 : decode cX6_next 77 = .ok (.ireturn, 1) := by decide +kernel
theorem dX6_meet_0 : decode cX6_meet 0 = .ok (.aload_n 0, 1) := by decide +kernel
theorem dX6_meet_1 : decode cX6_meet 1 = .ok (.iload_n 1, 1) := by decide +kernel
theorem dX6_meet_2 : decode cX6_meet 2 = .ok (.invokevirtual 102, 3) := by decide +kernel
theorem dX6_meet_5 : decode cX6_meet 5 = .ok (.ifCond .eq 18, 3) := by decide +kernel
theorem dX6_meet_8 : decode cX6_meet 8 = .ok (.iload_n 2, 1) := by decide +kernel
theorem dX6_meet_9 : decode cX6_meet 9 = .ok (.invokestatic 92, 3) := by decide +kernel
theorem dX6_meet_12 : decode cX6_meet 12 = .ok (.ifCond .eq 11, 3) := by decide +kernel
theorem dX6_meet_15 : decode cX6_meet 15 = .ok (.iload_n 3, 1) := by decide +kernel
theorem dX6_meet_16 : decode cX6_meet 16 = .ok (.iconst 2, 1) := by decide +kernel
theorem dX6_meet_17 : decode cX6_meet 17 = .ok (.invokestatic 42, 3) := by decide +kernel
theorem dX6_meet_20 : decode cX6_meet 20 = .ok (.ifCond .ne 6, 3) := by decide +kernel
theorem dX6_meet_23 : decode cX6_meet 23 = .ok (.bipush (-2), 2) := by decide +kernel
theorem dX6_meet_25 : decode cX6_meet 25 = .ok (.ireturn, 1) := by decide +kernel
theorem dX6_meet_26 : decode cX6_meet 26 = .ok (.iload_n 2, 1) := by decide +kernel
theorem dX6_meet_27 : decode cX6_meet 27 = .ok (.istore 4, 2) := by decide +kernel
theorem dX6_meet_29 : decode cX6_meet 29 = .ok (.iload 4, 2) := by decide +kernel
theorem dX6_meet_31 : decode cX6_meet 31 = .ok (.iload_n 2, 1) := by decide +kernel
theorem dX6_meet_32 : decode cX6_meet 32 = .ok (.sipush 840, 3) := by decide +kernel
theorem dX6_meet_35 : decode cX6_meet 35 = .ok (.iadd, 1) := by decide +kernel
theorem dX6_meet_36 : decode cX6_meet 36 = .ok (.if_icmp .ge 43, 3) := by decide +kernel
theorem dX6_meet_39 : decode cX6_meet 39 = .ok (.aload_n 0, 1) := by decide +kernel
theorem dX6_meet_40 : decode cX6_meet 40 = .ok (.getfield 19, 3) := by decide +kernel
theorem dX6_meet_43 : decode cX6_meet 43 = .ok (.getfield 56, 3) := by decide +kernel
theorem dX6_meet_46 : decode cX6_meet 46 = .ok (.iload_n 1, 1) := by decide +kernel
theorem dX6_meet_47 : decode cX6_meet 47 = .ok (.iload 4, 2) := by decide +kernel
theorem dX6_meet_49 : decode cX6_meet 49 = .ok (.invokevirtual 105, 3) := by decide +kernel
theorem dX6_meet_52 : decode cX6_meet 52 = .ok (.istore 5, 2) := by decide +kernel
theorem dX6_meet_54 : decode cX6_meet 54 = .ok (.iload 5, 2) := by decide +kernel
theorem dX6_meet_56 : decode cX6_meet 56 = .ok (.bipush (-6), 2) := by decide +kernel
theorem dX6_meet_58 : decode cX6_meet 58 = .ok (.if_icmp .eq 15, 3) := by decide +kernel
theorem dX6_meet_61 : decode cX6_meet 61 = .ok (.iload_n 3, 1) := by decide +kernel
theorem dX6_meet_62 : decode cX6_meet 62 = .ok (.ifCond .ne 8, 3) := by decide +kernel
theorem dX6_meet_65 : decode cX6_meet 65 = .ok (.iload 4, 2) := by decide +kernel
theorem dX6_meet_67 : decode cX6_meet 67 = .ok (.goto 5, 3) := by decide +kernel
theorem dX6_meet_70 : decode cX6_meet 70 = .ok (.iload 5, 2) := by decide +kernel
theorem dX6_meet_72 : decode cX6_meet 72 = .ok (.ireturn, 1) := by decide +kernel
theorem dX6_meet_73 : decode cX6_meet 73 = .ok (.iinc 4 1, 3) := by decide +kernel
theorem dX6_meet_76 : decode cX6_meet 76 = .ok (.goto (-47), 3) := by decide +kernel
theorem dX6_meet_79 : decode cX6_meet 79 = .ok (.bipush (-6), 2) := by decide +kernel
theorem dX6_meet_81 : decode cX6_meet 81 = .ok (.ireturn, 1) := by decide +kernel
theorem dX6_shared_0 : decode cX6_shared 0 = .ok (.aload_n 0, 1) := by decide +kernel
theorem dX6_shared_1 : decode cX6_shared 1 = .ok (.iload_n 1, 1) := by decide +kernel
theorem dX6_shared_2 : decode cX6_shared 2 = .ok (.iload_n 2, 1) := by decide +kernel
theorem dX6_shared_3 : decode cX6_shared 3 = .ok (.invokevirtual 108, 3) := by decide +kernel
theorem dX6_shared_6 : decode cX6_shared 6 = .ok (.ifCond .ne 5, 3) := by decide +kernel
theorem dX6_shared_9 : decode cX6_shared 9 = .ok (.iconst (-1), 1) := by decide +kernel
theorem dX6_shared_10 : decode cX6_shared 10 = .ok (.ireturn, 1) := by decide +kernel
theorem dX6_shared_11 : decode cX6_shared 11 = .ok (.aload_n 0, 1) := by decide +kernel
theorem dX6_shared_12 : decode cX6_shared 12 = .ok (.getfield 19, 3) := by decide +kernel
theorem dX6_shared_15 : decode cX6_shared 15 = .ok (.getfield 56, 3) := by decide +kernel
theorem dX6_shared_18 : decode cX6_shared 18 = .ok (.iload_n 1, 1) := by decide +kernel
theorem dX6_shared_19 : decode cX6_shared 19 = .ok (.iload_n 2, 1) := by decide +kernel
theorem dX6_shared_20 : decode cX6_shared 20 = .ok (.sipush 840, 3) := by decide +kernel
theorem dX6_shared_23 : decode cX6_shared 23 = .ok (.invokevirtual 111, 3) := by decide +kernel
theorem dX6_shared_26 : decode cX6_shared 26 = .ok (.ireturn, 1) := by decide +kernel
theorem dX6_never_0 : decode cX6_never 0 = .ok (.aload_n 0, 1) := by decide +kernel
theorem dX6_never_1 : decode cX6_never 1 = .ok (.iconst 0, 1) := by decide +kernel
theorem dX6_never_2 : decode cX6_never 2 = .ok (.iload_n 1, 1) := by decide +kernel
theorem dX6_never_3 : decode cX6_never 3 = .ok (.invokevirtual 115, 3) := by decide +kernel
theorem dX6_never_6 : decode cX6_never 6 = .ok (.ireturn, 1) := by decide +kernel
theorem dX6_market_0 : decode cX6_market 0 = .ok (.iload_n 1, 1) := by decide +kernel
theorem dX6_market_1 : decode cX6_market 1 = .ok (.bipush 8, 2) := by decide +kernel
theorem dX6_market_3 : decode cX6_market 3 = .ok (.invokestatic 42, 3) := by decide +kernel
theorem dX6_market_6 : decode cX6_market 6 = .ok (.ifCond .ne 5, 3) := by decide +kernel
theorem dX6_market_9 : decode cX6_market 9 = .ok (.iconst (-1), 1) := by decide +kernel
theorem dX6_market_10 : decode cX6_market 10 = .ok (.ireturn, 1) := by decide +kernel
theorem dX6_market_11 : decode cX6_market 11 = .ok (.iload_n 2, 1) := by decide +kernel
theorem dX6_market_12 : decode cX6_market 12 = .ok (.iconst 1, 1) := by decide +kernel
theorem dX6_market_13 : decode cX6_market 13 = .ok (.if_icmp .lt 17, 3) := by decide +kernel
theorem dX6_market_16 : decode cX6_market 16 = .ok (.iload_n 2, 1) := by decide +kernel
theorem dX6_market_17 : decode cX6_market 17 = .ok (.bipush 6, 2) := by decide +kernel
theorem dX6_market_19 : decode cX6_market 19 = .ok (.if_icmp .gt 11, 3) := by decide +kernel
theorem dX6_market_22 : decode cX6_market 22 = .ok (.iload_n 3, 1) := by decide +kernel
theorem dX6_market_23 : decode cX6_market 23 = .ok (.iconst 3, 1) := by decide +kernel
theorem dX6_market_24 : decode cX6_market 24 = .ok (.invokestatic 42, 3) := by decide +kernel
theorem dX6_market_27 : decode cX6_market 27 = .ok (.ifCond .ne 6, 3) := by decide +kernel
theorem dX6_market_30 : decode cX6_market 30 = .ok (.bipush (-2), 2) := by decide +kernel
theorem dX6_market_32 : decode cX6_market 32 = .ok (.ireturn, 1) := by decide +kernel
theorem dX6_market_33 : decode cX6_market 33 = .ok (.iload_n 3, 1) := by decide +kernel
theorem dX6_market_34 : decode cX6_market 34 = .ok (.ifCond .ne 10, 3) := by decide +kernel
theorem dX6_market_37 : decode cX6_market 37 = .ok (.aload_n 0, 1) := by decide +kernel
theorem dX6_market_38 : decode cX6_market 38 = .ok (.iload_n 1, 1) := by decide +kernel
theorem dX6_market_39 : decode cX6_market 39 = .ok (.iload_n 2, 1) := by decide +kernel
theorem dX6_market_40 : decode cX6_market 40 = .ok (.invokevirtual 119, 3) := by decide +kernel
theorem dX6_market_43 : decode cX6_market 43 = .ok (.ireturn, 1) := by decide +kernel
theorem dX6_market_44 : decode cX6_market 44 = .ok (.iload_n 3, 1) := by decide +kernel
theorem dX6_market_45 : decode cX6_market 45 = .ok (.iconst 1, 1) := by decide +kernel
theorem dX6_market_46 : decode cX6_market 46 = .ok (.if_icmp .ne 12, 3) := by decide +kernel
theorem dX6_market_49 : decode cX6_market 49 = .ok (.aload_n 0, 1) := by decide +kernel
theorem dX6_market_50 : decode cX6_market 50 = .ok (.iload_n 1, 1) := by decide +kernel
theorem dX6_market_51 : decode cX6_market 51 = .ok (.iload_n 2, 1) := by decide +kernel
theorem dX6_market_52 : decode cX6_market 52 = .ok (.invokevirtual 122, 3) := by decide +kernel
theorem dX6_market_55 : decode cX6_market 55 = .ok (.goto 9, 3) := by decide +kernel
theorem dX6_market_58 : decode cX6_market 58 = .ok (.aload_n 0, 1) := by decide +kernel
theorem dX6_market_59 : decode cX6_market 59 = .ok (.iload_n 1, 1) := by decide +kernel
theorem dX6_market_60 : decode cX6_market 60 = .ok (.iload_n 2, 1) := by decide +kernel
theorem dX6_market_61 : decode cX6_market 61 = .ok (.invokevirtual 125, 3) := by decide +kernel
theorem dX6_market_64 : decode cX6_market 64 = .ok (.ireturn, 1) := by decide +kernel
theorem dX6_isMarket_0 : decode cX6_isMarket 0 = .ok (.aload_n 0, 1) := by decide +kernel
theorem dX6_isMarket_1 : decode cX6_isMarket 1 = .ok (.getfield 19, 3) := by decide +kernel
theorem dX6_isMarket_4 : decode cX6_isMarket 4 = .ok (.getfield 56, 3) := by decide +kernel
theorem dX6_isMarket_7 : decode cX6_isMarket 7 = .ok (.iload_n 1, 1) := by decide +kernel
theorem dX6_isMarket_8 : decode cX6_isMarket 8 = .ok (.iload_n 3, 1) := by decide +kernel
theorem dX6_isMarket_9 : decode cX6_isMarket 9 = .ok (.invokevirtual 99, 3) := by decide +kernel
theorem dX6_isMarket_12 : decode cX6_isMarket 12 = .ok (.invokestatic 75, 3) := by decide +kernel
theorem dX6_isMarket_15 : decode cX6_isMarket 15 = .ok (.iload_n 2, 1) := by decide +kernel
theorem dX6_isMarket_16 : decode cX6_isMarket 16 = .ok (.if_icmp .lt 7, 3) := by decide +kernel
theorem dX6_isMarket_19 : decode cX6_isMarket 19 = .ok (.iconst 1, 1) := by decide +kernel
theorem dX6_isMarket_20 : decode cX6_isMarket 20 = .ok (.goto 4, 3) := by decide +kernel
theorem dX6_isMarket_23 : decode cX6_isMarket 23 = .ok (.iconst 0, 1) := by decide +kernel
theorem dX6_isMarket_24 : decode cX6_isMarket 24 = .ok (.ireturn, 1) := by decide +kernel
theorem dX6_countMarkets_0 : decode cX6_countMarkets 0 = .ok (.iconst 0, 1) := by decide +kernel
theorem dX6_countMarkets_1 : decode cX6_countMarkets 1 = .ok (.istore_n 3, 1) := by decide +kernel
theorem dX6_countMarkets_2 : decode cX6_countMarkets 2 = .ok (.iconst 0, 1) := by decide +kernel
theorem dX6_countMarkets_3 : decode cX6_countMarkets 3 = .ok (.istore 4, 2) := by decide +kernel
theorem dX6_countMarkets_5 : decode cX6_countMarkets 5 = .ok (.iload 4, 2) := by decide +kernel
theorem dX6_countMarkets_7 : decode cX6_countMarkets 7 = .ok (.sipush 840, 3) := by decide +kernel
theorem dX6_countMarkets_10 : decode cX6_countMarkets 10 = .ok (.if_icmp .ge 23, 3) := by decide +kernel
theorem dX6_countMarkets_13 : decode cX6_countMarkets 13 = .ok (.aload_n 0, 1) := by decide +kernel
theorem dX6_countMarkets_14 : decode cX6_countMarkets 14 = .ok (.iload_n 1, 1) := by decide +kernel
theorem dX6_countMarkets_15 : decode cX6_countMarkets 15 = .ok (.iload_n 2, 1) := by decide +kernel
theorem dX6_countMarkets_16 : decode cX6_countMarkets 16 = .ok (.iload 4, 2) := by decide +kernel
theorem dX6_countMarkets_18 : decode cX6_countMarkets 18 = .ok (.invokevirtual 128, 3) := by decide +kernel
theorem dX6_countMarkets_21 : decode cX6_countMarkets 21 = .ok (.ifCond .eq 6, 3) := by decide +kernel
theorem dX6_countMarkets_24 : decode cX6_countMarkets 24 = .ok (.iinc 3 1, 3) := by decide +kernel
theorem dX6_countMarkets_27 : decode cX6_countMarkets 27 = .ok (.iinc 4 1, 3) := by decide +kernel
theorem dX6_countMarkets_30 : decode cX6_countMarkets 30 = .ok (.goto (-25), 3) := by decide +kernel
theorem dX6_countMarkets_33 : decode cX6_countMarkets 33 = .ok (.iload_n 3, 1) := by decide +kernel
theorem dX6_countMarkets_34 : decode cX6_countMarkets 34 = .ok (.ireturn, 1) := by decide +kernel
theorem dX6_firstMarket_0 : decode cX6_firstMarket 0 = .ok (.iconst 0, 1) := by decide +kernel
theorem dX6_firstMarket_1 : decode cX6_firstMarket 1 = .ok (.istore_n 3, 1) := by decide +kernel
theorem dX6_firstMarket_2 : decode cX6_firstMarket 2 = .ok (.iload_n 3, 1) := by decide +kernel
theorem dX6_firstMarket_3 : decode cX6_firstMarket 3 = .ok (.sipush 840, 3) := by decide +kernel
theorem dX6_firstMarket_6 : decode cX6_firstMarket 6 = .ok (.if_icmp .ge 21, 3) := by decide +kernel
theorem dX6_firstMarket_9 : decode cX6_firstMarket 9 = .ok (.aload_n 0, 1) := by decide +kernel
theorem dX6_firstMarket_10 : decode cX6_firstMarket 10 = .ok (.iload_n 1, 1) := by decide +kernel
theorem dX6_firstMarket_11 : decode cX6_firstMarket 11 = .ok (.iload_n 2, 1) := by decide +kernel
theorem dX6_firstMarket_12 : decode cX6_firstMarket 12 = .ok (.iload_n 3, 1) := by decide +kernel
theorem dX6_firstMarket_13 : decode cX6_firstMarket 13 = .ok (.invokevirtual 128, 3) := by decide +kernel
theorem dX6_firstMarket_16 : decode cX6_firstMarket 16 = .ok (.ifCond .eq 5, 3) := by decide +kernel
theorem dX6_firstMarket_19 : decode cX6_firstMarket 19 = .ok (.iload_n 3, 1) := by decide +kernel
theorem dX6_firstMarket_20 : decode cX6_firstMarket 20 = .ok (.ireturn, 1) := by decide +kernel
theorem dX6_firstMarket_21 : decode cX6_firstMarket 21 = .ok (.iinc 3 1, 3) := by decide +kernel
theorem dX6_firstMarket_24 : decode cX6_firstMarket 24 = .ok (.goto (-22), 3) := by decide +kernel
theorem dX6_firstMarket_27 : decode cX6_firstMarket 27 = .ok (.bipush (-6), 2) := by decide +kernel
theorem dX6_firstMarket_29 : decode cX6_firstMarket 29 = .ok (.ireturn, 1) := by decide +kernel
theorem dX6_longestWithoutMarket_0 : decode cX6_longestWithoutMarket 0 = .ok (.aload_n 0, 1) := by decide +kernel
theorem dX6_longestWithoutMarket_1 : decode cX6_longestWithoutMarket 1 = .ok (.iload_n 1, 1) := by decide +kernel
theorem dX6_longestWithoutMarket_2 : decode cX6_longestWithoutMarket 2 = .ok (.iload_n 2, 1) := by decide +kernel
theorem dX6_longestWithoutMarket_3 : decode cX6_longestWithoutMarket 3 = .ok (.invokevirtual 122, 3) := by decide +kernel
theorem dX6_longestWithoutMarket_6 : decode cX6_longestWithoutMarket 6 = .ok (.istore_n 3, 1) := by decide +kernel
theorem dX6_longestWithoutMarket_7 : decode cX6_longestWithoutMarket 7 = .ok (.iload_n 3, 1) := by decide +kernel
theorem dX6_longestWithoutMarket_8 : decode cX6_longestWithoutMarket 8 = .ok (.bipush (-6), 2) := by decide +kernel
theorem dX6_longestWithoutMarket_10 : decode cX6_longestWithoutMarket 10 = .ok (.if_icmp .ne 7, 3) := by decide +kernel
theorem dX6_longestWithoutMarket_13 : decode cX6_longestWithoutMarket 13 = .ok (.sipush 840, 3) := by decide +kernel
theorem dX6_longestWithoutMarket_16 : decode cX6_longestWithoutMarket 16 = .ok (.ireturn, 1) := by decide +kernel
theorem dX6_longestWithoutMarket_17 : decode cX6_longestWithoutMarket 17 = .ok (.iconst 0, 1) := by decide +kernel
theorem dX6_longestWithoutMarket_18 : decode cX6_longestWithoutMarket 18 = .ok (.istore 4, 2) := by decide +kernel
theorem dX6_longestWithoutMarket_20 : decode cX6_longestWithoutMarket 20 = .ok (.iconst 0, 1) := by decide +kernel
theorem dX6_longestWithoutMarket_21 : decode cX6_longestWithoutMarket 21 = .ok (.istore 5, 2) := by decide +kernel
theorem dX6_longestWithoutMarket_23 : decode cX6_longestWithoutMarket 23 = .ok (.iload_n 3, 1) := by decide +kernel
theorem dX6_longestWithoutMarket_24 : decode cX6_longestWithoutMarket 24 = .ok (.istore 6, 2) := by decide +kernel
theorem dX6_longestWithoutMarket_26 : decode cX6_longestWithoutMarket 26 = .ok (.iload 6, 2) := by decide +kernel
theorem dX6_longestWithoutMarket_28 : decode cX6_longestWithoutMarket 28 = .ok (.iload_n 3, 1) := by decide +kernel
theorem dX6_longestWithoutMarket_29 : decode cX6_longestWithoutMarket 29 = .ok (.sipush 840, 3) := by decide +kernel
theorem dX6_longestWithoutMarket_32 : decode cX6_longestWithoutMarket 32 = .ok (.iadd, 1) := by decide +kernel
theorem dX6_longestWithoutMarket_33 : decode cX6_longestWithoutMarket 33 = .ok (.if_icmp .gt 39, 3) := by decide +kernel
theorem dX6_longestWithoutMarket_36 : decode cX6_longestWithoutMarket 36 = .ok (.aload_n 0, 1) := by decide +kernel
theorem dX6_longestWithoutMarket_37 : decode cX6_longestWithoutMarket 37 = .ok (.iload_n 1, 1) := by decide +kernel
theorem dX6_longestWithoutMarket_38 : decode cX6_longestWithoutMarket 38 = .ok (.iload_n 2, 1) := by decide +kernel
theorem dX6_longestWithoutMarket_39 : decode cX6_longestWithoutMarket 39 = .ok (.iload 6, 2) := by decide +kernel
theorem dX6_longestWithoutMarket_41 : decode cX6_longestWithoutMarket 41 = .ok (.invokevirtual 128, 3) := by decide +kernel
theorem dX6_longestWithoutMarket_44 : decode cX6_longestWithoutMarket 44 = .ok (.ifCond .eq 7, 3) := by decide +kernel
theorem dX6_longestWithoutMarket_47 : decode cX6_longestWithoutMarket 47 = .ok (.iconst 0, 1) := by decide +kernel
theorem dX6_longestWithoutMarket_48 : decode cX6_longestWithoutMarket 48 = .ok (.goto 7, 3) := by decide +kernel
theorem dX6_longestWithoutMarket_51 : decode cX6_longestWithoutMarket 51 = .ok (.iload 5, 2) := by decide +kernel
theorem dX6_longestWithoutMarket_53 : decode cX6_longestWithoutMarket 53 = .ok (.iconst 1, 1) := by decide +kernel
theorem dX6_longestWithoutMarket_54 : decode cX6_longestWithoutMarket 54 = .ok (.iadd, 1) := by decide +kernel
theorem dX6_longestWithoutMarket_55 : decode cX6_longestWithoutMarket 55 = .ok (.istore 5, 2) := by decide +kernel
theorem dX6_longestWithoutMarket_57 : decode cX6_longestWithoutMarket 57 = .ok (.iload 4, 2) := by decide +kernel
theorem dX6_longestWithoutMarket_59 : decode cX6_longestWithoutMarket 59 = .ok (.iload 5, 2) := by decide +kernel
theorem dX6_longestWithoutMarket_61 : decode cX6_longestWithoutMarket 61 = .ok (.invokestatic 132, 3) := by decide +kernel
theorem dX6_longestWithoutMarket_64 : decode cX6_longestWithoutMarket 64 = .ok (.istore 4, 2) := by decide +kernel
theorem dX6_longestWithoutMarket_66 : decode cX6_longestWithoutMarket 66 = .ok (.iinc 6 1, 3) := by decide +kernel
theorem dX6_longestWithoutMarket_69 : decode cX6_longestWithoutMarket 69 = .ok (.goto (-43), 3) := by decide +kernel
theorem dX6_longestWithoutMarket_72 : decode cX6_longestWithoutMarket 72 = .ok (.iload 4, 2) := by decide +kernel
theorem dX6_longestWithoutMarket_74 : decode cX6_longestWithoutMarket 74 = .ok (.ireturn, 1) := by decide +kernel
theorem dX6_can_0 : decode cX6_can 0 = .ok (.iload_n 1, 1) := by decide +kernel
theorem dX6_can_1 : decode cX6_can 1 = .ok (.aload_n 0, 1) := by decide +kernel
theorem dX6_can_2 : decode cX6_can 2 = .ok (.getfield 19, 3) := by decide +kernel
theorem dX6_can_5 : decode cX6_can 5 = .ok (.getfield 81, 3) := by decide +kernel
theorem dX6_can_8 : decode cX6_can 8 = .ok (.getfield 91, 3) := by decide +kernel
theorem dX6_can_11 : decode cX6_can 11 = .ok (.invokestatic 42, 3) := by decide +kernel
theorem dX6_can_14 : decode cX6_can 14 = .ok (.ifCond .ne 5, 3) := by decide +kernel
theorem dX6_can_17 : decode cX6_can 17 = .ok (.iconst (-1), 1) := by decide +kernel
theorem dX6_can_18 : decode cX6_can 18 = .ok (.ireturn, 1) := by decide +kernel
theorem dX6_can_19 : decode cX6_can 19 = .ok (.iload_n 2, 1) := by decide +kernel
theorem dX6_can_20 : decode cX6_can 20 = .ok (.invokestatic 92, 3) := by decide +kernel
theorem dX6_can_23 : decode cX6_can 23 = .ok (.ifCond .ne 6, 3) := by decide +kernel
theorem dX6_can_26 : decode cX6_can 26 = .ok (.bipush (-2), 2) := by decide +kernel
theorem dX6_can_28 : decode cX6_can 28 = .ok (.ireturn, 1) := by decide +kernel
theorem dX6_can_29 : decode cX6_can 29 = .ok (.aload_n 0, 1) := by decide +kernel
theorem dX6_can_30 : decode cX6_can 30 = .ok (.getfield 19, 3) := by decide +kernel
theorem dX6_can_33 : decode cX6_can 33 = .ok (.iload_n 1, 1) := by decide +kernel
theorem dX6_can_34 : decode cX6_can 34 = .ok (.iload_n 2, 1) := by decide +kernel
theorem dX6_can_35 : decode cX6_can 35 = .ok (.invokevirtual 137, 3) := by decide +kernel
theorem dX6_can_38 : decode cX6_can 38 = .ok (.ifCond .eq 7, 3) := by decide +kernel
theorem dX6_can_41 : decode cX6_can 41 = .ok (.iconst 1, 1) := by decide +kernel
theorem dX6_can_42 : decode cX6_can 42 = .ok (.goto 4, 3) := by decide +kernel
theorem dX6_can_45 : decode cX6_can 45 = .ok (.iconst 0, 1) := by decide +kernel
theorem dX6_can_46 : decode cX6_can 46 = .ok (.ireturn, 1) := by decide +kernel
theorem dX6_month_0 : decode cX6_month 0 = .ok (.iload_n 2, 1) := by decide +kernel
theorem dX6_month_1 : decode cX6_month 1 = .ok (.iconst (-1), 1) := by decide +kernel
theorem dX6_month_2 : decode cX6_month 2 = .ok (.if_icmp .eq 22, 3) := by decide +kernel
theorem dX6_month_5 : decode cX6_month 5 = .ok (.iload_n 2, 1) := by decide +kernel
theorem dX6_month_6 : decode cX6_month 6 = .ok (.aload_n 0, 1) := by decide +kernel
theorem dX6_month_7 : decode cX6_month 7 = .ok (.getfield 19, 3) := by decide +kernel
theorem dX6_month_10 : decode cX6_month 10 = .ok (.getfield 81, 3) := by decide +kernel
theorem dX6_month_13 : decode cX6_month 13 = .ok (.getfield 91, 3) := by decide +kernel
theorem dX6_month_16 : decode cX6_month 16 = .ok (.invokestatic 42, 3) := by decide +kernel
theorem dX6_month_19 : decode cX6_month 19 = .ok (.ifCond .ne 5, 3) := by decide +kernel
theorem dX6_month_22 : decode cX6_month 22 = .ok (.iconst (-1), 1) := by decide +kernel
theorem dX6_month_23 : decode cX6_month 23 = .ok (.ireturn, 1) := by decide +kernel
theorem dX6_month_24 : decode cX6_month 24 = .ok (.iload_n 1, 1) := by decide +kernel
theorem dX6_month_25 : decode cX6_month 25 = .ok (.ifCond .lt 10, 3) := by decide +kernel
theorem dX6_month_28 : decode cX6_month 28 = .ok (.iload_n 1, 1) := by decide +kernel
theorem dX6_month_29 : decode cX6_month 29 = .ok (.sipush 9970, 3) := by decide +kernel
theorem dX6_month_32 : decode cX6_month 32 = .ok (.if_icmp .le 6, 3) := by decide +kernel
theorem dX6_month_35 : decode cX6_month 35 = .ok (.bipush (-2), 2) := by decide +kernel
theorem dX6_month_37 : decode cX6_month 37 = .ok (.ireturn, 1) := by decide +kernel
theorem dX6_month_38 : decode cX6_month 38 = .ok (.aload_n 0, 1) := by decide +kernel
theorem dX6_month_39 : decode cX6_month 39 = .ok (.getfield 30, 3) := by decide +kernel
theorem dX6_month_42 : decode cX6_month 42 = .ok (.aload_n 0, 1) := by decide +kernel
theorem dX6_month_43 : decode cX6_month 43 = .ok (.getfield 19, 3) := by decide +kernel
theorem dX6_month_46 : decode cX6_month 46 = .ok (.iload_n 1, 1) := by decide +kernel
theorem dX6_month_47 : decode cX6_month 47 = .ok (.invokevirtual 140, 3) := by decide +kernel
theorem dX6_month_50 : decode cX6_month 50 = .ok (.iload_n 2, 1) := by decide +kernel
theorem dX6_month_51 : decode cX6_month 51 = .ok (.iconst (-1), 1) := by decide +kernel
theorem dX6_month_52 : decode cX6_month 52 = .ok (.if_icmp .ne 13, 3) := by decide +kernel
theorem dX6_month_55 : decode cX6_month 55 = .ok (.aload_n 0, 1) := by decide +kernel
theorem dX6_month_56 : decode cX6_month 56 = .ok (.getfield 30, 3) := by decide +kernel
theorem dX6_month_59 : decode cX6_month 59 = .ok (.getfield 143, 3) := by decide +kernel
theorem dX6_month_62 : decode cX6_month 62 = .ok (.goto 11, 3) := by decide +kernel
theorem dX6_month_65 : decode cX6_month 65 = .ok (.aload_n 0, 1) := by decide +kernel
theorem dX6_month_66 : decode cX6_month 66 = .ok (.getfield 30, 3) := by decide +kernel
theorem dX6_month_69 : decode cX6_month 69 = .ok (.iload_n 2, 1) := by decide +kernel
theorem dX6_month_70 : decode cX6_month 70 = .ok (.invokevirtual 146, 3) := by decide +kernel
theorem dX6_month_73 : decode cX6_month 73 = .ok (.ireturn, 1) := by decide +kernel
theorem dX6_barred_0 : decode cX6_barred 0 = .ok (.iconst 0, 1) := by decide +kernel
theorem dX6_barred_1 : decode cX6_barred 1 = .ok (.istore_n 1, 1) := by decide +kernel
theorem dX6_barred_2 : decode cX6_barred 2 = .ok (.iconst 0, 1) := by decide +kernel
theorem dX6_barred_3 : decode cX6_barred 3 = .ok (.istore_n 2, 1) := by decide +kernel
theorem dX6_barred_4 : decode cX6_barred 4 = .ok (.iload_n 2, 1) := by decide +kernel
theorem dX6_barred_5 : decode cX6_barred 5 = .ok (.aload_n 0, 1) := by decide +kernel
theorem dX6_barred_6 : decode cX6_barred 6 = .ok (.getfield 19, 3) := by decide +kernel
theorem dX6_barred_9 : decode cX6_barred 9 = .ok (.getfield 81, 3) := by decide +kernel
theorem dX6_barred_12 : decode cX6_barred 12 = .ok (.getfield 91, 3) := by decide +kernel
theorem dX6_barred_15 : decode cX6_barred 15 = .ok (.if_icmp .ge 26, 3) := by decide +kernel
theorem dX6_barred_18 : decode cX6_barred 18 = .ok (.aload_n 0, 1) := by decide +kernel
theorem dX6_barred_19 : decode cX6_barred 19 = .ok (.getfield 19, 3) := by decide +kernel
theorem dX6_barred_22 : decode cX6_barred 22 = .ok (.iload_n 2, 1) := by decide +kernel
theorem dX6_barred_23 : decode cX6_barred 23 = .ok (.invokevirtual 149, 3) := by decide +kernel
theorem dX6_barred_26 : decode cX6_barred 26 = .ok (.ifCond .eq 9, 3) := by decide +kernel
theorem dX6_barred_29 : decode cX6_barred 29 = .ok (.iload_n 1, 1) := by decide +kernel
theorem dX6_barred_30 : decode cX6_barred 30 = .ok (.iconst 1, 1) := by decide +kernel
theorem dX6_barred_31 : decode cX6_barred 31 = .ok (.iload_n 2, 1) := by decide +kernel
theorem dX6_barred_32 : decode cX6_barred 32 = .ok (.ishl, 1) := by decide +kernel
theorem dX6_barred_33 : decode cX6_barred 33 = .ok (.ior, 1) := by decide +kernel
theorem dX6_barred_34 : decode cX6_barred 34 = .ok (.istore_n 1, 1) := by decide +kernel
theorem dX6_barred_35 : decode cX6_barred 35 = .ok (.iinc 2 1, 3) := by decide +kernel
theorem dX6_barred_38 : decode cX6_barred 38 = .ok (.goto (-34), 3) := by decide +kernel
theorem dX6_barred_41 : decode cX6_barred 41 = .ok (.iload_n 1, 1) := by decide +kernel
theorem dX6_barred_42 : decode cX6_barred 42 = .ok (.ireturn, 1) := by decide +kernel
theorem dX6_why_0 : decode cX6_why 0 = .ok (.iload_n 1, 1) := by decide +kernel
theorem dX6_why_1 : decode cX6_why 1 = .ok (.aload_n 0, 1) := by decide +kernel
theorem dX6_why_2 : decode cX6_why 2 = .ok (.getfield 19, 3) := by decide +kernel
theorem dX6_why_5 : decode cX6_why 5 = .ok (.getfield 81, 3) := by decide +kernel
theorem dX6_why_8 : decode cX6_why 8 = .ok (.getfield 91, 3) := by decide +kernel
theorem dX6_why_11 : decode cX6_why 11 = .ok (.invokestatic 42, 3) := by decide +kernel
theorem dX6_why_14 : decode cX6_why 14 = .ok (.ifCond .ne 5, 3) := by decide +kernel
theorem dX6_why_17 : decode cX6_why 17 = .ok (.iconst (-1), 1) := by decide +kernel
theorem dX6_why_18 : decode cX6_why 18 = .ok (.ireturn, 1) := by decide +kernel
theorem dX6_why_19 : decode cX6_why 19 = .ok (.aload_n 0, 1) := by decide +kernel
theorem dX6_why_20 : decode cX6_why 20 = .ok (.getfield 19, 3) := by decide +kernel
theorem dX6_why_23 : decode cX6_why 23 = .ok (.iload_n 1, 1) := by decide +kernel
theorem dX6_why_24 : decode cX6_why 24 = .ok (.invokevirtual 149, 3) := by decide +kernel
theorem dX6_why_27 : decode cX6_why 27 = .ok (.ifCond .ne 6, 3) := by decide +kernel
theorem dX6_why_30 : decode cX6_why 30 = .ok (.bipush (-5), 2) := by decide +kernel
theorem dX6_why_32 : decode cX6_why 32 = .ok (.ireturn, 1) := by decide +kernel
theorem dX6_why_33 : decode cX6_why 33 = .ok (.aload_n 0, 1) := by decide +kernel
theorem dX6_why_34 : decode cX6_why 34 = .ok (.getfield 19, 3) := by decide +kernel
theorem dX6_why_37 : decode cX6_why 37 = .ok (.getfield 81, 3) := by decide +kernel
theorem dX6_why_40 : decode cX6_why 40 = .ok (.iload_n 1, 1) := by decide +kernel
theorem dX6_why_41 : decode cX6_why 41 = .ok (.invokevirtual 152, 3) := by decide +kernel
theorem dX6_why_44 : decode cX6_why 44 = .ok (.istore_n 2, 1) := by decide +kernel
theorem dX6_why_45 : decode cX6_why 45 = .ok (.iload_n 2, 1) := by decide +kernel
theorem dX6_why_46 : decode cX6_why 46 = .ok (.aload_n 0, 1) := by decide +kernel
theorem dX6_why_47 : decode cX6_why 47 = .ok (.getfield 19, 3) := by decide +kernel
theorem dX6_why_50 : decode cX6_why 50 = .ok (.getfield 56, 3) := by decide +kernel
theorem dX6_why_53 : decode cX6_why 53 = .ok (.getfield 72, 3) := by decide +kernel
theorem dX6_why_56 : decode cX6_why 56 = .ok (.iconst (-1), 1) := by decide +kernel
theorem dX6_why_57 : decode cX6_why 57 = .ok (.ixor, 1) := by decide +kernel
theorem dX6_why_58 : decode cX6_why 58 = .ok (.iand, 1) := by decide +kernel
theorem dX6_why_59 : decode cX6_why 59 = .ok (.ifCond .eq 6, 3) := by decide +kernel
theorem dX6_why_62 : decode cX6_why 62 = .ok (.bipush (-3), 2) := by decide +kernel
theorem dX6_why_64 : decode cX6_why 64 = .ok (.ireturn, 1) := by decide +kernel
theorem dX6_why_65 : decode cX6_why 65 = .ok (.aload_n 0, 1) := by decide +kernel
theorem dX6_why_66 : decode cX6_why 66 = .ok (.getfield 19, 3) := by decide +kernel
theorem dX6_why_69 : decode cX6_why 69 = .ok (.getfield 56, 3) := by decide +kernel
theorem dX6_why_72 : decode cX6_why 72 = .ok (.iload_n 2, 1) := by decide +kernel
theorem dX6_why_73 : decode cX6_why 73 = .ok (.aload_n 0, 1) := by decide +kernel
theorem dX6_why_74 : decode cX6_why 74 = .ok (.getfield 19, 3) := by decide +kernel
theorem dX6_why_77 : decode cX6_why 77 = .ok (.getfield 81, 3) := by decide +kernel
theorem dX6_why_80 : decode cX6_why 80 = .ok (.iload_n 1, 1) := by decide +kernel
theorem dX6_why_81 : decode cX6_why 81 = .ok (.invokevirtual 155, 3) := by decide +kernel
theorem dX6_why_84 : decode cX6_why 84 = .ok (.invokevirtual 158, 3) := by decide +kernel
theorem dX6_why_87 : decode cX6_why 87 = .ok (.ireturn, 1) := by decide +kernel
theorem dX6_common_0 : decode cX6_common 0 = .ok (.aload_n 0, 1) := by decide +kernel
theorem dX6_common_1 : decode cX6_common 1 = .ok (.iload_n 1, 1) := by decide +kernel
theorem dX6_common_2 : decode cX6_common 2 = .ok (.invokevirtual 102, 3) := by decide +kernel
theorem dX6_common_5 : decode cX6_common 5 = .ok (.ifCond .eq 22, 3) := by decide +kernel
theorem dX6_common_8 : decode cX6_common 8 = .ok (.iload_n 2, 1) := by decide +kernel
theorem dX6_common_9 : decode cX6_common 9 = .ok (.ifCond .lt 18, 3) := by decide +kernel
theorem dX6_common_12 : decode cX6_common 12 = .ok (.iload_n 2, 1) := by decide +kernel
theorem dX6_common_13 : decode cX6_common 13 = .ok (.sipush 9990, 3) := by decide +kernel
theorem dX6_common_16 : decode cX6_common 16 = .ok (.if_icmp .gt 11, 3) := by decide +kernel
theorem dX6_common_19 : decode cX6_common 19 = .ok (.iload_n 3, 1) := by decide +kernel
theorem dX6_common_20 : decode cX6_common 20 = .ok (.iconst 2, 1) := by decide +kernel
theorem dX6_common_21 : decode cX6_common 21 = .ok (.invokestatic 42, 3) := by decide +kernel
theorem dX6_common_24 : decode cX6_common 24 = .ok (.ifCond .ne 6, 3) := by decide +kernel
theorem dX6_common_27 : decode cX6_common 27 = .ok (.bipush (-2), 2) := by decide +kernel
theorem dX6_common_29 : decode cX6_common 29 = .ok (.ireturn, 1) := by decide +kernel
theorem dX6_common_30 : decode cX6_common 30 = .ok (.bipush 7, 2) := by decide +kernel
theorem dX6_common_32 : decode cX6_common 32 = .ok (.istore 4, 2) := by decide +kernel
theorem dX6_common_34 : decode cX6_common 34 = .ok (.bipush (-6), 2) := by decide +kernel
theorem dX6_common_36 : decode cX6_common 36 = .ok (.istore 5, 2) := by decide +kernel
theorem dX6_common_38 : decode cX6_common 38 = .ok (.iconst 0, 1) := by decide +kernel
theorem dX6_common_39 : decode cX6_common 39 = .ok (.istore 6, 2) := by decide +kernel
theorem dX6_common_41 : decode cX6_common 41 = .ok (.iload 6, 2) := by decide +kernel
theorem dX6_common_43 : decode cX6_common 43 = .ok (.bipush 7, 2) := by decide +kernel
theorem dX6_common_45 : decode cX6_common 45 = .ok (.if_icmp .ge 80, 3) := by decide +kernel
theorem dX6_common_48 : decode cX6_common 48 = .ok (.iconst 0, 1) := by decide +kernel
theorem dX6_common_49 : decode cX6_common 49 = .ok (.istore 7, 2) := by decide +kernel
theorem dX6_common_51 : decode cX6_common 51 = .ok (.iload 7, 2) := by decide +kernel
theorem dX6_common_53 : decode cX6_common 53 = .ok (.bipush 8, 2) := by decide +kernel
theorem dX6_common_55 : decode cX6_common 55 = .ok (.if_icmp .ge 64, 3) := by decide +kernel
theorem dX6_common_58 : decode cX6_common 58 = .ok (.aload_n 0, 1) := by decide +kernel
theorem dX6_common_59 : decode cX6_common 59 = .ok (.getfield 19, 3) := by decide +kernel
theorem dX6_common_62 : decode cX6_common 62 = .ok (.getfield 56, 3) := by decide +kernel
theorem dX6_common_65 : decode cX6_common 65 = .ok (.iload 7, 2) := by decide +kernel
theorem dX6_common_67 : decode cX6_common 67 = .ok (.iload_n 2, 1) := by decide +kernel
theorem dX6_common_68 : decode cX6_common 68 = .ok (.iload 6, 2) := by decide +kernel
theorem dX6_common_70 : decode cX6_common 70 = .ok (.iadd, 1) := by decide +kernel
theorem dX6_common_71 : decode cX6_common 71 = .ok (.invokevirtual 99, 3) := by decide +kernel
theorem dX6_common_74 : decode cX6_common 74 = .ok (.istore 8, 2) := by decide +kernel
theorem dX6_common_76 : decode cX6_common 76 = .ok (.iload_n 1, 1) := by decide +kernel
theorem dX6_common_77 : decode cX6_common 77 = .ok (.iload 8, 2) := by decide +kernel
theorem dX6_common_79 : decode cX6_common 79 = .ok (.iconst (-1), 1) := by decide +kernel
theorem dX6_common_80 : decode cX6_common 80 = .ok (.ixor, 1) := by decide +kernel
theorem dX6_common_81 : decode cX6_common 81 = .ok (.iand, 1) := by decide +kernel
theorem dX6_common_82 : decode cX6_common 82 = .ok (.invokestatic 75, 3) := by decide +kernel
theorem dX6_common_85 : decode cX6_common 85 = .ok (.istore 9, 2) := by decide +kernel
theorem dX6_common_87 : decode cX6_common 87 = .ok (.iload 8, 2) := by decide +kernel
theorem dX6_common_89 : decode cX6_common 89 = .ok (.ifCond .eq 24, 3) := by decide +kernel
theorem dX6_common_92 : decode cX6_common 92 = .ok (.iload 9, 2) := by decide +kernel
theorem dX6_common_94 : decode cX6_common 94 = .ok (.iload 4, 2) := by decide +kernel
theorem dX6_common_96 : decode cX6_common 96 = .ok (.if_icmp .ge 17, 3) := by decide +kernel
theorem dX6_common_99 : decode cX6_common 99 = .ok (.iload 9, 2) := by decide +kernel
theorem dX6_common_101 : decode cX6_common 101 = .ok (.istore 4, 2) := by decide +kernel
theorem dX6_common_103 : decode cX6_common 103 = .ok (.bipush 100, 2) := by decide +kernel
theorem dX6_common_105 : decode cX6_common 105 = .ok (.iload 6, 2) := by decide +kernel
theorem dX6_common_107 : decode cX6_common 107 = .ok (.imul, 1) := by decide +kernel
theorem dX6_common_108 : decode cX6_common 108 = .ok (.iload 7, 2) := by decide +kernel
theorem dX6_common_110 : decode cX6_common 110 = .ok (.iadd, 1) := by decide +kernel
theorem dX6_common_111 : decode cX6_common 111 = .ok (.istore 5, 2) := by decide +kernel
theorem dX6_common_113 : decode cX6_common 113 = .ok (.iinc 7 1, 3) := by decide +kernel
theorem dX6_common_116 : decode cX6_common 116 = .ok (.goto (-65), 3) := by decide +kernel
theorem dX6_common_119 : decode cX6_common 119 = .ok (.iinc 6 1, 3) := by decide +kernel
theorem dX6_common_122 : decode cX6_common 122 = .ok (.goto (-81), 3) := by decide +kernel
theorem dX6_common_125 : decode cX6_common 125 = .ok (.iload_n 3, 1) := by decide +kernel
theorem dX6_common_126 : decode cX6_common 126 = .ok (.ifCond .ne 8, 3) := by decide +kernel
theorem dX6_common_129 : decode cX6_common 129 = .ok (.iload 4, 2) := by decide +kernel
theorem dX6_common_131 : decode cX6_common 131 = .ok (.goto 5, 3) := by decide +kernel
theorem dX6_common_134 : decode cX6_common 134 = .ok (.iload 5, 2) := by decide +kernel
theorem dX6_common_136 : decode cX6_common 136 = .ok (.ireturn, 1) := by decide +kernel
theorem dX6_wedding_0 : decode cX6_wedding 0 = .ok (.aload_n 0, 1) := by decide +kernel
theorem dX6_wedding_1 : decode cX6_wedding 1 = .ok (.iload_n 1, 1) := by decide +kernel
theorem dX6_wedding_2 : decode cX6_wedding 2 = .ok (.iload_n 2, 1) := by decide +kernel
theorem dX6_wedding_3 : decode cX6_wedding 3 = .ok (.invokevirtual 108, 3) := by decide +kernel
theorem dX6_wedding_6 : decode cX6_wedding 6 = .ok (.ifCond .ne 5, 3) := by decide +kernel
theorem dX6_wedding_9 : decode cX6_wedding 9 = .ok (.iconst (-1), 1) := by decide +kernel
theorem dX6_wedding_10 : decode cX6_wedding 10 = .ok (.ireturn, 1) := by decide +kernel
theorem dX6_wedding_11 : decode cX6_wedding 11 = .ok (.iload_n 3, 1) := by decide +kernel
theorem dX6_wedding_12 : decode cX6_wedding 12 = .ok (.iconst 2, 1) := by decide +kernel
theorem dX6_wedding_13 : decode cX6_wedding 13 = .ok (.invokestatic 42, 3) := by decide +kernel
theorem dX6_wedding_16 : decode cX6_wedding 16 = .ok (.ifCond .ne 6, 3) := by decide +kernel
theorem dX6_wedding_19 : decode cX6_wedding 19 = .ok (.bipush (-2), 2) := by decide +kernel
theorem dX6_wedding_21 : decode cX6_wedding 21 = .ok (.ireturn, 1) := by decide +kernel
theorem dX6_wedding_22 : decode cX6_wedding 22 = .ok (.bipush (-6), 2) := by decide +kernel
theorem dX6_wedding_24 : decode cX6_wedding 24 = .ok (.istore 4, 2) := by decide +kernel
theorem dX6_wedding_26 : decode cX6_wedding 26 = .ok (.bipush (-6), 2) := by decide +kernel
theorem dX6_wedding_28 : decode cX6_wedding 28 = .ok (.istore 5, 2) := by decide +kernel
theorem dX6_wedding_30 : decode cX6_wedding 30 = .ok (.iconst 0, 1) := by decide +kernel
theorem dX6_wedding_31 : decode cX6_wedding 31 = .ok (.istore 6, 2) := by decide +kernel
theorem dX6_wedding_33 : decode cX6_wedding 33 = .ok (.iload 6, 2) := by decide +kernel
theorem dX6_wedding_35 : decode cX6_wedding 35 = .ok (.bipush 16, 2) := by decide +kernel
theorem dX6_wedding_37 : decode cX6_wedding 37 = .ok (.if_icmp .ge 48, 3) := by decide +kernel
theorem dX6_wedding_40 : decode cX6_wedding 40 = .ok (.aload_n 0, 1) := by decide +kernel
theorem dX6_wedding_41 : decode cX6_wedding 41 = .ok (.iload_n 1, 1) := by decide +kernel
theorem dX6_wedding_42 : decode cX6_wedding 42 = .ok (.iload_n 2, 1) := by decide +kernel
theorem dX6_wedding_43 : decode cX6_wedding 43 = .ok (.iload 6, 2) := by decide +kernel
theorem dX6_wedding_45 : decode cX6_wedding 45 = .ok (.invokevirtual 161, 3) := by decide +kernel
theorem dX6_wedding_48 : decode cX6_wedding 48 = .ok (.istore 7, 2) := by decide +kernel
theorem dX6_wedding_50 : decode cX6_wedding 50 = .ok (.iload 7, 2) := by decide +kernel
theorem dX6_wedding_52 : decode cX6_wedding 52 = .ok (.bipush (-6), 2) := by decide +kernel
theorem dX6_wedding_54 : decode cX6_wedding 54 = .ok (.if_icmp .eq 25, 3) := by decide +kernel
theorem dX6_wedding_57 : decode cX6_wedding 57 = .ok (.iload 4, 2) := by decide +kernel
theorem dX6_wedding_59 : decode cX6_wedding 59 = .ok (.bipush (-6), 2) := by decide +kernel
theorem dX6_wedding_61 : decode cX6_wedding 61 = .ok (.if_icmp .eq 10, 3) := by decide +kernel
theorem dX6_wedding_64 : decode cX6_wedding 64 = .ok (.iload 7, 2) := by decide +kernel
theorem dX6_wedding_66 : decode cX6_wedding 66 = .ok (.iload 4, 2) := by decide +kernel
theorem dX6_wedding_68 : decode cX6_wedding 68 = .ok (.if_icmp .ge 11, 3) := by decide +kernel
theorem dX6_wedding_71 : decode cX6_wedding 71 = .ok (.iload 7, 2) := by decide +kernel
theorem dX6_wedding_73 : decode cX6_wedding 73 = .ok (.istore 4, 2) := by decide +kernel
theorem dX6_wedding_75 : decode cX6_wedding 75 = .ok (.iload 6, 2) := by decide +kernel
theorem dX6_wedding_77 : decode cX6_wedding 77 = .ok (.istore 5, 2) := by decide +kernel
theorem dX6_wedding_79 : decode cX6_wedding 79 = .ok (.iinc 6 1, 3) := by decide +kernel
theorem dX6_wedding_82 : decode cX6_wedding 82 = .ok (.goto (-49), 3) := by decide +kernel
theorem dX6_wedding_85 : decode cX6_wedding 85 = .ok (.iload_n 3, 1) := by decide +kernel
theorem dX6_wedding_86 : decode cX6_wedding 86 = .ok (.ifCond .ne 8, 3) := by decide +kernel
theorem dX6_wedding_89 : decode cX6_wedding 89 = .ok (.iload 4, 2) := by decide +kernel
theorem dX6_wedding_91 : decode cX6_wedding 91 = .ok (.goto 5, 3) := by decide +kernel
theorem dX6_wedding_94 : decode cX6_wedding 94 = .ok (.iload 5, 2) := by decide +kernel
theorem dX6_wedding_96 : decode cX6_wedding 96 = .ok (.ireturn, 1) := by decide +kernel
theorem dX6_weddingCost_0 : decode cX6_weddingCost 0 = .ok (.aload_n 0, 1) := by decide +kernel
theorem dX6_weddingCost_1 : decode cX6_weddingCost 1 = .ok (.getfield 19, 3) := by decide +kernel
theorem dX6_weddingCost_4 : decode cX6_weddingCost 4 = .ok (.getfield 56, 3) := by decide +kernel
theorem dX6_weddingCost_7 : decode cX6_weddingCost 7 = .ok (.astore 4, 2) := by decide +kernel
theorem dX6_weddingCost_9 : decode cX6_weddingCost 9 = .ok (.iload_n 3, 1) := by decide +kernel
theorem dX6_weddingCost_10 : decode cX6_weddingCost 10 = .ok (.ifCond .ne 23, 3) := by decide +kernel
theorem dX6_weddingCost_13 : decode cX6_weddingCost 13 = .ok (.aload 4, 2) := by decide +kernel
theorem dX6_weddingCost_15 : decode cX6_weddingCost 15 = .ok (.iload_n 1, 1) := by decide +kernel
theorem dX6_weddingCost_16 : decode cX6_weddingCost 16 = .ok (.iload_n 2, 1) := by decide +kernel
theorem dX6_weddingCost_17 : decode cX6_weddingCost 17 = .ok (.bipush 28, 2) := by decide +kernel
theorem dX6_weddingCost_19 : decode cX6_weddingCost 19 = .ok (.invokevirtual 111, 3) := by decide +kernel
theorem dX6_weddingCost_22 : decode cX6_weddingCost 22 = .ok (.iconst 4, 1) := by decide +kernel
theorem dX6_weddingCost_23 : decode cX6_weddingCost 23 = .ok (.if_icmp .lt 7, 3) := by decide +kernel
theorem dX6_weddingCost_26 : decode cX6_weddingCost 26 = .ok (.iconst 0, 1) := by decide +kernel
theorem dX6_weddingCost_27 : decode cX6_weddingCost 27 = .ok (.goto 5, 3) := by decide +kernel
theorem dX6_weddingCost_30 : decode cX6_weddingCost 30 = .ok (.bipush (-6), 2) := by decide +kernel
theorem dX6_weddingCost_32 : decode cX6_weddingCost 32 = .ok (.ireturn, 1) := by decide +kernel
theorem dX6_weddingCost_33 : decode cX6_weddingCost 33 = .ok (.iload_n 3, 1) := by decide +kernel
theorem dX6_weddingCost_34 : decode cX6_weddingCost 34 = .ok (.iconst 1, 1) := by decide +kernel
theorem dX6_weddingCost_35 : decode cX6_weddingCost 35 = .ok (.if_icmp .ne 11, 3) := by decide +kernel
theorem dX6_weddingCost_38 : decode cX6_weddingCost 38 = .ok (.aload 4, 2) := by decide +kernel
theorem dX6_weddingCost_40 : decode cX6_weddingCost 40 = .ok (.iload_n 1, 1) := by decide +kernel
theorem dX6_weddingCost_41 : decode cX6_weddingCost 41 = .ok (.iload_n 2, 1) := by decide +kernel
theorem dX6_weddingCost_42 : decode cX6_weddingCost 42 = .ok (.invokevirtual 164, 3) := by decide +kernel
theorem dX6_weddingCost_45 : decode cX6_weddingCost 45 = .ok (.ireturn, 1) := by decide +kernel
theorem dX6_weddingCost_46 : decode cX6_weddingCost 46 = .ok (.iload_n 3, 1) := by decide +kernel
theorem dX6_weddingCost_47 : decode cX6_weddingCost 47 = .ok (.iconst 2, 1) := by decide +kernel
theorem dX6_weddingCost_48 : decode cX6_weddingCost 48 = .ok (.if_icmp .ne 11, 3) := by decide +kernel
theorem dX6_weddingCost_51 : decode cX6_weddingCost 51 = .ok (.aload 4, 2) := by decide +kernel
theorem dX6_weddingCost_53 : decode cX6_weddingCost 53 = .ok (.iload_n 2, 1) := by decide +kernel
theorem dX6_weddingCost_54 : decode cX6_weddingCost 54 = .ok (.iload_n 1, 1) := by decide +kernel
theorem dX6_weddingCost_55 : decode cX6_weddingCost 55 = .ok (.invokevirtual 164, 3) := by decide +kernel
theorem dX6_weddingCost_58 : decode cX6_weddingCost 58 = .ok (.ireturn, 1) := by decide +kernel
theorem dX6_weddingCost_59 : decode cX6_weddingCost 59 = .ok (.iload_n 3, 1) := by decide +kernel
theorem dX6_weddingCost_60 : decode cX6_weddingCost 60 = .ok (.bipush 10, 2) := by decide +kernel
theorem dX6_weddingCost_62 : decode cX6_weddingCost 62 = .ok (.isub, 1) := by decide +kernel
theorem dX6_weddingCost_63 : decode cX6_weddingCost 63 = .ok (.istore 5, 2) := by decide +kernel
theorem dX6_weddingCost_65 : decode cX6_weddingCost 65 = .ok (.aload_n 0, 1) := by decide +kernel
theorem dX6_weddingCost_66 : decode cX6_weddingCost 66 = .ok (.iload 5, 2) := by decide +kernel
theorem dX6_weddingCost_68 : decode cX6_weddingCost 68 = .ok (.invokevirtual 69, 3) := by decide +kernel
theorem dX6_weddingCost_71 : decode cX6_weddingCost 71 = .ok (.ifCond .eq 15, 3) := by decide +kernel
theorem dX6_weddingCost_74 : decode cX6_weddingCost 74 = .ok (.iload 5, 2) := by decide +kernel
theorem dX6_weddingCost_76 : decode cX6_weddingCost 76 = .ok (.iload_n 1, 1) := by decide +kernel
theorem dX6_weddingCost_77 : decode cX6_weddingCost 77 = .ok (.if_icmp .eq 9, 3) := by decide +kernel
theorem dX6_weddingCost_80 : decode cX6_weddingCost 80 = .ok (.iload 5, 2) := by decide +kernel
theorem dX6_weddingCost_82 : decode cX6_weddingCost 82 = .ok (.iload_n 2, 1) := by decide +kernel
theorem dX6_weddingCost_83 : decode cX6_weddingCost 83 = .ok (.if_icmp .ne 6, 3) := by decide +kernel
theorem dX6_weddingCost_86 : decode cX6_weddingCost 86 = .ok (.bipush (-6), 2) := by decide +kernel
theorem dX6_weddingCost_88 : decode cX6_weddingCost 88 = .ok (.ireturn, 1) := by decide +kernel
theorem dX6_weddingCost_89 : decode cX6_weddingCost 89 = .ok (.aload 4, 2) := by decide +kernel
theorem dX6_weddingCost_91 : decode cX6_weddingCost 91 = .ok (.iload_n 1, 1) := by decide +kernel
theorem dX6_weddingCost_92 : decode cX6_weddingCost 92 = .ok (.iload 5, 2) := by decide +kernel
theorem dX6_weddingCost_94 : decode cX6_weddingCost 94 = .ok (.invokevirtual 164, 3) := by decide +kernel
theorem dX6_weddingCost_97 : decode cX6_weddingCost 97 = .ok (.aload 4, 2) := by decide +kernel
theorem dX6_weddingCost_99 : decode cX6_weddingCost 99 = .ok (.iload_n 2, 1) := by decide +kernel
theorem dX6_weddingCost_100 : decode cX6_weddingCost 100 = .ok (.iload 5, 2) := by decide +kernel
theorem dX6_weddingCost_102 : decode cX6_weddingCost 102 = .ok (.invokevirtual 164, 3) := by decide +kernel
theorem dX6_weddingCost_105 : decode cX6_weddingCost 105 = .ok (.iadd, 1) := by decide +kernel
theorem dX6_weddingCost_106 : decode cX6_weddingCost 106 = .ok (.ireturn, 1) := by decide +kernel
theorem dX6_best_0 : decode cX6_best 0 = .ok (.iload_n 1, 1) := by decide +kernel
theorem dX6_best_1 : decode cX6_best 1 = .ok (.invokestatic 53, 3) := by decide +kernel
theorem dX6_best_4 : decode cX6_best 4 = .ok (.ifCond .eq 11, 3) := by decide +kernel
theorem dX6_best_7 : decode cX6_best 7 = .ok (.iload_n 2, 1) := by decide +kernel
theorem dX6_best_8 : decode cX6_best 8 = .ok (.iconst 2, 1) := by decide +kernel
theorem dX6_best_9 : decode cX6_best 9 = .ok (.invokestatic 42, 3) := by decide +kernel
theorem dX6_best_12 : decode cX6_best 12 = .ok (.ifCond .ne 6, 3) := by decide +kernel
theorem dX6_best_15 : decode cX6_best 15 = .ok (.bipush (-2), 2) := by decide +kernel
theorem dX6_best_17 : decode cX6_best 17 = .ok (.ireturn, 1) := by decide +kernel
theorem dX6_best_18 : decode cX6_best 18 = .ok (.iconst (-1), 1) := by decide +kernel
theorem dX6_best_19 : decode cX6_best 19 = .ok (.istore_n 3, 1) := by decide +kernel
theorem dX6_best_20 : decode cX6_best 20 = .ok (.bipush (-6), 2) := by decide +kernel
theorem dX6_best_22 : decode cX6_best 22 = .ok (.istore 4, 2) := by decide +kernel
theorem dX6_best_24 : decode cX6_best 24 = .ok (.iconst 0, 1) := by decide +kernel
theorem dX6_best_25 : decode cX6_best 25 = .ok (.istore 5, 2) := by decide +kernel
theorem dX6_best_27 : decode cX6_best 27 = .ok (.iload 5, 2) := by decide +kernel
theorem dX6_best_29 : decode cX6_best 29 = .ok (.iconst 2, 1) := by decide +kernel
theorem dX6_best_30 : decode cX6_best 30 = .ok (.if_icmp .ge 61, 3) := by decide +kernel
theorem dX6_best_33 : decode cX6_best 33 = .ok (.iconst 0, 1) := by decide +kernel
theorem dX6_best_34 : decode cX6_best 34 = .ok (.istore 6, 2) := by decide +kernel
theorem dX6_best_36 : decode cX6_best 36 = .ok (.iload 6, 2) := by decide +kernel
theorem dX6_best_38 : decode cX6_best 38 = .ok (.bipush 7, 2) := by decide +kernel
theorem dX6_best_40 : decode cX6_best 40 = .ok (.if_icmp .ge 45, 3) := by decide +kernel
theorem dX6_best_43 : decode cX6_best 43 = .ok (.aload_n 0, 1) := by decide +kernel
theorem dX6_best_44 : decode cX6_best 44 = .ok (.getfield 19, 3) := by decide +kernel
theorem dX6_best_47 : decode cX6_best 47 = .ok (.getfield 56, 3) := by decide +kernel
theorem dX6_best_50 : decode cX6_best 50 = .ok (.iload 6, 2) := by decide +kernel
theorem dX6_best_52 : decode cX6_best 52 = .ok (.iload 5, 2) := by decide +kernel
theorem dX6_best_54 : decode cX6_best 54 = .ok (.iload_n 1, 1) := by decide +kernel
theorem dX6_best_55 : decode cX6_best 55 = .ok (.invokevirtual 167, 3) := by decide +kernel
theorem dX6_best_58 : decode cX6_best 58 = .ok (.istore 7, 2) := by decide +kernel
theorem dX6_best_60 : decode cX6_best 60 = .ok (.iload 7, 2) := by decide +kernel
theorem dX6_best_62 : decode cX6_best 62 = .ok (.iload_n 3, 1) := by decide +kernel
theorem dX6_best_63 : decode cX6_best 63 = .ok (.if_icmp .le 16, 3) := by decide +kernel
theorem dX6_best_66 : decode cX6_best 66 = .ok (.iload 7, 2) := by decide +kernel
theorem dX6_best_68 : decode cX6_best 68 = .ok (.istore_n 3, 1) := by decide +kernel
theorem dX6_best_69 : decode cX6_best 69 = .ok (.bipush 10, 2) := by decide +kernel
theorem dX6_best_71 : decode cX6_best 71 = .ok (.iload 5, 2) := by decide +kernel
theorem dX6_best_73 : decode cX6_best 73 = .ok (.imul, 1) := by decide +kernel
theorem dX6_best_74 : decode cX6_best 74 = .ok (.iload 6, 2) := by decide +kernel
theorem dX6_best_76 : decode cX6_best 76 = .ok (.iadd, 1) := by decide +kernel
theorem dX6_best_77 : decode cX6_best 77 = .ok (.istore 4, 2) := by decide +kernel
theorem dX6_best_79 : decode cX6_best 79 = .ok (.iinc 6 1, 3) := by decide +kernel
theorem dX6_best_82 : decode cX6_best 82 = .ok (.goto (-46), 3) := by decide +kernel
theorem dX6_best_85 : decode cX6_best 85 = .ok (.iinc 5 1, 3) := by decide +kernel
theorem dX6_best_88 : decode cX6_best 88 = .ok (.goto (-61), 3) := by decide +kernel
theorem dX6_best_91 : decode cX6_best 91 = .ok (.iload_n 2, 1) := by decide +kernel
theorem dX6_best_92 : decode cX6_best 92 = .ok (.ifCond .ne 7, 3) := by decide +kernel
theorem dX6_best_95 : decode cX6_best 95 = .ok (.iload_n 3, 1) := by decide +kernel
theorem dX6_best_96 : decode cX6_best 96 = .ok (.goto 5, 3) := by decide +kernel
theorem dX6_best_99 : decode cX6_best 99 = .ok (.iload 4, 2) := by decide +kernel
theorem dX6_best_101 : decode cX6_best 101 = .ok (.ireturn, 1) := by decide +kernel
theorem dX6_feast_0 : decode cX6_feast 0 = .ok (.iload_n 1, 1) := by decide +kernel
theorem dX6_feast_1 : decode cX6_feast 1 = .ok (.invokestatic 92, 3) := by decide +kernel
theorem dX6_feast_4 : decode cX6_feast 4 = .ok (.ifCond .eq 17, 3) := by decide +kernel
theorem dX6_feast_7 : decode cX6_feast 7 = .ok (.aload_n 0, 1) := by decide +kernel
theorem dX6_feast_8 : decode cX6_feast 8 = .ok (.getfield 19, 3) := by decide +kernel
theorem dX6_feast_11 : decode cX6_feast 11 = .ok (.getfield 56, 3) := by decide +kernel
theorem dX6_feast_14 : decode cX6_feast 14 = .ok (.iload_n 1, 1) := by decide +kernel
theorem dX6_feast_15 : decode cX6_feast 15 = .ok (.invokevirtual 170, 3) := by decide +kernel
theorem dX6_feast_18 : decode cX6_feast 18 = .ok (.goto 5, 3) := by decide +kernel
theorem dX6_feast_21 : decode cX6_feast 21 = .ok (.bipush (-2), 2) := by decide +kernel
theorem dX6_feast_23 : decode cX6_feast 23 = .ok (.ireturn, 1) := by decide +kernel
theorem dX6_feasts_0 : decode cX6_feasts 0 = .ok (.iload_n 1, 1) := by decide +kernel
theorem dX6_feasts_1 : decode cX6_feasts 1 = .ok (.bipush 8, 2) := by decide +kernel
theorem dX6_feasts_3 : decode cX6_feasts 3 = .ok (.invokestatic 42, 3) := by decide +kernel
theorem dX6_feasts_6 : decode cX6_feasts 6 = .ok (.ifCond .ne 5, 3) := by decide +kernel
theorem dX6_feasts_9 : decode cX6_feasts 9 = .ok (.iconst (-1), 1) := by decide +kernel
theorem dX6_feasts_10 : decode cX6_feasts 10 = .ok (.ireturn, 1) := by decide +kernel
theorem dX6_feasts_11 : decode cX6_feasts 11 = .ok (.iconst 0, 1) := by decide +kernel
theorem dX6_feasts_12 : decode cX6_feasts 12 = .ok (.istore_n 2, 1) := by decide +kernel
theorem dX6_feasts_13 : decode cX6_feasts 13 = .ok (.iconst 0, 1) := by decide +kernel
theorem dX6_feasts_14 : decode cX6_feasts 14 = .ok (.istore_n 3, 1) := by decide +kernel
theorem dX6_feasts_15 : decode cX6_feasts 15 = .ok (.iload_n 3, 1) := by decide +kernel
theorem dX6_feasts_16 : decode cX6_feasts 16 = .ok (.sipush 840, 3) := by decide +kernel
theorem dX6_feasts_19 : decode cX6_feasts 19 = .ok (.if_icmp .ge 27, 3) := by decide +kernel
theorem dX6_feasts_22 : decode cX6_feasts 22 = .ok (.aload_n 0, 1) := by decide +kernel
theorem dX6_feasts_23 : decode cX6_feasts 23 = .ok (.getfield 19, 3) := by decide +kernel
theorem dX6_feasts_26 : decode cX6_feasts 26 = .ok (.getfield 56, 3) := by decide +kernel
theorem dX6_feasts_29 : decode cX6_feasts 29 = .ok (.iload_n 3, 1) := by decide +kernel
theorem dX6_feasts_30 : decode cX6_feasts 30 = .ok (.invokevirtual 170, 3) := by decide +kernel
theorem dX6_feasts_33 : decode cX6_feasts 33 = .ok (.iload_n 1, 1) := by decide +kernel
theorem dX6_feasts_34 : decode cX6_feasts 34 = .ok (.if_icmp .ne 6, 3) := by decide +kernel
theorem dX6_feasts_37 : decode cX6_feasts 37 = .ok (.iinc 2 1, 3) := by decide +kernel
theorem dX6_feasts_40 : decode cX6_feasts 40 = .ok (.iinc 3 1, 3) := by decide +kernel
theorem dX6_feasts_43 : decode cX6_feasts 43 = .ok (.goto (-28), 3) := by decide +kernel
theorem dX6_feasts_46 : decode cX6_feasts 46 = .ok (.iload_n 2, 1) := by decide +kernel
theorem dX6_feasts_47 : decode cX6_feasts 47 = .ok (.ireturn, 1) := by decide +kernel
theorem dX6_poor_0 : decode cX6_poor 0 = .ok (.aload_n 0, 1) := by decide +kernel
theorem dX6_poor_1 : decode cX6_poor 1 = .ok (.getfield 19, 3) := by decide +kernel
theorem dX6_poor_4 : decode cX6_poor 4 = .ok (.getfield 56, 3) := by decide +kernel
theorem dX6_poor_7 : decode cX6_poor 7 = .ok (.getfield 72, 3) := by decide +kernel
theorem dX6_poor_10 : decode cX6_poor 10 = .ok (.istore_n 1, 1) := by decide +kernel
theorem dX6_poor_11 : decode cX6_poor 11 = .ok (.iconst 0, 1) := by decide +kernel
theorem dX6_poor_12 : decode cX6_poor 12 = .ok (.istore_n 2, 1) := by decide +kernel
theorem dX6_poor_13 : decode cX6_poor 13 = .ok (.iload_n 2, 1) := by decide +kernel
theorem dX6_poor_14 : decode cX6_poor 14 = .ok (.sipush 840, 3) := by decide +kernel
theorem dX6_poor_17 : decode cX6_poor 17 = .ok (.if_icmp .ge 40, 3) := by decide +kernel
theorem dX6_poor_20 : decode cX6_poor 20 = .ok (.iload_n 1, 1) := by decide +kernel
theorem dX6_poor_21 : decode cX6_poor 21 = .ok (.ifCond .eq 36, 3) := by decide +kernel
theorem dX6_poor_24 : decode cX6_poor 24 = .ok (.iload_n 1, 1) := by decide +kernel
theorem dX6_poor_25 : decode cX6_poor 25 = .ok (.aload_n 0, 1) := by decide +kernel
theorem dX6_poor_26 : decode cX6_poor 26 = .ok (.getfield 19, 3) := by decide +kernel
theorem dX6_poor_29 : decode cX6_poor 29 = .ok (.getfield 56, 3) := by decide +kernel
theorem dX6_poor_32 : decode cX6_poor 32 = .ok (.aload_n 0, 1) := by decide +kernel
theorem dX6_poor_33 : decode cX6_poor 33 = .ok (.getfield 19, 3) := by decide +kernel
theorem dX6_poor_36 : decode cX6_poor 36 = .ok (.getfield 56, 3) := by decide +kernel
theorem dX6_poor_39 : decode cX6_poor 39 = .ok (.iload_n 2, 1) := by decide +kernel
theorem dX6_poor_40 : decode cX6_poor 40 = .ok (.invokevirtual 170, 3) := by decide +kernel
theorem dX6_poor_43 : decode cX6_poor 43 = .ok (.iload_n 2, 1) := by decide +kernel
theorem dX6_poor_44 : decode cX6_poor 44 = .ok (.invokevirtual 99, 3) := by decide +kernel
theorem dX6_poor_47 : decode cX6_poor 47 = .ok (.iconst (-1), 1) := by decide +kernel
theorem dX6_poor_48 : decode cX6_poor 48 = .ok (.ixor, 1) := by decide +kernel
theorem dX6_poor_49 : decode cX6_poor 49 = .ok (.iand, 1) := by decide +kernel
theorem dX6_poor_50 : decode cX6_poor 50 = .ok (.istore_n 1, 1) := by decide +kernel
theorem dX6_poor_51 : decode cX6_poor 51 = .ok (.iinc 2 1, 3) := by decide +kernel
theorem dX6_poor_54 : decode cX6_poor 54 = .ok (.goto (-41), 3) := by decide +kernel
theorem dX6_poor_57 : decode cX6_poor 57 = .ok (.iload_n 1, 1) := by decide +kernel
theorem dX6_poor_58 : decode cX6_poor 58 = .ok (.ireturn, 1) := by decide +kernel
theorem dX6_twins_0 : decode cX6_twins 0 = .ok (.aload_n 0, 1) := by decide +kernel
theorem dX6_twins_1 : decode cX6_twins 1 = .ok (.iconst 1, 1) := by decide +kernel
theorem dX6_twins_2 : decode cX6_twins 2 = .ok (.iload_n 1, 1) := by decide +kernel
theorem dX6_twins_3 : decode cX6_twins 3 = .ok (.invokevirtual 115, 3) := by decide +kernel
theorem dX6_twins_6 : decode cX6_twins 6 = .ok (.ireturn, 1) := by decide +kernel
theorem dX6_oneOrder_0 : decode cX6_oneOrder 0 = .ok (.aload_n 0, 1) := by decide +kernel
theorem dX6_oneOrder_1 : decode cX6_oneOrder 1 = .ok (.iload_n 1, 1) := by decide +kernel
theorem dX6_oneOrder_2 : decode cX6_oneOrder 2 = .ok (.invokevirtual 69, 3) := by decide +kernel
theorem dX6_oneOrder_5 : decode cX6_oneOrder 5 = .ok (.ifCond .ne 5, 3) := by decide +kernel
theorem dX6_oneOrder_8 : decode cX6_oneOrder 8 = .ok (.iconst (-1), 1) := by decide +kernel
theorem dX6_oneOrder_9 : decode cX6_oneOrder 9 = .ok (.ireturn, 1) := by decide +kernel
theorem dX6_oneOrder_10 : decode cX6_oneOrder 10 = .ok (.iload_n 2, 1) := by decide +kernel
theorem dX6_oneOrder_11 : decode cX6_oneOrder 11 = .ok (.iconst 2, 1) := by decide +kernel
theorem dX6_oneOrder_12 : decode cX6_oneOrder 12 = .ok (.invokestatic 42, 3) := by decide +kernel
theorem dX6_oneOrder_15 : decode cX6_oneOrder 15 = .ok (.ifCond .ne 6, 3) := by decide +kernel
theorem dX6_oneOrder_18 : decode cX6_oneOrder 18 = .ok (.bipush (-2), 2) := by decide +kernel
theorem dX6_oneOrder_20 : decode cX6_oneOrder 20 = .ok (.ireturn, 1) := by decide +kernel
theorem dX6_oneOrder_21 : decode cX6_oneOrder 21 = .ok (.iload_n 2, 1) := by decide +kernel
theorem dX6_oneOrder_22 : decode cX6_oneOrder 22 = .ok (.ifCond .ne 16, 3) := by decide +kernel
theorem dX6_oneOrder_25 : decode cX6_oneOrder 25 = .ok (.aload_n 0, 1) := by decide +kernel
theorem dX6_oneOrder_26 : decode cX6_oneOrder 26 = .ok (.getfield 19, 3) := by decide +kernel
theorem dX6_oneOrder_29 : decode cX6_oneOrder 29 = .ok (.getfield 56, 3) := by decide +kernel
theorem dX6_oneOrder_32 : decode cX6_oneOrder 32 = .ok (.invokevirtual 173, 3) := by decide +kernel
theorem dX6_oneOrder_35 : decode cX6_oneOrder 35 = .ok (.goto 14, 3) := by decide +kernel
theorem dX6_oneOrder_38 : decode cX6_oneOrder 38 = .ok (.aload_n 0, 1) := by decide +kernel
theorem dX6_oneOrder_39 : decode cX6_oneOrder 39 = .ok (.getfield 19, 3) := by decide +kernel
theorem dX6_oneOrder_42 : decode cX6_oneOrder 42 = .ok (.getfield 56, 3) := by decide +kernel
theorem dX6_oneOrder_45 : decode cX6_oneOrder 45 = .ok (.iload_n 1, 1) := by decide +kernel
theorem dX6_oneOrder_46 : decode cX6_oneOrder 46 = .ok (.invokevirtual 176, 3) := by decide +kernel
theorem dX6_oneOrder_49 : decode cX6_oneOrder 49 = .ok (.ireturn, 1) := by decide +kernel
theorem dX6_seen_0 : decode cX6_seen 0 = .ok (.iload_n 1, 1) := by decide +kernel
theorem dX6_seen_1 : decode cX6_seen 1 = .ok (.invokestatic 92, 3) := by decide +kernel
theorem dX6_seen_4 : decode cX6_seen 4 = .ok (.ifCond .eq 11, 3) := by decide +kernel
theorem dX6_seen_7 : decode cX6_seen 7 = .ok (.iload_n 2, 1) := by decide +kernel
theorem dX6_seen_8 : decode cX6_seen 8 = .ok (.iconst 2, 1) := by decide +kernel
theorem dX6_seen_9 : decode cX6_seen 9 = .ok (.invokestatic 42, 3) := by decide +kernel
theorem dX6_seen_12 : decode cX6_seen 12 = .ok (.ifCond .ne 6, 3) := by decide +kernel
theorem dX6_seen_15 : decode cX6_seen 15 = .ok (.bipush (-2), 2) := by decide +kernel
theorem dX6_seen_17 : decode cX6_seen 17 = .ok (.ireturn, 1) := by decide +kernel
theorem dX6_seen_18 : decode cX6_seen 18 = .ok (.aload_n 0, 1) := by decide +kernel
theorem dX6_seen_19 : decode cX6_seen 19 = .ok (.getfield 19, 3) := by decide +kernel
theorem dX6_seen_22 : decode cX6_seen 22 = .ok (.getfield 179, 3) := by decide +kernel
theorem dX6_seen_25 : decode cX6_seen 25 = .ok (.iload_n 1, 1) := by decide +kernel
theorem dX6_seen_26 : decode cX6_seen 26 = .ok (.iload_n 2, 1) := by decide +kernel
theorem dX6_seen_27 : decode cX6_seen 27 = .ok (.invokevirtual 183, 3) := by decide +kernel
theorem dX6_seen_30 : decode cX6_seen 30 = .ok (.ifCond .eq 16, 3) := by decide +kernel
theorem dX6_seen_33 : decode cX6_seen 33 = .ok (.aload_n 0, 1) := by decide +kernel
theorem dX6_seen_34 : decode cX6_seen 34 = .ok (.getfield 19, 3) := by decide +kernel
theorem dX6_seen_37 : decode cX6_seen 37 = .ok (.getfield 179, 3) := by decide +kernel
theorem dX6_seen_40 : decode cX6_seen 40 = .ok (.getfield 187, 3) := by decide +kernel
theorem dX6_seen_43 : decode cX6_seen 43 = .ok (.goto 5, 3) := by decide +kernel
theorem dX6_seen_46 : decode cX6_seen 46 = .ok (.bipush (-4), 2) := by decide +kernel
theorem dX6_seen_48 : decode cX6_seen 48 = .ok (.ireturn, 1) := by decide +kernel
theorem dX6_forget_0 : decode cX6_forget 0 = .ok (.aload_n 0, 1) := by decide +kernel
theorem dX6_forget_1 : decode cX6_forget 1 = .ok (.getfield 19, 3) := by decide +kernel
theorem dX6_forget_4 : decode cX6_forget 4 = .ok (.getfield 179, 3) := by decide +kernel
theorem dX6_forget_7 : decode cX6_forget 7 = .ok (.getfield 187, 3) := by decide +kernel
theorem dX6_forget_10 : decode cX6_forget 10 = .ok (.istore_n 1, 1) := by decide +kernel
theorem dX6_forget_11 : decode cX6_forget 11 = .ok (.aload_n 0, 1) := by decide +kernel
theorem dX6_forget_12 : decode cX6_forget 12 = .ok (.getfield 19, 3) := by decide +kernel
theorem dX6_forget_15 : decode cX6_forget 15 = .ok (.getfield 179, 3) := by decide +kernel
theorem dX6_forget_18 : decode cX6_forget 18 = .ok (.iconst 0, 1) := by decide +kernel
theorem dX6_forget_19 : decode cX6_forget 19 = .ok (.putfield 187, 3) := by decide +kernel
theorem dX6_forget_22 : decode cX6_forget 22 = .ok (.iload_n 1, 1) := by decide +kernel
theorem dX6_forget_23 : decode cX6_forget 23 = .ok (.ireturn, 1) := by decide +kernel
theorem dX6_whose_0 : decode cX6_whose 0 = .ok (.iconst 0, 1) := by decide +kernel
theorem dX6_whose_1 : decode cX6_whose 1 = .ok (.istore_n 2, 1) := by decide +kernel
theorem dX6_whose_2 : decode cX6_whose 2 = .ok (.iconst 0, 1) := by decide +kernel
theorem dX6_whose_3 : decode cX6_whose 3 = .ok (.istore_n 3, 1) := by decide +kernel
