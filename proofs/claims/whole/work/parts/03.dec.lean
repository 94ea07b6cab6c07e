theorem dX0_init_0 : decode cX0_init 0 = .ok (.aload_n 0, 1) := by decide +kernel
theorem dX0_init_1 : decode cX0_init 1 = .ok (.invokespecial 3, 3) := by decide +kernel
theorem dX0_init_4 : decode cX0_init 4 = .ok (.aload_n 0, 1) := by decide +kernel
theorem dX0_init_5 : decode cX0_init 5 = .ok (.sipush 600, 3) := by decide +kernel
theorem dX0_init_8 : decode cX0_init 8 = .ok (.newarray .int, 2) := by decide +kernel
theorem dX0_init_10 : decode cX0_init 10 = .ok (.putfield 9, 3) := by decide +kernel
theorem dX0_init_13 : decode cX0_init 13 = .ok (.aload_n 0, 1) := by decide +kernel
theorem dX0_init_14 : decode cX0_init 14 = .ok (.sipush 600, 3) := by decide +kernel
theorem dX0_init_17 : decode cX0_init 17 = .ok (.newarray .int, 2) := by decide +kernel
theorem dX0_init_19 : decode cX0_init 19 = .ok (.putfield 15, 3) := by decide +kernel
theorem dX0_init_22 : decode cX0_init 22 = .ok (.aload_n 0, 1) := by decide +kernel
theorem dX0_init_23 : decode cX0_init 23 = .ok (.sipush 600, 3) := by decide +kernel
theorem dX0_init_26 : decode cX0_init 26 = .ok (.newarray .int, 2) := by decide +kernel
theorem dX0_init_28 : decode cX0_init 28 = .ok (.putfield 18, 3) := by decide +kernel
theorem dX0_init_31 : decode cX0_init 31 = .ok (.aload_n 0, 1) := by decide +kernel
theorem dX0_init_32 : decode cX0_init 32 = .ok (.bipush 10, 2) := by decide +kernel
theorem dX0_init_34 : decode cX0_init 34 = .ok (.newarray .int, 2) := by decide +kernel
theorem dX0_init_36 : decode cX0_init 36 = .ok (.putfield 21, 3) := by decide +kernel
theorem dX0_init_39 : decode cX0_init 39 = .ok (.aload_n 0, 1) := by decide +kernel
theorem dX0_init_40 : decode cX0_init 40 = .ok (.iconst 0, 1) := by decide +kernel
theorem dX0_init_41 : decode cX0_init 41 = .ok (.putfield 24, 3) := by decide +kernel
theorem dX0_init_44 : decode cX0_init 44 = .ok (.return_, 1) := by decide +kernel
theorem dX0_size_0 : decode cX0_size 0 = .ok (.aload_n 0, 1) := by decide +kernel
theorem dX0_size_1 : decode cX0_size 1 = .ok (.getfield 24, 3) := by decide +kernel
theorem dX0_size_4 : decode cX0_size 4 = .ok (.ireturn, 1) := by decide +kernel
theorem dX0_dayAt_0 : decode cX0_dayAt 0 = .ok (.aload_n 0, 1) := by decide +kernel
theorem dX0_dayAt_1 : decode cX0_dayAt 1 = .ok (.getfield 9, 3) := by decide +kernel
theorem dX0_dayAt_4 : decode cX0_dayAt 4 = .ok (.iload_n 1, 1) := by decide +kernel
theorem dX0_dayAt_5 : decode cX0_dayAt 5 = .ok (.iaload, 1) := by decide +kernel
theorem dX0_dayAt_6 : decode cX0_dayAt 6 = .ok (.ireturn, 1) := by decide +kernel
theorem dX0_clubAt_0 : decode cX0_clubAt 0 = .ok (.aload_n 0, 1) := by decide +kernel
theorem dX0_clubAt_1 : decode cX0_clubAt 1 = .ok (.getfield 15, 3) := by decide +kernel
theorem dX0_clubAt_4 : decode cX0_clubAt 4 = .ok (.iload_n 1, 1) := by decide +kernel
theorem dX0_clubAt_5 : decode cX0_clubAt 5 = .ok (.iaload, 1) := by decide +kernel
theorem dX0_clubAt_6 : decode cX0_clubAt 6 = .ok (.ireturn, 1) := by decide +kernel
theorem dX0_differenceAt_0 : decode cX0_differenceAt 0 = .ok (.aload_n 0, 1) := by decide +kernel
theorem dX0_differenceAt_1 : decode cX0_differenceAt 1 = .ok (.getfield 18, 3) := by decide +kernel
theorem dX0_differenceAt_4 : decode cX0_differenceAt 4 = .ok (.iload_n 1, 1) := by decide +kernel
theorem dX0_differenceAt_5 : decode cX0_differenceAt 5 = .ok (.iaload, 1) := by decide +kernel
theorem dX0_differenceAt_6 : decode cX0_differenceAt 6 = .ok (.ireturn, 1) := by decide +kernel
theorem dX0_knownOf_0 : decode cX0_knownOf 0 = .ok (.iconst 0, 1) := by decide +kernel
theorem dX0_knownOf_1 : decode cX0_knownOf 1 = .ok (.istore_n 3, 1) := by decide +kernel
theorem dX0_knownOf_2 : decode cX0_knownOf 2 = .ok (.iconst 0, 1) := by decide +kernel
theorem dX0_knownOf_3 : decode cX0_knownOf 3 = .ok (.istore 4, 2) := by decide +kernel
theorem dX0_knownOf_5 : decode cX0_knownOf 5 = .ok (.iload 4, 2) := by decide +kernel
theorem dX0_knownOf_7 : decode cX0_knownOf 7 = .ok (.aload_n 0, 1) := by decide +kernel
theorem dX0_knownOf_8 : decode cX0_knownOf 8 = .ok (.getfield 24, 3) := by decide +kernel
theorem dX0_knownOf_11 : decode cX0_knownOf 11 = .ok (.if_icmp .ge 41, 3) := by decide +kernel
theorem dX0_knownOf_14 : decode cX0_knownOf 14 = .ok (.aload_n 0, 1) := by decide +kernel
theorem dX0_knownOf_15 : decode cX0_knownOf 15 = .ok (.getfield 15, 3) := by decide +kernel
theorem dX0_knownOf_18 : decode cX0_knownOf 18 = .ok (.iload 4, 2) := by decide +kernel
theorem dX0_knownOf_20 : decode cX0_knownOf 20 = .ok (.iaload, 1) := by decide +kernel
theorem dX0_knownOf_21 : decode cX0_knownOf 21 = .ok (.iload_n 1, 1) := by decide +kernel
theorem dX0_knownOf_22 : decode cX0_knownOf 22 = .ok (.if_icmp .ne 24, 3) := by decide +kernel
theorem dX0_knownOf_25 : decode cX0_knownOf 25 = .ok (.aload_n 0, 1) := by decide +kernel
theorem dX0_knownOf_26 : decode cX0_knownOf 26 = .ok (.getfield 9, 3) := by decide +kernel
theorem dX0_knownOf_29 : decode cX0_knownOf 29 = .ok (.iload 4, 2) := by decide +kernel
theorem dX0_knownOf_31 : decode cX0_knownOf 31 = .ok (.iaload, 1) := by decide +kernel
theorem dX0_knownOf_32 : decode cX0_knownOf 32 = .ok (.iload_n 2, 1) := by decide +kernel
theorem dX0_knownOf_33 : decode cX0_knownOf 33 = .ok (.if_icmp .gt 13, 3) := by decide +kernel
theorem dX0_knownOf_36 : decode cX0_knownOf 36 = .ok (.iload_n 3, 1) := by decide +kernel
theorem dX0_knownOf_37 : decode cX0_knownOf 37 = .ok (.aload_n 0, 1) := by decide +kernel
theorem dX0_knownOf_38 : decode cX0_knownOf 38 = .ok (.getfield 18, 3) := by decide +kernel
theorem dX0_knownOf_41 : decode cX0_knownOf 41 = .ok (.iload 4, 2) := by decide +kernel
theorem dX0_knownOf_43 : decode cX0_knownOf 43 = .ok (.iaload, 1) := by decide +kernel
theorem dX0_knownOf_44 : decode cX0_knownOf 44 = .ok (.iadd, 1) := by decide +kernel
theorem dX0_knownOf_45 : decode cX0_knownOf 45 = .ok (.istore_n 3, 1) := by decide +kernel
theorem dX0_knownOf_46 : decode cX0_knownOf 46 = .ok (.iinc 4 1, 3) := by decide +kernel
theorem dX0_knownOf_49 : decode cX0_knownOf 49 = .ok (.goto (-44), 3) := by decide +kernel
theorem dX0_knownOf_52 : decode cX0_knownOf 52 = .ok (.iload_n 3, 1) := by decide +kernel
theorem dX0_knownOf_53 : decode cX0_knownOf 53 = .ok (.ireturn, 1) := by decide +kernel
theorem dX0_write_0 : decode cX0_write 0 = .ok (.aload_n 0, 1) := by decide +kernel
theorem dX0_write_1 : decode cX0_write 1 = .ok (.aload_n 2, 1) := by decide +kernel
theorem dX0_write_2 : decode cX0_write 2 = .ok (.invokevirtual 28, 3) := by decide +kernel
theorem dX0_write_5 : decode cX0_write 5 = .ok (.istore_n 3, 1) := by decide +kernel
theorem dX0_write_6 : decode cX0_write 6 = .ok (.aload_n 0, 1) := by decide +kernel
theorem dX0_write_7 : decode cX0_write 7 = .ok (.getfield 24, 3) := by decide +kernel
theorem dX0_write_10 : decode cX0_write 10 = .ok (.iload_n 3, 1) := by decide +kernel
theorem dX0_write_11 : decode cX0_write 11 = .ok (.iadd, 1) := by decide +kernel
theorem dX0_write_12 : decode cX0_write 12 = .ok (.sipush 600, 3) := by decide +kernel
theorem dX0_write_15 : decode cX0_write 15 = .ok (.if_icmp .le 6, 3) := by decide +kernel
theorem dX0_write_18 : decode cX0_write 18 = .ok (.bipush (-2), 2) := by decide +kernel
theorem dX0_write_20 : decode cX0_write 20 = .ok (.ireturn, 1) := by decide +kernel
theorem dX0_write_21 : decode cX0_write 21 = .ok (.iconst 0, 1) := by decide +kernel
theorem dX0_write_22 : decode cX0_write 22 = .ok (.istore 4, 2) := by decide +kernel
theorem dX0_write_24 : decode cX0_write 24 = .ok (.iload 4, 2) := by decide +kernel
theorem dX0_write_26 : decode cX0_write 26 = .ok (.bipush 10, 2) := by decide +kernel
theorem dX0_write_28 : decode cX0_write 28 = .ok (.if_icmp .ge 81, 3) := by decide +kernel
theorem dX0_write_31 : decode cX0_write 31 = .ok (.aload_n 2, 1) := by decide +kernel
theorem dX0_write_32 : decode cX0_write 32 = .ok (.iload 4, 2) := by decide +kernel
theorem dX0_write_34 : decode cX0_write 34 = .ok (.iaload, 1) := by decide +kernel
theorem dX0_write_35 : decode cX0_write 35 = .ok (.aload_n 0, 1) := by decide +kernel
theorem dX0_write_36 : decode cX0_write 36 = .ok (.getfield 21, 3) := by decide +kernel
theorem dX0_write_39 : decode cX0_write 39 = .ok (.iload 4, 2) := by decide +kernel
theorem dX0_write_41 : decode cX0_write 41 = .ok (.iaload, 1) := by decide +kernel
theorem dX0_write_42 : decode cX0_write 42 = .ok (.isub, 1) := by decide +kernel
theorem dX0_write_43 : decode cX0_write 43 = .ok (.istore 5, 2) := by decide +kernel
theorem dX0_write_45 : decode cX0_write 45 = .ok (.iload 5, 2) := by decide +kernel
theorem dX0_write_47 : decode cX0_write 47 = .ok (.ifCond .eq 56, 3) := by decide +kernel
theorem dX0_write_50 : decode cX0_write 50 = .ok (.aload_n 0, 1) := by decide +kernel
theorem dX0_write_51 : decode cX0_write 51 = .ok (.getfield 9, 3) := by decide +kernel
theorem dX0_write_54 : decode cX0_write 54 = .ok (.aload_n 0, 1) := by decide +kernel
theorem dX0_write_55 : decode cX0_write 55 = .ok (.getfield 24, 3) := by decide +kernel
theorem dX0_write_58 : decode cX0_write 58 = .ok (.iload_n 1, 1) := by decide +kernel
theorem dX0_write_59 : decode cX0_write 59 = .ok (.iastore, 1) := by decide +kernel
theorem dX0_write_60 : decode cX0_write 60 = .ok (.aload_n 0, 1) := by decide +kernel
theorem dX0_write_61 : decode cX0_write 61 = .ok (.getfield 15, 3) := by decide +kernel
theorem dX0_write_64 : decode cX0_write 64 = .ok (.aload_n 0, 1) := by decide +kernel
theorem dX0_write_65 : decode cX0_write 65 = .ok (.getfield 24, 3) := by decide +kernel
theorem dX0_write_68 : decode cX0_write 68 = .ok (.iload 4, 2) := by decide +kernel
theorem dX0_write_70 : decode cX0_write 70 = .ok (.iastore, 1) := by decide +kernel
theorem dX0_write_71 : decode cX0_write 71 = .ok (.aload_n 0, 1) := by decide +kernel
theorem dX0_write_72 : decode cX0_write 72 = .ok (.getfield 18, 3) := by decide +kernel
theorem dX0_write_75 : decode cX0_write 75 = .ok (.aload_n 0, 1) := by decide +kernel
theorem dX0_write_76 : decode cX0_write 76 = .ok (.getfield 24, 3) := by decide +kernel
theorem dX0_write_79 : decode cX0_write 79 = .ok (.iload 5, 2) := by decide +kernel
theorem dX0_write_81 : decode cX0_write 81 = .ok (.iastore, 1) := by decide +kernel
theorem dX0_write_82 : decode cX0_write 82 = .ok (.aload_n 0, 1) := by decide +kernel
theorem dX0_write_83 : decode cX0_write 83 = .ok (.getfield 21, 3) := by decide +kernel
theorem dX0_write_86 : decode cX0_write 86 = .ok (.iload 4, 2) := by decide +kernel
theorem dX0_write_88 : decode cX0_write 88 = .ok (.aload_n 2, 1) := by decide +kernel
theorem dX0_write_89 : decode cX0_write 89 = .ok (.iload 4, 2) := by decide +kernel
theorem dX0_write_91 : decode cX0_write 91 = .ok (.iaload, 1) := by decide +kernel
theorem dX0_write_92 : decode cX0_write 92 = .ok (.iastore, 1) := by decide +kernel
theorem dX0_write_93 : decode cX0_write 93 = .ok (.aload_n 0, 1) := by decide +kernel
theorem dX0_write_94 : decode cX0_write 94 = .ok (.dup, 1) := by decide +kernel
theorem dX0_write_95 : decode cX0_write 95 = .ok (.getfield 24, 3) := by decide +kernel
theorem dX0_write_98 : decode cX0_write 98 = .ok (.iconst 1, 1) := by decide +kernel
theorem dX0_write_99 : decode cX0_write 99 = .ok (.iadd, 1) := by decide +kernel
theorem dX0_write_100 : decode cX0_write 100 = .ok (.putfield 24, 3) := by decide +kernel
theorem dX0_write_103 : decode cX0_write 103 = .ok (.iinc 4 1, 3) := by decide +kernel
theorem dX0_write_106 : decode cX0_write 106 = .ok (.goto (-82), 3) := by decide +kernel
theorem dX0_write_109 : decode cX0_write 109 = .ok (.iload_n 3, 1) := by decide +kernel
theorem dX0_write_110 : decode cX0_write 110 = .ok (.ireturn, 1) := by decide +kernel
theorem dX0_linesDue_0 : decode cX0_linesDue 0 = .ok (.iconst 0, 1) := by decide +kernel
theorem dX0_linesDue_1 : decode cX0_linesDue 1 = .ok (.istore_n 2, 1) := by decide +kernel
theorem dX0_linesDue_2 : decode cX0_linesDue 2 = .ok (.iconst 0, 1) := by decide +kernel
theorem dX0_linesDue_3 : decode cX0_linesDue 3 = .ok (.istore_n 3, 1) := by decide +kernel
theorem dX0_linesDue_4 : decode cX0_linesDue 4 = .ok (.iload_n 3, 1) := by decide +kernel
theorem dX0_linesDue_5 : decode cX0_linesDue 5 = .ok (.bipush 10, 2) := by decide +kernel
theorem dX0_linesDue_7 : decode cX0_linesDue 7 = .ok (.if_icmp .ge 24, 3) := by decide +kernel
theorem dX0_linesDue_10 : decode cX0_linesDue 10 = .ok (.aload_n 1, 1) := by decide +kernel
theorem dX0_linesDue_11 : decode cX0_linesDue 11 = .ok (.iload_n 3, 1) := by decide +kernel
theorem dX0_linesDue_12 : decode cX0_linesDue 12 = .ok (.iaload, 1) := by decide +kernel
theorem dX0_linesDue_13 : decode cX0_linesDue 13 = .ok (.aload_n 0, 1) := by decide +kernel
theorem dX0_linesDue_14 : decode cX0_linesDue 14 = .ok (.getfield 21, 3) := by decide +kernel
theorem dX0_linesDue_17 : decode cX0_linesDue 17 = .ok (.iload_n 3, 1) := by decide +kernel
theorem dX0_linesDue_18 : decode cX0_linesDue 18 = .ok (.iaload, 1) := by decide +kernel
theorem dX0_linesDue_19 : decode cX0_linesDue 19 = .ok (.if_icmp .eq 6, 3) := by decide +kernel
theorem dX0_linesDue_22 : decode cX0_linesDue 22 = .ok (.iinc 2 1, 3) := by decide +kernel
theorem dX0_linesDue_25 : decode cX0_linesDue 25 = .ok (.iinc 3 1, 3) := by decide +kernel
theorem dX0_linesDue_28 : decode cX0_linesDue 28 = .ok (.goto (-24), 3) := by decide +kernel
theorem dX0_linesDue_31 : decode cX0_linesDue 31 = .ok (.iload_n 2, 1) := by decide +kernel
theorem dX0_linesDue_32 : decode cX0_linesDue 32 = .ok (.ireturn, 1) := by decide +kernel
theorem dX1_init_0 : decode cX1_init 0 = .ok (.aload_n 0, 1) := by decide +kernel
theorem dX1_init_1 : decode cX1_init 1 = .ok (.invokespecial 3, 3) := by decide +kernel
theorem dX1_init_4 : decode cX1_init 4 = .ok (.aload_n 0, 1) := by decide +kernel
theorem dX1_init_5 : decode cX1_init 5 = .ok (.bipush 24, 2) := by decide +kernel
theorem dX1_init_7 : decode cX1_init 7 = .ok (.newarray .int, 2) := by decide +kernel
theorem dX1_init_9 : decode cX1_init 9 = .ok (.putfield 9, 3) := by decide +kernel
theorem dX1_init_12 : decode cX1_init 12 = .ok (.aload_n 0, 1) := by decide +kernel
theorem dX1_init_13 : decode cX1_init 13 = .ok (.bipush 24, 2) := by decide +kernel
theorem dX1_init_15 : decode cX1_init 15 = .ok (.newarray .int, 2) := by decide +kernel
theorem dX1_init_17 : decode cX1_init 17 = .ok (.putfield 15, 3) := by decide +kernel
theorem dX1_init_20 : decode cX1_init 20 = .ok (.aload_n 0, 1) := by decide +kernel
theorem dX1_init_21 : decode cX1_init 21 = .ok (.bipush 24, 2) := by decide +kernel
theorem dX1_init_23 : decode cX1_init 23 = .ok (.newarray .int, 2) := by decide +kernel
theorem dX1_init_25 : decode cX1_init 25 = .ok (.putfield 18, 3) := by decide +kernel
theorem dX1_init_28 : decode cX1_init 28 = .ok (.aload_n 0, 1) := by decide +kernel
theorem dX1_init_29 : decode cX1_init 29 = .ok (.bipush 24, 2) := by decide +kernel
theorem dX1_init_31 : decode cX1_init 31 = .ok (.newarray .int, 2) := by decide +kernel
theorem dX1_init_33 : decode cX1_init 33 = .ok (.putfield 21, 3) := by decide +kernel
theorem dX1_init_36 : decode cX1_init 36 = .ok (.aload_n 0, 1) := by decide +kernel
theorem dX1_init_37 : decode cX1_init 37 = .ok (.bipush 24, 2) := by decide +kernel
theorem dX1_init_39 : decode cX1_init 39 = .ok (.newarray .int, 2) := by decide +kernel
theorem dX1_init_41 : decode cX1_init 41 = .ok (.putfield 24, 3) := by decide +kernel
theorem dX1_init_44 : decode cX1_init 44 = .ok (.aload_n 0, 1) := by decide +kernel
theorem dX1_init_45 : decode cX1_init 45 = .ok (.iconst 0, 1) := by decide +kernel
theorem dX1_init_46 : decode cX1_init 46 = .ok (.putfield 27, 3) := by decide +kernel
theorem dX1_init_49 : decode cX1_init 49 = .ok (.aload_n 0, 1) := by decide +kernel
theorem dX1_init_50 : decode cX1_init 50 = .ok (.iconst 0, 1) := by decide +kernel
theorem dX1_init_51 : decode cX1_init 51 = .ok (.putfield 31, 3) := by decide +kernel
theorem dX1_init_54 : decode cX1_init 54 = .ok (.return_, 1) := by decide +kernel
theorem dX1_enter_0 : decode cX1_enter 0 = .ok (.aload_n 0, 1) := by decide +kernel
theorem dX1_enter_1 : decode cX1_enter 1 = .ok (.getfield 27, 3) := by decide +kernel
theorem dX1_enter_4 : decode cX1_enter 4 = .ok (.istore 4, 2) := by decide +kernel
theorem dX1_enter_6 : decode cX1_enter 6 = .ok (.aload_n 0, 1) := by decide +kernel
theorem dX1_enter_7 : decode cX1_enter 7 = .ok (.getfield 9, 3) := by decide +kernel
theorem dX1_enter_10 : decode cX1_enter 10 = .ok (.iload 4, 2) := by decide +kernel
theorem dX1_enter_12 : decode cX1_enter 12 = .ok (.iload_n 1, 1) := by decide +kernel
theorem dX1_enter_13 : decode cX1_enter 13 = .ok (.iastore, 1) := by decide +kernel
theorem dX1_enter_14 : decode cX1_enter 14 = .ok (.aload_n 0, 1) := by decide +kernel
theorem dX1_enter_15 : decode cX1_enter 15 = .ok (.getfield 15, 3) := by decide +kernel
theorem dX1_enter_18 : decode cX1_enter 18 = .ok (.iload 4, 2) := by decide +kernel
theorem dX1_enter_20 : decode cX1_enter 20 = .ok (.iload_n 2, 1) := by decide +kernel
theorem dX1_enter_21 : decode cX1_enter 21 = .ok (.iastore, 1) := by decide +kernel
theorem dX1_enter_22 : decode cX1_enter 22 = .ok (.aload_n 0, 1) := by decide +kernel
theorem dX1_enter_23 : decode cX1_enter 23 = .ok (.getfield 18, 3) := by decide +kernel
theorem dX1_enter_26 : decode cX1_enter 26 = .ok (.iload 4, 2) := by decide +kernel
theorem dX1_enter_28 : decode cX1_enter 28 = .ok (.iload_n 3, 1) := by decide +kernel
theorem dX1_enter_29 : decode cX1_enter 29 = .ok (.iastore, 1) := by decide +kernel
theorem dX1_enter_30 : decode cX1_enter 30 = .ok (.aload_n 0, 1) := by decide +kernel
theorem dX1_enter_31 : decode cX1_enter 31 = .ok (.dup, 1) := by decide +kernel
theorem dX1_enter_32 : decode cX1_enter 32 = .ok (.getfield 27, 3) := by decide +kernel
theorem dX1_enter_35 : decode cX1_enter 35 = .ok (.iconst 1, 1) := by decide +kernel
theorem dX1_enter_36 : decode cX1_enter 36 = .ok (.iadd, 1) := by decide +kernel
theorem dX1_enter_37 : decode cX1_enter 37 = .ok (.putfield 27, 3) := by decide +kernel
theorem dX1_enter_40 : decode cX1_enter 40 = .ok (.iload 4, 2) := by decide +kernel
theorem dX1_enter_42 : decode cX1_enter 42 = .ok (.ireturn, 1) := by decide +kernel
theorem dX1_drawBy_0 : decode cX1_drawBy 0 = .ok (.iconst 0, 1) := by decide +kernel
theorem dX1_drawBy_1 : decode cX1_drawBy 1 = .ok (.istore_n 2, 1) := by decide +kernel
theorem dX1_drawBy_2 : decode cX1_drawBy 2 = .ok (.iload_n 2, 1) := by decide +kernel
theorem dX1_drawBy_3 : decode cX1_drawBy 3 = .ok (.aload_n 0, 1) := by decide +kernel
theorem dX1_drawBy_4 : decode cX1_drawBy 4 = .ok (.getfield 27, 3) := by decide +kernel
theorem dX1_drawBy_7 : decode cX1_drawBy 7 = .ok (.if_icmp .ge 16, 3) := by decide +kernel
theorem dX1_drawBy_10 : decode cX1_drawBy 10 = .ok (.aload_n 0, 1) := by decide +kernel
theorem dX1_drawBy_11 : decode cX1_drawBy 11 = .ok (.getfield 21, 3) := by decide +kernel
theorem dX1_drawBy_14 : decode cX1_drawBy 14 = .ok (.iload_n 2, 1) := by decide +kernel
theorem dX1_drawBy_15 : decode cX1_drawBy 15 = .ok (.iload_n 2, 1) := by decide +kernel
theorem dX1_drawBy_16 : decode cX1_drawBy 16 = .ok (.iastore, 1) := by decide +kernel
theorem dX1_drawBy_17 : decode cX1_drawBy 17 = .ok (.iinc 2 1, 3) := by decide +kernel
theorem dX1_drawBy_20 : decode cX1_drawBy 20 = .ok (.goto (-18), 3) := by decide +kernel
theorem dX1_drawBy_23 : decode cX1_drawBy 23 = .ok (.aload_n 0, 1) := by decide +kernel
theorem dX1_drawBy_24 : decode cX1_drawBy 24 = .ok (.getfield 27, 3) := by decide +kernel
theorem dX1_drawBy_27 : decode cX1_drawBy 27 = .ok (.iconst 1, 1) := by decide +kernel
theorem dX1_drawBy_28 : decode cX1_drawBy 28 = .ok (.isub, 1) := by decide +kernel
theorem dX1_drawBy_29 : decode cX1_drawBy 29 = .ok (.istore_n 2, 1) := by decide +kernel
theorem dX1_drawBy_30 : decode cX1_drawBy 30 = .ok (.iload_n 2, 1) := by decide +kernel
theorem dX1_drawBy_31 : decode cX1_drawBy 31 = .ok (.iconst 1, 1) := by decide +kernel
theorem dX1_drawBy_32 : decode cX1_drawBy 32 = .ok (.if_icmp .lt 53, 3) := by decide +kernel
theorem dX1_drawBy_35 : decode cX1_drawBy 35 = .ok (.aload_n 1, 1) := by decide +kernel
theorem dX1_drawBy_36 : decode cX1_drawBy 36 = .ok (.aload_n 0, 1) := by decide +kernel
theorem dX1_drawBy_37 : decode cX1_drawBy 37 = .ok (.getfield 27, 3) := by decide +kernel
theorem dX1_drawBy_40 : decode cX1_drawBy 40 = .ok (.iconst 1, 1) := by decide +kernel
theorem dX1_drawBy_41 : decode cX1_drawBy 41 = .ok (.isub, 1) := by decide +kernel
theorem dX1_drawBy_42 : decode cX1_drawBy 42 = .ok (.iload_n 2, 1) := by decide +kernel
theorem dX1_drawBy_43 : decode cX1_drawBy 43 = .ok (.isub, 1) := by decide +kernel
theorem dX1_drawBy_44 : decode cX1_drawBy 44 = .ok (.iload_n 2, 1) := by decide +kernel
theorem dX1_drawBy_45 : decode cX1_drawBy 45 = .ok (.iconst 1, 1) := by decide +kernel
theorem dX1_drawBy_46 : decode cX1_drawBy 46 = .ok (.iadd, 1) := by decide +kernel
theorem dX1_drawBy_47 : decode cX1_drawBy 47 = .ok (.invokevirtual 35, 3) := by decide +kernel
theorem dX1_drawBy_50 : decode cX1_drawBy 50 = .ok (.istore_n 3, 1) := by decide +kernel
theorem dX1_drawBy_51 : decode cX1_drawBy 51 = .ok (.aload_n 0, 1) := by decide +kernel
theorem dX1_drawBy_52 : decode cX1_drawBy 52 = .ok (.getfield 21, 3) := by decide +kernel
theorem dX1_drawBy_55 : decode cX1_drawBy 55 = .ok (.iload_n 2, 1) := by decide +kernel
theorem dX1_drawBy_56 : decode cX1_drawBy 56 = .ok (.iaload, 1) := by decide +kernel
theorem dX1_drawBy_57 : decode cX1_drawBy 57 = .ok (.istore 4, 2) := by decide +kernel
theorem dX1_drawBy_59 : decode cX1_drawBy 59 = .ok (.aload_n 0, 1) := by decide +kernel
theorem dX1_drawBy_60 : decode cX1_drawBy 60 = .ok (.getfield 21, 3) := by decide +kernel
theorem dX1_drawBy_63 : decode cX1_drawBy 63 = .ok (.iload_n 2, 1) := by decide +kernel
theorem dX1_drawBy_64 : decode cX1_drawBy 64 = .ok (.aload_n 0, 1) := by decide +kernel
theorem dX1_drawBy_65 : decode cX1_drawBy 65 = .ok (.getfield 21, 3) := by decide +kernel
theorem dX1_drawBy_68 : decode cX1_drawBy 68 = .ok (.iload_n 3, 1) := by decide +kernel
theorem dX1_drawBy_69 : decode cX1_drawBy 69 = .ok (.iaload, 1) := by decide +kernel
theorem dX1_drawBy_70 : decode cX1_drawBy 70 = .ok (.iastore, 1) := by decide +kernel
theorem dX1_drawBy_71 : decode cX1_drawBy 71 = .ok (.aload_n 0, 1) := by decide +kernel
theorem dX1_drawBy_72 : decode cX1_drawBy 72 = .ok (.getfield 21, 3) := by decide +kernel
theorem dX1_drawBy_75 : decode cX1_drawBy 75 = .ok (.iload_n 3, 1) := by decide +kernel
theorem dX1_drawBy_76 : decode cX1_drawBy 76 = .ok (.iload 4, 2) := by decide +kernel
theorem dX1_drawBy_78 : decode cX1_drawBy 78 = .ok (.iastore, 1) := by decide +kernel
theorem dX1_drawBy_79 : decode cX1_drawBy 79 = .ok (.iinc 2 (-1), 3) := by decide +kernel
theorem dX1_drawBy_82 : decode cX1_drawBy 82 = .ok (.goto (-52), 3) := by decide +kernel
theorem dX1_drawBy_85 : decode cX1_drawBy 85 = .ok (.iconst 0, 1) := by decide +kernel
theorem dX1_drawBy_86 : decode cX1_drawBy 86 = .ok (.istore_n 2, 1) := by decide +kernel
theorem dX1_drawBy_87 : decode cX1_drawBy 87 = .ok (.iload_n 2, 1) := by decide +kernel
theorem dX1_drawBy_88 : decode cX1_drawBy 88 = .ok (.aload_n 0, 1) := by decide +kernel
theorem dX1_drawBy_89 : decode cX1_drawBy 89 = .ok (.getfield 27, 3) := by decide +kernel
theorem dX1_drawBy_92 : decode cX1_drawBy 92 = .ok (.if_icmp .ge 21, 3) := by decide +kernel
theorem dX1_drawBy_95 : decode cX1_drawBy 95 = .ok (.aload_n 0, 1) := by decide +kernel
theorem dX1_drawBy_96 : decode cX1_drawBy 96 = .ok (.getfield 24, 3) := by decide +kernel
theorem dX1_drawBy_99 : decode cX1_drawBy 99 = .ok (.aload_n 0, 1) := by decide +kernel
theorem dX1_drawBy_100 : decode cX1_drawBy 100 = .ok (.getfield 21, 3) := by decide +kernel
theorem dX1_drawBy_103 : decode cX1_drawBy 103 = .ok (.iload_n 2, 1) := by decide +kernel
theorem dX1_drawBy_104 : decode cX1_drawBy 104 = .ok (.iaload, 1) := by decide +kernel
theorem dX1_drawBy_105 : decode cX1_drawBy 105 = .ok (.iload_n 2, 1) := by decide +kernel
theorem dX1_drawBy_106 : decode cX1_drawBy 106 = .ok (.iastore, 1) := by decide +kernel
theorem dX1_drawBy_107 : decode cX1_drawBy 107 = .ok (.iinc 2 1, 3) := by decide +kernel
theorem dX1_drawBy_110 : decode cX1_drawBy 110 = .ok (.goto (-23), 3) := by decide +kernel
theorem dX1_drawBy_113 : decode cX1_drawBy 113 = .ok (.aload_n 0, 1) := by decide +kernel
theorem dX1_drawBy_114 : decode cX1_drawBy 114 = .ok (.iconst 1, 1) := by decide +kernel
theorem dX1_drawBy_115 : decode cX1_drawBy 115 = .ok (.putfield 31, 3) := by decide +kernel
theorem dX1_drawBy_118 : decode cX1_drawBy 118 = .ok (.return_, 1) := by decide +kernel
theorem dX1_isFull_0 : decode cX1_isFull 0 = .ok (.aload_n 0, 1) := by decide +kernel
theorem dX1_isFull_1 : decode cX1_isFull 1 = .ok (.getfield 27, 3) := by decide +kernel
theorem dX1_isFull_4 : decode cX1_isFull 4 = .ok (.bipush 24, 2) := by decide +kernel
theorem dX1_isFull_6 : decode cX1_isFull 6 = .ok (.if_icmp .lt 7, 3) := by decide +kernel
theorem dX1_isFull_9 : decode cX1_isFull 9 = .ok (.iconst 1, 1) := by decide +kernel
theorem dX1_isFull_10 : decode cX1_isFull 10 = .ok (.goto 4, 3) := by decide +kernel
theorem dX1_isFull_13 : decode cX1_isFull 13 = .ok (.iconst 0, 1) := by decide +kernel
theorem dX1_isFull_14 : decode cX1_isFull 14 = .ok (.ireturn, 1) := by decide +kernel
theorem dX1_isDrawn_0 : decode cX1_isDrawn 0 = .ok (.aload_n 0, 1) := by decide +kernel
theorem dX1_isDrawn_1 : decode cX1_isDrawn 1 = .ok (.getfield 31, 3) := by decide +kernel
theorem dX1_isDrawn_4 : decode cX1_isDrawn 4 = .ok (.ireturn, 1) := by decide +kernel
theorem dX1_size_0 : decode cX1_size 0 = .ok (.aload_n 0, 1) := by decide +kernel
theorem dX1_size_1 : decode cX1_size 1 = .ok (.getfield 27, 3) := by decide +kernel
theorem dX1_size_4 : decode cX1_size 4 = .ok (.ireturn, 1) := by decide +kernel
theorem dX1_plots_0 : decode cX1_plots 0 = .ok (.aload_n 0, 1) := by decide +kernel
theorem dX1_plots_1 : decode cX1_plots 1 = .ok (.getfield 31, 3) := by decide +kernel
theorem dX1_plots_4 : decode cX1_plots 4 = .ok (.ifCond .eq 10, 3) := by decide +kernel
theorem dX1_plots_7 : decode cX1_plots 7 = .ok (.aload_n 0, 1) := by decide +kernel
theorem dX1_plots_8 : decode cX1_plots 8 = .ok (.getfield 27, 3) := by decide +kernel
theorem dX1_plots_11 : decode cX1_plots 11 = .ok (.goto 4, 3) := by decide +kernel
theorem dX1_plots_14 : decode cX1_plots 14 = .ok (.iconst 0, 1) := by decide +kernel
theorem dX1_plots_15 : decode cX1_plots 15 = .ok (.ireturn, 1) := by decide +kernel
theorem dX1_kindOf_0 : decode cX1_kindOf 0 = .ok (.aload_n 0, 1) := by decide +kernel
theorem dX1_kindOf_1 : decode cX1_kindOf 1 = .ok (.getfield 9, 3) := by decide +kernel
theorem dX1_kindOf_4 : decode cX1_kindOf 4 = .ok (.iload_n 1, 1) := by decide +kernel
theorem dX1_kindOf_5 : decode cX1_kindOf 5 = .ok (.iaload, 1) := by decide +kernel
theorem dX1_kindOf_6 : decode cX1_kindOf 6 = .ok (.ireturn, 1) := by decide +kernel
theorem dX1_ageOf_0 : decode cX1_ageOf 0 = .ok (.aload_n 0, 1) := by decide +kernel
theorem dX1_ageOf_1 : decode cX1_ageOf 1 = .ok (.getfield 15, 3) := by decide +kernel
theorem dX1_ageOf_4 : decode cX1_ageOf 4 = .ok (.iload_n 1, 1) := by decide +kernel
theorem dX1_ageOf_5 : decode cX1_ageOf 5 = .ok (.iaload, 1) := by decide +kernel
theorem dX1_ageOf_6 : decode cX1_ageOf 6 = .ok (.ireturn, 1) := by decide +kernel
theorem dX1_clubOf_0 : decode cX1_clubOf 0 = .ok (.aload_n 0, 1) := by decide +kernel
theorem dX1_clubOf_1 : decode cX1_clubOf 1 = .ok (.getfield 18, 3) := by decide +kernel
theorem dX1_clubOf_4 : decode cX1_clubOf 4 = .ok (.iload_n 1, 1) := by decide +kernel
theorem dX1_clubOf_5 : decode cX1_clubOf 5 = .ok (.iaload, 1) := by decide +kernel
theorem dX1_clubOf_6 : decode cX1_clubOf 6 = .ok (.ireturn, 1) := by decide +kernel
theorem dX1_plotOf_0 : decode cX1_plotOf 0 = .ok (.aload_n 0, 1) := by decide +kernel
theorem dX1_plotOf_1 : decode cX1_plotOf 1 = .ok (.getfield 21, 3) := by decide +kernel
theorem dX1_plotOf_4 : decode cX1_plotOf 4 = .ok (.iload_n 1, 1) := by decide +kernel
theorem dX1_plotOf_5 : decode cX1_plotOf 5 = .ok (.iaload, 1) := by decide +kernel
theorem dX1_plotOf_6 : decode cX1_plotOf 6 = .ok (.ireturn, 1) := by decide +kernel
theorem dX1_ploughmanOf_0 : decode cX1_ploughmanOf 0 = .ok (.aload_n 0, 1) := by decide +kernel
theorem dX1_ploughmanOf_1 : decode cX1_ploughmanOf 1 = .ok (.getfield 24, 3) := by decide +kernel
theorem dX1_ploughmanOf_4 : decode cX1_ploughmanOf 4 = .ok (.iload_n 1, 1) := by decide +kernel
theorem dX1_ploughmanOf_5 : decode cX1_ploughmanOf 5 = .ok (.iaload, 1) := by decide +kernel
theorem dX1_ploughmanOf_6 : decode cX1_ploughmanOf 6 = .ok (.ireturn, 1) := by decide +kernel
theorem dX2_init_0 : decode cX2_init 0 = .ok (.aload_n 0, 1) := by decide +kernel
theorem dX2_init_1 : decode cX2_init 1 = .ok (.invokespecial 3, 3) := by decide +kernel
theorem dX2_init_4 : decode cX2_init 4 = .ok (.aload_n 0, 1) := by decide +kernel
theorem dX2_init_5 : decode cX2_init 5 = .ok (.bipush 6, 2) := by decide +kernel
theorem dX2_init_7 : decode cX2_init 7 = .ok (.newarray .int, 2) := by decide +kernel
theorem dX2_init_9 : decode cX2_init 9 = .ok (.putfield 9, 3) := by decide +kernel
theorem dX2_init_12 : decode cX2_init 12 = .ok (.aload_n 0, 1) := by decide +kernel
theorem dX2_init_13 : decode cX2_init 13 = .ok (.bipush 6, 2) := by decide +kernel
theorem dX2_init_15 : decode cX2_init 15 = .ok (.newarray .boolean, 2) := by decide +kernel
theorem dX2_init_17 : decode cX2_init 17 = .ok (.putfield 15, 3) := by decide +kernel
theorem dX2_init_20 : decode cX2_init 20 = .ok (.aload_n 0, 1) := by decide +kernel
theorem dX2_init_21 : decode cX2_init 21 = .ok (.iconst 0, 1) := by decide +kernel
theorem dX2_init_22 : decode cX2_init 22 = .ok (.putfield 19, 3) := by decide +kernel
theorem dX2_init_25 : decode cX2_init 25 = .ok (.return_, 1) := by decide +kernel
theorem dX2_append_0 : decode cX2_append 0 = .ok (.aload_n 0, 1) := by decide +kernel
theorem dX2_append_1 : decode cX2_append 1 = .ok (.getfield 19, 3) := by decide +kernel
theorem dX2_append_4 : decode cX2_append 4 = .ok (.bipush 6, 2) := by decide +kernel
theorem dX2_append_6 : decode cX2_append 6 = .ok (.if_icmp .ge 33, 3) := by decide +kernel
theorem dX2_append_9 : decode cX2_append 9 = .ok (.aload_n 0, 1) := by decide +kernel
theorem dX2_append_10 : decode cX2_append 10 = .ok (.getfield 9, 3) := by decide +kernel
theorem dX2_append_13 : decode cX2_append 13 = .ok (.aload_n 0, 1) := by decide +kernel
theorem dX2_append_14 : decode cX2_append 14 = .ok (.getfield 19, 3) := by decide +kernel
theorem dX2_append_17 : decode cX2_append 17 = .ok (.iload_n 1, 1) := by decide +kernel
theorem dX2_append_18 : decode cX2_append 18 = .ok (.iastore, 1) := by decide +kernel
theorem dX2_append_19 : decode cX2_append 19 = .ok (.aload_n 0, 1) := by decide +kernel
theorem dX2_append_20 : decode cX2_append 20 = .ok (.getfield 15, 3) := by decide +kernel
theorem dX2_append_23 : decode cX2_append 23 = .ok (.aload_n 0, 1) := by decide +kernel
theorem dX2_append_24 : decode cX2_append 24 = .ok (.getfield 19, 3) := by decide +kernel
theorem dX2_append_27 : decode cX2_append 27 = .ok (.iload_n 2, 1) := by decide +kernel
theorem dX2_append_28 : decode cX2_append 28 = .ok (.bastore, 1) := by decide +kernel
theorem dX2_append_29 : decode cX2_append 29 = .ok (.aload_n 0, 1) := by decide +kernel
theorem dX2_append_30 : decode cX2_append 30 = .ok (.dup, 1) := by decide +kernel
theorem dX2_append_31 : decode cX2_append 31 = .ok (.getfield 19, 3) := by decide +kernel
theorem dX2_append_34 : decode cX2_append 34 = .ok (.iconst 1, 1) := by decide +kernel
theorem dX2_append_35 : decode cX2_append 35 = .ok (.iadd, 1) := by decide +kernel
theorem dX2_append_36 : decode cX2_append 36 = .ok (.putfield 19, 3) := by decide +kernel
theorem dX2_append_39 : decode cX2_append 39 = .ok (.return_, 1) := by decide +kernel
theorem dX2_clear_0 : decode cX2_clear 0 = .ok (.aload_n 0, 1) := by decide +kernel
theorem dX2_clear_1 : decode cX2_clear 1 = .ok (.iconst 0, 1) := by decide +kernel
theorem dX2_clear_2 : decode cX2_clear 2 = .ok (.putfield 19, 3) := by decide +kernel
theorem dX2_clear_5 : decode cX2_clear 5 = .ok (.return_, 1) := by decide +kernel
theorem dX2_copyFrom_0 : decode cX2_copyFrom 0 = .ok (.aload_n 0, 1) := by decide +kernel
theorem dX2_copyFrom_1 : decode cX2_copyFrom 1 = .ok (.invokevirtual 23, 3) := by decide +kernel
theorem dX2_copyFrom_4 : decode cX2_copyFrom 4 = .ok (.iconst 0, 1) := by decide +kernel
theorem dX2_copyFrom_5 : decode cX2_copyFrom 5 = .ok (.istore_n 2, 1) := by decide +kernel
theorem dX2_copyFrom_6 : decode cX2_copyFrom 6 = .ok (.iload_n 2, 1) := by decide +kernel
theorem dX2_copyFrom_7 : decode cX2_copyFrom 7 = .ok (.aload_n 1, 1) := by decide +kernel
theorem dX2_copyFrom_8 : decode cX2_copyFrom 8 = .ok (.getfield 19, 3) := by decide +kernel
theorem dX2_copyFrom_11 : decode cX2_copyFrom 11 = .ok (.if_icmp .ge 25, 3) := by decide +kernel
theorem dX2_copyFrom_14 : decode cX2_copyFrom 14 = .ok (.aload_n 0, 1) := by decide +kernel
theorem dX2_copyFrom_15 : decode cX2_copyFrom 15 = .ok (.aload_n 1, 1) := by decide +kernel
theorem dX2_copyFrom_16 : decode cX2_copyFrom 16 = .ok (.getfield 9, 3) := by decide +kernel
theorem dX2_copyFrom_19 : decode cX2_copyFrom 19 = .ok (.iload_n 2, 1) := by decide +kernel
theorem dX2_copyFrom_20 : decode cX2_copyFrom 20 = .ok (.iaload, 1) := by decide +kernel
theorem dX2_copyFrom_21 : decode cX2_copyFrom 21 = .ok (.aload_n 1, 1) := by decide +kernel
theorem dX2_copyFrom_22 : decode cX2_copyFrom 22 = .ok (.getfield 15, 3) := by decide +kernel
theorem dX2_copyFrom_25 : decode cX2_copyFrom 25 = .ok (.iload_n 2, 1) := by decide +kernel
theorem dX2_copyFrom_26 : decode cX2_copyFrom 26 = .ok (.baload, 1) := by decide +kernel
theorem dX2_copyFrom_27 : decode cX2_copyFrom 27 = .ok (.invokevirtual 26, 3) := by decide +kernel
theorem dX2_copyFrom_30 : decode cX2_copyFrom 30 = .ok (.iinc 2 1, 3) := by decide +kernel
theorem dX2_copyFrom_33 : decode cX2_copyFrom 33 = .ok (.goto (-27), 3) := by decide +kernel
theorem dX2_copyFrom_36 : decode cX2_copyFrom 36 = .ok (.return_, 1) := by decide +kernel
theorem dX2_size_0 : decode cX2_size 0 = .ok (.aload_n 0, 1) := by decide +kernel
theorem dX2_size_1 : decode cX2_size 1 = .ok (.getfield 19, 3) := by decide +kernel
theorem dX2_size_4 : decode cX2_size 4 = .ok (.ireturn, 1) := by decide +kernel
theorem dX2_measureAt_0 : decode cX2_measureAt 0 = .ok (.aload_n 0, 1) := by decide +kernel
theorem dX2_measureAt_1 : decode cX2_measureAt 1 = .ok (.getfield 9, 3) := by decide +kernel
theorem dX2_measureAt_4 : decode cX2_measureAt 4 = .ok (.iload_n 1, 1) := by decide +kernel
theorem dX2_measureAt_5 : decode cX2_measureAt 5 = .ok (.iaload, 1) := by decide +kernel
theorem dX2_measureAt_6 : decode cX2_measureAt 6 = .ok (.ireturn, 1) := by decide +kernel
theorem dX2_isUp_0 : decode cX2_isUp 0 = .ok (.aload_n 0, 1) := by decide +kernel
theorem dX2_isUp_1 : decode cX2_isUp 1 = .ok (.getfield 15, 3) := by decide +kernel
theorem dX2_isUp_4 : decode cX2_isUp 4 = .ok (.iload_n 1, 1) := by decide +kernel
theorem dX2_isUp_5 : decode cX2_isUp 5 = .ok (.baload, 1) := by decide +kernel
theorem dX2_isUp_6 : decode cX2_isUp 6 = .ok (.ireturn, 1) := by decide +kernel
theorem dX3_init_0 : decode cX3_init 0 = .ok (.aload_n 0, 1) := by decide +kernel
theorem dX3_init_1 : decode cX3_init 1 = .ok (.invokespecial 3, 3) := by decide +kernel
theorem dX3_init_4 : decode cX3_init 4 = .ok (.aload_n 0, 1) := by decide +kernel
theorem dX3_init_5 : decode cX3_init 5 = .ok (.bipush 30, 2) := by decide +kernel
theorem dX3_init_7 : decode cX3_init 7 = .ok (.newarray .int, 2) := by decide +kernel
theorem dX3_init_9 : decode cX3_init 9 = .ok (.putfield 9, 3) := by decide +kernel
theorem dX3_init_12 : decode cX3_init 12 = .ok (.aload_n 0, 1) := by decide +kernel
theorem dX3_init_13 : decode cX3_init 13 = .ok (.iconst 0, 1) := by decide +kernel
theorem dX3_init_14 : decode cX3_init 14 = .ok (.putfield 15, 3) := by decide +kernel
theorem dX3_init_17 : decode cX3_init 17 = .ok (.return_, 1) := by decide +kernel
theorem dX3_append_0 : decode cX3_append 0 = .ok (.aload_n 0, 1) := by decide +kernel
theorem dX3_append_1 : decode cX3_append 1 = .ok (.getfield 15, 3) := by decide +kernel
theorem dX3_append_4 : decode cX3_append 4 = .ok (.bipush 30, 2) := by decide +kernel
theorem dX3_append_6 : decode cX3_append 6 = .ok (.if_icmp .lt 5, 3) := by decide +kernel
theorem dX3_append_9 : decode cX3_append 9 = .ok (.iconst (-1), 1) := by decide +kernel
theorem dX3_append_10 : decode cX3_append 10 = .ok (.ireturn, 1) := by decide +kernel
theorem dX3_append_11 : decode cX3_append 11 = .ok (.aload_n 0, 1) := by decide +kernel
theorem dX3_append_12 : decode cX3_append 12 = .ok (.getfield 9, 3) := by decide +kernel
theorem dX3_append_15 : decode cX3_append 15 = .ok (.aload_n 0, 1) := by decide +kernel
theorem dX3_append_16 : decode cX3_append 16 = .ok (.getfield 15, 3) := by decide +kernel
theorem dX3_append_19 : decode cX3_append 19 = .ok (.iload_n 1, 1) := by decide +kernel
theorem dX3_append_20 : decode cX3_append 20 = .ok (.iastore, 1) := by decide +kernel
theorem dX3_append_21 : decode cX3_append 21 = .ok (.aload_n 0, 1) := by decide +kernel
theorem dX3_append_22 : decode cX3_append 22 = .ok (.dup, 1) := by decide +kernel
theorem dX3_append_23 : decode cX3_append 23 = .ok (.getfield 15, 3) := by decide +kernel
theorem dX3_append_26 : decode cX3_append 26 = .ok (.iconst 1, 1) := by decide +kernel
theorem dX3_append_27 : decode cX3_append 27 = .ok (.iadd, 1) := by decide +kernel
theorem dX3_append_28 : decode cX3_append 28 = .ok (.putfield 15, 3) := by decide +kernel
theorem dX3_append_31 : decode cX3_append 31 = .ok (.aload_n 0, 1) := by decide +kernel
theorem dX3_append_32 : decode cX3_append 32 = .ok (.getfield 15, 3) := by decide +kernel
theorem dX3_append_35 : decode cX3_append 35 = .ok (.ireturn, 1) := by decide +kernel
theorem dX3_size_0 : decode cX3_size 0 = .ok (.aload_n 0, 1) := by decide +kernel
theorem dX3_size_1 : decode cX3_size 1 = .ok (.getfield 15, 3) := by decide +kernel
theorem dX3_size_4 : decode cX3_size 4 = .ok (.ireturn, 1) := by decide +kernel
theorem dX3_clear_0 : decode cX3_clear 0 = .ok (.aload_n 0, 1) := by decide +kernel
theorem dX3_clear_1 : decode cX3_clear 1 = .ok (.iconst 0, 1) := by decide +kernel
theorem dX3_clear_2 : decode cX3_clear 2 = .ok (.putfield 15, 3) := by decide +kernel
theorem dX3_clear_5 : decode cX3_clear 5 = .ok (.return_, 1) := by decide +kernel
theorem dX3_remainder_0 : decode cX3_remainder 0 = .ok (.iload_n 1, 1) := by decide +kernel
theorem dX3_remainder_1 : decode cX3_remainder 1 = .ok (.aload_n 0, 1) := by decide +kernel
theorem dX3_remainder_2 : decode cX3_remainder 2 = .ok (.getfield 15, 3) := by decide +kernel
theorem dX3_remainder_5 : decode cX3_remainder 5 = .ok (.invokestatic 19, 3) := by decide +kernel
theorem dX3_remainder_8 : decode cX3_remainder 8 = .ok (.ifCond .eq 8, 3) := by decide +kernel
theorem dX3_remainder_11 : decode cX3_remainder 11 = .ok (.iload_n 2, 1) := by decide +kernel
theorem dX3_remainder_12 : decode cX3_remainder 12 = .ok (.iconst 1, 1) := by decide +kernel
theorem dX3_remainder_13 : decode cX3_remainder 13 = .ok (.if_icmp .ge 5, 3) := by decide +kernel
theorem dX3_remainder_16 : decode cX3_remainder 16 = .ok (.iconst 0, 1) := by decide +kernel
theorem dX3_remainder_17 : decode cX3_remainder 17 = .ok (.ireturn, 1) := by decide +kernel
theorem dX3_remainder_18 : decode cX3_remainder 18 = .ok (.aload_n 0, 1) := by decide +kernel
theorem dX3_remainder_19 : decode cX3_remainder 19 = .ok (.getfield 9, 3) := by decide +kernel
theorem dX3_remainder_22 : decode cX3_remainder 22 = .ok (.iload_n 1, 1) := by decide +kernel
theorem dX3_remainder_23 : decode cX3_remainder 23 = .ok (.iaload, 1) := by decide +kernel
theorem dX3_remainder_24 : decode cX3_remainder 24 = .ok (.i2l, 1) := by decide +kernel
theorem dX3_remainder_25 : decode cX3_remainder 25 = .ok (.ldc2_w 23, 3) := by decide +kernel
theorem dX3_remainder_28 : decode cX3_remainder 28 = .ok (.land, 1) := by decide +kernel
theorem dX3_remainder_29 : decode cX3_remainder 29 = .ok (.iload_n 2, 1) := by decide +kernel
theorem dX3_remainder_30 : decode cX3_remainder 30 = .ok (.i2l, 1) := by decide +kernel
theorem dX3_remainder_31 : decode cX3_remainder 31 = .ok (.lrem, 1) := by decide +kernel
theorem dX3_remainder_32 : decode cX3_remainder 32 = .ok (.l2i, 1) := by decide +kernel
theorem dX3_remainder_33 : decode cX3_remainder 33 = .ok (.ireturn, 1) := by decide +kernel
theorem dX4_init_0 : decode cX4_init 0 = .ok (.aload_n 0, 1) := by decide +kernel
theorem dX4_init_1 : decode cX4_init 1 = .ok (.invokespecial 3, 3) := by decide +kernel
theorem dX4_init_4 : decode cX4_init 4 = .ok (.aload_n 0, 1) := by decide +kernel
theorem dX4_init_5 : decode cX4_init 5 = .ok (.bipush 24, 2) := by decide +kernel
theorem dX4_init_7 : decode cX4_init 7 = .ok (.newarray .int, 2) := by decide +kernel
theorem dX4_init_9 : decode cX4_init 9 = .ok (.putfield 9, 3) := by decide +kernel
theorem dX4_init_12 : decode cX4_init 12 = .ok (.aload_n 0, 1) := by decide +kernel
theorem dX4_init_13 : decode cX4_init 13 = .ok (.iconst 0, 1) := by decide +kernel
theorem dX4_init_14 : decode cX4_init 14 = .ok (.putfield 15, 3) := by decide +kernel
theorem dX4_init_17 : decode cX4_init 17 = .ok (.aload_n 0, 1) := by decide +kernel
theorem dX4_init_18 : decode cX4_init 18 = .ok (.aload_n 1, 1) := by decide +kernel
theorem dX4_init_19 : decode cX4_init 19 = .ok (.putfield 19, 3) := by decide +kernel
theorem dX4_init_22 : decode cX4_init 22 = .ok (.aload_n 0, 1) := by decide +kernel
theorem dX4_init_23 : decode cX4_init 23 = .ok (.aload_n 2, 1) := by decide +kernel
theorem dX4_init_24 : decode cX4_init 24 = .ok (.putfield 23, 3) := by decide +kernel
theorem dX4_init_27 : decode cX4_init 27 = .ok (.aload_n 0, 1) := by decide +kernel
theorem dX4_init_28 : decode cX4_init 28 = .ok (.aload_n 3, 1) := by decide +kernel
theorem dX4_init_29 : decode cX4_init 29 = .ok (.putfield 27, 3) := by decide +kernel
theorem dX4_init_32 : decode cX4_init 32 = .ok (.aload_n 0, 1) := by decide +kernel
theorem dX4_init_33 : decode cX4_init 33 = .ok (.aload 4, 2) := by decide +kernel
theorem dX4_init_35 : decode cX4_init 35 = .ok (.putfield 31, 3) := by decide +kernel
theorem dX4_init_38 : decode cX4_init 38 = .ok (.return_, 1) := by decide +kernel
theorem dX4_arrange_0 : decode cX4_arrange 0 = .ok (.aload_n 0, 1) := by decide +kernel
theorem dX4_arrange_1 : decode cX4_arrange 1 = .ok (.iconst 0, 1) := by decide +kernel
theorem dX4_arrange_2 : decode cX4_arrange 2 = .ok (.putfield 15, 3) := by decide +kernel
theorem dX4_arrange_5 : decode cX4_arrange 5 = .ok (.iconst 0, 1) := by decide +kernel
theorem dX4_arrange_6 : decode cX4_arrange 6 = .ok (.istore_n 2, 1) := by decide +kernel
theorem dX4_arrange_7 : decode cX4_arrange 7 = .ok (.iload_n 2, 1) := by decide +kernel
theorem dX4_arrange_8 : decode cX4_arrange 8 = .ok (.aload_n 0, 1) := by decide +kernel
theorem dX4_arrange_9 : decode cX4_arrange 9 = .ok (.getfield 19, 3) := by decide +kernel
theorem dX4_arrange_12 : decode cX4_arrange 12 = .ok (.invokevirtual 35, 3) := by decide +kernel
theorem dX4_arrange_15 : decode cX4_arrange 15 = .ok (.if_icmp .ge 86, 3) := by decide +kernel
theorem dX4_arrange_18 : decode cX4_arrange 18 = .ok (.aload_n 0, 1) := by decide +kernel
theorem dX4_arrange_19 : decode cX4_arrange 19 = .ok (.getfield 19, 3) := by decide +kernel
theorem dX4_arrange_22 : decode cX4_arrange 22 = .ok (.iload_n 2, 1) := by decide +kernel
theorem dX4_arrange_23 : decode cX4_arrange 23 = .ok (.invokevirtual 40, 3) := by decide +kernel
theorem dX4_arrange_26 : decode cX4_arrange 26 = .ok (.iload_n 1, 1) := by decide +kernel
theorem dX4_arrange_27 : decode cX4_arrange 27 = .ok (.if_icmp .eq 6, 3) := by decide +kernel
theorem dX4_arrange_30 : decode cX4_arrange 30 = .ok (.goto 65, 3) := by decide +kernel
theorem dX4_arrange_33 : decode cX4_arrange 33 = .ok (.aload_n 0, 1) := by decide +kernel
theorem dX4_arrange_34 : decode cX4_arrange 34 = .ok (.getfield 15, 3) := by decide +kernel
theorem dX4_arrange_37 : decode cX4_arrange 37 = .ok (.istore_n 3, 1) := by decide +kernel
theorem dX4_arrange_38 : decode cX4_arrange 38 = .ok (.iload_n 3, 1) := by decide +kernel
theorem dX4_arrange_39 : decode cX4_arrange 39 = .ok (.ifCond .le 39, 3) := by decide +kernel
theorem dX4_arrange_42 : decode cX4_arrange 42 = .ok (.aload_n 0, 1) := by decide +kernel
theorem dX4_arrange_43 : decode cX4_arrange 43 = .ok (.iload_n 2, 1) := by decide +kernel
theorem dX4_arrange_44 : decode cX4_arrange 44 = .ok (.aload_n 0, 1) := by decide +kernel
theorem dX4_arrange_45 : decode cX4_arrange 45 = .ok (.getfield 9, 3) := by decide +kernel
theorem dX4_arrange_48 : decode cX4_arrange 48 = .ok (.iload_n 3, 1) := by decide +kernel
theorem dX4_arrange_49 : decode cX4_arrange 49 = .ok (.iconst 1, 1) := by decide +kernel
theorem dX4_arrange_50 : decode cX4_arrange 50 = .ok (.isub, 1) := by decide +kernel
theorem dX4_arrange_51 : decode cX4_arrange 51 = .ok (.iaload, 1) := by decide +kernel
theorem dX4_arrange_52 : decode cX4_arrange 52 = .ok (.invokevirtual 44, 3) := by decide +kernel
theorem dX4_arrange_55 : decode cX4_arrange 55 = .ok (.ifCond .eq 23, 3) := by decide +kernel
theorem dX4_arrange_58 : decode cX4_arrange 58 = .ok (.aload_n 0, 1) := by decide +kernel
theorem dX4_arrange_59 : decode cX4_arrange 59 = .ok (.getfield 9, 3) := by decide +kernel
theorem dX4_arrange_62 : decode cX4_arrange 62 = .ok (.iload_n 3, 1) := by decide +kernel
theorem dX4_arrange_63 : decode cX4_arrange 63 = .ok (.aload_n 0, 1) := by decide +kernel
theorem dX4_arrange_64 : decode cX4_arrange 64 = .ok (.getfield 9, 3) := by decide +kernel
theorem dX4_arrange_67 : decode cX4_arrange 67 = .ok (.iload_n 3, 1) := by decide +kernel
theorem dX4_arrange_68 : decode cX4_arrange 68 = .ok (.iconst 1, 1) := by decide +kernel
theorem dX4_arrange_69 : decode cX4_arrange 69 = .ok (.isub, 1) := by decide +kernel
theorem dX4_arrange_70 : decode cX4_arrange 70 = .ok (.iaload, 1) := by decide +kernel
theorem dX4_arrange_71 : decode cX4_arrange 71 = .ok (.iastore, 1) := by decide +kernel
theorem dX4_arrange_72 : decode cX4_arrange 72 = .ok (.iinc 3 (-1), 3) := by decide +kernel
theorem dX4_arrange_75 : decode cX4_arrange 75 = .ok (.goto (-37), 3) := by decide +kernel
theorem dX4_arrange_78 : decode cX4_arrange 78 = .ok (.aload_n 0, 1) := by decide +kernel
theorem dX4_arrange_79 : decode cX4_arrange 79 = .ok (.getfield 9, 3) := by decide +kernel
theorem dX4_arrange_82 : decode cX4_arrange 82 = .ok (.iload_n 3, 1) := by decide +kernel
theorem dX4_arrange_83 : decode cX4_arrange 83 = .ok (.iload_n 2, 1) := by decide +kernel
theorem dX4_arrange_84 : decode cX4_arrange 84 = .ok (.iastore, 1) := by decide +kernel
theorem dX4_arrange_85 : decode cX4_arrange 85 = .ok (.aload_n 0, 1) := by decide +kernel
theorem dX4_arrange_86 : decode cX4_arrange 86 = .ok (.dup, 1) := by decide +kernel
theorem dX4_arrange_87 : decode cX4_arrange 87 = .ok (.getfield 15, 3) := by decide +kernel
theorem dX4_arrange_90 : decode cX4_arrange 90 = .ok (.iconst 1, 1) := by decide +kernel
theorem dX4_arrange_91 : decode cX4_arrange 91 = .ok (.iadd, 1) := by decide +kernel
theorem dX4_arrange_92 : decode cX4_arrange 92 = .ok (.putfield 15, 3) := by decide +kernel
theorem dX4_arrange_95 : decode cX4_arrange 95 = .ok (.iinc 2 1, 3) := by decide +kernel
theorem dX4_arrange_98 : decode cX4_arrange 98 = .ok (.goto (-91), 3) := by decide +kernel
theorem dX4_arrange_101 : decode cX4_arrange 101 = .ok (.return_, 1) := by decide +kernel
theorem dX4_size_0 : decode cX4_size 0 = .ok (.aload_n 0, 1) := by decide +kernel
theorem dX4_size_1 : decode cX4_size 1 = .ok (.getfield 15, 3) := by decide +kernel
theorem dX4_size_4 : decode cX4_size 4 = .ok (.ireturn, 1) := by decide +kernel
theorem dX4_ploughmanAt_0 : decode cX4_ploughmanAt 0 = .ok (.iload_n 1, 1) := by decide +kernel
theorem dX4_ploughmanAt_1 : decode cX4_ploughmanAt 1 = .ok (.aload_n 0, 1) := by decide +kernel
theorem dX4_ploughmanAt_2 : decode cX4_ploughmanAt 2 = .ok (.getfield 15, 3) := by decide +kernel
theorem dX4_ploughmanAt_5 : decode cX4_ploughmanAt 5 = .ok (.invokestatic 48, 3) := by decide +kernel
theorem dX4_ploughmanAt_8 : decode cX4_ploughmanAt 8 = .ok (.ifCond .eq 12, 3) := by decide +kernel
theorem dX4_ploughmanAt_11 : decode cX4_ploughmanAt 11 = .ok (.aload_n 0, 1) := by decide +kernel
theorem dX4_ploughmanAt_12 : decode cX4_ploughmanAt 12 = .ok (.getfield 9, 3) := by decide +kernel
theorem dX4_ploughmanAt_15 : decode cX4_ploughmanAt 15 = .ok (.iload_n 1, 1) := by decide +kernel
theorem dX4_ploughmanAt_16 : decode cX4_ploughmanAt 16 = .ok (.iaload, 1) := by decide +kernel
theorem dX4_ploughmanAt_17 : decode cX4_ploughmanAt 17 = .ok (.goto 4, 3) := by decide +kernel
theorem dX4_ploughmanAt_20 : decode cX4_ploughmanAt 20 = .ok (.iconst (-1), 1) := by decide +kernel
theorem dX4_ploughmanAt_21 : decode cX4_ploughmanAt 21 = .ok (.ireturn, 1) := by decide +kernel
theorem dX4_beats_0 : decode cX4_beats 0 = .ok (.iconst 0, 1) := by decide +kernel
theorem dX4_beats_1 : decode cX4_beats 1 = .ok (.istore_n 3, 1) := by decide +kernel
theorem dX4_beats_2 : decode cX4_beats 2 = .ok (.iload_n 3, 1) := by decide +kernel
theorem dX4_beats_3 : decode cX4_beats 3 = .ok (.aload_n 0, 1) := by decide +kernel
theorem dX4_beats_4 : decode cX4_beats 4 = .ok (.getfield 31, 3) := by decide +kernel
theorem dX4_beats_7 : decode cX4_beats 7 = .ok (.invokevirtual 51, 3) := by decide +kernel
theorem dX4_beats_10 : decode cX4_beats 10 = .ok (.if_icmp .ge 75, 3) := by decide +kernel
theorem dX4_beats_13 : decode cX4_beats 13 = .ok (.aload_n 0, 1) := by decide +kernel
theorem dX4_beats_14 : decode cX4_beats 14 = .ok (.iload_n 1, 1) := by decide +kernel
theorem dX4_beats_15 : decode cX4_beats 15 = .ok (.aload_n 0, 1) := by decide +kernel
theorem dX4_beats_16 : decode cX4_beats 16 = .ok (.getfield 31, 3) := by decide +kernel
theorem dX4_beats_19 : decode cX4_beats 19 = .ok (.iload_n 3, 1) := by decide +kernel
theorem dX4_beats_20 : decode cX4_beats 20 = .ok (.invokevirtual 54, 3) := by decide +kernel
theorem dX4_beats_23 : decode cX4_beats 23 = .ok (.invokevirtual 57, 3) := by decide +kernel
theorem dX4_beats_26 : decode cX4_beats 26 = .ok (.istore 4, 2) := by decide +kernel
theorem dX4_beats_28 : decode cX4_beats 28 = .ok (.aload_n 0, 1) := by decide +kernel
theorem dX4_beats_29 : decode cX4_beats 29 = .ok (.iload_n 2, 1) := by decide +kernel
theorem dX4_beats_30 : decode cX4_beats 30 = .ok (.aload_n 0, 1) := by decide +kernel
theorem dX4_beats_31 : decode cX4_beats 31 = .ok (.getfield 31, 3) := by decide +kernel
theorem dX4_beats_34 : decode cX4_beats 34 = .ok (.iload_n 3, 1) := by decide +kernel
theorem dX4_beats_35 : decode cX4_beats 35 = .ok (.invokevirtual 54, 3) := by decide +kernel
theorem dX4_beats_38 : decode cX4_beats 38 = .ok (.invokevirtual 57, 3) := by decide +kernel
theorem dX4_beats_41 : decode cX4_beats 41 = .ok (.istore 5, 2) := by decide +kernel
theorem dX4_beats_43 : decode cX4_beats 43 = .ok (.iload 4, 2) := by decide +kernel
theorem dX4_beats_45 : decode cX4_beats 45 = .ok (.iload 5, 2) := by decide +kernel
theorem dX4_beats_47 : decode cX4_beats 47 = .ok (.if_icmp .eq 32, 3) := by decide +kernel
theorem dX4_beats_50 : decode cX4_beats 50 = .ok (.iload 4, 2) := by decide +kernel
theorem dX4_beats_52 : decode cX4_beats 52 = .ok (.iload 5, 2) := by decide +kernel
theorem dX4_beats_54 : decode cX4_beats 54 = .ok (.if_icmp .ge 7, 3) := by decide +kernel
theorem dX4_beats_57 : decode cX4_beats 57 = .ok (.iconst 1, 1) := by decide +kernel
theorem dX4_beats_58 : decode cX4_beats 58 = .ok (.goto 4, 3) := by decide +kernel
theorem dX4_beats_61 : decode cX4_beats 61 = .ok (.iconst 0, 1) := by decide +kernel
theorem dX4_beats_62 : decode cX4_beats 62 = .ok (.aload_n 0, 1) := by decide +kernel
theorem dX4_beats_63 : decode cX4_beats 63 = .ok (.getfield 31, 3) := by decide +kernel
theorem dX4_beats_66 : decode cX4_beats 66 = .ok (.iload_n 3, 1) := by decide +kernel
theorem dX4_beats_67 : decode cX4_beats 67 = .ok (.invokevirtual 61, 3) := by decide +kernel
theorem dX4_beats_70 : decode cX4_beats 70 = .ok (.if_icmp .ne 7, 3) := by decide +kernel
theorem dX4_beats_73 : decode cX4_beats 73 = .ok (.iconst 1, 1) := by decide +kernel
theorem dX4_beats_74 : decode cX4_beats 74 = .ok (.goto 4, 3) := by decide +kernel
theorem dX4_beats_77 : decode cX4_beats 77 = .ok (.iconst 0, 1) := by decide +kernel
theorem dX4_beats_78 : decode cX4_beats 78 = .ok (.ireturn, 1) := by decide +kernel
theorem dX4_beats_79 : decode cX4_beats 79 = .ok (.iinc 3 1, 3) := by decide +kernel
theorem dX4_beats_82 : decode cX4_beats 82 = .ok (.goto (-80), 3) := by decide +kernel
theorem dX4_beats_85 : decode cX4_beats 85 = .ok (.iconst 0, 1) := by decide +kernel
theorem dX4_beats_86 : decode cX4_beats 86 = .ok (.ireturn, 1) := by decide +kernel
theorem dX4_valueOf_0 : decode cX4_valueOf 0 = .ok (.aload_n 0, 1) := by decide +kernel
theorem dX4_valueOf_1 : decode cX4_valueOf 1 = .ok (.getfield 19, 3) := by decide +kernel
theorem dX4_valueOf_4 : decode cX4_valueOf 4 = .ok (.iload_n 1, 1) := by decide +kernel
theorem dX4_valueOf_5 : decode cX4_valueOf 5 = .ok (.invokevirtual 65, 3) := by decide +kernel
theorem dX4_valueOf_8 : decode cX4_valueOf 8 = .ok (.istore_n 3, 1) := by decide +kernel
theorem dX4_valueOf_9 : decode cX4_valueOf 9 = .ok (.iload_n 2, 1) := by decide +kernel
theorem dX4_valueOf_10 : decode cX4_valueOf 10 = .ok (.tableswitch 66 0 3 #[30, 39, 48, 57], 30) := by decide +kernel
theorem dX4_valueOf_40 : decode cX4_valueOf 40 = .ok (.aload_n 0, 1) := by decide +kernel
theorem dX4_valueOf_41 : decode cX4_valueOf 41 = .ok (.getfield 27, 3) := by decide +kernel
theorem dX4_valueOf_44 : decode cX4_valueOf 44 = .ok (.iload_n 3, 1) := by decide +kernel
theorem dX4_valueOf_45 : decode cX4_valueOf 45 = .ok (.invokevirtual 68, 3) := by decide +kernel
theorem dX4_valueOf_48 : decode cX4_valueOf 48 = .ok (.ireturn, 1) := by decide +kernel
theorem dX4_valueOf_49 : decode cX4_valueOf 49 = .ok (.aload_n 0, 1) := by decide +kernel
theorem dX4_valueOf_50 : decode cX4_valueOf 50 = .ok (.getfield 23, 3) := by decide +kernel
theorem dX4_valueOf_53 : decode cX4_valueOf 53 = .ok (.iload_n 3, 1) := by decide +kernel
theorem dX4_valueOf_54 : decode cX4_valueOf 54 = .ok (.invokevirtual 73, 3) := by decide +kernel
theorem dX4_valueOf_57 : decode cX4_valueOf 57 = .ok (.ireturn, 1) := by decide +kernel
theorem dX4_valueOf_58 : decode cX4_valueOf 58 = .ok (.aload_n 0, 1) := by decide +kernel
theorem dX4_valueOf_59 : decode cX4_valueOf 59 = .ok (.getfield 27, 3) := by decide +kernel
theorem dX4_valueOf_62 : decode cX4_valueOf 62 = .ok (.iload_n 3, 1) := by decide +kernel
theorem dX4_valueOf_63 : decode cX4_valueOf 63 = .ok (.invokevirtual 78, 3) := by decide +kernel
theorem dX4_valueOf_66 : decode cX4_valueOf 66 = .ok (.ireturn, 1) := by decide +kernel
theorem dX4_valueOf_67 : decode cX4_valueOf 67 = .ok (.aload_n 0, 1) := by decide +kernel
theorem dX4_valueOf_68 : decode cX4_valueOf 68 = .ok (.getfield 19, 3) := by decide +kernel
theorem dX4_valueOf_71 : decode cX4_valueOf 71 = .ok (.iload_n 1, 1) := by decide +kernel
theorem dX4_valueOf_72 : decode cX4_valueOf 72 = .ok (.invokevirtual 81, 3) := by decide +kernel
theorem dX4_valueOf_75 : decode cX4_valueOf 75 = .ok (.ireturn, 1) := by decide +kernel
theorem dX4_valueOf_76 : decode cX4_valueOf 76 = .ok (.aload_n 0, 1) := by decide +kernel
theorem dX4_valueOf_77 : decode cX4_valueOf 77 = .ok (.getfield 23, 3) := by decide +kernel
theorem dX4_valueOf_80 : decode cX4_valueOf 80 = .ok (.iload_n 3, 1) := by decide +kernel
theorem dX4_valueOf_81 : decode cX4_valueOf 81 = .ok (.iload_n 2, 1) := by decide +kernel
theorem dX4_valueOf_82 : decode cX4_valueOf 82 = .ok (.iconst 4, 1) := by decide +kernel
theorem dX4_valueOf_83 : decode cX4_valueOf 83 = .ok (.isub, 1) := by decide +kernel
theorem dX4_valueOf_84 : decode cX4_valueOf 84 = .ok (.invokevirtual 84, 3) := by decide +kernel
theorem dX4_valueOf_87 : decode cX4_valueOf 87 = .ok (.ireturn, 1) := by decide +kernel
theorem dX5_init_0 : decode cX5_init 0 = .ok (.aload_n 0, 1) := by decide +kernel
theorem dX5_init_1 : decode cX5_init 1 = .ok (.invokespecial 3, 3) := by decide +kernel
theorem dX5_init_4 : decode cX5_init 4 = .ok (.aload_n 0, 1) := by decide +kernel
theorem dX5_init_5 : decode cX5_init 5 = .ok (.bipush 24, 2) := by decide +kernel
theorem dX5_init_7 : decode cX5_init 7 = .ok (.newarray .int, 2) := by decide +kernel
theorem dX5_init_9 : decode cX5_init 9 = .ok (.putfield 9, 3) := by decide +kernel
theorem dX5_init_12 : decode cX5_init 12 = .ok (.aload_n 0, 1) := by decide +kernel
theorem dX5_init_13 : decode cX5_init 13 = .ok (.bipush 24, 2) := by decide +kernel
theorem dX5_init_15 : decode cX5_init 15 = .ok (.newarray .int, 2) := by decide +kernel
theorem dX5_init_17 : decode cX5_init 17 = .ok (.putfield 15, 3) := by decide +kernel
theorem dX5_init_20 : decode cX5_init 20 = .ok (.aload_n 0, 1) := by decide +kernel
theorem dX5_init_21 : decode cX5_init 21 = .ok (.sipush 200, 3) := by decide +kernel
theorem dX5_init_24 : decode cX5_init 24 = .ok (.putfield 18, 3) := by decide +kernel
theorem dX5_init_27 : decode cX5_init 27 = .ok (.aload_n 0, 1) := by decide +kernel
theorem dX5_init_28 : decode cX5_init 28 = .ok (.aload_n 1, 1) := by decide +kernel
theorem dX5_init_29 : decode cX5_init 29 = .ok (.putfield 22, 3) := by decide +kernel
theorem dX5_init_32 : decode cX5_init 32 = .ok (.return_, 1) := by decide +kernel
theorem dX5_minutesOf_0 : decode cX5_minutesOf 0 = .ok (.aload_n 0, 1) := by decide +kernel
theorem dX5_minutesOf_1 : decode cX5_minutesOf 1 = .ok (.getfield 9, 3) := by decide +kernel
theorem dX5_minutesOf_4 : decode cX5_minutesOf 4 = .ok (.iload_n 1, 1) := by decide +kernel
theorem dX5_minutesOf_5 : decode cX5_minutesOf 5 = .ok (.iaload, 1) := by decide +kernel
theorem dX5_minutesOf_6 : decode cX5_minutesOf 6 = .ok (.ireturn, 1) := by decide +kernel
theorem dX5_setMinutes_0 : decode cX5_setMinutes 0 = .ok (.aload_n 0, 1) := by decide +kernel
theorem dX5_setMinutes_1 : decode cX5_setMinutes 1 = .ok (.getfield 9, 3) := by decide +kernel
theorem dX5_setMinutes_4 : decode cX5_setMinutes 4 = .ok (.iload_n 1, 1) := by decide +kernel
theorem dX5_setMinutes_5 : decode cX5_setMinutes 5 = .ok (.iaload, 1) := by decide +kernel
theorem dX5_setMinutes_6 : decode cX5_setMinutes 6 = .ok (.istore_n 3, 1) := by decide +kernel
theorem dX5_setMinutes_7 : decode cX5_setMinutes 7 = .ok (.aload_n 0, 1) := by decide +kernel
theorem dX5_setMinutes_8 : decode cX5_setMinutes 8 = .ok (.getfield 9, 3) := by decide +kernel
theorem dX5_setMinutes_11 : decode cX5_setMinutes 11 = .ok (.iload_n 1, 1) := by decide +kernel
theorem dX5_setMinutes_12 : decode cX5_setMinutes 12 = .ok (.iload_n 2, 1) := by decide +kernel
theorem dX5_setMinutes_13 : decode cX5_setMinutes 13 = .ok (.iastore, 1) := by decide +kernel
theorem dX5_setMinutes_14 : decode cX5_setMinutes 14 = .ok (.iload_n 3, 1) := by decide +kernel
theorem dX5_setMinutes_15 : decode cX5_setMinutes 15 = .ok (.ireturn, 1) := by decide +kernel
theorem dX5_setLimit_0 : decode cX5_setLimit 0 = .ok (.aload_n 0, 1) := by decide +kernel
theorem dX5_setLimit_1 : decode cX5_setLimit 1 = .ok (.getfield 18, 3) := by decide +kernel
theorem dX5_setLimit_4 : decode cX5_setLimit 4 = .ok (.istore_n 2, 1) := by decide +kernel
theorem dX5_setLimit_5 : decode cX5_setLimit 5 = .ok (.aload_n 0, 1) := by decide +kernel
theorem dX5_setLimit_6 : decode cX5_setLimit 6 = .ok (.iload_n 1, 1) := by decide +kernel
theorem dX5_setLimit_7 : decode cX5_setLimit 7 = .ok (.putfield 18, 3) := by decide +kernel
theorem dX5_setLimit_10 : decode cX5_setLimit 10 = .ok (.iload_n 2, 1) := by decide +kernel
theorem dX5_setLimit_11 : decode cX5_setLimit 11 = .ok (.ireturn, 1) := by decide +kernel
theorem dX5_takenOff_0 : decode cX5_takenOff 0 = .ok (.aload_n 0, 1) := by decide +kernel
theorem dX5_takenOff_1 : decode cX5_takenOff 1 = .ok (.getfield 15, 3) := by decide +kernel
theorem dX5_takenOff_4 : decode cX5_takenOff 4 = .ok (.iload_n 1, 1) := by decide +kernel
theorem dX5_takenOff_5 : decode cX5_takenOff 5 = .ok (.iaload, 1) := by decide +kernel
theorem dX5_takenOff_6 : decode cX5_takenOff 6 = .ok (.ireturn, 1) := by decide +kernel
theorem dX5_takeOff_0 : decode cX5_takeOff 0 = .ok (.aload_n 0, 1) := by decide +kernel
theorem dX5_takeOff_1 : decode cX5_takeOff 1 = .ok (.getfield 15, 3) := by decide +kernel
theorem dX5_takeOff_4 : decode cX5_takeOff 4 = .ok (.iload_n 1, 1) := by decide +kernel
theorem dX5_takeOff_5 : decode cX5_takeOff 5 = .ok (.dup2, 1) := by decide +kernel
theorem dX5_takeOff_6 : decode cX5_takeOff 6 = .ok (.iaload, 1) := by decide +kernel
theorem dX5_takeOff_7 : decode cX5_takeOff 7 = .ok (.iload_n 2, 1) := by decide +kernel
theorem dX5_takeOff_8 : decode cX5_takeOff 8 = .ok (.iadd, 1) := by decide +kernel
theorem dX5_takeOff_9 : decode cX5_takeOff 9 = .ok (.iastore, 1) := by decide +kernel
theorem dX5_takeOff_10 : decode cX5_takeOff 10 = .ok (.aload_n 0, 1) := by decide +kernel
theorem dX5_takeOff_11 : decode cX5_takeOff 11 = .ok (.getfield 15, 3) := by decide +kernel
theorem dX5_takeOff_14 : decode cX5_takeOff 14 = .ok (.iload_n 1, 1) := by decide +kernel
theorem dX5_takeOff_15 : decode cX5_takeOff 15 = .ok (.iaload, 1) := by decide +kernel
theorem dX5_takeOff_16 : decode cX5_takeOff 16 = .ok (.ireturn, 1) := by decide +kernel
theorem dX5_finalOf_0 : decode cX5_finalOf 0 = .ok (.aload_n 0, 1) := by decide +kernel
theorem dX5_finalOf_1 : decode cX5_finalOf 1 = .ok (.getfield 22, 3) := by decide +kernel
theorem dX5_finalOf_4 : decode cX5_finalOf 4 = .ok (.iload_n 1, 1) := by decide +kernel
theorem dX5_finalOf_5 : decode cX5_finalOf 5 = .ok (.invokevirtual 26, 3) := by decide +kernel
theorem dX5_finalOf_8 : decode cX5_finalOf 8 = .ok (.aload_n 0, 1) := by decide +kernel
theorem dX5_finalOf_9 : decode cX5_finalOf 9 = .ok (.getfield 22, 3) := by decide +kernel
theorem dX5_finalOf_12 : decode cX5_finalOf 12 = .ok (.iload_n 1, 1) := by decide +kernel
theorem dX5_finalOf_13 : decode cX5_finalOf 13 = .ok (.invokevirtual 32, 3) := by decide +kernel
theorem dX5_finalOf_16 : decode cX5_finalOf 16 = .ok (.isub, 1) := by decide +kernel
theorem dX5_finalOf_17 : decode cX5_finalOf 17 = .ok (.aload_n 0, 1) := by decide +kernel
theorem dX5_finalOf_18 : decode cX5_finalOf 18 = .ok (.iload_n 1, 1) := by decide +kernel
theorem dX5_finalOf_19 : decode cX5_finalOf 19 = .ok (.invokevirtual 35, 3) := by decide +kernel
theorem dX5_finalOf_22 : decode cX5_finalOf 22 = .ok (.isub, 1) := by decide +kernel
theorem dX5_finalOf_23 : decode cX5_finalOf 23 = .ok (.aload_n 0, 1) := by decide +kernel
theorem dX5_finalOf_24 : decode cX5_finalOf 24 = .ok (.getfield 15, 3) := by decide +kernel
theorem dX5_finalOf_27 : decode cX5_finalOf 27 = .ok (.iload_n 1, 1) := by decide +kernel
theorem dX5_finalOf_28 : decode cX5_finalOf 28 = .ok (.iaload, 1) := by decide +kernel
theorem dX5_finalOf_29 : decode cX5_finalOf 29 = .ok (.isub, 1) := by decide +kernel
theorem dX5_finalOf_30 : decode cX5_finalOf 30 = .ok (.ireturn, 1) := by decide +kernel
theorem dX5_overtimeOf_0 : decode cX5_overtimeOf 0 = .ok (.aload_n 0, 1) := by decide +kernel
theorem dX5_overtimeOf_1 : decode cX5_overtimeOf 1 = .ok (.getfield 9, 3) := by decide +kernel
theorem dX5_overtimeOf_4 : decode cX5_overtimeOf 4 = .ok (.iload_n 1, 1) := by decide +kernel
theorem dX5_overtimeOf_5 : decode cX5_overtimeOf 5 = .ok (.iaload, 1) := by decide +kernel
theorem dX5_overtimeOf_6 : decode cX5_overtimeOf 6 = .ok (.aload_n 0, 1) := by decide +kernel
theorem dX5_overtimeOf_7 : decode cX5_overtimeOf 7 = .ok (.getfield 18, 3) := by decide +kernel
theorem dX5_overtimeOf_10 : decode cX5_overtimeOf 10 = .ok (.isub, 1) := by decide +kernel
theorem dX5_overtimeOf_11 : decode cX5_overtimeOf 11 = .ok (.istore_n 2, 1) := by decide +kernel
theorem dX5_overtimeOf_12 : decode cX5_overtimeOf 12 = .ok (.iload_n 2, 1) := by decide +kernel
theorem dX5_overtimeOf_13 : decode cX5_overtimeOf 13 = .ok (.ifCond .gt 7, 3) := by decide +kernel
theorem dX5_overtimeOf_16 : decode cX5_overtimeOf 16 = .ok (.iconst 0, 1) := by decide +kernel
theorem dX5_overtimeOf_17 : decode cX5_overtimeOf 17 = .ok (.goto 11, 3) := by decide +kernel
theorem dX5_overtimeOf_20 : decode cX5_overtimeOf 20 = .ok (.iload_n 2, 1) := by decide +kernel
theorem dX5_overtimeOf_21 : decode cX5_overtimeOf 21 = .ok (.iconst 4, 1) := by decide +kernel
theorem dX5_overtimeOf_22 : decode cX5_overtimeOf 22 = .ok (.iadd, 1) := by decide +kernel
theorem dX5_overtimeOf_23 : decode cX5_overtimeOf 23 = .ok (.iconst 5, 1) := by decide +kernel
theorem dX5_overtimeOf_24 : decode cX5_overtimeOf 24 = .ok (.idiv, 1) := by decide +kernel
theorem dX5_overtimeOf_25 : decode cX5_overtimeOf 25 = .ok (.bipush 50, 2) := by decide +kernel
theorem dX5_overtimeOf_27 : decode cX5_overtimeOf 27 = .ok (.imul, 1) := by decide +kernel
theorem dX5_overtimeOf_28 : decode cX5_overtimeOf 28 = .ok (.ireturn, 1) := by decide +kernel
theorem dX6_init_0 : decode cX6_init 0 = .ok (.aload_n 0, 1) := by decide +kernel
theorem dX6_init_1 : decode cX6_init 1 = .ok (.invokespecial 3, 3) := by decide +kernel
theorem dX6_init_4 : decode cX6_init 4 = .ok (.aload_n 0, 1) := by decide +kernel
theorem dX6_init_5 : decode cX6_init 5 = .ok (.new 9, 3) := by decide +kernel
theorem dX6_init_8 : decode cX6_init 8 = .ok (.dup, 1) := by decide +kernel
theorem dX6_init_9 : decode cX6_init 9 = .ok (.invokespecial 11, 3) := by decide +kernel
theorem dX6_init_12 : decode cX6_init 12 = .ok (.putfield 12, 3) := by decide +kernel
theorem dX6_init_15 : decode cX6_init 15 = .ok (.aload_n 0, 1) := by decide +kernel
theorem dX6_init_16 : decode cX6_init 16 = .ok (.iconst 0, 1) := by decide +kernel
theorem dX6_init_17 : decode cX6_init 17 = .ok (.putfield 18, 3) := by decide +kernel
theorem dX6_init_20 : decode cX6_init 20 = .ok (.aload_n 0, 1) := by decide +kernel
theorem dX6_init_21 : decode cX6_init 21 = .ok (.iconst 0, 1) := by decide +kernel
theorem dX6_init_22 : decode cX6_init 22 = .ok (.putfield 22, 3) := by decide +kernel
theorem dX6_init_25 : decode cX6_init 25 = .ok (.aload_n 0, 1) := by decide +kernel
theorem dX6_init_26 : decode cX6_init 26 = .ok (.iconst 0, 1) := by decide +kernel
theorem dX6_init_27 : decode cX6_init 27 = .ok (.putfield 25, 3) := by decide +kernel
theorem dX6_init_30 : decode cX6_init 30 = .ok (.aload_n 0, 1) := by decide +kernel
theorem dX6_init_31 : decode cX6_init 31 = .ok (.aload_n 1, 1) := by decide +kernel
theorem dX6_init_32 : decode cX6_init 32 = .ok (.putfield 28, 3) := by decide +kernel
theorem dX6_init_35 : decode cX6_init 35 = .ok (.return_, 1) := by decide +kernel
theorem dX6_draft_0 : decode cX6_draft 0 = .ok (.aload_n 0, 1) := by decide +kernel
theorem dX6_draft_1 : decode cX6_draft 1 = .ok (.getfield 12, 3) := by decide +kernel
theorem dX6_draft_4 : decode cX6_draft 4 = .ok (.areturn, 1) := by decide +kernel
theorem dX6_place_0 : decode cX6_place 0 = .ok (.aload_n 0, 1) := by decide +kernel
theorem dX6_place_1 : decode cX6_place 1 = .ok (.getfield 22, 3) := by decide +kernel
theorem dX6_place_4 : decode cX6_place 4 = .ok (.ireturn, 1) := by decide +kernel
theorem dX6_read_0 : decode cX6_read 0 = .ok (.aload_n 0, 1) := by decide +kernel
theorem dX6_read_1 : decode cX6_read 1 = .ok (.aload_n 0, 1) := by decide +kernel
theorem dX6_read_2 : decode cX6_read 2 = .ok (.getfield 28, 3) := by decide +kernel
theorem dX6_read_5 : decode cX6_read 5 = .ok (.invokevirtual 32, 3) := by decide +kernel
theorem dX6_read_8 : decode cX6_read 8 = .ok (.putfield 18, 3) := by decide +kernel
theorem dX6_read_11 : decode cX6_read 11 = .ok (.aload_n 0, 1) := by decide +kernel
theorem dX6_read_12 : decode cX6_read 12 = .ok (.iconst 0, 1) := by decide +kernel
theorem dX6_read_13 : decode cX6_read 13 = .ok (.putfield 22, 3) := by decide +kernel
theorem dX6_read_16 : decode cX6_read 16 = .ok (.aload_n 0, 1) := by decide +kernel
theorem dX6_read_17 : decode cX6_read 17 = .ok (.getfield 12, 3) := by decide +kernel
theorem dX6_read_20 : decode cX6_read 20 = .ok (.invokevirtual 38, 3) := by decide +kernel
theorem dX6_read_23 : decode cX6_read 23 = .ok (.iconst 0, 1) := by decide +kernel
theorem dX6_read_24 : decode cX6_read 24 = .ok (.istore_n 1, 1) := by decide +kernel
theorem dX6_read_25 : decode cX6_read 25 = .ok (.iload_n 1, 1) := by decide +kernel
theorem dX6_read_26 : decode cX6_read 26 = .ok (.bipush 6, 2) := by decide +kernel
theorem dX6_read_28 : decode cX6_read 28 = .ok (.if_icmp .ge 68, 3) := by decide +kernel
theorem dX6_read_31 : decode cX6_read 31 = .ok (.aload_n 0, 1) := by decide +kernel
theorem dX6_read_32 : decode cX6_read 32 = .ok (.invokevirtual 41, 3) := by decide +kernel
theorem dX6_read_35 : decode cX6_read 35 = .ok (.ifCond .ne 5, 3) := by decide +kernel
theorem dX6_read_38 : decode cX6_read 38 = .ok (.iconst 0, 1) := by decide +kernel
theorem dX6_read_39 : decode cX6_read 39 = .ok (.ireturn, 1) := by decide +kernel
theorem dX6_read_40 : decode cX6_read 40 = .ok (.aload_n 0, 1) := by decide +kernel
theorem dX6_read_41 : decode cX6_read 41 = .ok (.invokevirtual 45, 3) := by decide +kernel
theorem dX6_read_44 : decode cX6_read 44 = .ok (.aload_n 0, 1) := by decide +kernel
theorem dX6_read_45 : decode cX6_read 45 = .ok (.getfield 22, 3) := by decide +kernel
theorem dX6_read_48 : decode cX6_read 48 = .ok (.aload_n 0, 1) := by decide +kernel
theorem dX6_read_49 : decode cX6_read 49 = .ok (.getfield 18, 3) := by decide +kernel
theorem dX6_read_52 : decode cX6_read 52 = .ok (.if_icmp .lt 5, 3) := by decide +kernel
theorem dX6_read_55 : decode cX6_read 55 = .ok (.iconst 1, 1) := by decide +kernel
theorem dX6_read_56 : decode cX6_read 56 = .ok (.ireturn, 1) := by decide +kernel
theorem dX6_read_57 : decode cX6_read 57 = .ok (.aload_n 0, 1) := by decide +kernel
theorem dX6_read_58 : decode cX6_read 58 = .ok (.getfield 28, 3) := by decide +kernel
theorem dX6_read_61 : decode cX6_read 61 = .ok (.aload_n 0, 1) := by decide +kernel
theorem dX6_read_62 : decode cX6_read 62 = .ok (.getfield 22, 3) := by decide +kernel
theorem dX6_read_65 : decode cX6_read 65 = .ok (.invokevirtual 48, 3) := by decide +kernel
theorem dX6_read_68 : decode cX6_read 68 = .ok (.bipush 44, 2) := by decide +kernel
theorem dX6_read_70 : decode cX6_read 70 = .ok (.if_icmp .ne 8, 3) := by decide +kernel
theorem dX6_read_73 : decode cX6_read 73 = .ok (.iload_n 1, 1) := by decide +kernel
theorem dX6_read_74 : decode cX6_read 74 = .ok (.iconst 5, 1) := by decide +kernel
theorem dX6_read_75 : decode cX6_read 75 = .ok (.if_icmp .ne 5, 3) := by decide +kernel
theorem dX6_read_78 : decode cX6_read 78 = .ok (.iconst 0, 1) := by decide +kernel
theorem dX6_read_79 : decode cX6_read 79 = .ok (.ireturn, 1) := by decide +kernel
theorem dX6_read_80 : decode cX6_read 80 = .ok (.aload_n 0, 1) := by decide +kernel
theorem dX6_read_81 : decode cX6_read 81 = .ok (.dup, 1) := by decide +kernel
theorem dX6_read_82 : decode cX6_read 82 = .ok (.getfield 22, 3) := by decide +kernel
theorem dX6_read_85 : decode cX6_read 85 = .ok (.iconst 1, 1) := by decide +kernel
theorem dX6_read_86 : decode cX6_read 86 = .ok (.iadd, 1) := by decide +kernel
theorem dX6_read_87 : decode cX6_read 87 = .ok (.putfield 22, 3) := by decide +kernel
theorem dX6_read_90 : decode cX6_read 90 = .ok (.iinc 1 1, 3) := by decide +kernel
theorem dX6_read_93 : decode cX6_read 93 = .ok (.goto (-68), 3) := by decide +kernel
theorem dX6_read_96 : decode cX6_read 96 = .ok (.iconst 0, 1) := by decide +kernel
theorem dX6_read_97 : decode cX6_read 97 = .ok (.ireturn, 1) := by decide +kernel
theorem dX6_readKey_0 : decode cX6_readKey 0 = .ok (.aload_n 0, 1) := by decide +kernel
theorem dX6_readKey_1 : decode cX6_readKey 1 = .ok (.invokevirtual 52, 3) := by decide +kernel
theorem dX6_readKey_4 : decode cX6_readKey 4 = .ok (.istore_n 1, 1) := by decide +kernel
theorem dX6_readKey_5 : decode cX6_readKey 5 = .ok (.iload_n 1, 1) := by decide +kernel
theorem dX6_readKey_6 : decode cX6_readKey 6 = .ok (.iconst (-1), 1) := by decide +kernel
theorem dX6_readKey_7 : decode cX6_readKey 7 = .ok (.if_icmp .ne 5, 3) := by decide +kernel
theorem dX6_readKey_10 : decode cX6_readKey 10 = .ok (.iconst 0, 1) := by decide +kernel
theorem dX6_readKey_11 : decode cX6_readKey 11 = .ok (.ireturn, 1) := by decide +kernel
theorem dX6_readKey_12 : decode cX6_readKey 12 = .ok (.aload_n 0, 1) := by decide +kernel
theorem dX6_readKey_13 : decode cX6_readKey 13 = .ok (.invokevirtual 55, 3) := by decide +kernel
theorem dX6_readKey_16 : decode cX6_readKey 16 = .ok (.aload_n 0, 1) := by decide +kernel
theorem dX6_readKey_17 : decode cX6_readKey 17 = .ok (.ldc 58, 2) := by decide +kernel
theorem dX6_readKey_19 : decode cX6_readKey 19 = .ok (.invokevirtual 60, 3) := by decide +kernel
theorem dX6_readKey_22 : decode cX6_readKey 22 = .ok (.istore_n 2, 1) := by decide +kernel
theorem dX6_readKey_23 : decode cX6_readKey 23 = .ok (.iload_n 2, 1) := by decide +kernel
theorem dX6_readKey_24 : decode cX6_readKey 24 = .ok (.ifCond .ne 22, 3) := by decide +kernel
theorem dX6_readKey_27 : decode cX6_readKey 27 = .ok (.aload_n 0, 1) := by decide +kernel
theorem dX6_readKey_28 : decode cX6_readKey 28 = .ok (.ldc 64, 2) := by decide +kernel
theorem dX6_readKey_30 : decode cX6_readKey 30 = .ok (.invokevirtual 60, 3) := by decide +kernel
theorem dX6_readKey_33 : decode cX6_readKey 33 = .ok (.ifCond .ne 13, 3) := by decide +kernel
theorem dX6_readKey_36 : decode cX6_readKey 36 = .ok (.aload_n 0, 1) := by decide +kernel
theorem dX6_readKey_37 : decode cX6_readKey 37 = .ok (.aload_n 0, 1) := by decide +kernel
theorem dX6_readKey_38 : decode cX6_readKey 38 = .ok (.getfield 25, 3) := by decide +kernel
theorem dX6_readKey_41 : decode cX6_readKey 41 = .ok (.putfield 22, 3) := by decide +kernel
theorem dX6_readKey_44 : decode cX6_readKey 44 = .ok (.iconst 0, 1) := by decide +kernel
theorem dX6_readKey_45 : decode cX6_readKey 45 = .ok (.ireturn, 1) := by decide +kernel
theorem dX6_readKey_46 : decode cX6_readKey 46 = .ok (.aload_n 0, 1) := by decide +kernel
theorem dX6_readKey_47 : decode cX6_readKey 47 = .ok (.getfield 12, 3) := by decide +kernel
theorem dX6_readKey_50 : decode cX6_readKey 50 = .ok (.iload_n 1, 1) := by decide +kernel
theorem dX6_readKey_51 : decode cX6_readKey 51 = .ok (.iload_n 2, 1) := by decide +kernel
theorem dX6_readKey_52 : decode cX6_readKey 52 = .ok (.invokevirtual 66, 3) := by decide +kernel
theorem dX6_readKey_55 : decode cX6_readKey 55 = .ok (.iconst 1, 1) := by decide +kernel
theorem dX6_readKey_56 : decode cX6_readKey 56 = .ok (.ireturn, 1) := by decide +kernel
theorem dX6_readMeasure_0 : decode cX6_readMeasure 0 = .ok (.aload_n 0, 1) := by decide +kernel
theorem dX6_readMeasure_1 : decode cX6_readMeasure 1 = .ok (.invokevirtual 55, 3) := by decide +kernel
theorem dX6_readMeasure_4 : decode cX6_readMeasure 4 = .ok (.aload_n 0, 1) := by decide +kernel
theorem dX6_readMeasure_5 : decode cX6_readMeasure 5 = .ok (.ldc 70, 2) := by decide +kernel
theorem dX6_readMeasure_7 : decode cX6_readMeasure 7 = .ok (.invokevirtual 60, 3) := by decide +kernel
theorem dX6_readMeasure_10 : decode cX6_readMeasure 10 = .ok (.ifCond .eq 5, 3) := by decide +kernel
theorem dX6_readMeasure_13 : decode cX6_readMeasure 13 = .ok (.iconst 0, 1) := by decide +kernel
theorem dX6_readMeasure_14 : decode cX6_readMeasure 14 = .ok (.ireturn, 1) := by decide +kernel
theorem dX6_readMeasure_15 : decode cX6_readMeasure 15 = .ok (.aload_n 0, 1) := by decide +kernel
theorem dX6_readMeasure_16 : decode cX6_readMeasure 16 = .ok (.ldc 72, 2) := by decide +kernel
theorem dX6_readMeasure_18 : decode cX6_readMeasure 18 = .ok (.invokevirtual 60, 3) := by decide +kernel
theorem dX6_readMeasure_21 : decode cX6_readMeasure 21 = .ok (.ifCond .eq 5, 3) := by decide +kernel
theorem dX6_readMeasure_24 : decode cX6_readMeasure 24 = .ok (.iconst 1, 1) := by decide +kernel
theorem dX6_readMeasure_25 : decode cX6_readMeasure 25 = .ok (.ireturn, 1) := by decide +kernel
theorem dX6_readMeasure_26 : decode cX6_readMeasure 26 = .ok (.aload_n 0, 1) := by decide +kernel
theorem dX6_readMeasure_27 : decode cX6_readMeasure 27 = .ok (.ldc 74, 2) := by decide +kernel
theorem dX6_readMeasure_29 : decode cX6_readMeasure 29 = .ok (.invokevirtual 60, 3) := by decide +kernel
theorem dX6_readMeasure_32 : decode cX6_readMeasure 32 = .ok (.ifCond .eq 5, 3) := by decide +kernel
theorem dX6_readMeasure_35 : decode cX6_readMeasure 35 = .ok (.iconst 2, 1) := by decide +kernel
theorem dX6_readMeasure_36 : decode cX6_readMeasure 36 = .ok (.ireturn, 1) := by decide +kernel
theorem dX6_readMeasure_37 : decode cX6_readMeasure 37 = .ok (.aload_n 0, 1) := by decide +kernel
theorem dX6_readMeasure_38 : decode cX6_readMeasure 38 = .ok (.ldc 76, 2) := by decide +kernel
theorem dX6_readMeasure_40 : decode cX6_readMeasure 40 = .ok (.invokevirtual 60, 3) := by decide +kernel
theorem dX6_readMeasure_43 : decode cX6_readMeasure 43 = .ok (.ifCond .eq 5, 3) := by decide +kernel
theorem dX6_readMeasure_46 : decode cX6_readMeasure 46 = .ok (.iconst 3, 1) := by decide +kernel
theorem dX6_readMeasure_47 : decode cX6_readMeasure 47 = .ok (.ireturn, 1) := by decide +kernel
theorem dX6_readMeasure_48 : decode cX6_readMeasure 48 = .ok (.aload_n 0, 1) := by decide +kernel
theorem dX6_readMeasure_49 : decode cX6_readMeasure 49 = .ok (.ldc 78, 2) := by decide +kernel
theorem dX6_readMeasure_51 : decode cX6_readMeasure 51 = .ok (.invokevirtual 60, 3) := by decide +kernel
theorem dX6_readMeasure_54 : decode cX6_readMeasure 54 = .ok (.ifCond .eq 8, 3) := by decide +kernel
theorem dX6_readMeasure_57 : decode cX6_readMeasure 57 = .ok (.aload_n 0, 1) := by decide +kernel
theorem dX6_readMeasure_58 : decode cX6_readMeasure 58 = .ok (.invokevirtual 80, 3) := by decide +kernel
theorem dX6_readMeasure_61 : decode cX6_readMeasure 61 = .ok (.ireturn, 1) := by decide +kernel
theorem dX6_readMeasure_62 : decode cX6_readMeasure 62 = .ok (.aload_n 0, 1) := by decide +kernel
theorem dX6_readMeasure_63 : decode cX6_readMeasure 63 = .ok (.aload_n 0, 1) := by decide +kernel
theorem dX6_readMeasure_64 : decode cX6_readMeasure 64 = .ok (.getfield 25, 3) := by decide +kernel
theorem dX6_readMeasure_67 : decode cX6_readMeasure 67 = .ok (.putfield 22, 3) := by decide +kernel
theorem dX6_readMeasure_70 : decode cX6_readMeasure 70 = .ok (.iconst (-1), 1) := by decide +kernel
theorem dX6_readMeasure_71 : decode cX6_readMeasure 71 = .ok (.ireturn, 1) := by decide +kernel
theorem dX6_readPart_0 : decode cX6_readPart 0 = .ok (.aload_n 0, 1) := by decide +kernel
theorem dX6_readPart_1 : decode cX6_readPart 1 = .ok (.invokevirtual 45, 3) := by decide +kernel
theorem dX6_readPart_4 : decode cX6_readPart 4 = .ok (.aload_n 0, 1) := by decide +kernel
theorem dX6_readPart_5 : decode cX6_readPart 5 = .ok (.getfield 28, 3) := by decide +kernel
theorem dX6_readPart_8 : decode cX6_readPart 8 = .ok (.aload_n 0, 1) := by decide +kernel
theorem dX6_readPart_9 : decode cX6_readPart 9 = .ok (.getfield 22, 3) := by decide +kernel
theorem dX6_readPart_12 : decode cX6_readPart 12 = .ok (.invokevirtual 48, 3) := by decide +kernel
theorem dX6_readPart_15 : decode cX6_readPart 15 = .ok (.bipush 48, 2) := by decide +kernel
theorem dX6_readPart_17 : decode cX6_readPart 17 = .ok (.isub, 1) := by decide +kernel
theorem dX6_readPart_18 : decode cX6_readPart 18 = .ok (.istore_n 1, 1) := by decide +kernel
theorem dX6_readPart_19 : decode cX6_readPart 19 = .ok (.iload_n 1, 1) := by decide +kernel
theorem dX6_readPart_20 : decode cX6_readPart 20 = .ok (.ifCond .lt 8, 3) := by decide +kernel
theorem dX6_readPart_23 : decode cX6_readPart 23 = .ok (.iload_n 1, 1) := by decide +kernel
theorem dX6_readPart_24 : decode cX6_readPart 24 = .ok (.iconst 5, 1) := by decide +kernel
theorem dX6_readPart_25 : decode cX6_readPart 25 = .ok (.if_icmp .lt 5, 3) := by decide +kernel
theorem dX6_readPart_28 : decode cX6_readPart 28 = .ok (.iconst (-1), 1) := by decide +kernel
theorem dX6_readPart_29 : decode cX6_readPart 29 = .ok (.ireturn, 1) := by decide +kernel
theorem dX6_readPart_30 : decode cX6_readPart 30 = .ok (.aload_n 0, 1) := by decide +kernel
theorem dX6_readPart_31 : decode cX6_readPart 31 = .ok (.dup, 1) := by decide +kernel
theorem dX6_readPart_32 : decode cX6_readPart 32 = .ok (.getfield 22, 3) := by decide +kernel
theorem dX6_readPart_35 : decode cX6_readPart 35 = .ok (.iconst 1, 1) := by decide +kernel
theorem dX6_readPart_36 : decode cX6_readPart 36 = .ok (.iadd, 1) := by decide +kernel
theorem dX6_readPart_37 : decode cX6_readPart 37 = .ok (.putfield 22, 3) := by decide +kernel
theorem dX6_readPart_40 : decode cX6_readPart 40 = .ok (.iconst 4, 1) := by decide +kernel
theorem dX6_readPart_41 : decode cX6_readPart 41 = .ok (.iload_n 1, 1) := by decide +kernel
theorem dX6_readPart_42 : decode cX6_readPart 42 = .ok (.iadd, 1) := by decide +kernel
theorem dX6_readPart_43 : decode cX6_readPart 43 = .ok (.ireturn, 1) := by decide +kernel
theorem dX6_readWord_0 : decode cX6_readWord 0 = .ok (.aload_n 0, 1) := by decide +kernel
theorem dX6_readWord_1 : decode cX6_readWord 1 = .ok (.invokevirtual 45, 3) := by decide +kernel
theorem dX6_readWord_4 : decode cX6_readWord 4 = .ok (.aload_n 0, 1) := by decide +kernel
theorem dX6_readWord_5 : decode cX6_readWord 5 = .ok (.aload_n 0, 1) := by decide +kernel
theorem dX6_readWord_6 : decode cX6_readWord 6 = .ok (.getfield 22, 3) := by decide +kernel
theorem dX6_readWord_9 : decode cX6_readWord 9 = .ok (.putfield 25, 3) := by decide +kernel
theorem dX6_readWord_12 : decode cX6_readWord 12 = .ok (.aload_n 0, 1) := by decide +kernel
theorem dX6_readWord_13 : decode cX6_readWord 13 = .ok (.getfield 22, 3) := by decide +kernel
theorem dX6_readWord_16 : decode cX6_readWord 16 = .ok (.aload_n 0, 1) := by decide +kernel
theorem dX6_readWord_17 : decode cX6_readWord 17 = .ok (.getfield 18, 3) := by decide +kernel
theorem dX6_readWord_20 : decode cX6_readWord 20 = .ok (.if_icmp .ge 48, 3) := by decide +kernel
theorem dX6_readWord_23 : decode cX6_readWord 23 = .ok (.aload_n 0, 1) := by decide +kernel
theorem dX6_readWord_24 : decode cX6_readWord 24 = .ok (.getfield 28, 3) := by decide +kernel
theorem dX6_readWord_27 : decode cX6_readWord 27 = .ok (.aload_n 0, 1) := by decide +kernel
theorem dX6_readWord_28 : decode cX6_readWord 28 = .ok (.getfield 22, 3) := by decide +kernel
theorem dX6_readWord_31 : decode cX6_readWord 31 = .ok (.invokevirtual 48, 3) := by decide +kernel
theorem dX6_readWord_34 : decode cX6_readWord 34 = .ok (.bipush 97, 2) := by decide +kernel
theorem dX6_readWord_36 : decode cX6_readWord 36 = .ok (.if_icmp .lt 32, 3) := by decide +kernel
theorem dX6_readWord_39 : decode cX6_readWord 39 = .ok (.aload_n 0, 1) := by decide +kernel
theorem dX6_readWord_40 : decode cX6_readWord 40 = .ok (.getfield 28, 3) := by decide +kernel
theorem dX6_readWord_43 : decode cX6_readWord 43 = .ok (.aload_n 0, 1) := by decide +kernel
theorem dX6_readWord_44 : decode cX6_readWord 44 = .ok (.getfield 22, 3) := by decide +kernel
theorem dX6_readWord_47 : decode cX6_readWord 47 = .ok (.invokevirtual 48, 3) := by decide +kernel
theorem dX6_readWord_50 : decode cX6_readWord 50 = .ok (.bipush 122, 2) := by decide +kernel
theorem dX6_readWord_52 : decode cX6_readWord 52 = .ok (.if_icmp .gt 16, 3) := by decide +kernel
theorem dX6_readWord_55 : decode cX6_readWord 55 = .ok (.aload_n 0, 1) := by decide +kernel
theorem dX6_readWord_56 : decode cX6_readWord 56 = .ok (.dup, 1) := by decide +kernel
theorem dX6_readWord_57 : decode cX6_readWord 57 = .ok (.getfield 22, 3) := by decide +kernel
theorem dX6_readWord_60 : decode cX6_readWord 60 = .ok (.iconst 1, 1) := by decide +kernel
theorem dX6_readWord_61 : decode cX6_readWord 61 = .ok (.iadd, 1) := by decide +kernel
theorem dX6_readWord_62 : decode cX6_readWord 62 = .ok (.putfield 22, 3) := by decide +kernel
theorem dX6_readWord_65 : decode cX6_readWord 65 = .ok (.goto (-53), 3) := by decide +kernel
theorem dX6_readWord_68 : decode cX6_readWord 68 = .ok (.return_, 1) := by decide +kernel
theorem dX6_isWord_0 : decode cX6_isWord 0 = .ok (.aload_n 0, 1) := by decide +kernel
theorem dX6_isWord_1 : decode cX6_isWord 1 = .ok (.getfield 22, 3) := by decide +kernel
theorem dX6_isWord_4 : decode cX6_isWord 4 = .ok (.aload_n 0, 1) := by decide +kernel
theorem dX6_isWord_5 : decode cX6_isWord 5 = .ok (.getfield 25, 3) := by decide +kernel
theorem dX6_isWord_8 : decode cX6_isWord 8 = .ok (.isub, 1) := by decide +kernel
theorem dX6_isWord_9 : decode cX6_isWord 9 = .ok (.aload_n 1, 1) := by decide +kernel
theorem dX6_isWord_10 : decode cX6_isWord 10 = .ok (.invokevirtual 83, 3) := by decide +kernel
theorem dX6_isWord_13 : decode cX6_isWord 13 = .ok (.if_icmp .eq 5, 3) := by decide +kernel
theorem dX6_isWord_16 : decode cX6_isWord 16 = .ok (.iconst 0, 1) := by decide +kernel
theorem dX6_isWord_17 : decode cX6_isWord 17 = .ok (.ireturn, 1) := by decide +kernel
theorem dX6_isWord_18 : decode cX6_isWord 18 = .ok (.iconst 0, 1) := by decide +kernel
theorem dX6_isWord_19 : decode cX6_isWord 19 = .ok (.istore_n 2, 1) := by decide +kernel
theorem dX6_isWord_20 : decode cX6_isWord 20 = .ok (.iload_n 2, 1) := by decide +kernel
theorem dX6_isWord_21 : decode cX6_isWord 21 = .ok (.aload_n 1, 1) := by decide +kernel
theorem dX6_isWord_22 : decode cX6_isWord 22 = .ok (.invokevirtual 83, 3) := by decide +kernel
theorem dX6_isWord_25 : decode cX6_isWord 25 = .ok (.if_icmp .ge 32, 3) := by decide +kernel
theorem dX6_isWord_28 : decode cX6_isWord 28 = .ok (.aload_n 0, 1) := by decide +kernel
theorem dX6_isWord_29 : decode cX6_isWord 29 = .ok (.getfield 28, 3) := by decide +kernel
theorem dX6_isWord_32 : decode cX6_isWord 32 = .ok (.aload_n 0, 1) := by decide +kernel
theorem dX6_isWord_33 : decode cX6_isWord 33 = .ok (.getfield 25, 3) := by decide +kernel
theorem dX6_isWord_36 : decode cX6_isWord 36 = .ok (.iload_n 2, 1) := by decide +kernel
theorem dX6_isWord_37 : decode cX6_isWord 37 = .ok (.iadd, 1) := by decide +kernel
theorem dX6_isWord_38 : decode cX6_isWord 38 = .ok (.invokevirtual 48, 3) := by decide +kernel
theorem dX6_isWord_41 : decode cX6_isWord 41 = .ok (.aload_n 1, 1) := by decide +kernel
theorem dX6_isWord_42 : decode cX6_isWord 42 = .ok (.iload_n 2, 1) := by decide +kernel
theorem dX6_isWord_43 : decode cX6_isWord 43 = .ok (.invokevirtual 87, 3) := by decide +kernel
theorem dX6_isWord_46 : decode cX6_isWord 46 = .ok (.if_icmp .eq 5, 3) := by decide +kernel
theorem dX6_isWord_49 : decode cX6_isWord 49 = .ok (.iconst 0, 1) := by decide +kernel
theorem dX6_isWord_50 : decode cX6_isWord 50 = .ok (.ireturn, 1) := by decide +kernel
theorem dX6_isWord_51 : decode cX6_isWord 51 = .ok (.iinc 2 1, 3) := by decide +kernel
theorem dX6_isWord_54 : decode cX6_isWord 54 = .ok (.goto (-34), 3) := by decide +kernel
theorem dX6_isWord_57 : decode cX6_isWord 57 = .ok (.iconst 1, 1) := by decide +kernel
theorem dX6_isWord_58 : decode cX6_isWord 58 = .ok (.ireturn, 1) := by decide +kernel
theorem dX6_skipBlanks_0 : decode cX6_skipBlanks 0 = .ok (.aload_n 0, 1) := by decide +kernel
theorem dX6_skipBlanks_1 : decode cX6_skipBlanks 1 = .ok (.getfield 22, 3) := by decide +kernel
theorem dX6_skipBlanks_4 : decode cX6_skipBlanks 4 = .ok (.aload_n 0, 1) := by decide +kernel
theorem dX6_skipBlanks_5 : decode cX6_skipBlanks 5 = .ok (.getfield 18, 3) := by decide +kernel
theorem dX6_skipBlanks_8 : decode cX6_skipBlanks 8 = .ok (.if_icmp .ge 32, 3) := by decide +kernel
theorem dX6_skipBlanks_11 : decode cX6_skipBlanks 11 = .ok (.aload_n 0, 1) := by decide +kernel
theorem dX6_skipBlanks_12 : decode cX6_skipBlanks 12 = .ok (.getfield 28, 3) := by decide +kernel
theorem dX6_skipBlanks_15 : decode cX6_skipBlanks 15 = .ok (.aload_n 0, 1) := by decide +kernel
theorem dX6_skipBlanks_16 : decode cX6_skipBlanks 16 = .ok (.getfield 22, 3) := by decide +kernel
theorem dX6_skipBlanks_19 : decode cX6_skipBlanks 19 = .ok (.invokevirtual 48, 3) := by decide +kernel
theorem dX6_skipBlanks_22 : decode cX6_skipBlanks 22 = .ok (.bipush 32, 2) := by decide +kernel
theorem dX6_skipBlanks_24 : decode cX6_skipBlanks 24 = .ok (.if_icmp .ne 16, 3) := by decide +kernel
theorem dX6_skipBlanks_27 : decode cX6_skipBlanks 27 = .ok (.aload_n 0, 1) := by decide +kernel
theorem dX6_skipBlanks_28 : decode cX6_skipBlanks 28 = .ok (.dup, 1) := by decide +kernel
theorem dX6_skipBlanks_29 : decode cX6_skipBlanks 29 = .ok (.getfield 22, 3) := by decide +kernel
theorem dX6_skipBlanks_32 : decode cX6_skipBlanks 32 = .ok (.iconst 1, 1) := by decide +kernel
theorem dX6_skipBlanks_33 : decode cX6_skipBlanks 33 = .ok (.iadd, 1) := by decide +kernel
theorem dX6_skipBlanks_34 : decode cX6_skipBlanks 34 = .ok (.putfield 22, 3) := by decide +kernel
theorem dX6_skipBlanks_37 : decode cX6_skipBlanks 37 = .ok (.goto (-37), 3) := by decide +kernel
theorem dX6_skipBlanks_40 : decode cX6_skipBlanks 40 = .ok (.return_, 1) := by decide +kernel
theorem dX7_init_0 : decode cX7_init 0 = .ok (.aload_n 0, 1) := by decide +kernel
theorem dX7_init_1 : decode cX7_init 1 = .ok (.invokespecial 3, 3) := by decide +kernel
theorem dX7_init_4 : decode cX7_init 4 = .ok (.aload_n 0, 1) := by decide +kernel
theorem dX7_init_5 : decode cX7_init 5 = .ok (.sipush 480, 3) := by decide +kernel
theorem dX7_init_8 : decode cX7_init 8 = .ok (.newarray .int, 2) := by decide +kernel
theorem dX7_init_10 : decode cX7_init 10 = .ok (.putfield 9, 3) := by decide +kernel
theorem dX7_init_13 : decode cX7_init 13 = .ok (.aload_n 0, 1) := by decide +kernel
theorem dX7_init_14 : decode cX7_init 14 = .ok (.bipush 20, 2) := by decide +kernel
theorem dX7_init_16 : decode cX7_init 16 = .ok (.newarray .int, 2) := by decide +kernel
theorem dX7_init_18 : decode cX7_init 18 = .ok (.putfield 15, 3) := by decide +kernel
theorem dX7_init_21 : decode cX7_init 21 = .ok (.aload_n 0, 1) := by decide +kernel
theorem dX7_init_22 : decode cX7_init 22 = .ok (.bipush 120, 2) := by decide +kernel
theorem dX7_init_24 : decode cX7_init 24 = .ok (.newarray .int, 2) := by decide +kernel
theorem dX7_init_26 : decode cX7_init 26 = .ok (.putfield 18, 3) := by decide +kernel
theorem dX7_init_29 : decode cX7_init 29 = .ok (.aload_n 0, 1) := by decide +kernel
theorem dX7_init_30 : decode cX7_init 30 = .ok (.bipush 24, 2) := by decide +kernel
theorem dX7_init_32 : decode cX7_init 32 = .ok (.newarray .int, 2) := by decide +kernel
theorem dX7_init_34 : decode cX7_init 34 = .ok (.putfield 21, 3) := by decide +kernel
theorem dX7_init_37 : decode cX7_init 37 = .ok (.aload_n 0, 1) := by decide +kernel
theorem dX7_init_38 : decode cX7_init 38 = .ok (.bipush 24, 2) := by decide +kernel
theorem dX7_init_40 : decode cX7_init 40 = .ok (.newarray .int, 2) := by decide +kernel
theorem dX7_init_42 : decode cX7_init 42 = .ok (.putfield 24, 3) := by decide +kernel
theorem dX7_init_45 : decode cX7_init 45 = .ok (.aload_n 0, 1) := by decide +kernel
theorem dX7_init_46 : decode cX7_init 46 = .ok (.iconst 0, 1) := by decide +kernel
theorem dX7_init_47 : decode cX7_init 47 = .ok (.putfield 27, 3) := by decide +kernel
theorem dX7_init_50 : decode cX7_init 50 = .ok (.aload_n 0, 1) := by decide +kernel
theorem dX7_init_51 : decode cX7_init 51 = .ok (.iconst 0, 1) := by decide +kernel
theorem dX7_init_52 : decode cX7_init 52 = .ok (.putfield 31, 3) := by decide +kernel
theorem dX7_init_55 : decode cX7_init 55 = .ok (.aload_n 0, 1) := by decide +kernel
theorem dX7_init_56 : decode cX7_init 56 = .ok (.getfield 9, 3) := by decide +kernel
theorem dX7_init_59 : decode cX7_init 59 = .ok (.iconst (-1), 1) := by decide +kernel
theorem dX7_init_60 : decode cX7_init 60 = .ok (.invokestatic 34, 3) := by decide +kernel
theorem dX7_init_63 : decode cX7_init 63 = .ok (.aload_n 0, 1) := by decide +kernel
theorem dX7_init_64 : decode cX7_init 64 = .ok (.getfield 18, 3) := by decide +kernel
theorem dX7_init_67 : decode cX7_init 67 = .ok (.ldc 40, 2) := by decide +kernel
theorem dX7_init_69 : decode cX7_init 69 = .ok (.invokestatic 34, 3) := by decide +kernel
theorem dX7_init_72 : decode cX7_init 72 = .ok (.return_, 1) := by decide +kernel
theorem dX7_open_0 : decode cX7_open 0 = .ok (.aload_n 0, 1) := by decide +kernel
theorem dX7_open_1 : decode cX7_open 1 = .ok (.iload_n 1, 1) := by decide +kernel
theorem dX7_open_2 : decode cX7_open 2 = .ok (.putfield 27, 3) := by decide +kernel
theorem dX7_open_5 : decode cX7_open 5 = .ok (.return_, 1) := by decide +kernel
theorem dX7_size_0 : decode cX7_size 0 = .ok (.aload_n 0, 1) := by decide +kernel
theorem dX7_size_1 : decode cX7_size 1 = .ok (.getfield 31, 3) := by decide +kernel
theorem dX7_size_4 : decode cX7_size 4 = .ok (.ireturn, 1) := by decide +kernel
theorem dX7_put_0 : decode cX7_put 0 = .ok (.iload_n 1, 1) := by decide +kernel
theorem dX7_put_1 : decode cX7_put 1 = .ok (.iload_n 2, 1) := by decide +kernel
theorem dX7_put_2 : decode cX7_put 2 = .ok (.iload_n 3, 1) := by decide +kernel
theorem dX7_put_3 : decode cX7_put 3 = .ok (.invokestatic 41, 3) := by decide +kernel
theorem dX7_put_6 : decode cX7_put 6 = .ok (.istore 5, 2) := by decide +kernel
theorem dX7_put_8 : decode cX7_put 8 = .ok (.aload_n 0, 1) := by decide +kernel
theorem dX7_put_9 : decode cX7_put 9 = .ok (.getfield 9, 3) := by decide +kernel
theorem dX7_put_12 : decode cX7_put 12 = .ok (.iload 5, 2) := by decide +kernel
theorem dX7_put_14 : decode cX7_put 14 = .ok (.iaload, 1) := by decide +kernel
theorem dX7_put_15 : decode cX7_put 15 = .ok (.istore 6, 2) := by decide +kernel
theorem dX7_put_17 : decode cX7_put 17 = .ok (.aload_n 0, 1) := by decide +kernel
theorem dX7_put_18 : decode cX7_put 18 = .ok (.getfield 9, 3) := by decide +kernel
theorem dX7_put_21 : decode cX7_put 21 = .ok (.iload 5, 2) := by decide +kernel
theorem dX7_put_23 : decode cX7_put 23 = .ok (.iload 4, 2) := by decide +kernel
theorem dX7_put_25 : decode cX7_put 25 = .ok (.iastore, 1) := by decide +kernel
theorem dX7_put_26 : decode cX7_put 26 = .ok (.aload_n 0, 1) := by decide +kernel
theorem dX7_put_27 : decode cX7_put 27 = .ok (.dup, 1) := by decide +kernel
theorem dX7_put_28 : decode cX7_put 28 = .ok (.getfield 31, 3) := by decide +kernel
theorem dX7_put_31 : decode cX7_put 31 = .ok (.iload 4, 2) := by decide +kernel
theorem dX7_put_33 : decode cX7_put 33 = .ok (.iconst (-1), 1) := by decide +kernel
theorem dX7_put_34 : decode cX7_put 34 = .ok (.if_icmp .ne 7, 3) := by decide +kernel
theorem dX7_put_37 : decode cX7_put 37 = .ok (.iconst 0, 1) := by decide +kernel
theorem dX7_put_38 : decode cX7_put 38 = .ok (.goto 4, 3) := by decide +kernel
theorem dX7_put_41 : decode cX7_put 41 = .ok (.iconst 1, 1) := by decide +kernel
theorem dX7_put_42 : decode cX7_put 42 = .ok (.iload 6, 2) := by decide +kernel
theorem dX7_put_44 : decode cX7_put 44 = .ok (.iconst (-1), 1) := by decide +kernel
theorem dX7_put_45 : decode cX7_put 45 = .ok (.if_icmp .ne 7, 3) := by decide +kernel
theorem dX7_put_48 : decode cX7_put 48 = .ok (.iconst 0, 1) := by decide +kernel
theorem dX7_put_49 : decode cX7_put 49 = .ok (.goto 4, 3) := by decide +kernel
theorem dX7_put_52 : decode cX7_put 52 = .ok (.iconst 1, 1) := by decide +kernel
theorem dX7_put_53 : decode cX7_put 53 = .ok (.isub, 1) := by decide +kernel
theorem dX7_put_54 : decode cX7_put 54 = .ok (.iadd, 1) := by decide +kernel
theorem dX7_put_55 : decode cX7_put 55 = .ok (.putfield 31, 3) := by decide +kernel
theorem dX7_put_58 : decode cX7_put 58 = .ok (.aload_n 0, 1) := by decide +kernel
theorem dX7_put_59 : decode cX7_put 59 = .ok (.iload_n 3, 1) := by decide +kernel
theorem dX7_put_60 : decode cX7_put 60 = .ok (.invokevirtual 45, 3) := by decide +kernel
theorem dX7_put_63 : decode cX7_put 63 = .ok (.aload_n 0, 1) := by decide +kernel
theorem dX7_put_64 : decode cX7_put 64 = .ok (.invokevirtual 49, 3) := by decide +kernel
theorem dX7_put_67 : decode cX7_put 67 = .ok (.aload_n 0, 1) := by decide +kernel
theorem dX7_put_68 : decode cX7_put 68 = .ok (.invokevirtual 52, 3) := by decide +kernel
theorem dX7_put_71 : decode cX7_put 71 = .ok (.iload 6, 2) := by decide +kernel
theorem dX7_put_73 : decode cX7_put 73 = .ok (.ireturn, 1) := by decide +kernel
theorem dX7_hardOf_0 : decode cX7_hardOf 0 = .ok (.aload_n 0, 1) := by decide +kernel
theorem dX7_hardOf_1 : decode cX7_hardOf 1 = .ok (.getfield 15, 3) := by decide +kernel
theorem dX7_hardOf_4 : decode cX7_hardOf 4 = .ok (.iload_n 1, 1) := by decide +kernel
theorem dX7_hardOf_5 : decode cX7_hardOf 5 = .ok (.iconst 5, 1) := by decide +kernel
theorem dX7_hardOf_6 : decode cX7_hardOf 6 = .ok (.imul, 1) := by decide +kernel
theorem dX7_hardOf_7 : decode cX7_hardOf 7 = .ok (.iload_n 2, 1) := by decide +kernel
theorem dX7_hardOf_8 : decode cX7_hardOf 8 = .ok (.iadd, 1) := by decide +kernel
theorem dX7_hardOf_9 : decode cX7_hardOf 9 = .ok (.iaload, 1) := by decide +kernel
theorem dX7_hardOf_10 : decode cX7_hardOf 10 = .ok (.ireturn, 1) := by decide +kernel
theorem dX7_toldOf_0 : decode cX7_toldOf 0 = .ok (.aload_n 0, 1) := by decide +kernel
theorem dX7_toldOf_1 : decode cX7_toldOf 1 = .ok (.getfield 18, 3) := by decide +kernel
theorem dX7_toldOf_4 : decode cX7_toldOf 4 = .ok (.iload_n 1, 1) := by decide +kernel
theorem dX7_toldOf_5 : decode cX7_toldOf 5 = .ok (.iconst 5, 1) := by decide +kernel
theorem dX7_toldOf_6 : decode cX7_toldOf 6 = .ok (.imul, 1) := by decide +kernel
theorem dX7_toldOf_7 : decode cX7_toldOf 7 = .ok (.iload_n 2, 1) := by decide +kernel
theorem dX7_toldOf_8 : decode cX7_toldOf 8 = .ok (.iadd, 1) := by decide +kernel
theorem dX7_toldOf_9 : decode cX7_toldOf 9 = .ok (.iaload, 1) := by decide +kernel
theorem dX7_toldOf_10 : decode cX7_toldOf 10 = .ok (.ireturn, 1) := by decide +kernel
theorem dX7_sumOf_0 : decode cX7_sumOf 0 = .ok (.aload_n 0, 1) := by decide +kernel
theorem dX7_sumOf_1 : decode cX7_sumOf 1 = .ok (.getfield 21, 3) := by decide +kernel
theorem dX7_sumOf_4 : decode cX7_sumOf 4 = .ok (.iload_n 1, 1) := by decide +kernel
theorem dX7_sumOf_5 : decode cX7_sumOf 5 = .ok (.iaload, 1) := by decide +kernel
theorem dX7_sumOf_6 : decode cX7_sumOf 6 = .ok (.ireturn, 1) := by decide +kernel
theorem dX7_groundOf_0 : decode cX7_groundOf 0 = .ok (.aload_n 0, 1) := by decide +kernel
theorem dX7_groundOf_1 : decode cX7_groundOf 1 = .ok (.getfield 24, 3) := by decide +kernel
theorem dX7_groundOf_4 : decode cX7_groundOf 4 = .ok (.iload_n 1, 1) := by decide +kernel
theorem dX7_groundOf_5 : decode cX7_groundOf 5 = .ok (.iaload, 1) := by decide +kernel
theorem dX7_groundOf_6 : decode cX7_groundOf 6 = .ok (.ireturn, 1) := by decide +kernel
theorem dX7_untoldOf_0 : decode cX7_untoldOf 0 = .ok (.iconst 0, 1) := by decide +kernel
theorem dX7_untoldOf_1 : decode cX7_untoldOf 1 = .ok (.istore_n 2, 1) := by decide +kernel
theorem dX7_untoldOf_2 : decode cX7_untoldOf 2 = .ok (.iconst 0, 1) := by decide +kernel
theorem dX7_untoldOf_3 : decode cX7_untoldOf 3 = .ok (.istore_n 3, 1) := by decide +kernel
theorem dX7_untoldOf_4 : decode cX7_untoldOf 4 = .ok (.iload_n 3, 1) := by decide +kernel
theorem dX7_untoldOf_5 : decode cX7_untoldOf 5 = .ok (.iconst 5, 1) := by decide +kernel
theorem dX7_untoldOf_6 : decode cX7_untoldOf 6 = .ok (.if_icmp .ge 23, 3) := by decide +kernel
theorem dX7_untoldOf_9 : decode cX7_untoldOf 9 = .ok (.aload_n 0, 1) := by decide +kernel
theorem dX7_untoldOf_10 : decode cX7_untoldOf 10 = .ok (.iload_n 1, 1) := by decide +kernel
theorem dX7_untoldOf_11 : decode cX7_untoldOf 11 = .ok (.iload_n 3, 1) := by decide +kernel
theorem dX7_untoldOf_12 : decode cX7_untoldOf 12 = .ok (.invokevirtual 55, 3) := by decide +kernel
theorem dX7_untoldOf_15 : decode cX7_untoldOf 15 = .ok (.ldc 40, 2) := by decide +kernel
theorem dX7_untoldOf_17 : decode cX7_untoldOf 17 = .ok (.if_icmp .ne 6, 3) := by decide +kernel
theorem dX7_untoldOf_20 : decode cX7_untoldOf 20 = .ok (.iinc 2 1, 3) := by decide +kernel
theorem dX7_untoldOf_23 : decode cX7_untoldOf 23 = .ok (.iinc 3 1, 3) := by decide +kernel
theorem dX7_untoldOf_26 : decode cX7_untoldOf 26 = .ok (.goto (-22), 3) := by decide +kernel
theorem dX7_untoldOf_29 : decode cX7_untoldOf 29 = .ok (.iload_n 2, 1) := by decide +kernel
theorem dX7_untoldOf_30 : decode cX7_untoldOf 30 = .ok (.ireturn, 1) := by decide +kernel
theorem dX7_placeOf_0 : decode cX7_placeOf 0 = .ok (.iload_n 0, 1) := by decide +kernel
theorem dX7_placeOf_1 : decode cX7_placeOf 1 = .ok (.bipush 24, 2) := by decide +kernel
theorem dX7_placeOf_3 : decode cX7_placeOf 3 = .ok (.imul, 1) := by decide +kernel
theorem dX7_placeOf_4 : decode cX7_placeOf 4 = .ok (.iload_n 1, 1) := by decide +kernel
theorem dX7_placeOf_5 : decode cX7_placeOf 5 = .ok (.iadd, 1) := by decide +kernel
theorem dX7_placeOf_6 : decode cX7_placeOf 6 = .ok (.iconst 5, 1) := by decide +kernel
theorem dX7_placeOf_7 : decode cX7_placeOf 7 = .ok (.imul, 1) := by decide +kernel
theorem dX7_placeOf_8 : decode cX7_placeOf 8 = .ok (.iload_n 2, 1) := by decide +kernel
theorem dX7_placeOf_9 : decode cX7_placeOf 9 = .ok (.iadd, 1) := by decide +kernel
theorem dX7_placeOf_10 : decode cX7_placeOf 10 = .ok (.ireturn, 1) := by decide +kernel
theorem dX7_workOutPart_0 : decode cX7_workOutPart 0 = .ok (.iconst 0, 1) := by decide +kernel
theorem dX7_workOutPart_1 : decode cX7_workOutPart 1 = .ok (.istore_n 2, 1) := by decide +kernel
theorem dX7_workOutPart_2 : decode cX7_workOutPart 2 = .ok (.iload_n 2, 1) := by decide +kernel
theorem dX7_workOutPart_3 : decode cX7_workOutPart 3 = .ok (.iconst 4, 1) := by decide +kernel
theorem dX7_workOutPart_4 : decode cX7_workOutPart 4 = .ok (.if_icmp .ge 25, 3) := by decide +kernel
theorem dX7_workOutPart_7 : decode cX7_workOutPart 7 = .ok (.aload_n 0, 1) := by decide +kernel
theorem dX7_workOutPart_8 : decode cX7_workOutPart 8 = .ok (.getfield 15, 3) := by decide +kernel
theorem dX7_workOutPart_11 : decode cX7_workOutPart 11 = .ok (.iload_n 2, 1) := by decide +kernel
theorem dX7_workOutPart_12 : decode cX7_workOutPart 12 = .ok (.iconst 5, 1) := by decide +kernel
theorem dX7_workOutPart_13 : decode cX7_workOutPart 13 = .ok (.imul, 1) := by decide +kernel
theorem dX7_workOutPart_14 : decode cX7_workOutPart 14 = .ok (.iload_n 1, 1) := by decide +kernel
theorem dX7_workOutPart_15 : decode cX7_workOutPart 15 = .ok (.iadd, 1) := by decide +kernel
theorem dX7_workOutPart_16 : decode cX7_workOutPart 16 = .ok (.aload_n 0, 1) := by decide +kernel
theorem dX7_workOutPart_17 : decode cX7_workOutPart 17 = .ok (.iload_n 2, 1) := by decide +kernel
theorem dX7_workOutPart_18 : decode cX7_workOutPart 18 = .ok (.iload_n 1, 1) := by decide +kernel
theorem dX7_workOutPart_19 : decode cX7_workOutPart 19 = .ok (.invokevirtual 59, 3) := by decide +kernel
theorem dX7_workOutPart_22 : decode cX7_workOutPart 22 = .ok (.iastore, 1) := by decide +kernel
theorem dX7_workOutPart_23 : decode cX7_workOutPart 23 = .ok (.iinc 2 1, 3) := by decide +kernel
theorem dX7_workOutPart_26 : decode cX7_workOutPart 26 = .ok (.goto (-24), 3) := by decide +kernel
theorem dX7_workOutPart_29 : decode cX7_workOutPart 29 = .ok (.iconst 0, 1) := by decide +kernel
theorem dX7_workOutPart_30 : decode cX7_workOutPart 30 = .ok (.istore_n 2, 1) := by decide +kernel
theorem dX7_workOutPart_31 : decode cX7_workOutPart 31 = .ok (.iload_n 2, 1) := by decide +kernel
theorem dX7_workOutPart_32 : decode cX7_workOutPart 32 = .ok (.aload_n 0, 1) := by decide +kernel
theorem dX7_workOutPart_33 : decode cX7_workOutPart 33 = .ok (.getfield 27, 3) := by decide +kernel
theorem dX7_workOutPart_36 : decode cX7_workOutPart 36 = .ok (.if_icmp .ge 25, 3) := by decide +kernel
theorem dX7_workOutPart_39 : decode cX7_workOutPart 39 = .ok (.aload_n 0, 1) := by decide +kernel
theorem dX7_workOutPart_40 : decode cX7_workOutPart 40 = .ok (.getfield 18, 3) := by decide +kernel
theorem dX7_workOutPart_43 : decode cX7_workOutPart 43 = .ok (.iload_n 2, 1) := by decide +kernel
theorem dX7_workOutPart_44 : decode cX7_workOutPart 44 = .ok (.iconst 5, 1) := by decide +kernel
theorem dX7_workOutPart_45 : decode cX7_workOutPart 45 = .ok (.imul, 1) := by decide +kernel
theorem dX7_workOutPart_46 : decode cX7_workOutPart 46 = .ok (.iload_n 1, 1) := by decide +kernel
theorem dX7_workOutPart_47 : decode cX7_workOutPart 47 = .ok (.iadd, 1) := by decide +kernel
theorem dX7_workOutPart_48 : decode cX7_workOutPart 48 = .ok (.aload_n 0, 1) := by decide +kernel
theorem dX7_workOutPart_49 : decode cX7_workOutPart 49 = .ok (.iload_n 2, 1) := by decide +kernel
theorem dX7_workOutPart_50 : decode cX7_workOutPart 50 = .ok (.iload_n 1, 1) := by decide +kernel
theorem dX7_workOutPart_51 : decode cX7_workOutPart 51 = .ok (.invokevirtual 62, 3) := by decide +kernel
theorem dX7_workOutPart_54 : decode cX7_workOutPart 54 = .ok (.iastore, 1) := by decide +kernel
theorem dX7_workOutPart_55 : decode cX7_workOutPart 55 = .ok (.iinc 2 1, 3) := by decide +kernel
theorem dX7_workOutPart_58 : decode cX7_workOutPart 58 = .ok (.goto (-27), 3) := by decide +kernel
theorem dX7_workOutPart_61 : decode cX7_workOutPart 61 = .ok (.return_, 1) := by decide +kernel
theorem dX7_workOutHard_0 : decode cX7_workOutHard 0 = .ok (.iconst 0, 1) := by decide +kernel
theorem dX7_workOutHard_1 : decode cX7_workOutHard 1 = .ok (.istore_n 3, 1) := by decide +kernel
theorem dX7_workOutHard_2 : decode cX7_workOutHard 2 = .ok (.iconst 0, 1) := by decide +kernel
theorem dX7_workOutHard_3 : decode cX7_workOutHard 3 = .ok (.istore 4, 2) := by decide +kernel
theorem dX7_workOutHard_5 : decode cX7_workOutHard 5 = .ok (.iconst 0, 1) := by decide +kernel
theorem dX7_workOutHard_6 : decode cX7_workOutHard 6 = .ok (.istore 5, 2) := by decide +kernel
theorem dX7_workOutHard_8 : decode cX7_workOutHard 8 = .ok (.iload 5, 2) := by decide +kernel
theorem dX7_workOutHard_10 : decode cX7_workOutHard 10 = .ok (.aload_n 0, 1) := by decide +kernel
theorem dX7_workOutHard_11 : decode cX7_workOutHard 11 = .ok (.getfield 27, 3) := by decide +kernel
theorem dX7_workOutHard_14 : decode cX7_workOutHard 14 = .ok (.if_icmp .ge 85, 3) := by decide +kernel
theorem dX7_workOutHard_17 : decode cX7_workOutHard 17 = .ok (.aload_n 0, 1) := by decide +kernel
theorem dX7_workOutHard_18 : decode cX7_workOutHard 18 = .ok (.getfield 9, 3) := by decide +kernel
theorem dX7_workOutHard_21 : decode cX7_workOutHard 21 = .ok (.iload_n 1, 1) := by decide +kernel
theorem dX7_workOutHard_22 : decode cX7_workOutHard 22 = .ok (.iload 5, 2) := by decide +kernel
theorem dX7_workOutHard_24 : decode cX7_workOutHard 24 = .ok (.iload_n 2, 1) := by decide +kernel
theorem dX7_workOutHard_25 : decode cX7_workOutHard 25 = .ok (.invokestatic 41, 3) := by decide +kernel
theorem dX7_workOutHard_28 : decode cX7_workOutHard 28 = .ok (.iaload, 1) := by decide +kernel
theorem dX7_workOutHard_29 : decode cX7_workOutHard 29 = .ok (.istore 6, 2) := by decide +kernel
theorem dX7_workOutHard_31 : decode cX7_workOutHard 31 = .ok (.iload 6, 2) := by decide +kernel
theorem dX7_workOutHard_33 : decode cX7_workOutHard 33 = .ok (.iconst (-1), 1) := by decide +kernel
theorem dX7_workOutHard_34 : decode cX7_workOutHard 34 = .ok (.if_icmp .ne 6, 3) := by decide +kernel
theorem dX7_workOutHard_37 : decode cX7_workOutHard 37 = .ok (.goto 56, 3) := by decide +kernel
theorem dX7_workOutHard_40 : decode cX7_workOutHard 40 = .ok (.iconst 0, 1) := by decide +kernel
theorem dX7_workOutHard_41 : decode cX7_workOutHard 41 = .ok (.istore 7, 2) := by decide +kernel
theorem dX7_workOutHard_43 : decode cX7_workOutHard 43 = .ok (.iload 7, 2) := by decide +kernel
theorem dX7_workOutHard_45 : decode cX7_workOutHard 45 = .ok (.iconst 4, 1) := by decide +kernel
theorem dX7_workOutHard_46 : decode cX7_workOutHard 46 = .ok (.if_icmp .ge 47, 3) := by decide +kernel
theorem dX7_workOutHard_49 : decode cX7_workOutHard 49 = .ok (.aload_n 0, 1) := by decide +kernel
theorem dX7_workOutHard_50 : decode cX7_workOutHard 50 = .ok (.getfield 9, 3) := by decide +kernel
theorem dX7_workOutHard_53 : decode cX7_workOutHard 53 = .ok (.iload 7, 2) := by decide +kernel
theorem dX7_workOutHard_55 : decode cX7_workOutHard 55 = .ok (.iload 5, 2) := by decide +kernel
theorem dX7_workOutHard_57 : decode cX7_workOutHard 57 = .ok (.iload_n 2, 1) := by decide +kernel
theorem dX7_workOutHard_58 : decode cX7_workOutHard 58 = .ok (.invokestatic 41, 3) := by decide +kernel
theorem dX7_workOutHard_61 : decode cX7_workOutHard 61 = .ok (.iaload, 1) := by decide +kernel
theorem dX7_workOutHard_62 : decode cX7_workOutHard 62 = .ok (.istore 8, 2) := by decide +kernel
theorem dX7_workOutHard_64 : decode cX7_workOutHard 64 = .ok (.iload 7, 2) := by decide +kernel
theorem dX7_workOutHard_66 : decode cX7_workOutHard 66 = .ok (.iload_n 1, 1) := by decide +kernel
theorem dX7_workOutHard_67 : decode cX7_workOutHard 67 = .ok (.if_icmp .eq 20, 3) := by decide +kernel
theorem dX7_workOutHard_70 : decode cX7_workOutHard 70 = .ok (.iload 8, 2) := by decide +kernel
theorem dX7_workOutHard_72 : decode cX7_workOutHard 72 = .ok (.iconst (-1), 1) := by decide +kernel
theorem dX7_workOutHard_73 : decode cX7_workOutHard 73 = .ok (.if_icmp .eq 14, 3) := by decide +kernel
theorem dX7_workOutHard_76 : decode cX7_workOutHard 76 = .ok (.iload_n 3, 1) := by decide +kernel
theorem dX7_workOutHard_77 : decode cX7_workOutHard 77 = .ok (.iload 8, 2) := by decide +kernel
theorem dX7_workOutHard_79 : decode cX7_workOutHard 79 = .ok (.iload 6, 2) := by decide +kernel
theorem dX7_workOutHard_81 : decode cX7_workOutHard 81 = .ok (.isub, 1) := by decide +kernel
theorem dX7_workOutHard_82 : decode cX7_workOutHard 82 = .ok (.iadd, 1) := by decide +kernel
theorem dX7_workOutHard_83 : decode cX7_workOutHard 83 = .ok (.istore_n 3, 1) := by decide +kernel
theorem dX7_workOutHard_84 : decode cX7_workOutHard 84 = .ok (.iinc 4 1, 3) := by decide +kernel
theorem dX7_workOutHard_87 : decode cX7_workOutHard 87 = .ok (.iinc 7 1, 3) := by decide +kernel
theorem dX7_workOutHard_90 : decode cX7_workOutHard 90 = .ok (.goto (-47), 3) := by decide +kernel
theorem dX7_workOutHard_93 : decode cX7_workOutHard 93 = .ok (.iinc 5 1, 3) := by decide +kernel
theorem dX7_workOutHard_96 : decode cX7_workOutHard 96 = .ok (.goto (-88), 3) := by decide +kernel
theorem dX7_workOutHard_99 : decode cX7_workOutHard 99 = .ok (.iload 4, 2) := by decide +kernel
theorem dX7_workOutHard_101 : decode cX7_workOutHard 101 = .ok (.ifCond .ne 7, 3) := by decide +kernel
theorem dX7_workOutHard_104 : decode cX7_workOutHard 104 = .ok (.iconst 0, 1) := by decide +kernel
theorem dX7_workOutHard_105 : decode cX7_workOutHard 105 = .ok (.goto 12, 3) := by decide +kernel
theorem dX7_workOutHard_108 : decode cX7_workOutHard 108 = .ok (.bipush 100, 2) := by decide +kernel
theorem dX7_workOutHard_110 : decode cX7_workOutHard 110 = .ok (.iload_n 3, 1) := by decide +kernel
theorem dX7_workOutHard_111 : decode cX7_workOutHard 111 = .ok (.imul, 1) := by decide +kernel
theorem dX7_workOutHard_112 : decode cX7_workOutHard 112 = .ok (.iload 4, 2) := by decide +kernel
theorem dX7_workOutHard_114 : decode cX7_workOutHard 114 = .ok (.invokestatic 65, 3) := by decide +kernel
theorem dX7_workOutHard_117 : decode cX7_workOutHard 117 = .ok (.ireturn, 1) := by decide +kernel
theorem dX7_workOutTold_0 : decode cX7_workOutTold 0 = .ok (.iconst 0, 1) := by decide +kernel
theorem dX7_workOutTold_1 : decode cX7_workOutTold 1 = .ok (.istore_n 3, 1) := by decide +kernel
theorem dX7_workOutTold_2 : decode cX7_workOutTold 2 = .ok (.iconst 0, 1) := by decide +kernel
theorem dX7_workOutTold_3 : decode cX7_workOutTold 3 = .ok (.istore 4, 2) := by decide +kernel
theorem dX7_workOutTold_5 : decode cX7_workOutTold 5 = .ok (.iconst 0, 1) := by decide +kernel
theorem dX7_workOutTold_6 : decode cX7_workOutTold 6 = .ok (.istore 5, 2) := by decide +kernel
theorem dX7_workOutTold_8 : decode cX7_workOutTold 8 = .ok (.iload 5, 2) := by decide +kernel
theorem dX7_workOutTold_10 : decode cX7_workOutTold 10 = .ok (.iconst 4, 1) := by decide +kernel
theorem dX7_workOutTold_11 : decode cX7_workOutTold 11 = .ok (.if_icmp .ge 48, 3) := by decide +kernel
theorem dX7_workOutTold_14 : decode cX7_workOutTold 14 = .ok (.aload_n 0, 1) := by decide +kernel
theorem dX7_workOutTold_15 : decode cX7_workOutTold 15 = .ok (.getfield 9, 3) := by decide +kernel
theorem dX7_workOutTold_18 : decode cX7_workOutTold 18 = .ok (.iload 5, 2) := by decide +kernel
theorem dX7_workOutTold_20 : decode cX7_workOutTold 20 = .ok (.iload_n 1, 1) := by decide +kernel
theorem dX7_workOutTold_21 : decode cX7_workOutTold 21 = .ok (.iload_n 2, 1) := by decide +kernel
theorem dX7_workOutTold_22 : decode cX7_workOutTold 22 = .ok (.invokestatic 41, 3) := by decide +kernel
theorem dX7_workOutTold_25 : decode cX7_workOutTold 25 = .ok (.iaload, 1) := by decide +kernel
theorem dX7_workOutTold_26 : decode cX7_workOutTold 26 = .ok (.istore 6, 2) := by decide +kernel
theorem dX7_workOutTold_28 : decode cX7_workOutTold 28 = .ok (.iload 6, 2) := by decide +kernel
theorem dX7_workOutTold_30 : decode cX7_workOutTold 30 = .ok (.iconst (-1), 1) := by decide +kernel
theorem dX7_workOutTold_31 : decode cX7_workOutTold 31 = .ok (.if_icmp .eq 22, 3) := by decide +kernel
theorem dX7_workOutTold_34 : decode cX7_workOutTold 34 = .ok (.iload_n 3, 1) := by decide +kernel
theorem dX7_workOutTold_35 : decode cX7_workOutTold 35 = .ok (.bipush 100, 2) := by decide +kernel
theorem dX7_workOutTold_37 : decode cX7_workOutTold 37 = .ok (.iload 6, 2) := by decide +kernel
theorem dX7_workOutTold_39 : decode cX7_workOutTold 39 = .ok (.imul, 1) := by decide +kernel
theorem dX7_workOutTold_40 : decode cX7_workOutTold 40 = .ok (.aload_n 0, 1) := by decide +kernel
theorem dX7_workOutTold_41 : decode cX7_workOutTold 41 = .ok (.iload 5, 2) := by decide +kernel
theorem dX7_workOutTold_43 : decode cX7_workOutTold 43 = .ok (.iload_n 2, 1) := by decide +kernel
theorem dX7_workOutTold_44 : decode cX7_workOutTold 44 = .ok (.invokevirtual 70, 3) := by decide +kernel
theorem dX7_workOutTold_47 : decode cX7_workOutTold 47 = .ok (.iadd, 1) := by decide +kernel
theorem dX7_workOutTold_48 : decode cX7_workOutTold 48 = .ok (.iadd, 1) := by decide +kernel
theorem dX7_workOutTold_49 : decode cX7_workOutTold 49 = .ok (.istore_n 3, 1) := by decide +kernel
theorem dX7_workOutTold_50 : decode cX7_workOutTold 50 = .ok (.iinc 4 1, 3) := by decide +kernel
theorem dX7_workOutTold_53 : decode cX7_workOutTold 53 = .ok (.iinc 5 1, 3) := by decide +kernel
theorem dX7_workOutTold_56 : decode cX7_workOutTold 56 = .ok (.goto (-48), 3) := by decide +kernel
theorem dX7_workOutTold_59 : decode cX7_workOutTold 59 = .ok (.iload 4, 2) := by decide +kernel
theorem dX7_workOutTold_61 : decode cX7_workOutTold 61 = .ok (.ifCond .ne 8, 3) := by decide +kernel
theorem dX7_workOutTold_64 : decode cX7_workOutTold 64 = .ok (.ldc 40, 2) := by decide +kernel
theorem dX7_workOutTold_66 : decode cX7_workOutTold 66 = .ok (.goto 9, 3) := by decide +kernel
theorem dX7_workOutTold_69 : decode cX7_workOutTold 69 = .ok (.iload_n 3, 1) := by decide +kernel
theorem dX7_workOutTold_70 : decode cX7_workOutTold 70 = .ok (.iload 4, 2) := by decide +kernel
theorem dX7_workOutTold_72 : decode cX7_workOutTold 72 = .ok (.invokestatic 65, 3) := by decide +kernel
theorem dX7_workOutTold_75 : decode cX7_workOutTold 75 = .ok (.ireturn, 1) := by decide +kernel
theorem dX7_workOutSums_0 : decode cX7_workOutSums 0 = .ok (.iconst 0, 1) := by decide +kernel
theorem dX7_workOutSums_1 : decode cX7_workOutSums 1 = .ok (.istore_n 1, 1) := by decide +kernel
theorem dX7_workOutSums_2 : decode cX7_workOutSums 2 = .ok (.iload_n 1, 1) := by decide +kernel
theorem dX7_workOutSums_3 : decode cX7_workOutSums 3 = .ok (.aload_n 0, 1) := by decide +kernel
theorem dX7_workOutSums_4 : decode cX7_workOutSums 4 = .ok (.getfield 27, 3) := by decide +kernel
theorem dX7_workOutSums_7 : decode cX7_workOutSums 7 = .ok (.if_icmp .ge 55, 3) := by decide +kernel
theorem dX7_workOutSums_10 : decode cX7_workOutSums 10 = .ok (.iconst 0, 1) := by decide +kernel
theorem dX7_workOutSums_11 : decode cX7_workOutSums 11 = .ok (.istore_n 2, 1) := by decide +kernel
theorem dX7_workOutSums_12 : decode cX7_workOutSums 12 = .ok (.iconst 0, 1) := by decide +kernel
theorem dX7_workOutSums_13 : decode cX7_workOutSums 13 = .ok (.istore_n 3, 1) := by decide +kernel
theorem dX7_workOutSums_14 : decode cX7_workOutSums 14 = .ok (.iload_n 3, 1) := by decide +kernel
theorem dX7_workOutSums_15 : decode cX7_workOutSums 15 = .ok (.iconst 5, 1) := by decide +kernel
theorem dX7_workOutSums_16 : decode cX7_workOutSums 16 = .ok (.if_icmp .ge 33, 3) := by decide +kernel
theorem dX7_workOutSums_19 : decode cX7_workOutSums 19 = .ok (.aload_n 0, 1) := by decide +kernel
theorem dX7_workOutSums_20 : decode cX7_workOutSums 20 = .ok (.iload_n 1, 1) := by decide +kernel
theorem dX7_workOutSums_21 : decode cX7_workOutSums 21 = .ok (.iload_n 3, 1) := by decide +kernel
theorem dX7_workOutSums_22 : decode cX7_workOutSums 22 = .ok (.invokevirtual 55, 3) := by decide +kernel
theorem dX7_workOutSums_25 : decode cX7_workOutSums 25 = .ok (.istore 4, 2) := by decide +kernel
theorem dX7_workOutSums_27 : decode cX7_workOutSums 27 = .ok (.iload_n 2, 1) := by decide +kernel
theorem dX7_workOutSums_28 : decode cX7_workOutSums 28 = .ok (.iload 4, 2) := by decide +kernel
theorem dX7_workOutSums_30 : decode cX7_workOutSums 30 = .ok (.ldc 40, 2) := by decide +kernel
theorem dX7_workOutSums_32 : decode cX7_workOutSums 32 = .ok (.if_icmp .ne 7, 3) := by decide +kernel
theorem dX7_workOutSums_35 : decode cX7_workOutSums 35 = .ok (.iconst 0, 1) := by decide +kernel
theorem dX7_workOutSums_36 : decode cX7_workOutSums 36 = .ok (.goto 5, 3) := by decide +kernel
theorem dX7_workOutSums_39 : decode cX7_workOutSums 39 = .ok (.iload 4, 2) := by decide +kernel
theorem dX7_workOutSums_41 : decode cX7_workOutSums 41 = .ok (.iadd, 1) := by decide +kernel
theorem dX7_workOutSums_42 : decode cX7_workOutSums 42 = .ok (.istore_n 2, 1) := by decide +kernel
theorem dX7_workOutSums_43 : decode cX7_workOutSums 43 = .ok (.iinc 3 1, 3) := by decide +kernel
theorem dX7_workOutSums_46 : decode cX7_workOutSums 46 = .ok (.goto (-32), 3) := by decide +kernel
theorem dX7_workOutSums_49 : decode cX7_workOutSums 49 = .ok (.aload_n 0, 1) := by decide +kernel
theorem dX7_workOutSums_50 : decode cX7_workOutSums 50 = .ok (.getfield 21, 3) := by decide +kernel
theorem dX7_workOutSums_53 : decode cX7_workOutSums 53 = .ok (.iload_n 1, 1) := by decide +kernel
theorem dX7_workOutSums_54 : decode cX7_workOutSums 54 = .ok (.iload_n 2, 1) := by decide +kernel
theorem dX7_workOutSums_55 : decode cX7_workOutSums 55 = .ok (.iastore, 1) := by decide +kernel
theorem dX7_workOutSums_56 : decode cX7_workOutSums 56 = .ok (.iinc 1 1, 3) := by decide +kernel
theorem dX7_workOutSums_59 : decode cX7_workOutSums 59 = .ok (.goto (-57), 3) := by decide +kernel
theorem dX7_workOutSums_62 : decode cX7_workOutSums 62 = .ok (.return_, 1) := by decide +kernel
theorem dX7_workOutGrounds_0 : decode cX7_workOutGrounds 0 = .ok (.aload_n 0, 1) := by decide +kernel
theorem dX7_workOutGrounds_1 : decode cX7_workOutGrounds 1 = .ok (.getfield 27, 3) := by decide +kernel
theorem dX7_workOutGrounds_4 : decode cX7_workOutGrounds 4 = .ok (.iconst 2, 1) := by decide +kernel
theorem dX7_workOutGrounds_5 : decode cX7_workOutGrounds 5 = .ok (.if_icmp .ge 4, 3) := by decide +kernel
theorem dX7_workOutGrounds_8 : decode cX7_workOutGrounds 8 = .ok (.return_, 1) := by decide +kernel
theorem dX7_workOutGrounds_9 : decode cX7_workOutGrounds 9 = .ok (.iconst 0, 1) := by decide +kernel
theorem dX7_workOutGrounds_10 : decode cX7_workOutGrounds 10 = .ok (.istore_n 1, 1) := by decide +kernel
theorem dX7_workOutGrounds_11 : decode cX7_workOutGrounds 11 = .ok (.iconst 0, 1) := by decide +kernel
theorem dX7_workOutGrounds_12 : decode cX7_workOutGrounds 12 = .ok (.istore_n 2, 1) := by decide +kernel
theorem dX7_workOutGrounds_13 : decode cX7_workOutGrounds 13 = .ok (.iload_n 2, 1) := by decide +kernel
theorem dX7_workOutGrounds_14 : decode cX7_workOutGrounds 14 = .ok (.aload_n 0, 1) := by decide +kernel
theorem dX7_workOutGrounds_15 : decode cX7_workOutGrounds 15 = .ok (.getfield 27, 3) := by decide +kernel
theorem dX7_workOutGrounds_18 : decode cX7_workOutGrounds 18 = .ok (.if_icmp .ge 18, 3) := by decide +kernel
theorem dX7_workOutGrounds_21 : decode cX7_workOutGrounds 21 = .ok (.iload_n 1, 1) := by decide +kernel
theorem dX7_workOutGrounds_22 : decode cX7_workOutGrounds 22 = .ok (.aload_n 0, 1) := by decide +kernel
theorem dX7_workOutGrounds_23 : decode cX7_workOutGrounds 23 = .ok (.getfield 21, 3) := by decide +kernel
theorem dX7_workOutGrounds_26 : decode cX7_workOutGrounds 26 = .ok (.iload_n 2, 1) := by decide +kernel
theorem dX7_workOutGrounds_27 : decode cX7_workOutGrounds 27 = .ok (.iaload, 1) := by decide +kernel
theorem dX7_workOutGrounds_28 : decode cX7_workOutGrounds 28 = .ok (.iadd, 1) := by decide +kernel
theorem dX7_workOutGrounds_29 : decode cX7_workOutGrounds 29 = .ok (.istore_n 1, 1) := by decide +kernel
theorem dX7_workOutGrounds_30 : decode cX7_workOutGrounds 30 = .ok (.iinc 2 1, 3) := by decide +kernel
theorem dX7_workOutGrounds_33 : decode cX7_workOutGrounds 33 = .ok (.goto (-20), 3) := by decide +kernel
theorem dX7_workOutGrounds_36 : decode cX7_workOutGrounds 36 = .ok (.iload_n 1, 1) := by decide +kernel
theorem dX7_workOutGrounds_37 : decode cX7_workOutGrounds 37 = .ok (.aload_n 0, 1) := by decide +kernel
theorem dX7_workOutGrounds_38 : decode cX7_workOutGrounds 38 = .ok (.getfield 27, 3) := by decide +kernel
theorem dX7_workOutGrounds_41 : decode cX7_workOutGrounds 41 = .ok (.invokestatic 65, 3) := by decide +kernel
theorem dX7_workOutGrounds_44 : decode cX7_workOutGrounds 44 = .ok (.istore_n 2, 1) := by decide +kernel
theorem dX7_workOutGrounds_45 : decode cX7_workOutGrounds 45 = .ok (.iconst 0, 1) := by decide +kernel
theorem dX7_workOutGrounds_46 : decode cX7_workOutGrounds 46 = .ok (.istore_n 3, 1) := by decide +kernel
theorem dX7_workOutGrounds_47 : decode cX7_workOutGrounds 47 = .ok (.iload_n 3, 1) := by decide +kernel
theorem dX7_workOutGrounds_48 : decode cX7_workOutGrounds 48 = .ok (.aload_n 0, 1) := by decide +kernel
theorem dX7_workOutGrounds_49 : decode cX7_workOutGrounds 49 = .ok (.getfield 27, 3) := by decide +kernel
theorem dX7_workOutGrounds_52 : decode cX7_workOutGrounds 52 = .ok (.if_icmp .ge 26, 3) := by decide +kernel
theorem dX7_workOutGrounds_55 : decode cX7_workOutGrounds 55 = .ok (.aload_n 0, 1) := by decide +kernel
theorem dX7_workOutGrounds_56 : decode cX7_workOutGrounds 56 = .ok (.getfield 24, 3) := by decide +kernel
theorem dX7_workOutGrounds_59 : decode cX7_workOutGrounds 59 = .ok (.iload_n 3, 1) := by decide +kernel
theorem dX7_workOutGrounds_60 : decode cX7_workOutGrounds 60 = .ok (.aload_n 0, 1) := by decide +kernel
theorem dX7_workOutGrounds_61 : decode cX7_workOutGrounds 61 = .ok (.iload_n 3, 1) := by decide +kernel
theorem dX7_workOutGrounds_62 : decode cX7_workOutGrounds 62 = .ok (.invokevirtual 73, 3) := by decide +kernel
theorem dX7_workOutGrounds_65 : decode cX7_workOutGrounds 65 = .ok (.iload_n 2, 1) := by decide +kernel
theorem dX7_workOutGrounds_66 : decode cX7_workOutGrounds 66 = .ok (.isub, 1) := by decide +kernel
theorem dX7_workOutGrounds_67 : decode cX7_workOutGrounds 67 = .ok (.iconst 4, 1) := by decide +kernel
theorem dX7_workOutGrounds_68 : decode cX7_workOutGrounds 68 = .ok (.invokestatic 65, 3) := by decide +kernel
theorem dX7_workOutGrounds_71 : decode cX7_workOutGrounds 71 = .ok (.iastore, 1) := by decide +kernel
theorem dX7_workOutGrounds_72 : decode cX7_workOutGrounds 72 = .ok (.iinc 3 1, 3) := by decide +kernel
theorem dX7_workOutGrounds_75 : decode cX7_workOutGrounds 75 = .ok (.goto (-28), 3) := by decide +kernel
theorem dX7_workOutGrounds_78 : decode cX7_workOutGrounds 78 = .ok (.return_, 1) := by decide +kernel
theorem dX7_neighboursMean_0 : decode cX7_neighboursMean 0 = .ok (.iload_n 1, 1) := by decide +kernel
theorem dX7_neighboursMean_1 : decode cX7_neighboursMean 1 = .ok (.ifCond .ne 10, 3) := by decide +kernel
theorem dX7_neighboursMean_4 : decode cX7_neighboursMean 4 = .ok (.aload_n 0, 1) := by decide +kernel
theorem dX7_neighboursMean_5 : decode cX7_neighboursMean 5 = .ok (.getfield 21, 3) := by decide +kernel
theorem dX7_neighboursMean_8 : decode cX7_neighboursMean 8 = .ok (.iconst 1, 1) := by decide +kernel
theorem dX7_neighboursMean_9 : decode cX7_neighboursMean 9 = .ok (.iaload, 1) := by decide +kernel
theorem dX7_neighboursMean_10 : decode cX7_neighboursMean 10 = .ok (.ireturn, 1) := by decide +kernel
theorem dX7_neighboursMean_11 : decode cX7_neighboursMean 11 = .ok (.iload_n 1, 1) := by decide +kernel
theorem dX7_neighboursMean_12 : decode cX7_neighboursMean 12 = .ok (.aload_n 0, 1) := by decide +kernel
theorem dX7_neighboursMean_13 : decode cX7_neighboursMean 13 = .ok (.getfield 27, 3) := by decide +kernel
theorem dX7_neighboursMean_16 : decode cX7_neighboursMean 16 = .ok (.iconst 1, 1) := by decide +kernel
theorem dX7_neighboursMean_17 : decode cX7_neighboursMean 17 = .ok (.isub, 1) := by decide +kernel
theorem dX7_neighboursMean_18 : decode cX7_neighboursMean 18 = .ok (.if_icmp .ne 12, 3) := by decide +kernel
theorem dX7_neighboursMean_21 : decode cX7_neighboursMean 21 = .ok (.aload_n 0, 1) := by decide +kernel
theorem dX7_neighboursMean_22 : decode cX7_neighboursMean 22 = .ok (.getfield 21, 3) := by decide +kernel
theorem dX7_neighboursMean_25 : decode cX7_neighboursMean 25 = .ok (.iload_n 1, 1) := by decide +kernel
theorem dX7_neighboursMean_26 : decode cX7_neighboursMean 26 = .ok (.iconst 1, 1) := by decide +kernel
theorem dX7_neighboursMean_27 : decode cX7_neighboursMean 27 = .ok (.isub, 1) := by decide +kernel
theorem dX7_neighboursMean_28 : decode cX7_neighboursMean 28 = .ok (.iaload, 1) := by decide +kernel
theorem dX7_neighboursMean_29 : decode cX7_neighboursMean 29 = .ok (.ireturn, 1) := by decide +kernel
theorem dX7_neighboursMean_30 : decode cX7_neighboursMean 30 = .ok (.aload_n 0, 1) := by decide +kernel
theorem dX7_neighboursMean_31 : decode cX7_neighboursMean 31 = .ok (.getfield 21, 3) := by decide +kernel
theorem dX7_neighboursMean_34 : decode cX7_neighboursMean 34 = .ok (.iload_n 1, 1) := by decide +kernel
theorem dX7_neighboursMean_35 : decode cX7_neighboursMean 35 = .ok (.iconst 1, 1) := by decide +kernel
theorem dX7_neighboursMean_36 : decode cX7_neighboursMean 36 = .ok (.isub, 1) := by decide +kernel
theorem dX7_neighboursMean_37 : decode cX7_neighboursMean 37 = .ok (.iaload, 1) := by decide +kernel
theorem dX7_neighboursMean_38 : decode cX7_neighboursMean 38 = .ok (.aload_n 0, 1) := by decide +kernel
theorem dX7_neighboursMean_39 : decode cX7_neighboursMean 39 = .ok (.getfield 21, 3) := by decide +kernel
theorem dX7_neighboursMean_42 : decode cX7_neighboursMean 42 = .ok (.iload_n 1, 1) := by decide +kernel
