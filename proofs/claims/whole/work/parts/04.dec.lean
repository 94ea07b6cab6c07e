theorem dX7_neighboursMean_43 : decode cX7_neighboursMean 43 = .ok (.iconst 1, 1) := by decide +kernel
theorem dX7_neighboursMean_44 : decode cX7_neighboursMean 44 = .ok (.iadd, 1) := by decide +kernel
theorem dX7_neighboursMean_45 : decode cX7_neighboursMean 45 = .ok (.iaload, 1) := by decide +kernel
theorem dX7_neighboursMean_46 : decode cX7_neighboursMean 46 = .ok (.iadd, 1) := by decide +kernel
theorem dX7_neighboursMean_47 : decode cX7_neighboursMean 47 = .ok (.iconst 2, 1) := by decide +kernel
theorem dX7_neighboursMean_48 : decode cX7_neighboursMean 48 = .ok (.invokestatic 65, 3) := by decide +kernel
theorem dX7_neighboursMean_51 : decode cX7_neighboursMean 51 = .ok (.ireturn, 1) := by decide +kernel
theorem dX8_init_0 : decode cX8_init 0 = .ok (.aload_n 0, 1) := by decide +kernel
theorem dX8_init_1 : decode cX8_init 1 = .ok (.invokespecial 3, 3) := by decide +kernel
theorem dX8_init_4 : decode cX8_init 4 = .ok (.aload_n 0, 1) := by decide +kernel
theorem dX8_init_5 : decode cX8_init 5 = .ok (.bipush 100, 2) := by decide +kernel
theorem dX8_init_7 : decode cX8_init 7 = .ok (.newarray .int, 2) := by decide +kernel
theorem dX8_init_9 : decode cX8_init 9 = .ok (.putfield 9, 3) := by decide +kernel
theorem dX8_init_12 : decode cX8_init 12 = .ok (.aload_n 0, 1) := by decide +kernel
theorem dX8_init_13 : decode cX8_init 13 = .ok (.iconst 0, 1) := by decide +kernel
theorem dX8_init_14 : decode cX8_init 14 = .ok (.putfield 15, 3) := by decide +kernel
theorem dX8_init_17 : decode cX8_init 17 = .ok (.return_, 1) := by decide +kernel
theorem dX8_hasRoom_0 : decode cX8_hasRoom 0 = .ok (.aload_n 0, 1) := by decide +kernel
theorem dX8_hasRoom_1 : decode cX8_hasRoom 1 = .ok (.getfield 15, 3) := by decide +kernel
theorem dX8_hasRoom_4 : decode cX8_hasRoom 4 = .ok (.bipush 20, 2) := by decide +kernel
theorem dX8_hasRoom_6 : decode cX8_hasRoom 6 = .ok (.iadd, 1) := by decide +kernel
theorem dX8_hasRoom_7 : decode cX8_hasRoom 7 = .ok (.bipush 100, 2) := by decide +kernel
theorem dX8_hasRoom_9 : decode cX8_hasRoom 9 = .ok (.if_icmp .gt 7, 3) := by decide +kernel
theorem dX8_hasRoom_12 : decode cX8_hasRoom 12 = .ok (.iconst 1, 1) := by decide +kernel
theorem dX8_hasRoom_13 : decode cX8_hasRoom 13 = .ok (.goto 4, 3) := by decide +kernel
theorem dX8_hasRoom_16 : decode cX8_hasRoom 16 = .ok (.iconst 0, 1) := by decide +kernel
theorem dX8_hasRoom_17 : decode cX8_hasRoom 17 = .ok (.ireturn, 1) := by decide +kernel
theorem dX8_append_0 : decode cX8_append 0 = .ok (.bipush 24, 2) := by decide +kernel
theorem dX8_append_2 : decode cX8_append 2 = .ok (.istore_n 2, 1) := by decide +kernel
theorem dX8_append_3 : decode cX8_append 3 = .ok (.iload_n 2, 1) := by decide +kernel
theorem dX8_append_4 : decode cX8_append 4 = .ok (.ifCond .lt 44, 3) := by decide +kernel
theorem dX8_append_7 : decode cX8_append 7 = .ok (.aload_n 0, 1) := by decide +kernel
theorem dX8_append_8 : decode cX8_append 8 = .ok (.getfield 15, 3) := by decide +kernel
theorem dX8_append_11 : decode cX8_append 11 = .ok (.bipush 100, 2) := by decide +kernel
theorem dX8_append_13 : decode cX8_append 13 = .ok (.if_icmp .ge 35, 3) := by decide +kernel
theorem dX8_append_16 : decode cX8_append 16 = .ok (.aload_n 0, 1) := by decide +kernel
theorem dX8_append_17 : decode cX8_append 17 = .ok (.getfield 9, 3) := by decide +kernel
theorem dX8_append_20 : decode cX8_append 20 = .ok (.aload_n 0, 1) := by decide +kernel
theorem dX8_append_21 : decode cX8_append 21 = .ok (.getfield 15, 3) := by decide +kernel
theorem dX8_append_24 : decode cX8_append 24 = .ok (.iload_n 1, 1) := by decide +kernel
theorem dX8_append_25 : decode cX8_append 25 = .ok (.iload_n 2, 1) := by decide +kernel
theorem dX8_append_26 : decode cX8_append 26 = .ok (.iushr, 1) := by decide +kernel
theorem dX8_append_27 : decode cX8_append 27 = .ok (.sipush 255, 3) := by decide +kernel
theorem dX8_append_30 : decode cX8_append 30 = .ok (.iand, 1) := by decide +kernel
theorem dX8_append_31 : decode cX8_append 31 = .ok (.iastore, 1) := by decide +kernel
theorem dX8_append_32 : decode cX8_append 32 = .ok (.aload_n 0, 1) := by decide +kernel
theorem dX8_append_33 : decode cX8_append 33 = .ok (.dup, 1) := by decide +kernel
theorem dX8_append_34 : decode cX8_append 34 = .ok (.getfield 15, 3) := by decide +kernel
theorem dX8_append_37 : decode cX8_append 37 = .ok (.iconst 1, 1) := by decide +kernel
theorem dX8_append_38 : decode cX8_append 38 = .ok (.iadd, 1) := by decide +kernel
theorem dX8_append_39 : decode cX8_append 39 = .ok (.putfield 15, 3) := by decide +kernel
theorem dX8_append_42 : decode cX8_append 42 = .ok (.iinc 2 (-8), 3) := by decide +kernel
theorem dX8_append_45 : decode cX8_append 45 = .ok (.goto (-42), 3) := by decide +kernel
theorem dX8_append_48 : decode cX8_append 48 = .ok (.return_, 1) := by decide +kernel
theorem dX8_size_0 : decode cX8_size 0 = .ok (.aload_n 0, 1) := by decide +kernel
theorem dX8_size_1 : decode cX8_size 1 = .ok (.getfield 15, 3) := by decide +kernel
theorem dX8_size_4 : decode cX8_size 4 = .ok (.ireturn, 1) := by decide +kernel
theorem dX8_byteAt_0 : decode cX8_byteAt 0 = .ok (.iload_n 1, 1) := by decide +kernel
theorem dX8_byteAt_1 : decode cX8_byteAt 1 = .ok (.ifCond .lt 20, 3) := by decide +kernel
theorem dX8_byteAt_4 : decode cX8_byteAt 4 = .ok (.iload_n 1, 1) := by decide +kernel
theorem dX8_byteAt_5 : decode cX8_byteAt 5 = .ok (.aload_n 0, 1) := by decide +kernel
theorem dX8_byteAt_6 : decode cX8_byteAt 6 = .ok (.getfield 15, 3) := by decide +kernel
theorem dX8_byteAt_9 : decode cX8_byteAt 9 = .ok (.if_icmp .ge 12, 3) := by decide +kernel
theorem dX8_byteAt_12 : decode cX8_byteAt 12 = .ok (.aload_n 0, 1) := by decide +kernel
theorem dX8_byteAt_13 : decode cX8_byteAt 13 = .ok (.getfield 9, 3) := by decide +kernel
theorem dX8_byteAt_16 : decode cX8_byteAt 16 = .ok (.iload_n 1, 1) := by decide +kernel
theorem dX8_byteAt_17 : decode cX8_byteAt 17 = .ok (.iaload, 1) := by decide +kernel
theorem dX8_byteAt_18 : decode cX8_byteAt 18 = .ok (.goto 4, 3) := by decide +kernel
theorem dX8_byteAt_21 : decode cX8_byteAt 21 = .ok (.iconst (-1), 1) := by decide +kernel
theorem dX8_byteAt_22 : decode cX8_byteAt 22 = .ok (.ireturn, 1) := by decide +kernel
theorem dX8_cut_0 : decode cX8_cut 0 = .ok (.iload_n 1, 1) := by decide +kernel
theorem dX8_cut_1 : decode cX8_cut 1 = .ok (.ifCond .lt 16, 3) := by decide +kernel
theorem dX8_cut_4 : decode cX8_cut 4 = .ok (.iload_n 1, 1) := by decide +kernel
theorem dX8_cut_5 : decode cX8_cut 5 = .ok (.aload_n 0, 1) := by decide +kernel
theorem dX8_cut_6 : decode cX8_cut 6 = .ok (.getfield 15, 3) := by decide +kernel
theorem dX8_cut_9 : decode cX8_cut 9 = .ok (.if_icmp .ge 8, 3) := by decide +kernel
theorem dX8_cut_12 : decode cX8_cut 12 = .ok (.aload_n 0, 1) := by decide +kernel
theorem dX8_cut_13 : decode cX8_cut 13 = .ok (.iload_n 1, 1) := by decide +kernel
theorem dX8_cut_14 : decode cX8_cut 14 = .ok (.putfield 15, 3) := by decide +kernel
theorem dX8_cut_17 : decode cX8_cut 17 = .ok (.return_, 1) := by decide +kernel
theorem dX9_init_0 : decode cX9_init 0 = .ok (.aload_n 0, 1) := by decide +kernel
theorem dX9_init_1 : decode cX9_init 1 = .ok (.invokespecial 1, 3) := by decide +kernel
theorem dX9_init_4 : decode cX9_init 4 = .ok (.aload_n 0, 1) := by decide +kernel
theorem dX9_init_5 : decode cX9_init 5 = .ok (.new 7, 3) := by decide +kernel
theorem dX9_init_8 : decode cX9_init 8 = .ok (.dup, 1) := by decide +kernel
theorem dX9_init_9 : decode cX9_init 9 = .ok (.invokespecial 9, 3) := by decide +kernel
theorem dX9_init_12 : decode cX9_init 12 = .ok (.putfield 10, 3) := by decide +kernel
theorem dX9_init_15 : decode cX9_init 15 = .ok (.aload_n 0, 1) := by decide +kernel
theorem dX9_init_16 : decode cX9_init 16 = .ok (.new 16, 3) := by decide +kernel
theorem dX9_init_19 : decode cX9_init 19 = .ok (.dup, 1) := by decide +kernel
theorem dX9_init_20 : decode cX9_init 20 = .ok (.invokespecial 18, 3) := by decide +kernel
theorem dX9_init_23 : decode cX9_init 23 = .ok (.putfield 19, 3) := by decide +kernel
theorem dX9_init_26 : decode cX9_init 26 = .ok (.aload_n 0, 1) := by decide +kernel
theorem dX9_init_27 : decode cX9_init 27 = .ok (.new 23, 3) := by decide +kernel
theorem dX9_init_30 : decode cX9_init 30 = .ok (.dup, 1) := by decide +kernel
theorem dX9_init_31 : decode cX9_init 31 = .ok (.invokespecial 25, 3) := by decide +kernel
theorem dX9_init_34 : decode cX9_init 34 = .ok (.putfield 26, 3) := by decide +kernel
theorem dX9_init_37 : decode cX9_init 37 = .ok (.aload_n 0, 1) := by decide +kernel
theorem dX9_init_38 : decode cX9_init 38 = .ok (.new 30, 3) := by decide +kernel
theorem dX9_init_41 : decode cX9_init 41 = .ok (.dup, 1) := by decide +kernel
theorem dX9_init_42 : decode cX9_init 42 = .ok (.aload_n 0, 1) := by decide +kernel
theorem dX9_init_43 : decode cX9_init 43 = .ok (.getfield 26, 3) := by decide +kernel
theorem dX9_init_46 : decode cX9_init 46 = .ok (.invokespecial 32, 3) := by decide +kernel
theorem dX9_init_49 : decode cX9_init 49 = .ok (.putfield 35, 3) := by decide +kernel
theorem dX9_init_52 : decode cX9_init 52 = .ok (.aload_n 0, 1) := by decide +kernel
theorem dX9_init_53 : decode cX9_init 53 = .ok (.new 39, 3) := by decide +kernel
theorem dX9_init_56 : decode cX9_init 56 = .ok (.dup, 1) := by decide +kernel
theorem dX9_init_57 : decode cX9_init 57 = .ok (.invokespecial 41, 3) := by decide +kernel
theorem dX9_init_60 : decode cX9_init 60 = .ok (.putfield 42, 3) := by decide +kernel
theorem dX9_init_63 : decode cX9_init 63 = .ok (.aload_n 0, 1) := by decide +kernel
theorem dX9_init_64 : decode cX9_init 64 = .ok (.new 46, 3) := by decide +kernel
theorem dX9_init_67 : decode cX9_init 67 = .ok (.dup, 1) := by decide +kernel
theorem dX9_init_68 : decode cX9_init 68 = .ok (.invokespecial 48, 3) := by decide +kernel
theorem dX9_init_71 : decode cX9_init 71 = .ok (.putfield 49, 3) := by decide +kernel
theorem dX9_init_74 : decode cX9_init 74 = .ok (.aload_n 0, 1) := by decide +kernel
theorem dX9_init_75 : decode cX9_init 75 = .ok (.new 53, 3) := by decide +kernel
theorem dX9_init_78 : decode cX9_init 78 = .ok (.dup, 1) := by decide +kernel
theorem dX9_init_79 : decode cX9_init 79 = .ok (.aload_n 0, 1) := by decide +kernel
theorem dX9_init_80 : decode cX9_init 80 = .ok (.getfield 42, 3) := by decide +kernel
theorem dX9_init_83 : decode cX9_init 83 = .ok (.invokespecial 55, 3) := by decide +kernel
theorem dX9_init_86 : decode cX9_init 86 = .ok (.putfield 58, 3) := by decide +kernel
theorem dX9_init_89 : decode cX9_init 89 = .ok (.aload_n 0, 1) := by decide +kernel
theorem dX9_init_90 : decode cX9_init 90 = .ok (.new 62, 3) := by decide +kernel
theorem dX9_init_93 : decode cX9_init 93 = .ok (.dup, 1) := by decide +kernel
theorem dX9_init_94 : decode cX9_init 94 = .ok (.aload_n 0, 1) := by decide +kernel
theorem dX9_init_95 : decode cX9_init 95 = .ok (.getfield 19, 3) := by decide +kernel
theorem dX9_init_98 : decode cX9_init 98 = .ok (.aload_n 0, 1) := by decide +kernel
theorem dX9_init_99 : decode cX9_init 99 = .ok (.getfield 26, 3) := by decide +kernel
theorem dX9_init_102 : decode cX9_init 102 = .ok (.aload_n 0, 1) := by decide +kernel
theorem dX9_init_103 : decode cX9_init 103 = .ok (.getfield 35, 3) := by decide +kernel
theorem dX9_init_106 : decode cX9_init 106 = .ok (.aload_n 0, 1) := by decide +kernel
theorem dX9_init_107 : decode cX9_init 107 = .ok (.getfield 49, 3) := by decide +kernel
theorem dX9_init_110 : decode cX9_init 110 = .ok (.invokespecial 64, 3) := by decide +kernel
theorem dX9_init_113 : decode cX9_init 113 = .ok (.putfield 67, 3) := by decide +kernel
theorem dX9_init_116 : decode cX9_init 116 = .ok (.aload_n 0, 1) := by decide +kernel
theorem dX9_init_117 : decode cX9_init 117 = .ok (.new 71, 3) := by decide +kernel
theorem dX9_init_120 : decode cX9_init 120 = .ok (.dup, 1) := by decide +kernel
theorem dX9_init_121 : decode cX9_init 121 = .ok (.invokespecial 73, 3) := by decide +kernel
theorem dX9_init_124 : decode cX9_init 124 = .ok (.putfield 74, 3) := by decide +kernel
theorem dX9_init_127 : decode cX9_init 127 = .ok (.aload_n 0, 1) := by decide +kernel
theorem dX9_init_128 : decode cX9_init 128 = .ok (.bipush 10, 2) := by decide +kernel
theorem dX9_init_130 : decode cX9_init 130 = .ok (.newarray .int, 2) := by decide +kernel
theorem dX9_init_132 : decode cX9_init 132 = .ok (.putfield 78, 3) := by decide +kernel
theorem dX9_init_135 : decode cX9_init 135 = .ok (.aload_n 0, 1) := by decide +kernel
theorem dX9_init_136 : decode cX9_init 136 = .ok (.iconst 0, 1) := by decide +kernel
theorem dX9_init_137 : decode cX9_init 137 = .ok (.putfield 82, 3) := by decide +kernel
theorem dX9_init_140 : decode cX9_init 140 = .ok (.aload_n 0, 1) := by decide +kernel
theorem dX9_init_141 : decode cX9_init 141 = .ok (.getfield 49, 3) := by decide +kernel
theorem dX9_init_144 : decode cX9_init 144 = .ok (.iconst 0, 1) := by decide +kernel
theorem dX9_init_145 : decode cX9_init 145 = .ok (.iconst 0, 1) := by decide +kernel
theorem dX9_init_146 : decode cX9_init 146 = .ok (.invokevirtual 86, 3) := by decide +kernel
theorem dX9_init_149 : decode cX9_init 149 = .ok (.return_, 1) := by decide +kernel
theorem dX9_ploughman_0 : decode cX9_ploughman 0 = .ok (.iload_n 1, 1) := by decide +kernel
theorem dX9_ploughman_1 : decode cX9_ploughman 1 = .ok (.iconst 3, 1) := by decide +kernel
theorem dX9_ploughman_2 : decode cX9_ploughman 2 = .ok (.invokestatic 90, 3) := by decide +kernel
theorem dX9_ploughman_5 : decode cX9_ploughman 5 = .ok (.invokestatic 94, 3) := by decide +kernel
theorem dX9_ploughman_8 : decode cX9_ploughman 8 = .ok (.iload_n 2, 1) := by decide +kernel
theorem dX9_ploughman_9 : decode cX9_ploughman 9 = .ok (.bipush 10, 2) := by decide +kernel
theorem dX9_ploughman_11 : decode cX9_ploughman 11 = .ok (.if_icmp .lt 13, 3) := by decide +kernel
theorem dX9_ploughman_14 : decode cX9_ploughman 14 = .ok (.iload_n 2, 1) := by decide +kernel
theorem dX9_ploughman_15 : decode cX9_ploughman 15 = .ok (.bipush 99, 2) := by decide +kernel
theorem dX9_ploughman_17 : decode cX9_ploughman 17 = .ok (.if_icmp .gt 7, 3) := by decide +kernel
theorem dX9_ploughman_20 : decode cX9_ploughman 20 = .ok (.iconst 1, 1) := by decide +kernel
theorem dX9_ploughman_21 : decode cX9_ploughman 21 = .ok (.goto 4, 3) := by decide +kernel
theorem dX9_ploughman_24 : decode cX9_ploughman 24 = .ok (.iconst 0, 1) := by decide +kernel
theorem dX9_ploughman_25 : decode cX9_ploughman 25 = .ok (.invokestatic 94, 3) := by decide +kernel
theorem dX9_ploughman_28 : decode cX9_ploughman 28 = .ok (.iload_n 3, 1) := by decide +kernel
theorem dX9_ploughman_29 : decode cX9_ploughman 29 = .ok (.bipush 10, 2) := by decide +kernel
theorem dX9_ploughman_31 : decode cX9_ploughman 31 = .ok (.invokestatic 90, 3) := by decide +kernel
theorem dX9_ploughman_34 : decode cX9_ploughman 34 = .ok (.invokestatic 94, 3) := by decide +kernel
theorem dX9_ploughman_37 : decode cX9_ploughman 37 = .ok (.aload_n 0, 1) := by decide +kernel
theorem dX9_ploughman_38 : decode cX9_ploughman 38 = .ok (.getfield 19, 3) := by decide +kernel
theorem dX9_ploughman_41 : decode cX9_ploughman 41 = .ok (.invokevirtual 98, 3) := by decide +kernel
theorem dX9_ploughman_44 : decode cX9_ploughman 44 = .ok (.ifCond .ne 13, 3) := by decide +kernel
theorem dX9_ploughman_47 : decode cX9_ploughman 47 = .ok (.aload_n 0, 1) := by decide +kernel
theorem dX9_ploughman_48 : decode cX9_ploughman 48 = .ok (.getfield 19, 3) := by decide +kernel
theorem dX9_ploughman_51 : decode cX9_ploughman 51 = .ok (.invokevirtual 102, 3) := by decide +kernel
theorem dX9_ploughman_54 : decode cX9_ploughman 54 = .ok (.ifCond .eq 13, 3) := by decide +kernel
theorem dX9_ploughman_57 : decode cX9_ploughman 57 = .ok (.new 105, 3) := by decide +kernel
theorem dX9_ploughman_60 : decode cX9_ploughman 60 = .ok (.dup, 1) := by decide +kernel
theorem dX9_ploughman_61 : decode cX9_ploughman 61 = .ok (.ldc 107, 2) := by decide +kernel
theorem dX9_ploughman_63 : decode cX9_ploughman 63 = .ok (.invokespecial 109, 3) := by decide +kernel
theorem dX9_ploughman_66 : decode cX9_ploughman 66 = .ok (.athrow, 1) := by decide +kernel
theorem dX9_ploughman_67 : decode cX9_ploughman 67 = .ok (.aload_n 0, 1) := by decide +kernel
theorem dX9_ploughman_68 : decode cX9_ploughman 68 = .ok (.getfield 19, 3) := by decide +kernel
theorem dX9_ploughman_71 : decode cX9_ploughman 71 = .ok (.iload_n 1, 1) := by decide +kernel
theorem dX9_ploughman_72 : decode cX9_ploughman 72 = .ok (.iload_n 2, 1) := by decide +kernel
theorem dX9_ploughman_73 : decode cX9_ploughman 73 = .ok (.iload_n 3, 1) := by decide +kernel
theorem dX9_ploughman_74 : decode cX9_ploughman 74 = .ok (.invokevirtual 112, 3) := by decide +kernel
theorem dX9_ploughman_77 : decode cX9_ploughman 77 = .ok (.ireturn, 1) := by decide +kernel
theorem dX9_noise_0 : decode cX9_noise 0 = .ok (.aload_n 0, 1) := by decide +kernel
theorem dX9_noise_1 : decode cX9_noise 1 = .ok (.getfield 10, 3) := by decide +kernel
theorem dX9_noise_4 : decode cX9_noise 4 = .ok (.iload_n 1, 1) := by decide +kernel
theorem dX9_noise_5 : decode cX9_noise 5 = .ok (.invokevirtual 116, 3) := by decide +kernel
theorem dX9_noise_8 : decode cX9_noise 8 = .ok (.ireturn, 1) := by decide +kernel
theorem dX9_draw_0 : decode cX9_draw 0 = .ok (.aload_n 0, 1) := by decide +kernel
theorem dX9_draw_1 : decode cX9_draw 1 = .ok (.getfield 19, 3) := by decide +kernel
theorem dX9_draw_4 : decode cX9_draw 4 = .ok (.invokevirtual 98, 3) := by decide +kernel
theorem dX9_draw_7 : decode cX9_draw 7 = .ok (.ifCond .eq 13, 3) := by decide +kernel
theorem dX9_draw_10 : decode cX9_draw 10 = .ok (.new 105, 3) := by decide +kernel
theorem dX9_draw_13 : decode cX9_draw 13 = .ok (.dup, 1) := by decide +kernel
theorem dX9_draw_14 : decode cX9_draw 14 = .ok (.ldc 119, 2) := by decide +kernel
theorem dX9_draw_16 : decode cX9_draw 16 = .ok (.invokespecial 109, 3) := by decide +kernel
theorem dX9_draw_19 : decode cX9_draw 19 = .ok (.athrow, 1) := by decide +kernel
theorem dX9_draw_20 : decode cX9_draw 20 = .ok (.aload_n 0, 1) := by decide +kernel
theorem dX9_draw_21 : decode cX9_draw 21 = .ok (.getfield 19, 3) := by decide +kernel
theorem dX9_draw_24 : decode cX9_draw 24 = .ok (.invokevirtual 121, 3) := by decide +kernel
theorem dX9_draw_27 : decode cX9_draw 27 = .ok (.istore_n 1, 1) := by decide +kernel
theorem dX9_draw_28 : decode cX9_draw 28 = .ok (.iload_n 1, 1) := by decide +kernel
theorem dX9_draw_29 : decode cX9_draw 29 = .ok (.ifCond .ne 6, 3) := by decide +kernel
theorem dX9_draw_32 : decode cX9_draw 32 = .ok (.bipush (-2), 2) := by decide +kernel
theorem dX9_draw_34 : decode cX9_draw 34 = .ok (.ireturn, 1) := by decide +kernel
theorem dX9_draw_35 : decode cX9_draw 35 = .ok (.aload_n 0, 1) := by decide +kernel
theorem dX9_draw_36 : decode cX9_draw 36 = .ok (.getfield 10, 3) := by decide +kernel
theorem dX9_draw_39 : decode cX9_draw 39 = .ok (.invokevirtual 125, 3) := by decide +kernel
theorem dX9_draw_42 : decode cX9_draw 42 = .ok (.iload_n 1, 1) := by decide +kernel
theorem dX9_draw_43 : decode cX9_draw 43 = .ok (.iconst 1, 1) := by decide +kernel
theorem dX9_draw_44 : decode cX9_draw 44 = .ok (.isub, 1) := by decide +kernel
theorem dX9_draw_45 : decode cX9_draw 45 = .ok (.if_icmp .ge 5, 3) := by decide +kernel
theorem dX9_draw_48 : decode cX9_draw 48 = .ok (.iconst (-1), 1) := by decide +kernel
theorem dX9_draw_49 : decode cX9_draw 49 = .ok (.ireturn, 1) := by decide +kernel
theorem dX9_draw_50 : decode cX9_draw 50 = .ok (.aload_n 0, 1) := by decide +kernel
theorem dX9_draw_51 : decode cX9_draw 51 = .ok (.getfield 19, 3) := by decide +kernel
theorem dX9_draw_54 : decode cX9_draw 54 = .ok (.aload_n 0, 1) := by decide +kernel
theorem dX9_draw_55 : decode cX9_draw 55 = .ok (.getfield 10, 3) := by decide +kernel
theorem dX9_draw_58 : decode cX9_draw 58 = .ok (.invokevirtual 126, 3) := by decide +kernel
theorem dX9_draw_61 : decode cX9_draw 61 = .ok (.aload_n 0, 1) := by decide +kernel
theorem dX9_draw_62 : decode cX9_draw 62 = .ok (.getfield 10, 3) := by decide +kernel
theorem dX9_draw_65 : decode cX9_draw 65 = .ok (.invokevirtual 130, 3) := by decide +kernel
theorem dX9_draw_68 : decode cX9_draw 68 = .ok (.aload_n 0, 1) := by decide +kernel
theorem dX9_draw_69 : decode cX9_draw 69 = .ok (.getfield 26, 3) := by decide +kernel
theorem dX9_draw_72 : decode cX9_draw 72 = .ok (.iload_n 1, 1) := by decide +kernel
theorem dX9_draw_73 : decode cX9_draw 73 = .ok (.invokevirtual 133, 3) := by decide +kernel
theorem dX9_draw_76 : decode cX9_draw 76 = .ok (.iload_n 1, 1) := by decide +kernel
theorem dX9_draw_77 : decode cX9_draw 77 = .ok (.ireturn, 1) := by decide +kernel
theorem dX9_plot_0 : decode cX9_plot 0 = .ok (.iload_n 1, 1) := by decide +kernel
theorem dX9_plot_1 : decode cX9_plot 1 = .ok (.aload_n 0, 1) := by decide +kernel
theorem dX9_plot_2 : decode cX9_plot 2 = .ok (.getfield 19, 3) := by decide +kernel
theorem dX9_plot_5 : decode cX9_plot 5 = .ok (.invokevirtual 121, 3) := by decide +kernel
theorem dX9_plot_8 : decode cX9_plot 8 = .ok (.invokestatic 137, 3) := by decide +kernel
theorem dX9_plot_11 : decode cX9_plot 11 = .ok (.aload_n 0, 1) := by decide +kernel
theorem dX9_plot_12 : decode cX9_plot 12 = .ok (.getfield 19, 3) := by decide +kernel
theorem dX9_plot_15 : decode cX9_plot 15 = .ok (.invokevirtual 98, 3) := by decide +kernel
theorem dX9_plot_18 : decode cX9_plot 18 = .ok (.ifCond .eq 14, 3) := by decide +kernel
theorem dX9_plot_21 : decode cX9_plot 21 = .ok (.aload_n 0, 1) := by decide +kernel
theorem dX9_plot_22 : decode cX9_plot 22 = .ok (.getfield 19, 3) := by decide +kernel
theorem dX9_plot_25 : decode cX9_plot 25 = .ok (.iload_n 1, 1) := by decide +kernel
theorem dX9_plot_26 : decode cX9_plot 26 = .ok (.invokevirtual 141, 3) := by decide +kernel
theorem dX9_plot_29 : decode cX9_plot 29 = .ok (.goto 4, 3) := by decide +kernel
theorem dX9_plot_32 : decode cX9_plot 32 = .ok (.iconst (-1), 1) := by decide +kernel
theorem dX9_plot_33 : decode cX9_plot 33 = .ok (.ireturn, 1) := by decide +kernel
theorem dX9_mark_0 : decode cX9_mark 0 = .ok (.iload_n 2, 1) := by decide +kernel
theorem dX9_mark_1 : decode cX9_mark 1 = .ok (.aload_n 0, 1) := by decide +kernel
theorem dX9_mark_2 : decode cX9_mark 2 = .ok (.getfield 19, 3) := by decide +kernel
theorem dX9_mark_5 : decode cX9_mark 5 = .ok (.invokevirtual 144, 3) := by decide +kernel
theorem dX9_mark_8 : decode cX9_mark 8 = .ok (.invokestatic 137, 3) := by decide +kernel
theorem dX9_mark_11 : decode cX9_mark 11 = .ok (.iload_n 1, 1) := by decide +kernel
theorem dX9_mark_12 : decode cX9_mark 12 = .ok (.iconst 4, 1) := by decide +kernel
theorem dX9_mark_13 : decode cX9_mark 13 = .ok (.invokestatic 90, 3) := by decide +kernel
theorem dX9_mark_16 : decode cX9_mark 16 = .ok (.invokestatic 94, 3) := by decide +kernel
theorem dX9_mark_19 : decode cX9_mark 19 = .ok (.iload_n 3, 1) := by decide +kernel
theorem dX9_mark_20 : decode cX9_mark 20 = .ok (.iconst 5, 1) := by decide +kernel
theorem dX9_mark_21 : decode cX9_mark 21 = .ok (.invokestatic 90, 3) := by decide +kernel
theorem dX9_mark_24 : decode cX9_mark 24 = .ok (.invokestatic 94, 3) := by decide +kernel
theorem dX9_mark_27 : decode cX9_mark 27 = .ok (.iload 4, 2) := by decide +kernel
theorem dX9_mark_29 : decode cX9_mark 29 = .ok (.iconst (-1), 1) := by decide +kernel
theorem dX9_mark_30 : decode cX9_mark 30 = .ok (.if_icmp .lt 14, 3) := by decide +kernel
theorem dX9_mark_33 : decode cX9_mark 33 = .ok (.iload 4, 2) := by decide +kernel
theorem dX9_mark_35 : decode cX9_mark 35 = .ok (.bipush 20, 2) := by decide +kernel
theorem dX9_mark_37 : decode cX9_mark 37 = .ok (.if_icmp .gt 7, 3) := by decide +kernel
theorem dX9_mark_40 : decode cX9_mark 40 = .ok (.iconst 1, 1) := by decide +kernel
theorem dX9_mark_41 : decode cX9_mark 41 = .ok (.goto 4, 3) := by decide +kernel
theorem dX9_mark_44 : decode cX9_mark 44 = .ok (.iconst 0, 1) := by decide +kernel
theorem dX9_mark_45 : decode cX9_mark 45 = .ok (.invokestatic 94, 3) := by decide +kernel
theorem dX9_mark_48 : decode cX9_mark 48 = .ok (.aload_n 0, 1) := by decide +kernel
theorem dX9_mark_49 : decode cX9_mark 49 = .ok (.getfield 26, 3) := by decide +kernel
theorem dX9_mark_52 : decode cX9_mark 52 = .ok (.iload_n 1, 1) := by decide +kernel
theorem dX9_mark_53 : decode cX9_mark 53 = .ok (.iload_n 2, 1) := by decide +kernel
theorem dX9_mark_54 : decode cX9_mark 54 = .ok (.iload_n 3, 1) := by decide +kernel
theorem dX9_mark_55 : decode cX9_mark 55 = .ok (.iload 4, 2) := by decide +kernel
theorem dX9_mark_57 : decode cX9_mark 57 = .ok (.invokevirtual 147, 3) := by decide +kernel
theorem dX9_mark_60 : decode cX9_mark 60 = .ok (.ireturn, 1) := by decide +kernel
theorem dX9_hard_0 : decode cX9_hard 0 = .ok (.iload_n 1, 1) := by decide +kernel
theorem dX9_hard_1 : decode cX9_hard 1 = .ok (.iconst 4, 1) := by decide +kernel
theorem dX9_hard_2 : decode cX9_hard 2 = .ok (.invokestatic 90, 3) := by decide +kernel
theorem dX9_hard_5 : decode cX9_hard 5 = .ok (.invokestatic 94, 3) := by decide +kernel
theorem dX9_hard_8 : decode cX9_hard 8 = .ok (.iload_n 2, 1) := by decide +kernel
theorem dX9_hard_9 : decode cX9_hard 9 = .ok (.iconst 5, 1) := by decide +kernel
theorem dX9_hard_10 : decode cX9_hard 10 = .ok (.invokestatic 90, 3) := by decide +kernel
theorem dX9_hard_13 : decode cX9_hard 13 = .ok (.invokestatic 94, 3) := by decide +kernel
theorem dX9_hard_16 : decode cX9_hard 16 = .ok (.aload_n 0, 1) := by decide +kernel
theorem dX9_hard_17 : decode cX9_hard 17 = .ok (.getfield 26, 3) := by decide +kernel
theorem dX9_hard_20 : decode cX9_hard 20 = .ok (.iload_n 1, 1) := by decide +kernel
theorem dX9_hard_21 : decode cX9_hard 21 = .ok (.iload_n 2, 1) := by decide +kernel
theorem dX9_hard_22 : decode cX9_hard 22 = .ok (.invokevirtual 151, 3) := by decide +kernel
theorem dX9_hard_25 : decode cX9_hard 25 = .ok (.ireturn, 1) := by decide +kernel
theorem dX9_told_0 : decode cX9_told 0 = .ok (.iload_n 1, 1) := by decide +kernel
theorem dX9_told_1 : decode cX9_told 1 = .ok (.aload_n 0, 1) := by decide +kernel
theorem dX9_told_2 : decode cX9_told 2 = .ok (.getfield 19, 3) := by decide +kernel
theorem dX9_told_5 : decode cX9_told 5 = .ok (.invokevirtual 144, 3) := by decide +kernel
theorem dX9_told_8 : decode cX9_told 8 = .ok (.invokestatic 137, 3) := by decide +kernel
theorem dX9_told_11 : decode cX9_told 11 = .ok (.iload_n 2, 1) := by decide +kernel
theorem dX9_told_12 : decode cX9_told 12 = .ok (.iconst 5, 1) := by decide +kernel
theorem dX9_told_13 : decode cX9_told 13 = .ok (.invokestatic 90, 3) := by decide +kernel
theorem dX9_told_16 : decode cX9_told 16 = .ok (.invokestatic 94, 3) := by decide +kernel
theorem dX9_told_19 : decode cX9_told 19 = .ok (.aload_n 0, 1) := by decide +kernel
theorem dX9_told_20 : decode cX9_told 20 = .ok (.getfield 26, 3) := by decide +kernel
theorem dX9_told_23 : decode cX9_told 23 = .ok (.iload_n 1, 1) := by decide +kernel
theorem dX9_told_24 : decode cX9_told 24 = .ok (.iload_n 2, 1) := by decide +kernel
theorem dX9_told_25 : decode cX9_told 25 = .ok (.invokevirtual 155, 3) := by decide +kernel
theorem dX9_told_28 : decode cX9_told 28 = .ok (.ireturn, 1) := by decide +kernel
theorem dX9_about_0 : decode cX9_about 0 = .ok (.iload_n 1, 1) := by decide +kernel
theorem dX9_about_1 : decode cX9_about 1 = .ok (.aload_n 0, 1) := by decide +kernel
theorem dX9_about_2 : decode cX9_about 2 = .ok (.getfield 19, 3) := by decide +kernel
theorem dX9_about_5 : decode cX9_about 5 = .ok (.invokevirtual 144, 3) := by decide +kernel
theorem dX9_about_8 : decode cX9_about 8 = .ok (.invokestatic 137, 3) := by decide +kernel
theorem dX9_about_11 : decode cX9_about 11 = .ok (.iload_n 2, 1) := by decide +kernel
theorem dX9_about_12 : decode cX9_about 12 = .ok (.tableswitch 107 0 6 #[44, 53, 62, 71, 80, 89, 98], 44) := by decide +kernel
theorem dX9_about_56 : decode cX9_about 56 = .ok (.aload_n 0, 1) := by decide +kernel
theorem dX9_about_57 : decode cX9_about 57 = .ok (.getfield 26, 3) := by decide +kernel
theorem dX9_about_60 : decode cX9_about 60 = .ok (.iload_n 1, 1) := by decide +kernel
theorem dX9_about_61 : decode cX9_about 61 = .ok (.invokevirtual 158, 3) := by decide +kernel
theorem dX9_about_64 : decode cX9_about 64 = .ok (.ireturn, 1) := by decide +kernel
theorem dX9_about_65 : decode cX9_about 65 = .ok (.aload_n 0, 1) := by decide +kernel
theorem dX9_about_66 : decode cX9_about 66 = .ok (.getfield 26, 3) := by decide +kernel
theorem dX9_about_69 : decode cX9_about 69 = .ok (.iload_n 1, 1) := by decide +kernel
theorem dX9_about_70 : decode cX9_about 70 = .ok (.invokevirtual 161, 3) := by decide +kernel
theorem dX9_about_73 : decode cX9_about 73 = .ok (.ireturn, 1) := by decide +kernel
theorem dX9_about_74 : decode cX9_about 74 = .ok (.aload_n 0, 1) := by decide +kernel
theorem dX9_about_75 : decode cX9_about 75 = .ok (.getfield 26, 3) := by decide +kernel
theorem dX9_about_78 : decode cX9_about 78 = .ok (.iload_n 1, 1) := by decide +kernel
theorem dX9_about_79 : decode cX9_about 79 = .ok (.invokevirtual 164, 3) := by decide +kernel
theorem dX9_about_82 : decode cX9_about 82 = .ok (.ireturn, 1) := by decide +kernel
theorem dX9_about_83 : decode cX9_about 83 = .ok (.aload_n 0, 1) := by decide +kernel
theorem dX9_about_84 : decode cX9_about 84 = .ok (.getfield 35, 3) := by decide +kernel
theorem dX9_about_87 : decode cX9_about 87 = .ok (.iload_n 1, 1) := by decide +kernel
theorem dX9_about_88 : decode cX9_about 88 = .ok (.invokevirtual 167, 3) := by decide +kernel
theorem dX9_about_91 : decode cX9_about 91 = .ok (.ireturn, 1) := by decide +kernel
theorem dX9_about_92 : decode cX9_about 92 = .ok (.aload_n 0, 1) := by decide +kernel
theorem dX9_about_93 : decode cX9_about 93 = .ok (.getfield 35, 3) := by decide +kernel
theorem dX9_about_96 : decode cX9_about 96 = .ok (.iload_n 1, 1) := by decide +kernel
theorem dX9_about_97 : decode cX9_about 97 = .ok (.invokevirtual 170, 3) := by decide +kernel
theorem dX9_about_100 : decode cX9_about 100 = .ok (.ireturn, 1) := by decide +kernel
theorem dX9_about_101 : decode cX9_about 101 = .ok (.aload_n 0, 1) := by decide +kernel
theorem dX9_about_102 : decode cX9_about 102 = .ok (.getfield 35, 3) := by decide +kernel
theorem dX9_about_105 : decode cX9_about 105 = .ok (.iload_n 1, 1) := by decide +kernel
theorem dX9_about_106 : decode cX9_about 106 = .ok (.invokevirtual 173, 3) := by decide +kernel
theorem dX9_about_109 : decode cX9_about 109 = .ok (.ireturn, 1) := by decide +kernel
theorem dX9_about_110 : decode cX9_about 110 = .ok (.aload_n 0, 1) := by decide +kernel
theorem dX9_about_111 : decode cX9_about 111 = .ok (.getfield 19, 3) := by decide +kernel
theorem dX9_about_114 : decode cX9_about 114 = .ok (.iload_n 1, 1) := by decide +kernel
theorem dX9_about_115 : decode cX9_about 115 = .ok (.invokevirtual 176, 3) := by decide +kernel
theorem dX9_about_118 : decode cX9_about 118 = .ok (.ireturn, 1) := by decide +kernel
theorem dX9_about_119 : decode cX9_about 119 = .ok (.new 179, 3) := by decide +kernel
theorem dX9_about_122 : decode cX9_about 122 = .ok (.dup, 1) := by decide +kernel
theorem dX9_about_123 : decode cX9_about 123 = .ok (.ldc 181, 2) := by decide +kernel
theorem dX9_about_125 : decode cX9_about 125 = .ok (.invokespecial 183, 3) := by decide +kernel
theorem dX9_about_128 : decode cX9_about 128 = .ok (.athrow, 1) := by decide +kernel
theorem dX9_minutes_0 : decode cX9_minutes 0 = .ok (.iload_n 1, 1) := by decide +kernel
theorem dX9_minutes_1 : decode cX9_minutes 1 = .ok (.aload_n 0, 1) := by decide +kernel
theorem dX9_minutes_2 : decode cX9_minutes 2 = .ok (.getfield 19, 3) := by decide +kernel
theorem dX9_minutes_5 : decode cX9_minutes 5 = .ok (.invokevirtual 144, 3) := by decide +kernel
theorem dX9_minutes_8 : decode cX9_minutes 8 = .ok (.invokestatic 137, 3) := by decide +kernel
theorem dX9_minutes_11 : decode cX9_minutes 11 = .ok (.iload_n 2, 1) := by decide +kernel
theorem dX9_minutes_12 : decode cX9_minutes 12 = .ok (.ifCond .lt 14, 3) := by decide +kernel
theorem dX9_minutes_15 : decode cX9_minutes 15 = .ok (.iload_n 2, 1) := by decide +kernel
theorem dX9_minutes_16 : decode cX9_minutes 16 = .ok (.sipush 600, 3) := by decide +kernel
theorem dX9_minutes_19 : decode cX9_minutes 19 = .ok (.if_icmp .gt 7, 3) := by decide +kernel
theorem dX9_minutes_22 : decode cX9_minutes 22 = .ok (.iconst 1, 1) := by decide +kernel
theorem dX9_minutes_23 : decode cX9_minutes 23 = .ok (.goto 4, 3) := by decide +kernel
theorem dX9_minutes_26 : decode cX9_minutes 26 = .ok (.iconst 0, 1) := by decide +kernel
theorem dX9_minutes_27 : decode cX9_minutes 27 = .ok (.invokestatic 94, 3) := by decide +kernel
theorem dX9_minutes_30 : decode cX9_minutes 30 = .ok (.aload_n 0, 1) := by decide +kernel
theorem dX9_minutes_31 : decode cX9_minutes 31 = .ok (.getfield 35, 3) := by decide +kernel
theorem dX9_minutes_34 : decode cX9_minutes 34 = .ok (.iload_n 1, 1) := by decide +kernel
theorem dX9_minutes_35 : decode cX9_minutes 35 = .ok (.iload_n 2, 1) := by decide +kernel
theorem dX9_minutes_36 : decode cX9_minutes 36 = .ok (.invokevirtual 184, 3) := by decide +kernel
theorem dX9_minutes_39 : decode cX9_minutes 39 = .ok (.ireturn, 1) := by decide +kernel
theorem dX9_limit_0 : decode cX9_limit 0 = .ok (.iload_n 1, 1) := by decide +kernel
theorem dX9_limit_1 : decode cX9_limit 1 = .ok (.ifCond .lt 14, 3) := by decide +kernel
theorem dX9_limit_4 : decode cX9_limit 4 = .ok (.iload_n 1, 1) := by decide +kernel
theorem dX9_limit_5 : decode cX9_limit 5 = .ok (.sipush 600, 3) := by decide +kernel
theorem dX9_limit_8 : decode cX9_limit 8 = .ok (.if_icmp .gt 7, 3) := by decide +kernel
theorem dX9_limit_11 : decode cX9_limit 11 = .ok (.iconst 1, 1) := by decide +kernel
theorem dX9_limit_12 : decode cX9_limit 12 = .ok (.goto 4, 3) := by decide +kernel
theorem dX9_limit_15 : decode cX9_limit 15 = .ok (.iconst 0, 1) := by decide +kernel
theorem dX9_limit_16 : decode cX9_limit 16 = .ok (.invokestatic 94, 3) := by decide +kernel
theorem dX9_limit_19 : decode cX9_limit 19 = .ok (.aload_n 0, 1) := by decide +kernel
theorem dX9_limit_20 : decode cX9_limit 20 = .ok (.getfield 35, 3) := by decide +kernel
theorem dX9_limit_23 : decode cX9_limit 23 = .ok (.iload_n 1, 1) := by decide +kernel
theorem dX9_limit_24 : decode cX9_limit 24 = .ok (.invokevirtual 187, 3) := by decide +kernel
theorem dX9_limit_27 : decode cX9_limit 27 = .ok (.ireturn, 1) := by decide +kernel
theorem dX9_feed_0 : decode cX9_feed 0 = .ok (.aload_n 0, 1) := by decide +kernel
theorem dX9_feed_1 : decode cX9_feed 1 = .ok (.getfield 42, 3) := by decide +kernel
theorem dX9_feed_4 : decode cX9_feed 4 = .ok (.invokevirtual 190, 3) := by decide +kernel
theorem dX9_feed_7 : decode cX9_feed 7 = .ok (.ifCond .ne 5, 3) := by decide +kernel
theorem dX9_feed_10 : decode cX9_feed 10 = .ok (.iconst (-1), 1) := by decide +kernel
theorem dX9_feed_11 : decode cX9_feed 11 = .ok (.ireturn, 1) := by decide +kernel
theorem dX9_feed_12 : decode cX9_feed 12 = .ok (.aload_n 0, 1) := by decide +kernel
theorem dX9_feed_13 : decode cX9_feed 13 = .ok (.getfield 42, 3) := by decide +kernel
theorem dX9_feed_16 : decode cX9_feed 16 = .ok (.iload_n 1, 1) := by decide +kernel
theorem dX9_feed_17 : decode cX9_feed 17 = .ok (.invokevirtual 193, 3) := by decide +kernel
theorem dX9_feed_20 : decode cX9_feed 20 = .ok (.aload_n 0, 1) := by decide +kernel
theorem dX9_feed_21 : decode cX9_feed 21 = .ok (.getfield 42, 3) := by decide +kernel
theorem dX9_feed_24 : decode cX9_feed 24 = .ok (.iload_n 2, 1) := by decide +kernel
theorem dX9_feed_25 : decode cX9_feed 25 = .ok (.invokevirtual 193, 3) := by decide +kernel
theorem dX9_feed_28 : decode cX9_feed 28 = .ok (.aload_n 0, 1) := by decide +kernel
theorem dX9_feed_29 : decode cX9_feed 29 = .ok (.getfield 42, 3) := by decide +kernel
theorem dX9_feed_32 : decode cX9_feed 32 = .ok (.iload_n 3, 1) := by decide +kernel
theorem dX9_feed_33 : decode cX9_feed 33 = .ok (.invokevirtual 193, 3) := by decide +kernel
theorem dX9_feed_36 : decode cX9_feed 36 = .ok (.aload_n 0, 1) := by decide +kernel
theorem dX9_feed_37 : decode cX9_feed 37 = .ok (.getfield 42, 3) := by decide +kernel
theorem dX9_feed_40 : decode cX9_feed 40 = .ok (.iload 4, 2) := by decide +kernel
theorem dX9_feed_42 : decode cX9_feed 42 = .ok (.invokevirtual 193, 3) := by decide +kernel
theorem dX9_feed_45 : decode cX9_feed 45 = .ok (.aload_n 0, 1) := by decide +kernel
theorem dX9_feed_46 : decode cX9_feed 46 = .ok (.getfield 42, 3) := by decide +kernel
theorem dX9_feed_49 : decode cX9_feed 49 = .ok (.iload 5, 2) := by decide +kernel
theorem dX9_feed_51 : decode cX9_feed 51 = .ok (.invokevirtual 193, 3) := by decide +kernel
theorem dX9_feed_54 : decode cX9_feed 54 = .ok (.aload_n 0, 1) := by decide +kernel
theorem dX9_feed_55 : decode cX9_feed 55 = .ok (.getfield 42, 3) := by decide +kernel
theorem dX9_feed_58 : decode cX9_feed 58 = .ok (.invokevirtual 195, 3) := by decide +kernel
theorem dX9_feed_61 : decode cX9_feed 61 = .ok (.ireturn, 1) := by decide +kernel
theorem dX9_rule_0 : decode cX9_rule 0 = .ok (.iload_n 1, 1) := by decide +kernel
theorem dX9_rule_1 : decode cX9_rule 1 = .ok (.ifCond .lt 18, 3) := by decide +kernel
theorem dX9_rule_4 : decode cX9_rule 4 = .ok (.iload_n 1, 1) := by decide +kernel
theorem dX9_rule_5 : decode cX9_rule 5 = .ok (.aload_n 0, 1) := by decide +kernel
theorem dX9_rule_6 : decode cX9_rule 6 = .ok (.getfield 42, 3) := by decide +kernel
theorem dX9_rule_9 : decode cX9_rule 9 = .ok (.invokevirtual 195, 3) := by decide +kernel
theorem dX9_rule_12 : decode cX9_rule 12 = .ok (.if_icmp .gt 7, 3) := by decide +kernel
theorem dX9_rule_15 : decode cX9_rule 15 = .ok (.iconst 1, 1) := by decide +kernel
theorem dX9_rule_16 : decode cX9_rule 16 = .ok (.goto 4, 3) := by decide +kernel
theorem dX9_rule_19 : decode cX9_rule 19 = .ok (.iconst 0, 1) := by decide +kernel
theorem dX9_rule_20 : decode cX9_rule 20 = .ok (.invokestatic 94, 3) := by decide +kernel
theorem dX9_rule_23 : decode cX9_rule 23 = .ok (.aload_n 0, 1) := by decide +kernel
theorem dX9_rule_24 : decode cX9_rule 24 = .ok (.getfield 42, 3) := by decide +kernel
theorem dX9_rule_27 : decode cX9_rule 27 = .ok (.iload_n 1, 1) := by decide +kernel
theorem dX9_rule_28 : decode cX9_rule 28 = .ok (.invokevirtual 196, 3) := by decide +kernel
theorem dX9_rule_31 : decode cX9_rule 31 = .ok (.aload_n 0, 1) := by decide +kernel
theorem dX9_rule_32 : decode cX9_rule 32 = .ok (.getfield 58, 3) := by decide +kernel
theorem dX9_rule_35 : decode cX9_rule 35 = .ok (.invokevirtual 199, 3) := by decide +kernel
theorem dX9_rule_38 : decode cX9_rule 38 = .ok (.istore_n 2, 1) := by decide +kernel
theorem dX9_rule_39 : decode cX9_rule 39 = .ok (.aload_n 0, 1) := by decide +kernel
theorem dX9_rule_40 : decode cX9_rule 40 = .ok (.getfield 42, 3) := by decide +kernel
theorem dX9_rule_43 : decode cX9_rule 43 = .ok (.iconst 0, 1) := by decide +kernel
theorem dX9_rule_44 : decode cX9_rule 44 = .ok (.invokevirtual 196, 3) := by decide +kernel
theorem dX9_rule_47 : decode cX9_rule 47 = .ok (.iload_n 2, 1) := by decide +kernel
theorem dX9_rule_48 : decode cX9_rule 48 = .ok (.ifCond .ne 14, 3) := by decide +kernel
theorem dX9_rule_51 : decode cX9_rule 51 = .ok (.bipush (-2), 2) := by decide +kernel
theorem dX9_rule_53 : decode cX9_rule 53 = .ok (.aload_n 0, 1) := by decide +kernel
theorem dX9_rule_54 : decode cX9_rule 54 = .ok (.getfield 58, 3) := by decide +kernel
theorem dX9_rule_57 : decode cX9_rule 57 = .ok (.invokevirtual 202, 3) := by decide +kernel
theorem dX9_rule_60 : decode cX9_rule 60 = .ok (.isub, 1) := by decide +kernel
theorem dX9_rule_61 : decode cX9_rule 61 = .ok (.ireturn, 1) := by decide +kernel
theorem dX9_rule_62 : decode cX9_rule 62 = .ok (.aload_n 0, 1) := by decide +kernel
theorem dX9_rule_63 : decode cX9_rule 63 = .ok (.getfield 49, 3) := by decide +kernel
theorem dX9_rule_66 : decode cX9_rule 66 = .ok (.aload_n 0, 1) := by decide +kernel
theorem dX9_rule_67 : decode cX9_rule 67 = .ok (.getfield 58, 3) := by decide +kernel
theorem dX9_rule_70 : decode cX9_rule 70 = .ok (.invokevirtual 205, 3) := by decide +kernel
theorem dX9_rule_73 : decode cX9_rule 73 = .ok (.invokevirtual 209, 3) := by decide +kernel
theorem dX9_rule_76 : decode cX9_rule 76 = .ok (.aload_n 0, 1) := by decide +kernel
theorem dX9_rule_77 : decode cX9_rule 77 = .ok (.getfield 49, 3) := by decide +kernel
theorem dX9_rule_80 : decode cX9_rule 80 = .ok (.invokevirtual 213, 3) := by decide +kernel
theorem dX9_rule_83 : decode cX9_rule 83 = .ok (.ireturn, 1) := by decide +kernel
theorem dX9_rank_0 : decode cX9_rank 0 = .ok (.iload_n 1, 1) := by decide +kernel
theorem dX9_rank_1 : decode cX9_rank 1 = .ok (.iconst 3, 1) := by decide +kernel
theorem dX9_rank_2 : decode cX9_rank 2 = .ok (.invokestatic 90, 3) := by decide +kernel
theorem dX9_rank_5 : decode cX9_rank 5 = .ok (.invokestatic 94, 3) := by decide +kernel
theorem dX9_rank_8 : decode cX9_rank 8 = .ok (.aload_n 0, 1) := by decide +kernel
theorem dX9_rank_9 : decode cX9_rank 9 = .ok (.getfield 19, 3) := by decide +kernel
theorem dX9_rank_12 : decode cX9_rank 12 = .ok (.invokevirtual 98, 3) := by decide +kernel
theorem dX9_rank_15 : decode cX9_rank 15 = .ok (.ifCond .ne 5, 3) := by decide +kernel
theorem dX9_rank_18 : decode cX9_rank 18 = .ok (.iconst (-1), 1) := by decide +kernel
theorem dX9_rank_19 : decode cX9_rank 19 = .ok (.ireturn, 1) := by decide +kernel
theorem dX9_rank_20 : decode cX9_rank 20 = .ok (.aload_n 0, 1) := by decide +kernel
theorem dX9_rank_21 : decode cX9_rank 21 = .ok (.getfield 67, 3) := by decide +kernel
theorem dX9_rank_24 : decode cX9_rank 24 = .ok (.iload_n 1, 1) := by decide +kernel
theorem dX9_rank_25 : decode cX9_rank 25 = .ok (.invokevirtual 214, 3) := by decide +kernel
theorem dX9_rank_28 : decode cX9_rank 28 = .ok (.aload_n 0, 1) := by decide +kernel
theorem dX9_rank_29 : decode cX9_rank 29 = .ok (.getfield 67, 3) := by decide +kernel
theorem dX9_rank_32 : decode cX9_rank 32 = .ok (.iload_n 2, 1) := by decide +kernel
theorem dX9_rank_33 : decode cX9_rank 33 = .ok (.invokevirtual 217, 3) := by decide +kernel
theorem dX9_rank_36 : decode cX9_rank 36 = .ok (.ireturn, 1) := by decide +kernel
theorem dX9_protest_0 : decode cX9_protest 0 = .ok (.iload_n 1, 1) := by decide +kernel
theorem dX9_protest_1 : decode cX9_protest 1 = .ok (.aload_n 0, 1) := by decide +kernel
theorem dX9_protest_2 : decode cX9_protest 2 = .ok (.getfield 19, 3) := by decide +kernel
theorem dX9_protest_5 : decode cX9_protest 5 = .ok (.invokevirtual 144, 3) := by decide +kernel
theorem dX9_protest_8 : decode cX9_protest 8 = .ok (.invokestatic 137, 3) := by decide +kernel
theorem dX9_protest_11 : decode cX9_protest 11 = .ok (.iload_n 2, 1) := by decide +kernel
theorem dX9_protest_12 : decode cX9_protest 12 = .ok (.iconst 1, 1) := by decide +kernel
theorem dX9_protest_13 : decode cX9_protest 13 = .ok (.if_icmp .lt 14, 3) := by decide +kernel
theorem dX9_protest_16 : decode cX9_protest 16 = .ok (.iload_n 2, 1) := by decide +kernel
theorem dX9_protest_17 : decode cX9_protest 17 = .ok (.sipush 1000, 3) := by decide +kernel
theorem dX9_protest_20 : decode cX9_protest 20 = .ok (.if_icmp .gt 7, 3) := by decide +kernel
theorem dX9_protest_23 : decode cX9_protest 23 = .ok (.iconst 1, 1) := by decide +kernel
theorem dX9_protest_24 : decode cX9_protest 24 = .ok (.goto 4, 3) := by decide +kernel
theorem dX9_protest_27 : decode cX9_protest 27 = .ok (.iconst 0, 1) := by decide +kernel
theorem dX9_protest_28 : decode cX9_protest 28 = .ok (.invokestatic 94, 3) := by decide +kernel
theorem dX9_protest_31 : decode cX9_protest 31 = .ok (.aload_n 0, 1) := by decide +kernel
theorem dX9_protest_32 : decode cX9_protest 32 = .ok (.getfield 35, 3) := by decide +kernel
theorem dX9_protest_35 : decode cX9_protest 35 = .ok (.iload_n 1, 1) := by decide +kernel
theorem dX9_protest_36 : decode cX9_protest 36 = .ok (.iload_n 2, 1) := by decide +kernel
theorem dX9_protest_37 : decode cX9_protest 37 = .ok (.invokevirtual 220, 3) := by decide +kernel
theorem dX9_protest_40 : decode cX9_protest 40 = .ok (.ireturn, 1) := by decide +kernel
theorem dX9_publish_0 : decode cX9_publish 0 = .ok (.aload_n 0, 1) := by decide +kernel
theorem dX9_publish_1 : decode cX9_publish 1 = .ok (.getfield 19, 3) := by decide +kernel
theorem dX9_publish_4 : decode cX9_publish 4 = .ok (.invokevirtual 98, 3) := by decide +kernel
theorem dX9_publish_7 : decode cX9_publish 7 = .ok (.ifCond .ne 5, 3) := by decide +kernel
theorem dX9_publish_10 : decode cX9_publish 10 = .ok (.iconst (-1), 1) := by decide +kernel
theorem dX9_publish_11 : decode cX9_publish 11 = .ok (.ireturn, 1) := by decide +kernel
theorem dX9_publish_12 : decode cX9_publish 12 = .ok (.aload_n 0, 1) := by decide +kernel
theorem dX9_publish_13 : decode cX9_publish 13 = .ok (.getfield 78, 3) := by decide +kernel
theorem dX9_publish_16 : decode cX9_publish 16 = .ok (.iconst 0, 1) := by decide +kernel
theorem dX9_publish_17 : decode cX9_publish 17 = .ok (.invokestatic 223, 3) := by decide +kernel
theorem dX9_publish_20 : decode cX9_publish 20 = .ok (.iconst 0, 1) := by decide +kernel
theorem dX9_publish_21 : decode cX9_publish 21 = .ok (.istore_n 1, 1) := by decide +kernel
theorem dX9_publish_22 : decode cX9_publish 22 = .ok (.iload_n 1, 1) := by decide +kernel
theorem dX9_publish_23 : decode cX9_publish 23 = .ok (.iconst 3, 1) := by decide +kernel
theorem dX9_publish_24 : decode cX9_publish 24 = .ok (.if_icmp .ge 14, 3) := by decide +kernel
theorem dX9_publish_27 : decode cX9_publish 27 = .ok (.aload_n 0, 1) := by decide +kernel
theorem dX9_publish_28 : decode cX9_publish 28 = .ok (.iload_n 1, 1) := by decide +kernel
theorem dX9_publish_29 : decode cX9_publish 29 = .ok (.invokevirtual 229, 3) := by decide +kernel
theorem dX9_publish_32 : decode cX9_publish 32 = .ok (.iinc 1 1, 3) := by decide +kernel
theorem dX9_publish_35 : decode cX9_publish 35 = .ok (.goto (-13), 3) := by decide +kernel
theorem dX9_publish_38 : decode cX9_publish 38 = .ok (.aload_n 0, 1) := by decide +kernel
theorem dX9_publish_39 : decode cX9_publish 39 = .ok (.getfield 74, 3) := by decide +kernel
theorem dX9_publish_42 : decode cX9_publish 42 = .ok (.aload_n 0, 1) := by decide +kernel
theorem dX9_publish_43 : decode cX9_publish 43 = .ok (.getfield 82, 3) := by decide +kernel
theorem dX9_publish_46 : decode cX9_publish 46 = .ok (.aload_n 0, 1) := by decide +kernel
theorem dX9_publish_47 : decode cX9_publish 47 = .ok (.getfield 78, 3) := by decide +kernel
theorem dX9_publish_50 : decode cX9_publish 50 = .ok (.invokevirtual 232, 3) := by decide +kernel
theorem dX9_publish_53 : decode cX9_publish 53 = .ok (.ireturn, 1) := by decide +kernel
theorem dX9_points_0 : decode cX9_points 0 = .ok (.iload_n 1, 1) := by decide +kernel
theorem dX9_points_1 : decode cX9_points 1 = .ok (.bipush 10, 2) := by decide +kernel
theorem dX9_points_3 : decode cX9_points 3 = .ok (.invokestatic 90, 3) := by decide +kernel
theorem dX9_points_6 : decode cX9_points 6 = .ok (.invokestatic 94, 3) := by decide +kernel
theorem dX9_points_9 : decode cX9_points 9 = .ok (.aload_n 0, 1) := by decide +kernel
theorem dX9_points_10 : decode cX9_points 10 = .ok (.getfield 74, 3) := by decide +kernel
theorem dX9_points_13 : decode cX9_points 13 = .ok (.iload_n 1, 1) := by decide +kernel
theorem dX9_points_14 : decode cX9_points 14 = .ok (.iload_n 2, 1) := by decide +kernel
theorem dX9_points_15 : decode cX9_points 15 = .ok (.invokevirtual 236, 3) := by decide +kernel
theorem dX9_points_18 : decode cX9_points 18 = .ok (.ireturn, 1) := by decide +kernel
theorem dX9_line_0 : decode cX9_line 0 = .ok (.iload_n 1, 1) := by decide +kernel
theorem dX9_line_1 : decode cX9_line 1 = .ok (.aload_n 0, 1) := by decide +kernel
theorem dX9_line_2 : decode cX9_line 2 = .ok (.getfield 74, 3) := by decide +kernel
theorem dX9_line_5 : decode cX9_line 5 = .ok (.invokevirtual 239, 3) := by decide +kernel
theorem dX9_line_8 : decode cX9_line 8 = .ok (.invokestatic 137, 3) := by decide +kernel
theorem dX9_line_11 : decode cX9_line 11 = .ok (.iload_n 2, 1) := by decide +kernel
theorem dX9_line_12 : decode cX9_line 12 = .ok (.tableswitch 55 0 2 #[28, 37, 46], 28) := by decide +kernel
theorem dX9_line_40 : decode cX9_line 40 = .ok (.aload_n 0, 1) := by decide +kernel
theorem dX9_line_41 : decode cX9_line 41 = .ok (.getfield 74, 3) := by decide +kernel
theorem dX9_line_44 : decode cX9_line 44 = .ok (.iload_n 1, 1) := by decide +kernel
theorem dX9_line_45 : decode cX9_line 45 = .ok (.invokevirtual 240, 3) := by decide +kernel
theorem dX9_line_48 : decode cX9_line 48 = .ok (.ireturn, 1) := by decide +kernel
theorem dX9_line_49 : decode cX9_line 49 = .ok (.aload_n 0, 1) := by decide +kernel
theorem dX9_line_50 : decode cX9_line 50 = .ok (.getfield 74, 3) := by decide +kernel
theorem dX9_line_53 : decode cX9_line 53 = .ok (.iload_n 1, 1) := by decide +kernel
theorem dX9_line_54 : decode cX9_line 54 = .ok (.invokevirtual 243, 3) := by decide +kernel
theorem dX9_line_57 : decode cX9_line 57 = .ok (.ireturn, 1) := by decide +kernel
theorem dX9_line_58 : decode cX9_line 58 = .ok (.aload_n 0, 1) := by decide +kernel
theorem dX9_line_59 : decode cX9_line 59 = .ok (.getfield 74, 3) := by decide +kernel
theorem dX9_line_62 : decode cX9_line 62 = .ok (.iload_n 1, 1) := by decide +kernel
theorem dX9_line_63 : decode cX9_line 63 = .ok (.invokevirtual 246, 3) := by decide +kernel
theorem dX9_line_66 : decode cX9_line 66 = .ok (.ireturn, 1) := by decide +kernel
theorem dX9_line_67 : decode cX9_line 67 = .ok (.new 179, 3) := by decide +kernel
theorem dX9_line_70 : decode cX9_line 70 = .ok (.dup, 1) := by decide +kernel
theorem dX9_line_71 : decode cX9_line 71 = .ok (.ldc 249, 2) := by decide +kernel
theorem dX9_line_73 : decode cX9_line 73 = .ok (.invokespecial 183, 3) := by decide +kernel
theorem dX9_line_76 : decode cX9_line 76 = .ok (.athrow, 1) := by decide +kernel
theorem dX9_wait_0 : decode cX9_wait 0 = .ok (.iload_n 1, 1) := by decide +kernel
theorem dX9_wait_1 : decode cX9_wait 1 = .ok (.ifCond .lt 14, 3) := by decide +kernel
theorem dX9_wait_4 : decode cX9_wait 4 = .ok (.iload_n 1, 1) := by decide +kernel
theorem dX9_wait_5 : decode cX9_wait 5 = .ok (.sipush 1000, 3) := by decide +kernel
theorem dX9_wait_8 : decode cX9_wait 8 = .ok (.if_icmp .gt 7, 3) := by decide +kernel
theorem dX9_wait_11 : decode cX9_wait 11 = .ok (.iconst 1, 1) := by decide +kernel
theorem dX9_wait_12 : decode cX9_wait 12 = .ok (.goto 4, 3) := by decide +kernel
theorem dX9_wait_15 : decode cX9_wait 15 = .ok (.iconst 0, 1) := by decide +kernel
theorem dX9_wait_16 : decode cX9_wait 16 = .ok (.invokestatic 94, 3) := by decide +kernel
theorem dX9_wait_19 : decode cX9_wait 19 = .ok (.aload_n 0, 1) := by decide +kernel
theorem dX9_wait_20 : decode cX9_wait 20 = .ok (.dup, 1) := by decide +kernel
theorem dX9_wait_21 : decode cX9_wait 21 = .ok (.getfield 82, 3) := by decide +kernel
theorem dX9_wait_24 : decode cX9_wait 24 = .ok (.iload_n 1, 1) := by decide +kernel
theorem dX9_wait_25 : decode cX9_wait 25 = .ok (.iadd, 1) := by decide +kernel
theorem dX9_wait_26 : decode cX9_wait 26 = .ok (.putfield 82, 3) := by decide +kernel
theorem dX9_wait_29 : decode cX9_wait 29 = .ok (.aload_n 0, 1) := by decide +kernel
theorem dX9_wait_30 : decode cX9_wait 30 = .ok (.getfield 82, 3) := by decide +kernel
theorem dX9_wait_33 : decode cX9_wait 33 = .ok (.ireturn, 1) := by decide +kernel
theorem dX9_count_0 : decode cX9_count 0 = .ok (.iload_n 1, 1) := by decide +kernel
theorem dX9_count_1 : decode cX9_count 1 = .ok (.tableswitch 108 0 7 #[47, 55, 63, 71, 79, 87, 92, 100], 47) := by decide +kernel
theorem dX9_count_48 : decode cX9_count 48 = .ok (.aload_n 0, 1) := by decide +kernel
theorem dX9_count_49 : decode cX9_count 49 = .ok (.getfield 19, 3) := by decide +kernel
theorem dX9_count_52 : decode cX9_count 52 = .ok (.invokevirtual 121, 3) := by decide +kernel
theorem dX9_count_55 : decode cX9_count 55 = .ok (.ireturn, 1) := by decide +kernel
theorem dX9_count_56 : decode cX9_count 56 = .ok (.aload_n 0, 1) := by decide +kernel
theorem dX9_count_57 : decode cX9_count 57 = .ok (.getfield 19, 3) := by decide +kernel
theorem dX9_count_60 : decode cX9_count 60 = .ok (.invokevirtual 144, 3) := by decide +kernel
theorem dX9_count_63 : decode cX9_count 63 = .ok (.ireturn, 1) := by decide +kernel
theorem dX9_count_64 : decode cX9_count 64 = .ok (.aload_n 0, 1) := by decide +kernel
theorem dX9_count_65 : decode cX9_count 65 = .ok (.getfield 26, 3) := by decide +kernel
theorem dX9_count_68 : decode cX9_count 68 = .ok (.invokevirtual 251, 3) := by decide +kernel
theorem dX9_count_71 : decode cX9_count 71 = .ok (.ireturn, 1) := by decide +kernel
theorem dX9_count_72 : decode cX9_count 72 = .ok (.aload_n 0, 1) := by decide +kernel
theorem dX9_count_73 : decode cX9_count 73 = .ok (.getfield 49, 3) := by decide +kernel
theorem dX9_count_76 : decode cX9_count 76 = .ok (.invokevirtual 213, 3) := by decide +kernel
theorem dX9_count_79 : decode cX9_count 79 = .ok (.ireturn, 1) := by decide +kernel
theorem dX9_count_80 : decode cX9_count 80 = .ok (.aload_n 0, 1) := by decide +kernel
theorem dX9_count_81 : decode cX9_count 81 = .ok (.getfield 74, 3) := by decide +kernel
theorem dX9_count_84 : decode cX9_count 84 = .ok (.invokevirtual 239, 3) := by decide +kernel
theorem dX9_count_87 : decode cX9_count 87 = .ok (.ireturn, 1) := by decide +kernel
theorem dX9_count_88 : decode cX9_count 88 = .ok (.aload_n 0, 1) := by decide +kernel
theorem dX9_count_89 : decode cX9_count 89 = .ok (.getfield 82, 3) := by decide +kernel
theorem dX9_count_92 : decode cX9_count 92 = .ok (.ireturn, 1) := by decide +kernel
theorem dX9_count_93 : decode cX9_count 93 = .ok (.aload_n 0, 1) := by decide +kernel
theorem dX9_count_94 : decode cX9_count 94 = .ok (.getfield 10, 3) := by decide +kernel
theorem dX9_count_97 : decode cX9_count 97 = .ok (.invokevirtual 125, 3) := by decide +kernel
theorem dX9_count_100 : decode cX9_count 100 = .ok (.ireturn, 1) := by decide +kernel
theorem dX9_count_101 : decode cX9_count 101 = .ok (.aload_n 0, 1) := by decide +kernel
theorem dX9_count_102 : decode cX9_count 102 = .ok (.getfield 42, 3) := by decide +kernel
theorem dX9_count_105 : decode cX9_count 105 = .ok (.invokevirtual 195, 3) := by decide +kernel
theorem dX9_count_108 : decode cX9_count 108 = .ok (.ireturn, 1) := by decide +kernel
theorem dX9_count_109 : decode cX9_count 109 = .ok (.iconst (-1), 1) := by decide +kernel
theorem dX9_count_110 : decode cX9_count 110 = .ok (.ireturn, 1) := by decide +kernel
theorem dX9_awardPrizes_0 : decode cX9_awardPrizes 0 = .ok (.aload_n 0, 1) := by decide +kernel
theorem dX9_awardPrizes_1 : decode cX9_awardPrizes 1 = .ok (.getfield 67, 3) := by decide +kernel
theorem dX9_awardPrizes_4 : decode cX9_awardPrizes 4 = .ok (.iload_n 1, 1) := by decide +kernel
theorem dX9_awardPrizes_5 : decode cX9_awardPrizes 5 = .ok (.invokevirtual 214, 3) := by decide +kernel
theorem dX9_awardPrizes_8 : decode cX9_awardPrizes 8 = .ok (.getstatic 252, 3) := by decide +kernel
theorem dX9_awardPrizes_11 : decode cX9_awardPrizes 11 = .ok (.arraylength, 1) := by decide +kernel
theorem dX9_awardPrizes_12 : decode cX9_awardPrizes 12 = .ok (.aload_n 0, 1) := by decide +kernel
theorem dX9_awardPrizes_13 : decode cX9_awardPrizes 13 = .ok (.getfield 67, 3) := by decide +kernel
theorem dX9_awardPrizes_16 : decode cX9_awardPrizes 16 = .ok (.invokevirtual 255, 3) := by decide +kernel
theorem dX9_awardPrizes_19 : decode cX9_awardPrizes 19 = .ok (.invokestatic 256, 3) := by decide +kernel
theorem dX9_awardPrizes_22 : decode cX9_awardPrizes 22 = .ok (.istore_n 2, 1) := by decide +kernel
theorem dX9_awardPrizes_23 : decode cX9_awardPrizes 23 = .ok (.iconst 0, 1) := by decide +kernel
theorem dX9_awardPrizes_24 : decode cX9_awardPrizes 24 = .ok (.istore_n 3, 1) := by decide +kernel
theorem dX9_awardPrizes_25 : decode cX9_awardPrizes 25 = .ok (.iload_n 3, 1) := by decide +kernel
theorem dX9_awardPrizes_26 : decode cX9_awardPrizes 26 = .ok (.iload_n 2, 1) := by decide +kernel
theorem dX9_awardPrizes_27 : decode cX9_awardPrizes 27 = .ok (.if_icmp .ge 37, 3) := by decide +kernel
theorem dX9_awardPrizes_30 : decode cX9_awardPrizes 30 = .ok (.aload_n 0, 1) := by decide +kernel
theorem dX9_awardPrizes_31 : decode cX9_awardPrizes 31 = .ok (.getfield 78, 3) := by decide +kernel
theorem dX9_awardPrizes_34 : decode cX9_awardPrizes 34 = .ok (.aload_n 0, 1) := by decide +kernel
theorem dX9_awardPrizes_35 : decode cX9_awardPrizes 35 = .ok (.getfield 19, 3) := by decide +kernel
theorem dX9_awardPrizes_38 : decode cX9_awardPrizes 38 = .ok (.aload_n 0, 1) := by decide +kernel
theorem dX9_awardPrizes_39 : decode cX9_awardPrizes 39 = .ok (.getfield 67, 3) := by decide +kernel
theorem dX9_awardPrizes_42 : decode cX9_awardPrizes 42 = .ok (.iload_n 3, 1) := by decide +kernel
theorem dX9_awardPrizes_43 : decode cX9_awardPrizes 43 = .ok (.invokevirtual 217, 3) := by decide +kernel
theorem dX9_awardPrizes_46 : decode cX9_awardPrizes 46 = .ok (.invokevirtual 261, 3) := by decide +kernel
theorem dX9_awardPrizes_49 : decode cX9_awardPrizes 49 = .ok (.dup2, 1) := by decide +kernel
theorem dX9_awardPrizes_50 : decode cX9_awardPrizes 50 = .ok (.iaload, 1) := by decide +kernel
theorem dX9_awardPrizes_51 : decode cX9_awardPrizes 51 = .ok (.getstatic 252, 3) := by decide +kernel
theorem dX9_awardPrizes_54 : decode cX9_awardPrizes 54 = .ok (.iload_n 3, 1) := by decide +kernel
theorem dX9_awardPrizes_55 : decode cX9_awardPrizes 55 = .ok (.iaload, 1) := by decide +kernel
theorem dX9_awardPrizes_56 : decode cX9_awardPrizes 56 = .ok (.iadd, 1) := by decide +kernel
theorem dX9_awardPrizes_57 : decode cX9_awardPrizes 57 = .ok (.iastore, 1) := by decide +kernel
theorem dX9_awardPrizes_58 : decode cX9_awardPrizes 58 = .ok (.iinc 3 1, 3) := by decide +kernel
theorem dX9_awardPrizes_61 : decode cX9_awardPrizes 61 = .ok (.goto (-36), 3) := by decide +kernel
theorem dX9_awardPrizes_64 : decode cX9_awardPrizes 64 = .ok (.return_, 1) := by decide +kernel
theorem dX9_isBelow_0 : decode cX9_isBelow 0 = .ok (.iload_n 0, 1) := by decide +kernel
theorem dX9_isBelow_1 : decode cX9_isBelow 1 = .ok (.ifCond .lt 12, 3) := by decide +kernel
theorem dX9_isBelow_4 : decode cX9_isBelow 4 = .ok (.iload_n 0, 1) := by decide +kernel
theorem dX9_isBelow_5 : decode cX9_isBelow 5 = .ok (.iload_n 1, 1) := by decide +kernel
theorem dX9_isBelow_6 : decode cX9_isBelow 6 = .ok (.if_icmp .ge 7, 3) := by decide +kernel
theorem dX9_isBelow_9 : decode cX9_isBelow 9 = .ok (.iconst 1, 1) := by decide +kernel
theorem dX9_isBelow_10 : decode cX9_isBelow 10 = .ok (.goto 4, 3) := by decide +kernel
theorem dX9_isBelow_13 : decode cX9_isBelow 13 = .ok (.iconst 0, 1) := by decide +kernel
theorem dX9_isBelow_14 : decode cX9_isBelow 14 = .ok (.ireturn, 1) := by decide +kernel
theorem dX9_requireArgument_0 : decode cX9_requireArgument 0 = .ok (.iload_n 0, 1) := by decide +kernel
theorem dX9_requireArgument_1 : decode cX9_requireArgument 1 = .ok (.ifCond .ne 14, 3) := by decide +kernel
theorem dX9_requireArgument_4 : decode cX9_requireArgument 4 = .ok (.new 179, 3) := by decide +kernel
theorem dX9_requireArgument_7 : decode cX9_requireArgument 7 = .ok (.dup, 1) := by decide +kernel
theorem dX9_requireArgument_8 : decode cX9_requireArgument 8 = .ok (.ldc_w 264, 3) := by decide +kernel
theorem dX9_requireArgument_11 : decode cX9_requireArgument 11 = .ok (.invokespecial 183, 3) := by decide +kernel
theorem dX9_requireArgument_14 : decode cX9_requireArgument 14 = .ok (.athrow, 1) := by decide +kernel
theorem dX9_requireArgument_15 : decode cX9_requireArgument 15 = .ok (.return_, 1) := by decide +kernel
theorem dX9_requireIndex_0 : decode cX9_requireIndex 0 = .ok (.iload_n 0, 1) := by decide +kernel
theorem dX9_requireIndex_1 : decode cX9_requireIndex 1 = .ok (.iload_n 1, 1) := by decide +kernel
theorem dX9_requireIndex_2 : decode cX9_requireIndex 2 = .ok (.invokestatic 90, 3) := by decide +kernel
theorem dX9_requireIndex_5 : decode cX9_requireIndex 5 = .ok (.ifCond .ne 14, 3) := by decide +kernel
theorem dX9_requireIndex_8 : decode cX9_requireIndex 8 = .ok (.new 266, 3) := by decide +kernel
theorem dX9_requireIndex_11 : decode cX9_requireIndex 11 = .ok (.dup, 1) := by decide +kernel
theorem dX9_requireIndex_12 : decode cX9_requireIndex 12 = .ok (.ldc_w 268, 3) := by decide +kernel
theorem dX9_requireIndex_15 : decode cX9_requireIndex 15 = .ok (.invokespecial 270, 3) := by decide +kernel
theorem dX9_requireIndex_18 : decode cX9_requireIndex 18 = .ok (.athrow, 1) := by decide +kernel
theorem dX9_requireIndex_19 : decode cX9_requireIndex 19 = .ok (.return_, 1) := by decide +kernel
theorem dX10_init_0 : decode cX10_init 0 = .ok (.aload_n 0, 1) := by decide +kernel
theorem dX10_init_1 : decode cX10_init 1 = .ok (.invokespecial 1, 3) := by decide +kernel
theorem dX10_init_4 : decode cX10_init 4 = .ok (.aload_n 0, 1) := by decide +kernel
theorem dX10_init_5 : decode cX10_init 5 = .ok (.bipush 24, 2) := by decide +kernel
theorem dX10_init_7 : decode cX10_init 7 = .ok (.newarray .int, 2) := by decide +kernel
theorem dX10_init_9 : decode cX10_init 9 = .ok (.putfield 9, 3) := by decide +kernel
theorem dX10_init_12 : decode cX10_init 12 = .ok (.aload_n 0, 1) := by decide +kernel
theorem dX10_init_13 : decode cX10_init 13 = .ok (.bipush 24, 2) := by decide +kernel
theorem dX10_init_15 : decode cX10_init 15 = .ok (.newarray .int, 2) := by decide +kernel
theorem dX10_init_17 : decode cX10_init 17 = .ok (.putfield 13, 3) := by decide +kernel
theorem dX10_init_20 : decode cX10_init 20 = .ok (.aload_n 0, 1) := by decide +kernel
theorem dX10_init_21 : decode cX10_init 21 = .ok (.bipush 24, 2) := by decide +kernel
theorem dX10_init_23 : decode cX10_init 23 = .ok (.newarray .int, 2) := by decide +kernel
theorem dX10_init_25 : decode cX10_init 25 = .ok (.putfield 16, 3) := by decide +kernel
theorem dX10_init_28 : decode cX10_init 28 = .ok (.aload_n 0, 1) := by decide +kernel
theorem dX10_init_29 : decode cX10_init 29 = .ok (.bipush 30, 2) := by decide +kernel
theorem dX10_init_31 : decode cX10_init 31 = .ok (.newarray .int, 2) := by decide +kernel
theorem dX10_init_33 : decode cX10_init 33 = .ok (.putfield 19, 3) := by decide +kernel
theorem dX10_init_36 : decode cX10_init 36 = .ok (.aload_n 0, 1) := by decide +kernel
theorem dX10_init_37 : decode cX10_init 37 = .ok (.bipush 24, 2) := by decide +kernel
theorem dX10_init_39 : decode cX10_init 39 = .ok (.newarray .int, 2) := by decide +kernel
theorem dX10_init_41 : decode cX10_init 41 = .ok (.putfield 22, 3) := by decide +kernel
theorem dX10_init_44 : decode cX10_init 44 = .ok (.aload_n 0, 1) := by decide +kernel
theorem dX10_init_45 : decode cX10_init 45 = .ok (.sipush 480, 3) := by decide +kernel
theorem dX10_init_48 : decode cX10_init 48 = .ok (.newarray .int, 2) := by decide +kernel
theorem dX10_init_50 : decode cX10_init 50 = .ok (.putfield 25, 3) := by decide +kernel
theorem dX10_init_53 : decode cX10_init 53 = .ok (.aload_n 0, 1) := by decide +kernel
theorem dX10_init_54 : decode cX10_init 54 = .ok (.bipush 20, 2) := by decide +kernel
theorem dX10_init_56 : decode cX10_init 56 = .ok (.newarray .int, 2) := by decide +kernel
theorem dX10_init_58 : decode cX10_init 58 = .ok (.putfield 28, 3) := by decide +kernel
theorem dX10_init_61 : decode cX10_init 61 = .ok (.aload_n 0, 1) := by decide +kernel
theorem dX10_init_62 : decode cX10_init 62 = .ok (.bipush 120, 2) := by decide +kernel
theorem dX10_init_64 : decode cX10_init 64 = .ok (.newarray .int, 2) := by decide +kernel
theorem dX10_init_66 : decode cX10_init 66 = .ok (.putfield 31, 3) := by decide +kernel
theorem dX10_init_69 : decode cX10_init 69 = .ok (.aload_n 0, 1) := by decide +kernel
theorem dX10_init_70 : decode cX10_init 70 = .ok (.bipush 24, 2) := by decide +kernel
theorem dX10_init_72 : decode cX10_init 72 = .ok (.newarray .int, 2) := by decide +kernel
theorem dX10_init_74 : decode cX10_init 74 = .ok (.putfield 34, 3) := by decide +kernel
theorem dX10_init_77 : decode cX10_init 77 = .ok (.aload_n 0, 1) := by decide +kernel
theorem dX10_init_78 : decode cX10_init 78 = .ok (.bipush 24, 2) := by decide +kernel
theorem dX10_init_80 : decode cX10_init 80 = .ok (.newarray .int, 2) := by decide +kernel
theorem dX10_init_82 : decode cX10_init 82 = .ok (.putfield 37, 3) := by decide +kernel
theorem dX10_init_85 : decode cX10_init 85 = .ok (.aload_n 0, 1) := by decide +kernel
theorem dX10_init_86 : decode cX10_init 86 = .ok (.bipush 24, 2) := by decide +kernel
theorem dX10_init_88 : decode cX10_init 88 = .ok (.newarray .int, 2) := by decide +kernel
theorem dX10_init_90 : decode cX10_init 90 = .ok (.putfield 40, 3) := by decide +kernel
theorem dX10_init_93 : decode cX10_init 93 = .ok (.aload_n 0, 1) := by decide +kernel
theorem dX10_init_94 : decode cX10_init 94 = .ok (.sipush 200, 3) := by decide +kernel
theorem dX10_init_97 : decode cX10_init 97 = .ok (.putfield 43, 3) := by decide +kernel
theorem dX10_init_100 : decode cX10_init 100 = .ok (.aload_n 0, 1) := by decide +kernel
theorem dX10_init_101 : decode cX10_init 101 = .ok (.bipush 100, 2) := by decide +kernel
theorem dX10_init_103 : decode cX10_init 103 = .ok (.newarray .byte, 2) := by decide +kernel
theorem dX10_init_105 : decode cX10_init 105 = .ok (.putfield 47, 3) := by decide +kernel
theorem dX10_init_108 : decode cX10_init 108 = .ok (.aload_n 0, 1) := by decide +kernel
theorem dX10_init_109 : decode cX10_init 109 = .ok (.bipush 6, 2) := by decide +kernel
theorem dX10_init_111 : decode cX10_init 111 = .ok (.newarray .int, 2) := by decide +kernel
theorem dX10_init_113 : decode cX10_init 113 = .ok (.putfield 51, 3) := by decide +kernel
theorem dX10_init_116 : decode cX10_init 116 = .ok (.aload_n 0, 1) := by decide +kernel
theorem dX10_init_117 : decode cX10_init 117 = .ok (.bipush 6, 2) := by decide +kernel
theorem dX10_init_119 : decode cX10_init 119 = .ok (.newarray .boolean, 2) := by decide +kernel
theorem dX10_init_121 : decode cX10_init 121 = .ok (.putfield 54, 3) := by decide +kernel
theorem dX10_init_124 : decode cX10_init 124 = .ok (.aload_n 0, 1) := by decide +kernel
theorem dX10_init_125 : decode cX10_init 125 = .ok (.bipush 6, 2) := by decide +kernel
theorem dX10_init_127 : decode cX10_init 127 = .ok (.newarray .int, 2) := by decide +kernel
theorem dX10_init_129 : decode cX10_init 129 = .ok (.putfield 58, 3) := by decide +kernel
theorem dX10_init_132 : decode cX10_init 132 = .ok (.aload_n 0, 1) := by decide +kernel
theorem dX10_init_133 : decode cX10_init 133 = .ok (.bipush 6, 2) := by decide +kernel
theorem dX10_init_135 : decode cX10_init 135 = .ok (.newarray .boolean, 2) := by decide +kernel
theorem dX10_init_137 : decode cX10_init 137 = .ok (.putfield 61, 3) := by decide +kernel
theorem dX10_init_140 : decode cX10_init 140 = .ok (.aload_n 0, 1) := by decide +kernel
theorem dX10_init_141 : decode cX10_init 141 = .ok (.sipush 144, 3) := by decide +kernel
theorem dX10_init_144 : decode cX10_init 144 = .ok (.newarray .int, 2) := by decide +kernel
theorem dX10_init_146 : decode cX10_init 146 = .ok (.putfield 64, 3) := by decide +kernel
theorem dX10_init_149 : decode cX10_init 149 = .ok (.aload_n 0, 1) := by decide +kernel
theorem dX10_init_150 : decode cX10_init 150 = .ok (.sipush 600, 3) := by decide +kernel
theorem dX10_init_153 : decode cX10_init 153 = .ok (.newarray .int, 2) := by decide +kernel
theorem dX10_init_155 : decode cX10_init 155 = .ok (.putfield 67, 3) := by decide +kernel
theorem dX10_init_158 : decode cX10_init 158 = .ok (.aload_n 0, 1) := by decide +kernel
theorem dX10_init_159 : decode cX10_init 159 = .ok (.sipush 600, 3) := by decide +kernel
theorem dX10_init_162 : decode cX10_init 162 = .ok (.newarray .int, 2) := by decide +kernel
theorem dX10_init_164 : decode cX10_init 164 = .ok (.putfield 70, 3) := by decide +kernel
theorem dX10_init_167 : decode cX10_init 167 = .ok (.aload_n 0, 1) := by decide +kernel
theorem dX10_init_168 : decode cX10_init 168 = .ok (.sipush 600, 3) := by decide +kernel
theorem dX10_init_171 : decode cX10_init 171 = .ok (.newarray .int, 2) := by decide +kernel
theorem dX10_init_173 : decode cX10_init 173 = .ok (.putfield 73, 3) := by decide +kernel
theorem dX10_init_176 : decode cX10_init 176 = .ok (.aload_n 0, 1) := by decide +kernel
theorem dX10_init_177 : decode cX10_init 177 = .ok (.bipush 10, 2) := by decide +kernel
theorem dX10_init_179 : decode cX10_init 179 = .ok (.newarray .int, 2) := by decide +kernel
theorem dX10_init_181 : decode cX10_init 181 = .ok (.putfield 76, 3) := by decide +kernel
theorem dX10_init_184 : decode cX10_init 184 = .ok (.iconst 0, 1) := by decide +kernel
theorem dX10_init_185 : decode cX10_init 185 = .ok (.istore_n 1, 1) := by decide +kernel
theorem dX10_init_186 : decode cX10_init 186 = .ok (.iload_n 1, 1) := by decide +kernel
theorem dX10_init_187 : decode cX10_init 187 = .ok (.sipush 480, 3) := by decide +kernel
theorem dX10_init_190 : decode cX10_init 190 = .ok (.if_icmp .ge 16, 3) := by decide +kernel
theorem dX10_init_193 : decode cX10_init 193 = .ok (.aload_n 0, 1) := by decide +kernel
theorem dX10_init_194 : decode cX10_init 194 = .ok (.getfield 25, 3) := by decide +kernel
theorem dX10_init_197 : decode cX10_init 197 = .ok (.iload_n 1, 1) := by decide +kernel
theorem dX10_init_198 : decode cX10_init 198 = .ok (.iconst (-1), 1) := by decide +kernel
theorem dX10_init_199 : decode cX10_init 199 = .ok (.iastore, 1) := by decide +kernel
theorem dX10_init_200 : decode cX10_init 200 = .ok (.iinc 1 1, 3) := by decide +kernel
theorem dX10_init_203 : decode cX10_init 203 = .ok (.goto (-17), 3) := by decide +kernel
theorem dX10_init_206 : decode cX10_init 206 = .ok (.aload_n 0, 1) := by decide +kernel
theorem dX10_init_207 : decode cX10_init 207 = .ok (.getfield 51, 3) := by decide +kernel
theorem dX10_init_210 : decode cX10_init 210 = .ok (.iconst 0, 1) := by decide +kernel
theorem dX10_init_211 : decode cX10_init 211 = .ok (.iconst 0, 1) := by decide +kernel
theorem dX10_init_212 : decode cX10_init 212 = .ok (.iastore, 1) := by decide +kernel
theorem dX10_init_213 : decode cX10_init 213 = .ok (.aload_n 0, 1) := by decide +kernel
theorem dX10_init_214 : decode cX10_init 214 = .ok (.getfield 54, 3) := by decide +kernel
theorem dX10_init_217 : decode cX10_init 217 = .ok (.iconst 0, 1) := by decide +kernel
theorem dX10_init_218 : decode cX10_init 218 = .ok (.iconst 1, 1) := by decide +kernel
theorem dX10_init_219 : decode cX10_init 219 = .ok (.bastore, 1) := by decide +kernel
theorem dX10_init_220 : decode cX10_init 220 = .ok (.aload_n 0, 1) := by decide +kernel
theorem dX10_init_221 : decode cX10_init 221 = .ok (.iconst 1, 1) := by decide +kernel
theorem dX10_init_222 : decode cX10_init 222 = .ok (.putfield 79, 3) := by decide +kernel
theorem dX10_init_225 : decode cX10_init 225 = .ok (.return_, 1) := by decide +kernel
theorem dX10_thrown_0 : decode cX10_thrown 0 = .ok (.aload_n 0, 1) := by decide +kernel
theorem dX10_thrown_1 : decode cX10_thrown 1 = .ok (.getfield 82, 3) := by decide +kernel
theorem dX10_thrown_4 : decode cX10_thrown 4 = .ok (.ireturn, 1) := by decide +kernel
theorem dX10_bad_0 : decode cX10_bad 0 = .ok (.iload_n 1, 1) := by decide +kernel
theorem dX10_bad_1 : decode cX10_bad 1 = .ok (.ifCond .eq 8, 3) := by decide +kernel
theorem dX10_bad_4 : decode cX10_bad 4 = .ok (.aload_n 0, 1) := by decide +kernel
theorem dX10_bad_5 : decode cX10_bad 5 = .ok (.iload_n 2, 1) := by decide +kernel
theorem dX10_bad_6 : decode cX10_bad 6 = .ok (.putfield 82, 3) := by decide +kernel
theorem dX10_bad_9 : decode cX10_bad 9 = .ok (.iload_n 1, 1) := by decide +kernel
theorem dX10_bad_10 : decode cX10_bad 10 = .ok (.ireturn, 1) := by decide +kernel
theorem dX10_ploughman_0 : decode cX10_ploughman 0 = .ok (.aload_n 0, 1) := by decide +kernel
theorem dX10_ploughman_1 : decode cX10_ploughman 1 = .ok (.iconst 0, 1) := by decide +kernel
theorem dX10_ploughman_2 : decode cX10_ploughman 2 = .ok (.putfield 82, 3) := by decide +kernel
theorem dX10_ploughman_5 : decode cX10_ploughman 5 = .ok (.aload_n 0, 1) := by decide +kernel
theorem dX10_ploughman_6 : decode cX10_ploughman 6 = .ok (.iload_n 1, 1) := by decide +kernel
theorem dX10_ploughman_7 : decode cX10_ploughman 7 = .ok (.ifCond .lt 30, 3) := by decide +kernel
theorem dX10_ploughman_10 : decode cX10_ploughman 10 = .ok (.iload_n 1, 1) := by decide +kernel
theorem dX10_ploughman_11 : decode cX10_ploughman 11 = .ok (.iconst 2, 1) := by decide +kernel
theorem dX10_ploughman_12 : decode cX10_ploughman 12 = .ok (.if_icmp .gt 25, 3) := by decide +kernel
theorem dX10_ploughman_15 : decode cX10_ploughman 15 = .ok (.iload_n 2, 1) := by decide +kernel
theorem dX10_ploughman_16 : decode cX10_ploughman 16 = .ok (.bipush 10, 2) := by decide +kernel
theorem dX10_ploughman_18 : decode cX10_ploughman 18 = .ok (.if_icmp .lt 19, 3) := by decide +kernel
theorem dX10_ploughman_21 : decode cX10_ploughman 21 = .ok (.iload_n 2, 1) := by decide +kernel
theorem dX10_ploughman_22 : decode cX10_ploughman 22 = .ok (.bipush 99, 2) := by decide +kernel
theorem dX10_ploughman_24 : decode cX10_ploughman 24 = .ok (.if_icmp .gt 13, 3) := by decide +kernel
theorem dX10_ploughman_27 : decode cX10_ploughman 27 = .ok (.iload_n 3, 1) := by decide +kernel
theorem dX10_ploughman_28 : decode cX10_ploughman 28 = .ok (.ifCond .lt 9, 3) := by decide +kernel
theorem dX10_ploughman_31 : decode cX10_ploughman 31 = .ok (.iload_n 3, 1) := by decide +kernel
theorem dX10_ploughman_32 : decode cX10_ploughman 32 = .ok (.bipush 10, 2) := by decide +kernel
theorem dX10_ploughman_34 : decode cX10_ploughman 34 = .ok (.if_icmp .lt 7, 3) := by decide +kernel
theorem dX10_ploughman_37 : decode cX10_ploughman 37 = .ok (.iconst 1, 1) := by decide +kernel
theorem dX10_ploughman_38 : decode cX10_ploughman 38 = .ok (.goto 4, 3) := by decide +kernel
theorem dX10_ploughman_41 : decode cX10_ploughman 41 = .ok (.iconst 0, 1) := by decide +kernel
theorem dX10_ploughman_42 : decode cX10_ploughman 42 = .ok (.iconst 1, 1) := by decide +kernel
theorem dX10_ploughman_43 : decode cX10_ploughman 43 = .ok (.invokevirtual 85, 3) := by decide +kernel
theorem dX10_ploughman_46 : decode cX10_ploughman 46 = .ok (.ifCond .ne 32, 3) := by decide +kernel
theorem dX10_ploughman_49 : decode cX10_ploughman 49 = .ok (.aload_n 0, 1) := by decide +kernel
theorem dX10_ploughman_50 : decode cX10_ploughman 50 = .ok (.aload_n 0, 1) := by decide +kernel
theorem dX10_ploughman_51 : decode cX10_ploughman 51 = .ok (.getfield 89, 3) := by decide +kernel
theorem dX10_ploughman_54 : decode cX10_ploughman 54 = .ok (.bipush 24, 2) := by decide +kernel
theorem dX10_ploughman_56 : decode cX10_ploughman 56 = .ok (.if_icmp .eq 10, 3) := by decide +kernel
theorem dX10_ploughman_59 : decode cX10_ploughman 59 = .ok (.aload_n 0, 1) := by decide +kernel
theorem dX10_ploughman_60 : decode cX10_ploughman 60 = .ok (.getfield 92, 3) := by decide +kernel
theorem dX10_ploughman_63 : decode cX10_ploughman 63 = .ok (.ifCond .le 7, 3) := by decide +kernel
theorem dX10_ploughman_66 : decode cX10_ploughman 66 = .ok (.iconst 1, 1) := by decide +kernel
theorem dX10_ploughman_67 : decode cX10_ploughman 67 = .ok (.goto 4, 3) := by decide +kernel
theorem dX10_ploughman_70 : decode cX10_ploughman 70 = .ok (.iconst 0, 1) := by decide +kernel
theorem dX10_ploughman_71 : decode cX10_ploughman 71 = .ok (.iconst 2, 1) := by decide +kernel
theorem dX10_ploughman_72 : decode cX10_ploughman 72 = .ok (.invokevirtual 85, 3) := by decide +kernel
theorem dX10_ploughman_75 : decode cX10_ploughman 75 = .ok (.ifCond .eq 5, 3) := by decide +kernel
theorem dX10_ploughman_78 : decode cX10_ploughman 78 = .ok (.iconst 0, 1) := by decide +kernel
theorem dX10_ploughman_79 : decode cX10_ploughman 79 = .ok (.ireturn, 1) := by decide +kernel
theorem dX10_ploughman_80 : decode cX10_ploughman 80 = .ok (.aload_n 0, 1) := by decide +kernel
theorem dX10_ploughman_81 : decode cX10_ploughman 81 = .ok (.getfield 9, 3) := by decide +kernel
theorem dX10_ploughman_84 : decode cX10_ploughman 84 = .ok (.aload_n 0, 1) := by decide +kernel
theorem dX10_ploughman_85 : decode cX10_ploughman 85 = .ok (.getfield 89, 3) := by decide +kernel
theorem dX10_ploughman_88 : decode cX10_ploughman 88 = .ok (.iload_n 1, 1) := by decide +kernel
theorem dX10_ploughman_89 : decode cX10_ploughman 89 = .ok (.iastore, 1) := by decide +kernel
theorem dX10_ploughman_90 : decode cX10_ploughman 90 = .ok (.aload_n 0, 1) := by decide +kernel
theorem dX10_ploughman_91 : decode cX10_ploughman 91 = .ok (.getfield 13, 3) := by decide +kernel
theorem dX10_ploughman_94 : decode cX10_ploughman 94 = .ok (.aload_n 0, 1) := by decide +kernel
theorem dX10_ploughman_95 : decode cX10_ploughman 95 = .ok (.getfield 89, 3) := by decide +kernel
theorem dX10_ploughman_98 : decode cX10_ploughman 98 = .ok (.iload_n 2, 1) := by decide +kernel
theorem dX10_ploughman_99 : decode cX10_ploughman 99 = .ok (.iastore, 1) := by decide +kernel
theorem dX10_ploughman_100 : decode cX10_ploughman 100 = .ok (.aload_n 0, 1) := by decide +kernel
theorem dX10_ploughman_101 : decode cX10_ploughman 101 = .ok (.getfield 16, 3) := by decide +kernel
theorem dX10_ploughman_104 : decode cX10_ploughman 104 = .ok (.aload_n 0, 1) := by decide +kernel
theorem dX10_ploughman_105 : decode cX10_ploughman 105 = .ok (.getfield 89, 3) := by decide +kernel
theorem dX10_ploughman_108 : decode cX10_ploughman 108 = .ok (.iload_n 3, 1) := by decide +kernel
theorem dX10_ploughman_109 : decode cX10_ploughman 109 = .ok (.iastore, 1) := by decide +kernel
theorem dX10_ploughman_110 : decode cX10_ploughman 110 = .ok (.aload_n 0, 1) := by decide +kernel
theorem dX10_ploughman_111 : decode cX10_ploughman 111 = .ok (.dup, 1) := by decide +kernel
theorem dX10_ploughman_112 : decode cX10_ploughman 112 = .ok (.getfield 89, 3) := by decide +kernel
theorem dX10_ploughman_115 : decode cX10_ploughman 115 = .ok (.iconst 1, 1) := by decide +kernel
theorem dX10_ploughman_116 : decode cX10_ploughman 116 = .ok (.iadd, 1) := by decide +kernel
theorem dX10_ploughman_117 : decode cX10_ploughman 117 = .ok (.putfield 89, 3) := by decide +kernel
theorem dX10_ploughman_120 : decode cX10_ploughman 120 = .ok (.aload_n 0, 1) := by decide +kernel
theorem dX10_ploughman_121 : decode cX10_ploughman 121 = .ok (.getfield 89, 3) := by decide +kernel
theorem dX10_ploughman_124 : decode cX10_ploughman 124 = .ok (.iconst 1, 1) := by decide +kernel
theorem dX10_ploughman_125 : decode cX10_ploughman 125 = .ok (.isub, 1) := by decide +kernel
theorem dX10_ploughman_126 : decode cX10_ploughman 126 = .ok (.ireturn, 1) := by decide +kernel
theorem dX10_noise_0 : decode cX10_noise 0 = .ok (.aload_n 0, 1) := by decide +kernel
theorem dX10_noise_1 : decode cX10_noise 1 = .ok (.iconst 0, 1) := by decide +kernel
theorem dX10_noise_2 : decode cX10_noise 2 = .ok (.putfield 82, 3) := by decide +kernel
theorem dX10_noise_5 : decode cX10_noise 5 = .ok (.aload_n 0, 1) := by decide +kernel
theorem dX10_noise_6 : decode cX10_noise 6 = .ok (.getfield 95, 3) := by decide +kernel
theorem dX10_noise_9 : decode cX10_noise 9 = .ok (.bipush 30, 2) := by decide +kernel
theorem dX10_noise_11 : decode cX10_noise 11 = .ok (.if_icmp .ne 5, 3) := by decide +kernel
theorem dX10_noise_14 : decode cX10_noise 14 = .ok (.iconst (-1), 1) := by decide +kernel
theorem dX10_noise_15 : decode cX10_noise 15 = .ok (.ireturn, 1) := by decide +kernel
theorem dX10_noise_16 : decode cX10_noise 16 = .ok (.aload_n 0, 1) := by decide +kernel
theorem dX10_noise_17 : decode cX10_noise 17 = .ok (.getfield 19, 3) := by decide +kernel
theorem dX10_noise_20 : decode cX10_noise 20 = .ok (.aload_n 0, 1) := by decide +kernel
theorem dX10_noise_21 : decode cX10_noise 21 = .ok (.getfield 95, 3) := by decide +kernel
theorem dX10_noise_24 : decode cX10_noise 24 = .ok (.iload_n 1, 1) := by decide +kernel
theorem dX10_noise_25 : decode cX10_noise 25 = .ok (.iastore, 1) := by decide +kernel
theorem dX10_noise_26 : decode cX10_noise 26 = .ok (.aload_n 0, 1) := by decide +kernel
theorem dX10_noise_27 : decode cX10_noise 27 = .ok (.dup, 1) := by decide +kernel
theorem dX10_noise_28 : decode cX10_noise 28 = .ok (.getfield 95, 3) := by decide +kernel
theorem dX10_noise_31 : decode cX10_noise 31 = .ok (.iconst 1, 1) := by decide +kernel
theorem dX10_noise_32 : decode cX10_noise 32 = .ok (.iadd, 1) := by decide +kernel
theorem dX10_noise_33 : decode cX10_noise 33 = .ok (.putfield 95, 3) := by decide +kernel
theorem dX10_noise_36 : decode cX10_noise 36 = .ok (.aload_n 0, 1) := by decide +kernel
theorem dX10_noise_37 : decode cX10_noise 37 = .ok (.getfield 95, 3) := by decide +kernel
theorem dX10_noise_40 : decode cX10_noise 40 = .ok (.ireturn, 1) := by decide +kernel
theorem dX10_draw_0 : decode cX10_draw 0 = .ok (.aload_n 0, 1) := by decide +kernel
theorem dX10_draw_1 : decode cX10_draw 1 = .ok (.iconst 0, 1) := by decide +kernel
theorem dX10_draw_2 : decode cX10_draw 2 = .ok (.putfield 82, 3) := by decide +kernel
theorem dX10_draw_5 : decode cX10_draw 5 = .ok (.aload_n 0, 1) := by decide +kernel
theorem dX10_draw_6 : decode cX10_draw 6 = .ok (.aload_n 0, 1) := by decide +kernel
theorem dX10_draw_7 : decode cX10_draw 7 = .ok (.getfield 92, 3) := by decide +kernel
theorem dX10_draw_10 : decode cX10_draw 10 = .ok (.ifCond .le 7, 3) := by decide +kernel
theorem dX10_draw_13 : decode cX10_draw 13 = .ok (.iconst 1, 1) := by decide +kernel
theorem dX10_draw_14 : decode cX10_draw 14 = .ok (.goto 4, 3) := by decide +kernel
theorem dX10_draw_17 : decode cX10_draw 17 = .ok (.iconst 0, 1) := by decide +kernel
theorem dX10_draw_18 : decode cX10_draw 18 = .ok (.iconst 1, 1) := by decide +kernel
theorem dX10_draw_19 : decode cX10_draw 19 = .ok (.invokevirtual 85, 3) := by decide +kernel
theorem dX10_draw_22 : decode cX10_draw 22 = .ok (.ifCond .eq 5, 3) := by decide +kernel
theorem dX10_draw_25 : decode cX10_draw 25 = .ok (.iconst 0, 1) := by decide +kernel
theorem dX10_draw_26 : decode cX10_draw 26 = .ok (.ireturn, 1) := by decide +kernel
theorem dX10_draw_27 : decode cX10_draw 27 = .ok (.aload_n 0, 1) := by decide +kernel
theorem dX10_draw_28 : decode cX10_draw 28 = .ok (.getfield 95, 3) := by decide +kernel
theorem dX10_draw_31 : decode cX10_draw 31 = .ok (.aload_n 0, 1) := by decide +kernel
theorem dX10_draw_32 : decode cX10_draw 32 = .ok (.getfield 89, 3) := by decide +kernel
theorem dX10_draw_35 : decode cX10_draw 35 = .ok (.iconst 1, 1) := by decide +kernel
theorem dX10_draw_36 : decode cX10_draw 36 = .ok (.isub, 1) := by decide +kernel
theorem dX10_draw_37 : decode cX10_draw 37 = .ok (.if_icmp .ge 5, 3) := by decide +kernel
theorem dX10_draw_40 : decode cX10_draw 40 = .ok (.iconst (-1), 1) := by decide +kernel
theorem dX10_draw_41 : decode cX10_draw 41 = .ok (.ireturn, 1) := by decide +kernel
theorem dX10_draw_42 : decode cX10_draw 42 = .ok (.aload_n 0, 1) := by decide +kernel
theorem dX10_draw_43 : decode cX10_draw 43 = .ok (.getfield 89, 3) := by decide +kernel
theorem dX10_draw_46 : decode cX10_draw 46 = .ok (.ifCond .ne 6, 3) := by decide +kernel
theorem dX10_draw_49 : decode cX10_draw 49 = .ok (.bipush (-2), 2) := by decide +kernel
theorem dX10_draw_51 : decode cX10_draw 51 = .ok (.ireturn, 1) := by decide +kernel
theorem dX10_draw_52 : decode cX10_draw 52 = .ok (.aload_n 0, 1) := by decide +kernel
theorem dX10_draw_53 : decode cX10_draw 53 = .ok (.aload_n 0, 1) := by decide +kernel
theorem dX10_draw_54 : decode cX10_draw 54 = .ok (.getfield 89, 3) := by decide +kernel
theorem dX10_draw_57 : decode cX10_draw 57 = .ok (.putfield 92, 3) := by decide +kernel
theorem dX10_draw_60 : decode cX10_draw 60 = .ok (.aload_n 0, 1) := by decide +kernel
theorem dX10_draw_61 : decode cX10_draw 61 = .ok (.iconst 0, 1) := by decide +kernel
theorem dX10_draw_62 : decode cX10_draw 62 = .ok (.putfield 98, 3) := by decide +kernel
theorem dX10_draw_65 : decode cX10_draw 65 = .ok (.iconst 0, 1) := by decide +kernel
theorem dX10_draw_66 : decode cX10_draw 66 = .ok (.istore_n 1, 1) := by decide +kernel
theorem dX10_draw_67 : decode cX10_draw 67 = .ok (.iload_n 1, 1) := by decide +kernel
theorem dX10_draw_68 : decode cX10_draw 68 = .ok (.aload_n 0, 1) := by decide +kernel
theorem dX10_draw_69 : decode cX10_draw 69 = .ok (.getfield 92, 3) := by decide +kernel
theorem dX10_draw_72 : decode cX10_draw 72 = .ok (.if_icmp .ge 16, 3) := by decide +kernel
theorem dX10_draw_75 : decode cX10_draw 75 = .ok (.aload_n 0, 1) := by decide +kernel
theorem dX10_draw_76 : decode cX10_draw 76 = .ok (.getfield 22, 3) := by decide +kernel
theorem dX10_draw_79 : decode cX10_draw 79 = .ok (.iload_n 1, 1) := by decide +kernel
theorem dX10_draw_80 : decode cX10_draw 80 = .ok (.iload_n 1, 1) := by decide +kernel
theorem dX10_draw_81 : decode cX10_draw 81 = .ok (.iastore, 1) := by decide +kernel
theorem dX10_draw_82 : decode cX10_draw 82 = .ok (.iinc 1 1, 3) := by decide +kernel
theorem dX10_draw_85 : decode cX10_draw 85 = .ok (.goto (-18), 3) := by decide +kernel
theorem dX10_draw_88 : decode cX10_draw 88 = .ok (.iconst 0, 1) := by decide +kernel
theorem dX10_draw_89 : decode cX10_draw 89 = .ok (.istore_n 1, 1) := by decide +kernel
theorem dX10_draw_90 : decode cX10_draw 90 = .ok (.aload_n 0, 1) := by decide +kernel
theorem dX10_draw_91 : decode cX10_draw 91 = .ok (.getfield 92, 3) := by decide +kernel
theorem dX10_draw_94 : decode cX10_draw 94 = .ok (.iconst 1, 1) := by decide +kernel
theorem dX10_draw_95 : decode cX10_draw 95 = .ok (.isub, 1) := by decide +kernel
theorem dX10_draw_96 : decode cX10_draw 96 = .ok (.istore_n 2, 1) := by decide +kernel
theorem dX10_draw_97 : decode cX10_draw 97 = .ok (.iload_n 2, 1) := by decide +kernel
theorem dX10_draw_98 : decode cX10_draw 98 = .ok (.ifCond .le 58, 3) := by decide +kernel
theorem dX10_draw_101 : decode cX10_draw 101 = .ok (.aload_n 0, 1) := by decide +kernel
theorem dX10_draw_102 : decode cX10_draw 102 = .ok (.getfield 19, 3) := by decide +kernel
theorem dX10_draw_105 : decode cX10_draw 105 = .ok (.iload_n 1, 1) := by decide +kernel
theorem dX10_draw_106 : decode cX10_draw 106 = .ok (.iaload, 1) := by decide +kernel
theorem dX10_draw_107 : decode cX10_draw 107 = .ok (.i2l, 1) := by decide +kernel
theorem dX10_draw_108 : decode cX10_draw 108 = .ok (.ldc2_w 102, 3) := by decide +kernel
theorem dX10_draw_111 : decode cX10_draw 111 = .ok (.land, 1) := by decide +kernel
theorem dX10_draw_112 : decode cX10_draw 112 = .ok (.iload_n 2, 1) := by decide +kernel
theorem dX10_draw_113 : decode cX10_draw 113 = .ok (.iconst 1, 1) := by decide +kernel
theorem dX10_draw_114 : decode cX10_draw 114 = .ok (.iadd, 1) := by decide +kernel
theorem dX10_draw_115 : decode cX10_draw 115 = .ok (.i2l, 1) := by decide +kernel
theorem dX10_draw_116 : decode cX10_draw 116 = .ok (.lrem, 1) := by decide +kernel
theorem dX10_draw_117 : decode cX10_draw 117 = .ok (.l2i, 1) := by decide +kernel
theorem dX10_draw_118 : decode cX10_draw 118 = .ok (.istore_n 3, 1) := by decide +kernel
theorem dX10_draw_119 : decode cX10_draw 119 = .ok (.iinc 1 1, 3) := by decide +kernel
theorem dX10_draw_122 : decode cX10_draw 122 = .ok (.aload_n 0, 1) := by decide +kernel
theorem dX10_draw_123 : decode cX10_draw 123 = .ok (.getfield 22, 3) := by decide +kernel
theorem dX10_draw_126 : decode cX10_draw 126 = .ok (.iload_n 2, 1) := by decide +kernel
theorem dX10_draw_127 : decode cX10_draw 127 = .ok (.iaload, 1) := by decide +kernel
theorem dX10_draw_128 : decode cX10_draw 128 = .ok (.istore 4, 2) := by decide +kernel
theorem dX10_draw_130 : decode cX10_draw 130 = .ok (.aload_n 0, 1) := by decide +kernel
theorem dX10_draw_131 : decode cX10_draw 131 = .ok (.getfield 22, 3) := by decide +kernel
theorem dX10_draw_134 : decode cX10_draw 134 = .ok (.iload_n 2, 1) := by decide +kernel
theorem dX10_draw_135 : decode cX10_draw 135 = .ok (.aload_n 0, 1) := by decide +kernel
theorem dX10_draw_136 : decode cX10_draw 136 = .ok (.getfield 22, 3) := by decide +kernel
theorem dX10_draw_139 : decode cX10_draw 139 = .ok (.iload_n 3, 1) := by decide +kernel
theorem dX10_draw_140 : decode cX10_draw 140 = .ok (.iaload, 1) := by decide +kernel
theorem dX10_draw_141 : decode cX10_draw 141 = .ok (.iastore, 1) := by decide +kernel
theorem dX10_draw_142 : decode cX10_draw 142 = .ok (.aload_n 0, 1) := by decide +kernel
theorem dX10_draw_143 : decode cX10_draw 143 = .ok (.getfield 22, 3) := by decide +kernel
theorem dX10_draw_146 : decode cX10_draw 146 = .ok (.iload_n 3, 1) := by decide +kernel
theorem dX10_draw_147 : decode cX10_draw 147 = .ok (.iload 4, 2) := by decide +kernel
theorem dX10_draw_149 : decode cX10_draw 149 = .ok (.iastore, 1) := by decide +kernel
theorem dX10_draw_150 : decode cX10_draw 150 = .ok (.iinc 2 (-1), 3) := by decide +kernel
theorem dX10_draw_153 : decode cX10_draw 153 = .ok (.goto (-56), 3) := by decide +kernel
theorem dX10_draw_156 : decode cX10_draw 156 = .ok (.aload_n 0, 1) := by decide +kernel
theorem dX10_draw_157 : decode cX10_draw 157 = .ok (.iconst 0, 1) := by decide +kernel
theorem dX10_draw_158 : decode cX10_draw 158 = .ok (.putfield 95, 3) := by decide +kernel
theorem dX10_draw_161 : decode cX10_draw 161 = .ok (.aload_n 0, 1) := by decide +kernel
theorem dX10_draw_162 : decode cX10_draw 162 = .ok (.getfield 92, 3) := by decide +kernel
theorem dX10_draw_165 : decode cX10_draw 165 = .ok (.ireturn, 1) := by decide +kernel
theorem dX10_isMan_0 : decode cX10_isMan 0 = .ok (.aload_n 0, 1) := by decide +kernel
theorem dX10_isMan_1 : decode cX10_isMan 1 = .ok (.iload_n 1, 1) := by decide +kernel
theorem dX10_isMan_2 : decode cX10_isMan 2 = .ok (.ifCond .lt 11, 3) := by decide +kernel
theorem dX10_isMan_5 : decode cX10_isMan 5 = .ok (.iload_n 1, 1) := by decide +kernel
theorem dX10_isMan_6 : decode cX10_isMan 6 = .ok (.aload_n 0, 1) := by decide +kernel
theorem dX10_isMan_7 : decode cX10_isMan 7 = .ok (.getfield 89, 3) := by decide +kernel
theorem dX10_isMan_10 : decode cX10_isMan 10 = .ok (.if_icmp .lt 7, 3) := by decide +kernel
theorem dX10_isMan_13 : decode cX10_isMan 13 = .ok (.iconst 1, 1) := by decide +kernel
theorem dX10_isMan_14 : decode cX10_isMan 14 = .ok (.goto 4, 3) := by decide +kernel
theorem dX10_isMan_17 : decode cX10_isMan 17 = .ok (.iconst 0, 1) := by decide +kernel
theorem dX10_isMan_18 : decode cX10_isMan 18 = .ok (.putfield 82, 3) := by decide +kernel
theorem dX10_isMan_21 : decode cX10_isMan 21 = .ok (.aload_n 0, 1) := by decide +kernel
theorem dX10_isMan_22 : decode cX10_isMan 22 = .ok (.getfield 82, 3) := by decide +kernel
theorem dX10_isMan_25 : decode cX10_isMan 25 = .ok (.ifCond .ne 7, 3) := by decide +kernel
theorem dX10_isMan_28 : decode cX10_isMan 28 = .ok (.iconst 1, 1) := by decide +kernel
theorem dX10_isMan_29 : decode cX10_isMan 29 = .ok (.goto 4, 3) := by decide +kernel
theorem dX10_isMan_32 : decode cX10_isMan 32 = .ok (.iconst 0, 1) := by decide +kernel
theorem dX10_isMan_33 : decode cX10_isMan 33 = .ok (.ireturn, 1) := by decide +kernel
theorem dX10_plot_0 : decode cX10_plot 0 = .ok (.aload_n 0, 1) := by decide +kernel
theorem dX10_plot_1 : decode cX10_plot 1 = .ok (.iload_n 1, 1) := by decide +kernel
theorem dX10_plot_2 : decode cX10_plot 2 = .ok (.invokevirtual 104, 3) := by decide +kernel
theorem dX10_plot_5 : decode cX10_plot 5 = .ok (.ifCond .ne 5, 3) := by decide +kernel
theorem dX10_plot_8 : decode cX10_plot 8 = .ok (.iconst 0, 1) := by decide +kernel
theorem dX10_plot_9 : decode cX10_plot 9 = .ok (.ireturn, 1) := by decide +kernel
theorem dX10_plot_10 : decode cX10_plot 10 = .ok (.aload_n 0, 1) := by decide +kernel
theorem dX10_plot_11 : decode cX10_plot 11 = .ok (.getfield 92, 3) := by decide +kernel
theorem dX10_plot_14 : decode cX10_plot 14 = .ok (.ifCond .ne 7, 3) := by decide +kernel
theorem dX10_plot_17 : decode cX10_plot 17 = .ok (.iconst (-1), 1) := by decide +kernel
theorem dX10_plot_18 : decode cX10_plot 18 = .ok (.goto 9, 3) := by decide +kernel
theorem dX10_plot_21 : decode cX10_plot 21 = .ok (.aload_n 0, 1) := by decide +kernel
theorem dX10_plot_22 : decode cX10_plot 22 = .ok (.getfield 22, 3) := by decide +kernel
theorem dX10_plot_25 : decode cX10_plot 25 = .ok (.iload_n 1, 1) := by decide +kernel
theorem dX10_plot_26 : decode cX10_plot 26 = .ok (.iaload, 1) := by decide +kernel
theorem dX10_plot_27 : decode cX10_plot 27 = .ok (.ireturn, 1) := by decide +kernel
theorem dX10_markOf_0 : decode cX10_markOf 0 = .ok (.aload_n 0, 1) := by decide +kernel
theorem dX10_markOf_1 : decode cX10_markOf 1 = .ok (.getfield 25, 3) := by decide +kernel
theorem dX10_markOf_4 : decode cX10_markOf 4 = .ok (.bipush 24, 2) := by decide +kernel
theorem dX10_markOf_6 : decode cX10_markOf 6 = .ok (.iload_n 1, 1) := by decide +kernel
theorem dX10_markOf_7 : decode cX10_markOf 7 = .ok (.imul, 1) := by decide +kernel
theorem dX10_markOf_8 : decode cX10_markOf 8 = .ok (.iload_n 2, 1) := by decide +kernel
theorem dX10_markOf_9 : decode cX10_markOf 9 = .ok (.iadd, 1) := by decide +kernel
theorem dX10_markOf_10 : decode cX10_markOf 10 = .ok (.iconst 5, 1) := by decide +kernel
theorem dX10_markOf_11 : decode cX10_markOf 11 = .ok (.imul, 1) := by decide +kernel
theorem dX10_markOf_12 : decode cX10_markOf 12 = .ok (.iload_n 3, 1) := by decide +kernel
theorem dX10_markOf_13 : decode cX10_markOf 13 = .ok (.iadd, 1) := by decide +kernel
theorem dX10_markOf_14 : decode cX10_markOf 14 = .ok (.iaload, 1) := by decide +kernel
theorem dX10_markOf_15 : decode cX10_markOf 15 = .ok (.ireturn, 1) := by decide +kernel
theorem dX10_isPlot_0 : decode cX10_isPlot 0 = .ok (.aload_n 0, 1) := by decide +kernel
theorem dX10_isPlot_1 : decode cX10_isPlot 1 = .ok (.iload_n 1, 1) := by decide +kernel
theorem dX10_isPlot_2 : decode cX10_isPlot 2 = .ok (.ifCond .lt 11, 3) := by decide +kernel
theorem dX10_isPlot_5 : decode cX10_isPlot 5 = .ok (.iload_n 1, 1) := by decide +kernel
theorem dX10_isPlot_6 : decode cX10_isPlot 6 = .ok (.aload_n 0, 1) := by decide +kernel
theorem dX10_isPlot_7 : decode cX10_isPlot 7 = .ok (.getfield 92, 3) := by decide +kernel
theorem dX10_isPlot_10 : decode cX10_isPlot 10 = .ok (.if_icmp .lt 7, 3) := by decide +kernel
theorem dX10_isPlot_13 : decode cX10_isPlot 13 = .ok (.iconst 1, 1) := by decide +kernel
theorem dX10_isPlot_14 : decode cX10_isPlot 14 = .ok (.goto 4, 3) := by decide +kernel
theorem dX10_isPlot_17 : decode cX10_isPlot 17 = .ok (.iconst 0, 1) := by decide +kernel
theorem dX10_isPlot_18 : decode cX10_isPlot 18 = .ok (.putfield 82, 3) := by decide +kernel
theorem dX10_isPlot_21 : decode cX10_isPlot 21 = .ok (.aload_n 0, 1) := by decide +kernel
theorem dX10_isPlot_22 : decode cX10_isPlot 22 = .ok (.getfield 82, 3) := by decide +kernel
theorem dX10_isPlot_25 : decode cX10_isPlot 25 = .ok (.ifCond .ne 7, 3) := by decide +kernel
theorem dX10_isPlot_28 : decode cX10_isPlot 28 = .ok (.iconst 1, 1) := by decide +kernel
theorem dX10_isPlot_29 : decode cX10_isPlot 29 = .ok (.goto 4, 3) := by decide +kernel
theorem dX10_isPlot_32 : decode cX10_isPlot 32 = .ok (.iconst 0, 1) := by decide +kernel
theorem dX10_isPlot_33 : decode cX10_isPlot 33 = .ok (.ireturn, 1) := by decide +kernel
theorem dX10_isPart_0 : decode cX10_isPart 0 = .ok (.iload_n 0, 1) := by decide +kernel
theorem dX10_isPart_1 : decode cX10_isPart 1 = .ok (.ifCond .lt 12, 3) := by decide +kernel
theorem dX10_isPart_4 : decode cX10_isPart 4 = .ok (.iload_n 0, 1) := by decide +kernel
theorem dX10_isPart_5 : decode cX10_isPart 5 = .ok (.iconst 5, 1) := by decide +kernel
theorem dX10_isPart_6 : decode cX10_isPart 6 = .ok (.if_icmp .ge 7, 3) := by decide +kernel
theorem dX10_isPart_9 : decode cX10_isPart 9 = .ok (.iconst 1, 1) := by decide +kernel
theorem dX10_isPart_10 : decode cX10_isPart 10 = .ok (.goto 4, 3) := by decide +kernel
theorem dX10_isPart_13 : decode cX10_isPart 13 = .ok (.iconst 0, 1) := by decide +kernel
theorem dX10_isPart_14 : decode cX10_isPart 14 = .ok (.ireturn, 1) := by decide +kernel
theorem dX10_mark_0 : decode cX10_mark 0 = .ok (.aload_n 0, 1) := by decide +kernel
theorem dX10_mark_1 : decode cX10_mark 1 = .ok (.iload_n 2, 1) := by decide +kernel
theorem dX10_mark_2 : decode cX10_mark 2 = .ok (.invokevirtual 108, 3) := by decide +kernel
theorem dX10_mark_5 : decode cX10_mark 5 = .ok (.ifCond .eq 45, 3) := by decide +kernel
theorem dX10_mark_8 : decode cX10_mark 8 = .ok (.aload_n 0, 1) := by decide +kernel
theorem dX10_mark_9 : decode cX10_mark 9 = .ok (.iload_n 1, 1) := by decide +kernel
theorem dX10_mark_10 : decode cX10_mark 10 = .ok (.ifCond .lt 28, 3) := by decide +kernel
theorem dX10_mark_13 : decode cX10_mark 13 = .ok (.iload_n 1, 1) := by decide +kernel
theorem dX10_mark_14 : decode cX10_mark 14 = .ok (.iconst 4, 1) := by decide +kernel
theorem dX10_mark_15 : decode cX10_mark 15 = .ok (.if_icmp .ge 23, 3) := by decide +kernel
theorem dX10_mark_18 : decode cX10_mark 18 = .ok (.iload_n 3, 1) := by decide +kernel
theorem dX10_mark_19 : decode cX10_mark 19 = .ok (.invokestatic 111, 3) := by decide +kernel
theorem dX10_mark_22 : decode cX10_mark 22 = .ok (.ifCond .eq 16, 3) := by decide +kernel
theorem dX10_mark_25 : decode cX10_mark 25 = .ok (.iload 4, 2) := by decide +kernel
theorem dX10_mark_27 : decode cX10_mark 27 = .ok (.iconst (-1), 1) := by decide +kernel
theorem dX10_mark_28 : decode cX10_mark 28 = .ok (.if_icmp .lt 10, 3) := by decide +kernel
theorem dX10_mark_31 : decode cX10_mark 31 = .ok (.iload 4, 2) := by decide +kernel
theorem dX10_mark_33 : decode cX10_mark 33 = .ok (.bipush 20, 2) := by decide +kernel
theorem dX10_mark_35 : decode cX10_mark 35 = .ok (.if_icmp .le 7, 3) := by decide +kernel
theorem dX10_mark_38 : decode cX10_mark 38 = .ok (.iconst 1, 1) := by decide +kernel
theorem dX10_mark_39 : decode cX10_mark 39 = .ok (.goto 4, 3) := by decide +kernel
theorem dX10_mark_42 : decode cX10_mark 42 = .ok (.iconst 0, 1) := by decide +kernel
theorem dX10_mark_43 : decode cX10_mark 43 = .ok (.iconst 2, 1) := by decide +kernel
theorem dX10_mark_44 : decode cX10_mark 44 = .ok (.invokevirtual 85, 3) := by decide +kernel
theorem dX10_mark_47 : decode cX10_mark 47 = .ok (.ifCond .eq 5, 3) := by decide +kernel
theorem dX10_mark_50 : decode cX10_mark 50 = .ok (.iconst 0, 1) := by decide +kernel
theorem dX10_mark_51 : decode cX10_mark 51 = .ok (.ireturn, 1) := by decide +kernel
theorem dX10_mark_52 : decode cX10_mark 52 = .ok (.aload_n 0, 1) := by decide +kernel
theorem dX10_mark_53 : decode cX10_mark 53 = .ok (.iload_n 1, 1) := by decide +kernel
theorem dX10_mark_54 : decode cX10_mark 54 = .ok (.iload_n 2, 1) := by decide +kernel
theorem dX10_mark_55 : decode cX10_mark 55 = .ok (.iload_n 3, 1) := by decide +kernel
theorem dX10_mark_56 : decode cX10_mark 56 = .ok (.invokevirtual 114, 3) := by decide +kernel
theorem dX10_mark_59 : decode cX10_mark 59 = .ok (.istore 5, 2) := by decide +kernel
theorem dX10_mark_61 : decode cX10_mark 61 = .ok (.aload_n 0, 1) := by decide +kernel
theorem dX10_mark_62 : decode cX10_mark 62 = .ok (.getfield 25, 3) := by decide +kernel
theorem dX10_mark_65 : decode cX10_mark 65 = .ok (.bipush 24, 2) := by decide +kernel
theorem dX10_mark_67 : decode cX10_mark 67 = .ok (.iload_n 1, 1) := by decide +kernel
theorem dX10_mark_68 : decode cX10_mark 68 = .ok (.imul, 1) := by decide +kernel
theorem dX10_mark_69 : decode cX10_mark 69 = .ok (.iload_n 2, 1) := by decide +kernel
theorem dX10_mark_70 : decode cX10_mark 70 = .ok (.iadd, 1) := by decide +kernel
theorem dX10_mark_71 : decode cX10_mark 71 = .ok (.iconst 5, 1) := by decide +kernel
theorem dX10_mark_72 : decode cX10_mark 72 = .ok (.imul, 1) := by decide +kernel
theorem dX10_mark_73 : decode cX10_mark 73 = .ok (.iload_n 3, 1) := by decide +kernel
theorem dX10_mark_74 : decode cX10_mark 74 = .ok (.iadd, 1) := by decide +kernel
theorem dX10_mark_75 : decode cX10_mark 75 = .ok (.iload 4, 2) := by decide +kernel
theorem dX10_mark_77 : decode cX10_mark 77 = .ok (.iastore, 1) := by decide +kernel
theorem dX10_mark_78 : decode cX10_mark 78 = .ok (.aload_n 0, 1) := by decide +kernel
theorem dX10_mark_79 : decode cX10_mark 79 = .ok (.iconst 0, 1) := by decide +kernel
theorem dX10_mark_80 : decode cX10_mark 80 = .ok (.putfield 98, 3) := by decide +kernel
theorem dX10_mark_83 : decode cX10_mark 83 = .ok (.iload 5, 2) := by decide +kernel
theorem dX10_mark_85 : decode cX10_mark 85 = .ok (.ireturn, 1) := by decide +kernel
theorem dX10_floored_0 : decode cX10_floored 0 = .ok (.iload_n 0, 1) := by decide +kernel
theorem dX10_floored_1 : decode cX10_floored 1 = .ok (.iload_n 1, 1) := by decide +kernel
theorem dX10_floored_2 : decode cX10_floored 2 = .ok (.idiv, 1) := by decide +kernel
theorem dX10_floored_3 : decode cX10_floored 3 = .ok (.istore_n 2, 1) := by decide +kernel
theorem dX10_floored_4 : decode cX10_floored 4 = .ok (.iload_n 2, 1) := by decide +kernel
theorem dX10_floored_5 : decode cX10_floored 5 = .ok (.iload_n 1, 1) := by decide +kernel
theorem dX10_floored_6 : decode cX10_floored 6 = .ok (.imul, 1) := by decide +kernel
theorem dX10_floored_7 : decode cX10_floored 7 = .ok (.iload_n 0, 1) := by decide +kernel
theorem dX10_floored_8 : decode cX10_floored 8 = .ok (.if_icmp .le 9, 3) := by decide +kernel
theorem dX10_floored_11 : decode cX10_floored 11 = .ok (.iload_n 2, 1) := by decide +kernel
theorem dX10_floored_12 : decode cX10_floored 12 = .ok (.iconst 1, 1) := by decide +kernel
theorem dX10_floored_13 : decode cX10_floored 13 = .ok (.isub, 1) := by decide +kernel
theorem dX10_floored_14 : decode cX10_floored 14 = .ok (.goto 4, 3) := by decide +kernel
theorem dX10_floored_17 : decode cX10_floored 17 = .ok (.iload_n 2, 1) := by decide +kernel
theorem dX10_floored_18 : decode cX10_floored 18 = .ok (.ireturn, 1) := by decide +kernel
theorem dX10_hardOf_0 : decode cX10_hardOf 0 = .ok (.iconst 0, 1) := by decide +kernel
theorem dX10_hardOf_1 : decode cX10_hardOf 1 = .ok (.istore_n 3, 1) := by decide +kernel
theorem dX10_hardOf_2 : decode cX10_hardOf 2 = .ok (.iconst 0, 1) := by decide +kernel
theorem dX10_hardOf_3 : decode cX10_hardOf 3 = .ok (.istore 4, 2) := by decide +kernel
theorem dX10_hardOf_5 : decode cX10_hardOf 5 = .ok (.iconst 0, 1) := by decide +kernel
theorem dX10_hardOf_6 : decode cX10_hardOf 6 = .ok (.istore 5, 2) := by decide +kernel
theorem dX10_hardOf_8 : decode cX10_hardOf 8 = .ok (.iload 5, 2) := by decide +kernel
theorem dX10_hardOf_10 : decode cX10_hardOf 10 = .ok (.aload_n 0, 1) := by decide +kernel
theorem dX10_hardOf_11 : decode cX10_hardOf 11 = .ok (.getfield 92, 3) := by decide +kernel
theorem dX10_hardOf_14 : decode cX10_hardOf 14 = .ok (.if_icmp .ge 75, 3) := by decide +kernel
theorem dX10_hardOf_17 : decode cX10_hardOf 17 = .ok (.aload_n 0, 1) := by decide +kernel
theorem dX10_hardOf_18 : decode cX10_hardOf 18 = .ok (.iload_n 1, 1) := by decide +kernel
theorem dX10_hardOf_19 : decode cX10_hardOf 19 = .ok (.iload 5, 2) := by decide +kernel
theorem dX10_hardOf_21 : decode cX10_hardOf 21 = .ok (.iload_n 2, 1) := by decide +kernel
theorem dX10_hardOf_22 : decode cX10_hardOf 22 = .ok (.invokevirtual 114, 3) := by decide +kernel
theorem dX10_hardOf_25 : decode cX10_hardOf 25 = .ok (.istore 6, 2) := by decide +kernel
theorem dX10_hardOf_27 : decode cX10_hardOf 27 = .ok (.iconst 0, 1) := by decide +kernel
theorem dX10_hardOf_28 : decode cX10_hardOf 28 = .ok (.istore 7, 2) := by decide +kernel
theorem dX10_hardOf_30 : decode cX10_hardOf 30 = .ok (.iload 7, 2) := by decide +kernel
theorem dX10_hardOf_32 : decode cX10_hardOf 32 = .ok (.iconst 4, 1) := by decide +kernel
theorem dX10_hardOf_33 : decode cX10_hardOf 33 = .ok (.if_icmp .ge 50, 3) := by decide +kernel
theorem dX10_hardOf_36 : decode cX10_hardOf 36 = .ok (.aload_n 0, 1) := by decide +kernel
theorem dX10_hardOf_37 : decode cX10_hardOf 37 = .ok (.iload 7, 2) := by decide +kernel
theorem dX10_hardOf_39 : decode cX10_hardOf 39 = .ok (.iload 5, 2) := by decide +kernel
theorem dX10_hardOf_41 : decode cX10_hardOf 41 = .ok (.iload_n 2, 1) := by decide +kernel
theorem dX10_hardOf_42 : decode cX10_hardOf 42 = .ok (.invokevirtual 114, 3) := by decide +kernel
theorem dX10_hardOf_45 : decode cX10_hardOf 45 = .ok (.istore 8, 2) := by decide +kernel
theorem dX10_hardOf_47 : decode cX10_hardOf 47 = .ok (.iload 7, 2) := by decide +kernel
theorem dX10_hardOf_49 : decode cX10_hardOf 49 = .ok (.iload_n 1, 1) := by decide +kernel
theorem dX10_hardOf_50 : decode cX10_hardOf 50 = .ok (.if_icmp .eq 27, 3) := by decide +kernel
theorem dX10_hardOf_53 : decode cX10_hardOf 53 = .ok (.iload 6, 2) := by decide +kernel
theorem dX10_hardOf_55 : decode cX10_hardOf 55 = .ok (.ifCond .lt 22, 3) := by decide +kernel
theorem dX10_hardOf_58 : decode cX10_hardOf 58 = .ok (.iload 8, 2) := by decide +kernel
theorem dX10_hardOf_60 : decode cX10_hardOf 60 = .ok (.ifCond .ge 6, 3) := by decide +kernel
theorem dX10_hardOf_63 : decode cX10_hardOf 63 = .ok (.goto 14, 3) := by decide +kernel
theorem dX10_hardOf_66 : decode cX10_hardOf 66 = .ok (.iload_n 3, 1) := by decide +kernel
theorem dX10_hardOf_67 : decode cX10_hardOf 67 = .ok (.iload 8, 2) := by decide +kernel
theorem dX10_hardOf_69 : decode cX10_hardOf 69 = .ok (.iload 6, 2) := by decide +kernel
theorem dX10_hardOf_71 : decode cX10_hardOf 71 = .ok (.isub, 1) := by decide +kernel
theorem dX10_hardOf_72 : decode cX10_hardOf 72 = .ok (.iadd, 1) := by decide +kernel
theorem dX10_hardOf_73 : decode cX10_hardOf 73 = .ok (.istore_n 3, 1) := by decide +kernel
theorem dX10_hardOf_74 : decode cX10_hardOf 74 = .ok (.iinc 4 1, 3) := by decide +kernel
theorem dX10_hardOf_77 : decode cX10_hardOf 77 = .ok (.iinc 7 1, 3) := by decide +kernel
theorem dX10_hardOf_80 : decode cX10_hardOf 80 = .ok (.goto (-50), 3) := by decide +kernel
theorem dX10_hardOf_83 : decode cX10_hardOf 83 = .ok (.iinc 5 1, 3) := by decide +kernel
theorem dX10_hardOf_86 : decode cX10_hardOf 86 = .ok (.goto (-78), 3) := by decide +kernel
theorem dX10_hardOf_89 : decode cX10_hardOf 89 = .ok (.iload 4, 2) := by decide +kernel
theorem dX10_hardOf_91 : decode cX10_hardOf 91 = .ok (.ifCond .ne 7, 3) := by decide +kernel
theorem dX10_hardOf_94 : decode cX10_hardOf 94 = .ok (.iconst 0, 1) := by decide +kernel
theorem dX10_hardOf_95 : decode cX10_hardOf 95 = .ok (.goto 12, 3) := by decide +kernel
theorem dX10_hardOf_98 : decode cX10_hardOf 98 = .ok (.bipush 100, 2) := by decide +kernel
theorem dX10_hardOf_100 : decode cX10_hardOf 100 = .ok (.iload_n 3, 1) := by decide +kernel
theorem dX10_hardOf_101 : decode cX10_hardOf 101 = .ok (.imul, 1) := by decide +kernel
theorem dX10_hardOf_102 : decode cX10_hardOf 102 = .ok (.iload 4, 2) := by decide +kernel
theorem dX10_hardOf_104 : decode cX10_hardOf 104 = .ok (.invokestatic 118, 3) := by decide +kernel
theorem dX10_hardOf_107 : decode cX10_hardOf 107 = .ok (.ireturn, 1) := by decide +kernel
theorem dX10_hard_0 : decode cX10_hard 0 = .ok (.aload_n 0, 1) := by decide +kernel
theorem dX10_hard_1 : decode cX10_hard 1 = .ok (.iconst 0, 1) := by decide +kernel
theorem dX10_hard_2 : decode cX10_hard 2 = .ok (.putfield 82, 3) := by decide +kernel
theorem dX10_hard_5 : decode cX10_hard 5 = .ok (.aload_n 0, 1) := by decide +kernel
theorem dX10_hard_6 : decode cX10_hard 6 = .ok (.iload_n 1, 1) := by decide +kernel
theorem dX10_hard_7 : decode cX10_hard 7 = .ok (.ifCond .lt 15, 3) := by decide +kernel
theorem dX10_hard_10 : decode cX10_hard 10 = .ok (.iload_n 1, 1) := by decide +kernel
theorem dX10_hard_11 : decode cX10_hard 11 = .ok (.iconst 4, 1) := by decide +kernel
theorem dX10_hard_12 : decode cX10_hard 12 = .ok (.if_icmp .ge 10, 3) := by decide +kernel
theorem dX10_hard_15 : decode cX10_hard 15 = .ok (.iload_n 2, 1) := by decide +kernel
theorem dX10_hard_16 : decode cX10_hard 16 = .ok (.invokestatic 111, 3) := by decide +kernel
theorem dX10_hard_19 : decode cX10_hard 19 = .ok (.ifCond .ne 7, 3) := by decide +kernel
theorem dX10_hard_22 : decode cX10_hard 22 = .ok (.iconst 1, 1) := by decide +kernel
theorem dX10_hard_23 : decode cX10_hard 23 = .ok (.goto 4, 3) := by decide +kernel
theorem dX10_hard_26 : decode cX10_hard 26 = .ok (.iconst 0, 1) := by decide +kernel
theorem dX10_hard_27 : decode cX10_hard 27 = .ok (.iconst 1, 1) := by decide +kernel
theorem dX10_hard_28 : decode cX10_hard 28 = .ok (.invokevirtual 85, 3) := by decide +kernel
theorem dX10_hard_31 : decode cX10_hard 31 = .ok (.ifCond .eq 7, 3) := by decide +kernel
theorem dX10_hard_34 : decode cX10_hard 34 = .ok (.iconst 0, 1) := by decide +kernel
theorem dX10_hard_35 : decode cX10_hard 35 = .ok (.goto 9, 3) := by decide +kernel
theorem dX10_hard_38 : decode cX10_hard 38 = .ok (.aload_n 0, 1) := by decide +kernel
theorem dX10_hard_39 : decode cX10_hard 39 = .ok (.iload_n 1, 1) := by decide +kernel
theorem dX10_hard_40 : decode cX10_hard 40 = .ok (.iload_n 2, 1) := by decide +kernel
theorem dX10_hard_41 : decode cX10_hard 41 = .ok (.invokevirtual 122, 3) := by decide +kernel
theorem dX10_hard_44 : decode cX10_hard 44 = .ok (.ireturn, 1) := by decide +kernel
theorem dX10_sumAll_0 : decode cX10_sumAll 0 = .ok (.aload_n 0, 1) := by decide +kernel
theorem dX10_sumAll_1 : decode cX10_sumAll 1 = .ok (.getfield 98, 3) := by decide +kernel
theorem dX10_sumAll_4 : decode cX10_sumAll 4 = .ok (.ifCond .eq 4, 3) := by decide +kernel
theorem dX10_sumAll_7 : decode cX10_sumAll 7 = .ok (.return_, 1) := by decide +kernel
theorem dX10_sumAll_8 : decode cX10_sumAll 8 = .ok (.aload_n 0, 1) := by decide +kernel
theorem dX10_sumAll_9 : decode cX10_sumAll 9 = .ok (.iconst 1, 1) := by decide +kernel
theorem dX10_sumAll_10 : decode cX10_sumAll 10 = .ok (.putfield 98, 3) := by decide +kernel
theorem dX10_sumAll_13 : decode cX10_sumAll 13 = .ok (.iconst 0, 1) := by decide +kernel
theorem dX10_sumAll_14 : decode cX10_sumAll 14 = .ok (.istore_n 1, 1) := by decide +kernel
theorem dX10_sumAll_15 : decode cX10_sumAll 15 = .ok (.iload_n 1, 1) := by decide +kernel
theorem dX10_sumAll_16 : decode cX10_sumAll 16 = .ok (.bipush 20, 2) := by decide +kernel
theorem dX10_sumAll_18 : decode cX10_sumAll 18 = .ok (.if_icmp .ge 25, 3) := by decide +kernel
theorem dX10_sumAll_21 : decode cX10_sumAll 21 = .ok (.aload_n 0, 1) := by decide +kernel
theorem dX10_sumAll_22 : decode cX10_sumAll 22 = .ok (.getfield 28, 3) := by decide +kernel
theorem dX10_sumAll_25 : decode cX10_sumAll 25 = .ok (.iload_n 1, 1) := by decide +kernel
theorem dX10_sumAll_26 : decode cX10_sumAll 26 = .ok (.aload_n 0, 1) := by decide +kernel
theorem dX10_sumAll_27 : decode cX10_sumAll 27 = .ok (.iload_n 1, 1) := by decide +kernel
theorem dX10_sumAll_28 : decode cX10_sumAll 28 = .ok (.iconst 5, 1) := by decide +kernel
theorem dX10_sumAll_29 : decode cX10_sumAll 29 = .ok (.idiv, 1) := by decide +kernel
theorem dX10_sumAll_30 : decode cX10_sumAll 30 = .ok (.iload_n 1, 1) := by decide +kernel
theorem dX10_sumAll_31 : decode cX10_sumAll 31 = .ok (.iconst 5, 1) := by decide +kernel
theorem dX10_sumAll_32 : decode cX10_sumAll 32 = .ok (.irem, 1) := by decide +kernel
theorem dX10_sumAll_33 : decode cX10_sumAll 33 = .ok (.invokevirtual 122, 3) := by decide +kernel
theorem dX10_sumAll_36 : decode cX10_sumAll 36 = .ok (.iastore, 1) := by decide +kernel
theorem dX10_sumAll_37 : decode cX10_sumAll 37 = .ok (.iinc 1 1, 3) := by decide +kernel
theorem dX10_sumAll_40 : decode cX10_sumAll 40 = .ok (.goto (-25), 3) := by decide +kernel
theorem dX10_sumAll_43 : decode cX10_sumAll 43 = .ok (.iconst 0, 1) := by decide +kernel
theorem dX10_sumAll_44 : decode cX10_sumAll 44 = .ok (.istore_n 1, 1) := by decide +kernel
theorem dX10_sumAll_45 : decode cX10_sumAll 45 = .ok (.iload_n 1, 1) := by decide +kernel
theorem dX10_sumAll_46 : decode cX10_sumAll 46 = .ok (.aload_n 0, 1) := by decide +kernel
theorem dX10_sumAll_47 : decode cX10_sumAll 47 = .ok (.getfield 92, 3) := by decide +kernel
theorem dX10_sumAll_50 : decode cX10_sumAll 50 = .ok (.if_icmp .ge 67, 3) := by decide +kernel
theorem dX10_sumAll_53 : decode cX10_sumAll 53 = .ok (.aload_n 0, 1) := by decide +kernel
theorem dX10_sumAll_54 : decode cX10_sumAll 54 = .ok (.getfield 34, 3) := by decide +kernel
theorem dX10_sumAll_57 : decode cX10_sumAll 57 = .ok (.iload_n 1, 1) := by decide +kernel
theorem dX10_sumAll_58 : decode cX10_sumAll 58 = .ok (.iconst 0, 1) := by decide +kernel
theorem dX10_sumAll_59 : decode cX10_sumAll 59 = .ok (.iastore, 1) := by decide +kernel
theorem dX10_sumAll_60 : decode cX10_sumAll 60 = .ok (.iconst 0, 1) := by decide +kernel
theorem dX10_sumAll_61 : decode cX10_sumAll 61 = .ok (.istore_n 2, 1) := by decide +kernel
theorem dX10_sumAll_62 : decode cX10_sumAll 62 = .ok (.iload_n 2, 1) := by decide +kernel
theorem dX10_sumAll_63 : decode cX10_sumAll 63 = .ok (.iconst 5, 1) := by decide +kernel
theorem dX10_sumAll_64 : decode cX10_sumAll 64 = .ok (.if_icmp .ge 47, 3) := by decide +kernel
theorem dX10_sumAll_67 : decode cX10_sumAll 67 = .ok (.aload_n 0, 1) := by decide +kernel
theorem dX10_sumAll_68 : decode cX10_sumAll 68 = .ok (.iload_n 1, 1) := by decide +kernel
theorem dX10_sumAll_69 : decode cX10_sumAll 69 = .ok (.iload_n 2, 1) := by decide +kernel
theorem dX10_sumAll_70 : decode cX10_sumAll 70 = .ok (.invokevirtual 125, 3) := by decide +kernel
theorem dX10_sumAll_73 : decode cX10_sumAll 73 = .ok (.istore_n 3, 1) := by decide +kernel
theorem dX10_sumAll_74 : decode cX10_sumAll 74 = .ok (.aload_n 0, 1) := by decide +kernel
theorem dX10_sumAll_75 : decode cX10_sumAll 75 = .ok (.getfield 31, 3) := by decide +kernel
theorem dX10_sumAll_78 : decode cX10_sumAll 78 = .ok (.iconst 5, 1) := by decide +kernel
theorem dX10_sumAll_79 : decode cX10_sumAll 79 = .ok (.iload_n 1, 1) := by decide +kernel
theorem dX10_sumAll_80 : decode cX10_sumAll 80 = .ok (.imul, 1) := by decide +kernel
theorem dX10_sumAll_81 : decode cX10_sumAll 81 = .ok (.iload_n 2, 1) := by decide +kernel
theorem dX10_sumAll_82 : decode cX10_sumAll 82 = .ok (.iadd, 1) := by decide +kernel
theorem dX10_sumAll_83 : decode cX10_sumAll 83 = .ok (.iload_n 3, 1) := by decide +kernel
theorem dX10_sumAll_84 : decode cX10_sumAll 84 = .ok (.iastore, 1) := by decide +kernel
theorem dX10_sumAll_85 : decode cX10_sumAll 85 = .ok (.aload_n 0, 1) := by decide +kernel
theorem dX10_sumAll_86 : decode cX10_sumAll 86 = .ok (.getfield 34, 3) := by decide +kernel
theorem dX10_sumAll_89 : decode cX10_sumAll 89 = .ok (.iload_n 1, 1) := by decide +kernel
theorem dX10_sumAll_90 : decode cX10_sumAll 90 = .ok (.dup2, 1) := by decide +kernel
theorem dX10_sumAll_91 : decode cX10_sumAll 91 = .ok (.iaload, 1) := by decide +kernel
theorem dX10_sumAll_92 : decode cX10_sumAll 92 = .ok (.iload_n 3, 1) := by decide +kernel
theorem dX10_sumAll_93 : decode cX10_sumAll 93 = .ok (.ldc 128, 2) := by decide +kernel
theorem dX10_sumAll_95 : decode cX10_sumAll 95 = .ok (.if_icmp .ne 7, 3) := by decide +kernel
theorem dX10_sumAll_98 : decode cX10_sumAll 98 = .ok (.iconst 0, 1) := by decide +kernel
theorem dX10_sumAll_99 : decode cX10_sumAll 99 = .ok (.goto 4, 3) := by decide +kernel
theorem dX10_sumAll_102 : decode cX10_sumAll 102 = .ok (.iload_n 3, 1) := by decide +kernel
theorem dX10_sumAll_103 : decode cX10_sumAll 103 = .ok (.iadd, 1) := by decide +kernel
theorem dX10_sumAll_104 : decode cX10_sumAll 104 = .ok (.iastore, 1) := by decide +kernel
theorem dX10_sumAll_105 : decode cX10_sumAll 105 = .ok (.iinc 2 1, 3) := by decide +kernel
theorem dX10_sumAll_108 : decode cX10_sumAll 108 = .ok (.goto (-46), 3) := by decide +kernel
theorem dX10_sumAll_111 : decode cX10_sumAll 111 = .ok (.iinc 1 1, 3) := by decide +kernel
theorem dX10_sumAll_114 : decode cX10_sumAll 114 = .ok (.goto (-69), 3) := by decide +kernel
theorem dX10_sumAll_117 : decode cX10_sumAll 117 = .ok (.return_, 1) := by decide +kernel
theorem dX10_freshTold_0 : decode cX10_freshTold 0 = .ok (.iconst 0, 1) := by decide +kernel
theorem dX10_freshTold_1 : decode cX10_freshTold 1 = .ok (.istore_n 3, 1) := by decide +kernel
theorem dX10_freshTold_2 : decode cX10_freshTold 2 = .ok (.iconst 0, 1) := by decide +kernel
theorem dX10_freshTold_3 : decode cX10_freshTold 3 = .ok (.istore 4, 2) := by decide +kernel
theorem dX10_freshTold_5 : decode cX10_freshTold 5 = .ok (.iconst 0, 1) := by decide +kernel
theorem dX10_freshTold_6 : decode cX10_freshTold 6 = .ok (.istore 5, 2) := by decide +kernel
theorem dX10_freshTold_8 : decode cX10_freshTold 8 = .ok (.iload 5, 2) := by decide +kernel
theorem dX10_freshTold_10 : decode cX10_freshTold 10 = .ok (.iconst 4, 1) := by decide +kernel
theorem dX10_freshTold_11 : decode cX10_freshTold 11 = .ok (.if_icmp .ge 52, 3) := by decide +kernel
theorem dX10_freshTold_14 : decode cX10_freshTold 14 = .ok (.aload_n 0, 1) := by decide +kernel
theorem dX10_freshTold_15 : decode cX10_freshTold 15 = .ok (.iload 5, 2) := by decide +kernel
theorem dX10_freshTold_17 : decode cX10_freshTold 17 = .ok (.iload_n 1, 1) := by decide +kernel
theorem dX10_freshTold_18 : decode cX10_freshTold 18 = .ok (.iload_n 2, 1) := by decide +kernel
theorem dX10_freshTold_19 : decode cX10_freshTold 19 = .ok (.invokevirtual 114, 3) := by decide +kernel
theorem dX10_freshTold_22 : decode cX10_freshTold 22 = .ok (.ifCond .ge 6, 3) := by decide +kernel
theorem dX10_freshTold_25 : decode cX10_freshTold 25 = .ok (.goto 32, 3) := by decide +kernel
theorem dX10_freshTold_28 : decode cX10_freshTold 28 = .ok (.iload_n 3, 1) := by decide +kernel
theorem dX10_freshTold_29 : decode cX10_freshTold 29 = .ok (.bipush 100, 2) := by decide +kernel
theorem dX10_freshTold_31 : decode cX10_freshTold 31 = .ok (.aload_n 0, 1) := by decide +kernel
theorem dX10_freshTold_32 : decode cX10_freshTold 32 = .ok (.iload 5, 2) := by decide +kernel
theorem dX10_freshTold_34 : decode cX10_freshTold 34 = .ok (.iload_n 1, 1) := by decide +kernel
theorem dX10_freshTold_35 : decode cX10_freshTold 35 = .ok (.iload_n 2, 1) := by decide +kernel
theorem dX10_freshTold_36 : decode cX10_freshTold 36 = .ok (.invokevirtual 114, 3) := by decide +kernel
theorem dX10_freshTold_39 : decode cX10_freshTold 39 = .ok (.imul, 1) := by decide +kernel
theorem dX10_freshTold_40 : decode cX10_freshTold 40 = .ok (.aload_n 0, 1) := by decide +kernel
theorem dX10_freshTold_41 : decode cX10_freshTold 41 = .ok (.getfield 28, 3) := by decide +kernel
theorem dX10_freshTold_44 : decode cX10_freshTold 44 = .ok (.iconst 5, 1) := by decide +kernel
theorem dX10_freshTold_45 : decode cX10_freshTold 45 = .ok (.iload 5, 2) := by decide +kernel
theorem dX10_freshTold_47 : decode cX10_freshTold 47 = .ok (.imul, 1) := by decide +kernel
theorem dX10_freshTold_48 : decode cX10_freshTold 48 = .ok (.iload_n 2, 1) := by decide +kernel
theorem dX10_freshTold_49 : decode cX10_freshTold 49 = .ok (.iadd, 1) := by decide +kernel
theorem dX10_freshTold_50 : decode cX10_freshTold 50 = .ok (.iaload, 1) := by decide +kernel
theorem dX10_freshTold_51 : decode cX10_freshTold 51 = .ok (.iadd, 1) := by decide +kernel
theorem dX10_freshTold_52 : decode cX10_freshTold 52 = .ok (.iadd, 1) := by decide +kernel
theorem dX10_freshTold_53 : decode cX10_freshTold 53 = .ok (.istore_n 3, 1) := by decide +kernel
theorem dX10_freshTold_54 : decode cX10_freshTold 54 = .ok (.iinc 4 1, 3) := by decide +kernel
theorem dX10_freshTold_57 : decode cX10_freshTold 57 = .ok (.iinc 5 1, 3) := by decide +kernel
theorem dX10_freshTold_60 : decode cX10_freshTold 60 = .ok (.goto (-52), 3) := by decide +kernel
theorem dX10_freshTold_63 : decode cX10_freshTold 63 = .ok (.iload 4, 2) := by decide +kernel
theorem dX10_freshTold_65 : decode cX10_freshTold 65 = .ok (.ifCond .ne 8, 3) := by decide +kernel
theorem dX10_freshTold_68 : decode cX10_freshTold 68 = .ok (.ldc 128, 2) := by decide +kernel
theorem dX10_freshTold_70 : decode cX10_freshTold 70 = .ok (.goto 9, 3) := by decide +kernel
theorem dX10_freshTold_73 : decode cX10_freshTold 73 = .ok (.iload_n 3, 1) := by decide +kernel
theorem dX10_freshTold_74 : decode cX10_freshTold 74 = .ok (.iload 4, 2) := by decide +kernel
theorem dX10_freshTold_76 : decode cX10_freshTold 76 = .ok (.invokestatic 118, 3) := by decide +kernel
theorem dX10_freshTold_79 : decode cX10_freshTold 79 = .ok (.ireturn, 1) := by decide +kernel
theorem dX10_toldOf_0 : decode cX10_toldOf 0 = .ok (.aload_n 0, 1) := by decide +kernel
theorem dX10_toldOf_1 : decode cX10_toldOf 1 = .ok (.invokevirtual 129, 3) := by decide +kernel
theorem dX10_toldOf_4 : decode cX10_toldOf 4 = .ok (.aload_n 0, 1) := by decide +kernel
theorem dX10_toldOf_5 : decode cX10_toldOf 5 = .ok (.getfield 31, 3) := by decide +kernel
theorem dX10_toldOf_8 : decode cX10_toldOf 8 = .ok (.iconst 5, 1) := by decide +kernel
theorem dX10_toldOf_9 : decode cX10_toldOf 9 = .ok (.iload_n 1, 1) := by decide +kernel
theorem dX10_toldOf_10 : decode cX10_toldOf 10 = .ok (.imul, 1) := by decide +kernel
theorem dX10_toldOf_11 : decode cX10_toldOf 11 = .ok (.iload_n 2, 1) := by decide +kernel
theorem dX10_toldOf_12 : decode cX10_toldOf 12 = .ok (.iadd, 1) := by decide +kernel
theorem dX10_toldOf_13 : decode cX10_toldOf 13 = .ok (.iaload, 1) := by decide +kernel
theorem dX10_toldOf_14 : decode cX10_toldOf 14 = .ok (.ireturn, 1) := by decide +kernel
theorem dX10_told_0 : decode cX10_told 0 = .ok (.aload_n 0, 1) := by decide +kernel
theorem dX10_told_1 : decode cX10_told 1 = .ok (.iload_n 1, 1) := by decide +kernel
theorem dX10_told_2 : decode cX10_told 2 = .ok (.invokevirtual 108, 3) := by decide +kernel
theorem dX10_told_5 : decode cX10_told 5 = .ok (.ifCond .eq 23, 3) := by decide +kernel
theorem dX10_told_8 : decode cX10_told 8 = .ok (.aload_n 0, 1) := by decide +kernel
theorem dX10_told_9 : decode cX10_told 9 = .ok (.iload_n 2, 1) := by decide +kernel
theorem dX10_told_10 : decode cX10_told 10 = .ok (.invokestatic 111, 3) := by decide +kernel
theorem dX10_told_13 : decode cX10_told 13 = .ok (.ifCond .ne 7, 3) := by decide +kernel
theorem dX10_told_16 : decode cX10_told 16 = .ok (.iconst 1, 1) := by decide +kernel
theorem dX10_told_17 : decode cX10_told 17 = .ok (.goto 4, 3) := by decide +kernel
theorem dX10_told_20 : decode cX10_told 20 = .ok (.iconst 0, 1) := by decide +kernel
theorem dX10_told_21 : decode cX10_told 21 = .ok (.iconst 2, 1) := by decide +kernel
theorem dX10_told_22 : decode cX10_told 22 = .ok (.invokevirtual 85, 3) := by decide +kernel
theorem dX10_told_25 : decode cX10_told 25 = .ok (.ifCond .eq 5, 3) := by decide +kernel
theorem dX10_told_28 : decode cX10_told 28 = .ok (.iconst 0, 1) := by decide +kernel
theorem dX10_told_29 : decode cX10_told 29 = .ok (.ireturn, 1) := by decide +kernel
theorem dX10_told_30 : decode cX10_told 30 = .ok (.aload_n 0, 1) := by decide +kernel
theorem dX10_told_31 : decode cX10_told 31 = .ok (.iload_n 1, 1) := by decide +kernel
theorem dX10_told_32 : decode cX10_told 32 = .ok (.iload_n 2, 1) := by decide +kernel
theorem dX10_told_33 : decode cX10_told 33 = .ok (.invokevirtual 132, 3) := by decide +kernel
theorem dX10_told_36 : decode cX10_told 36 = .ok (.ireturn, 1) := by decide +kernel
theorem dX10_sumOf_0 : decode cX10_sumOf 0 = .ok (.aload_n 0, 1) := by decide +kernel
theorem dX10_sumOf_1 : decode cX10_sumOf 1 = .ok (.invokevirtual 129, 3) := by decide +kernel
theorem dX10_sumOf_4 : decode cX10_sumOf 4 = .ok (.aload_n 0, 1) := by decide +kernel
theorem dX10_sumOf_5 : decode cX10_sumOf 5 = .ok (.getfield 34, 3) := by decide +kernel
theorem dX10_sumOf_8 : decode cX10_sumOf 8 = .ok (.iload_n 1, 1) := by decide +kernel
theorem dX10_sumOf_9 : decode cX10_sumOf 9 = .ok (.iaload, 1) := by decide +kernel
theorem dX10_sumOf_10 : decode cX10_sumOf 10 = .ok (.ireturn, 1) := by decide +kernel
theorem dX10_groundOf_0 : decode cX10_groundOf 0 = .ok (.aload_n 0, 1) := by decide +kernel
theorem dX10_groundOf_1 : decode cX10_groundOf 1 = .ok (.getfield 92, 3) := by decide +kernel
theorem dX10_groundOf_4 : decode cX10_groundOf 4 = .ok (.iconst 2, 1) := by decide +kernel
theorem dX10_groundOf_5 : decode cX10_groundOf 5 = .ok (.if_icmp .ge 5, 3) := by decide +kernel
theorem dX10_groundOf_8 : decode cX10_groundOf 8 = .ok (.iconst 0, 1) := by decide +kernel
theorem dX10_groundOf_9 : decode cX10_groundOf 9 = .ok (.ireturn, 1) := by decide +kernel
theorem dX10_groundOf_10 : decode cX10_groundOf 10 = .ok (.iconst 0, 1) := by decide +kernel
theorem dX10_groundOf_11 : decode cX10_groundOf 11 = .ok (.istore_n 2, 1) := by decide +kernel
theorem dX10_groundOf_12 : decode cX10_groundOf 12 = .ok (.iconst 0, 1) := by decide +kernel
theorem dX10_groundOf_13 : decode cX10_groundOf 13 = .ok (.istore_n 3, 1) := by decide +kernel
theorem dX10_groundOf_14 : decode cX10_groundOf 14 = .ok (.iconst 0, 1) := by decide +kernel
theorem dX10_groundOf_15 : decode cX10_groundOf 15 = .ok (.istore 4, 2) := by decide +kernel
theorem dX10_groundOf_17 : decode cX10_groundOf 17 = .ok (.iconst 0, 1) := by decide +kernel
theorem dX10_groundOf_18 : decode cX10_groundOf 18 = .ok (.istore 5, 2) := by decide +kernel
theorem dX10_groundOf_20 : decode cX10_groundOf 20 = .ok (.iload 5, 2) := by decide +kernel
theorem dX10_groundOf_22 : decode cX10_groundOf 22 = .ok (.aload_n 0, 1) := by decide +kernel
theorem dX10_groundOf_23 : decode cX10_groundOf 23 = .ok (.getfield 92, 3) := by decide +kernel
theorem dX10_groundOf_26 : decode cX10_groundOf 26 = .ok (.if_icmp .ge 51, 3) := by decide +kernel
