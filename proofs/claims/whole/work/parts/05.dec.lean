theorem dX10_groundOf_29 : decode cX10_groundOf 29 = .ok (.aload_n 0, 1) := by decide +kernel
theorem dX10_groundOf_30 : decode cX10_groundOf 30 = .ok (.iload 5, 2) := by decide +kernel
theorem dX10_groundOf_32 : decode cX10_groundOf 32 = .ok (.invokevirtual 135, 3) := by decide +kernel
theorem dX10_groundOf_35 : decode cX10_groundOf 35 = .ok (.istore 6, 2) := by decide +kernel
theorem dX10_groundOf_37 : decode cX10_groundOf 37 = .ok (.iload 4, 2) := by decide +kernel
theorem dX10_groundOf_39 : decode cX10_groundOf 39 = .ok (.iload 6, 2) := by decide +kernel
theorem dX10_groundOf_41 : decode cX10_groundOf 41 = .ok (.iadd, 1) := by decide +kernel
theorem dX10_groundOf_42 : decode cX10_groundOf 42 = .ok (.istore 4, 2) := by decide +kernel
theorem dX10_groundOf_44 : decode cX10_groundOf 44 = .ok (.iload 5, 2) := by decide +kernel
theorem dX10_groundOf_46 : decode cX10_groundOf 46 = .ok (.iload_n 1, 1) := by decide +kernel
theorem dX10_groundOf_47 : decode cX10_groundOf 47 = .ok (.iconst 1, 1) := by decide +kernel
theorem dX10_groundOf_48 : decode cX10_groundOf 48 = .ok (.isub, 1) := by decide +kernel
theorem dX10_groundOf_49 : decode cX10_groundOf 49 = .ok (.if_icmp .eq 14, 3) := by decide +kernel
theorem dX10_groundOf_52 : decode cX10_groundOf 52 = .ok (.iload 5, 2) := by decide +kernel
theorem dX10_groundOf_54 : decode cX10_groundOf 54 = .ok (.iload_n 1, 1) := by decide +kernel
theorem dX10_groundOf_55 : decode cX10_groundOf 55 = .ok (.iconst 1, 1) := by decide +kernel
theorem dX10_groundOf_56 : decode cX10_groundOf 56 = .ok (.iadd, 1) := by decide +kernel
theorem dX10_groundOf_57 : decode cX10_groundOf 57 = .ok (.if_icmp .eq 6, 3) := by decide +kernel
theorem dX10_groundOf_60 : decode cX10_groundOf 60 = .ok (.goto 11, 3) := by decide +kernel
theorem dX10_groundOf_63 : decode cX10_groundOf 63 = .ok (.iload_n 2, 1) := by decide +kernel
theorem dX10_groundOf_64 : decode cX10_groundOf 64 = .ok (.iload 6, 2) := by decide +kernel
theorem dX10_groundOf_66 : decode cX10_groundOf 66 = .ok (.iadd, 1) := by decide +kernel
theorem dX10_groundOf_67 : decode cX10_groundOf 67 = .ok (.istore_n 2, 1) := by decide +kernel
theorem dX10_groundOf_68 : decode cX10_groundOf 68 = .ok (.iinc 3 1, 3) := by decide +kernel
theorem dX10_groundOf_71 : decode cX10_groundOf 71 = .ok (.iinc 5 1, 3) := by decide +kernel
theorem dX10_groundOf_74 : decode cX10_groundOf 74 = .ok (.goto (-54), 3) := by decide +kernel
theorem dX10_groundOf_77 : decode cX10_groundOf 77 = .ok (.iload_n 2, 1) := by decide +kernel
theorem dX10_groundOf_78 : decode cX10_groundOf 78 = .ok (.iload_n 3, 1) := by decide +kernel
theorem dX10_groundOf_79 : decode cX10_groundOf 79 = .ok (.invokestatic 118, 3) := by decide +kernel
theorem dX10_groundOf_82 : decode cX10_groundOf 82 = .ok (.iload 4, 2) := by decide +kernel
theorem dX10_groundOf_84 : decode cX10_groundOf 84 = .ok (.aload_n 0, 1) := by decide +kernel
theorem dX10_groundOf_85 : decode cX10_groundOf 85 = .ok (.getfield 92, 3) := by decide +kernel
theorem dX10_groundOf_88 : decode cX10_groundOf 88 = .ok (.invokestatic 118, 3) := by decide +kernel
theorem dX10_groundOf_91 : decode cX10_groundOf 91 = .ok (.isub, 1) := by decide +kernel
theorem dX10_groundOf_92 : decode cX10_groundOf 92 = .ok (.iconst 4, 1) := by decide +kernel
theorem dX10_groundOf_93 : decode cX10_groundOf 93 = .ok (.invokestatic 118, 3) := by decide +kernel
theorem dX10_groundOf_96 : decode cX10_groundOf 96 = .ok (.ireturn, 1) := by decide +kernel
theorem dX10_finalOf_0 : decode cX10_finalOf 0 = .ok (.aload_n 0, 1) := by decide +kernel
theorem dX10_finalOf_1 : decode cX10_finalOf 1 = .ok (.getfield 37, 3) := by decide +kernel
theorem dX10_finalOf_4 : decode cX10_finalOf 4 = .ok (.iload_n 1, 1) := by decide +kernel
theorem dX10_finalOf_5 : decode cX10_finalOf 5 = .ok (.iaload, 1) := by decide +kernel
theorem dX10_finalOf_6 : decode cX10_finalOf 6 = .ok (.aload_n 0, 1) := by decide +kernel
theorem dX10_finalOf_7 : decode cX10_finalOf 7 = .ok (.getfield 43, 3) := by decide +kernel
theorem dX10_finalOf_10 : decode cX10_finalOf 10 = .ok (.if_icmp .le 21, 3) := by decide +kernel
theorem dX10_finalOf_13 : decode cX10_finalOf 13 = .ok (.aload_n 0, 1) := by decide +kernel
theorem dX10_finalOf_14 : decode cX10_finalOf 14 = .ok (.getfield 37, 3) := by decide +kernel
theorem dX10_finalOf_17 : decode cX10_finalOf 17 = .ok (.iload_n 1, 1) := by decide +kernel
theorem dX10_finalOf_18 : decode cX10_finalOf 18 = .ok (.iaload, 1) := by decide +kernel
theorem dX10_finalOf_19 : decode cX10_finalOf 19 = .ok (.aload_n 0, 1) := by decide +kernel
theorem dX10_finalOf_20 : decode cX10_finalOf 20 = .ok (.getfield 43, 3) := by decide +kernel
theorem dX10_finalOf_23 : decode cX10_finalOf 23 = .ok (.isub, 1) := by decide +kernel
theorem dX10_finalOf_24 : decode cX10_finalOf 24 = .ok (.iconst 4, 1) := by decide +kernel
theorem dX10_finalOf_25 : decode cX10_finalOf 25 = .ok (.iadd, 1) := by decide +kernel
theorem dX10_finalOf_26 : decode cX10_finalOf 26 = .ok (.iconst 5, 1) := by decide +kernel
theorem dX10_finalOf_27 : decode cX10_finalOf 27 = .ok (.idiv, 1) := by decide +kernel
theorem dX10_finalOf_28 : decode cX10_finalOf 28 = .ok (.goto 4, 3) := by decide +kernel
theorem dX10_finalOf_31 : decode cX10_finalOf 31 = .ok (.iconst 0, 1) := by decide +kernel
theorem dX10_finalOf_32 : decode cX10_finalOf 32 = .ok (.istore_n 2, 1) := by decide +kernel
theorem dX10_finalOf_33 : decode cX10_finalOf 33 = .ok (.aload_n 0, 1) := by decide +kernel
theorem dX10_finalOf_34 : decode cX10_finalOf 34 = .ok (.iload_n 1, 1) := by decide +kernel
theorem dX10_finalOf_35 : decode cX10_finalOf 35 = .ok (.invokevirtual 135, 3) := by decide +kernel
theorem dX10_finalOf_38 : decode cX10_finalOf 38 = .ok (.aload_n 0, 1) := by decide +kernel
theorem dX10_finalOf_39 : decode cX10_finalOf 39 = .ok (.iload_n 1, 1) := by decide +kernel
theorem dX10_finalOf_40 : decode cX10_finalOf 40 = .ok (.invokevirtual 139, 3) := by decide +kernel
theorem dX10_finalOf_43 : decode cX10_finalOf 43 = .ok (.isub, 1) := by decide +kernel
theorem dX10_finalOf_44 : decode cX10_finalOf 44 = .ok (.bipush 50, 2) := by decide +kernel
theorem dX10_finalOf_46 : decode cX10_finalOf 46 = .ok (.iload_n 2, 1) := by decide +kernel
theorem dX10_finalOf_47 : decode cX10_finalOf 47 = .ok (.imul, 1) := by decide +kernel
theorem dX10_finalOf_48 : decode cX10_finalOf 48 = .ok (.isub, 1) := by decide +kernel
theorem dX10_finalOf_49 : decode cX10_finalOf 49 = .ok (.aload_n 0, 1) := by decide +kernel
theorem dX10_finalOf_50 : decode cX10_finalOf 50 = .ok (.getfield 40, 3) := by decide +kernel
theorem dX10_finalOf_53 : decode cX10_finalOf 53 = .ok (.iload_n 1, 1) := by decide +kernel
theorem dX10_finalOf_54 : decode cX10_finalOf 54 = .ok (.iaload, 1) := by decide +kernel
theorem dX10_finalOf_55 : decode cX10_finalOf 55 = .ok (.isub, 1) := by decide +kernel
theorem dX10_finalOf_56 : decode cX10_finalOf 56 = .ok (.ireturn, 1) := by decide +kernel
theorem dX10_about_0 : decode cX10_about 0 = .ok (.aload_n 0, 1) := by decide +kernel
theorem dX10_about_1 : decode cX10_about 1 = .ok (.iload_n 1, 1) := by decide +kernel
theorem dX10_about_2 : decode cX10_about 2 = .ok (.invokevirtual 108, 3) := by decide +kernel
theorem dX10_about_5 : decode cX10_about 5 = .ok (.ifCond .eq 26, 3) := by decide +kernel
theorem dX10_about_8 : decode cX10_about 8 = .ok (.aload_n 0, 1) := by decide +kernel
theorem dX10_about_9 : decode cX10_about 9 = .ok (.iload_n 2, 1) := by decide +kernel
theorem dX10_about_10 : decode cX10_about 10 = .ok (.ifCond .lt 9, 3) := by decide +kernel
theorem dX10_about_13 : decode cX10_about 13 = .ok (.iload_n 2, 1) := by decide +kernel
theorem dX10_about_14 : decode cX10_about 14 = .ok (.bipush 6, 2) := by decide +kernel
theorem dX10_about_16 : decode cX10_about 16 = .ok (.if_icmp .le 7, 3) := by decide +kernel
theorem dX10_about_19 : decode cX10_about 19 = .ok (.iconst 1, 1) := by decide +kernel
theorem dX10_about_20 : decode cX10_about 20 = .ok (.goto 4, 3) := by decide +kernel
theorem dX10_about_23 : decode cX10_about 23 = .ok (.iconst 0, 1) := by decide +kernel
theorem dX10_about_24 : decode cX10_about 24 = .ok (.iconst 2, 1) := by decide +kernel
theorem dX10_about_25 : decode cX10_about 25 = .ok (.invokevirtual 85, 3) := by decide +kernel
theorem dX10_about_28 : decode cX10_about 28 = .ok (.ifCond .eq 5, 3) := by decide +kernel
theorem dX10_about_31 : decode cX10_about 31 = .ok (.iconst 0, 1) := by decide +kernel
theorem dX10_about_32 : decode cX10_about 32 = .ok (.ireturn, 1) := by decide +kernel
theorem dX10_about_33 : decode cX10_about 33 = .ok (.iload_n 2, 1) := by decide +kernel
theorem dX10_about_34 : decode cX10_about 34 = .ok (.tableswitch 109 0 5 #[38, 44, 83, 89, 96, 103], 38) := by decide +kernel
theorem dX10_about_72 : decode cX10_about 72 = .ok (.aload_n 0, 1) := by decide +kernel
theorem dX10_about_73 : decode cX10_about 73 = .ok (.iload_n 1, 1) := by decide +kernel
theorem dX10_about_74 : decode cX10_about 74 = .ok (.invokevirtual 135, 3) := by decide +kernel
theorem dX10_about_77 : decode cX10_about 77 = .ok (.ireturn, 1) := by decide +kernel
theorem dX10_about_78 : decode cX10_about 78 = .ok (.iconst 0, 1) := by decide +kernel
theorem dX10_about_79 : decode cX10_about 79 = .ok (.istore_n 3, 1) := by decide +kernel
theorem dX10_about_80 : decode cX10_about 80 = .ok (.iconst 0, 1) := by decide +kernel
theorem dX10_about_81 : decode cX10_about 81 = .ok (.istore 4, 2) := by decide +kernel
theorem dX10_about_83 : decode cX10_about 83 = .ok (.iload 4, 2) := by decide +kernel
theorem dX10_about_85 : decode cX10_about 85 = .ok (.iconst 5, 1) := by decide +kernel
theorem dX10_about_86 : decode cX10_about 86 = .ok (.if_icmp .ge 29, 3) := by decide +kernel
theorem dX10_about_89 : decode cX10_about 89 = .ok (.iload_n 3, 1) := by decide +kernel
theorem dX10_about_90 : decode cX10_about 90 = .ok (.aload_n 0, 1) := by decide +kernel
theorem dX10_about_91 : decode cX10_about 91 = .ok (.iload_n 1, 1) := by decide +kernel
theorem dX10_about_92 : decode cX10_about 92 = .ok (.iload 4, 2) := by decide +kernel
theorem dX10_about_94 : decode cX10_about 94 = .ok (.invokevirtual 132, 3) := by decide +kernel
theorem dX10_about_97 : decode cX10_about 97 = .ok (.ldc 128, 2) := by decide +kernel
theorem dX10_about_99 : decode cX10_about 99 = .ok (.if_icmp .ne 7, 3) := by decide +kernel
theorem dX10_about_102 : decode cX10_about 102 = .ok (.iconst 1, 1) := by decide +kernel
theorem dX10_about_103 : decode cX10_about 103 = .ok (.goto 4, 3) := by decide +kernel
theorem dX10_about_106 : decode cX10_about 106 = .ok (.iconst 0, 1) := by decide +kernel
theorem dX10_about_107 : decode cX10_about 107 = .ok (.iadd, 1) := by decide +kernel
theorem dX10_about_108 : decode cX10_about 108 = .ok (.istore_n 3, 1) := by decide +kernel
theorem dX10_about_109 : decode cX10_about 109 = .ok (.iinc 4 1, 3) := by decide +kernel
theorem dX10_about_112 : decode cX10_about 112 = .ok (.goto (-29), 3) := by decide +kernel
theorem dX10_about_115 : decode cX10_about 115 = .ok (.iload_n 3, 1) := by decide +kernel
theorem dX10_about_116 : decode cX10_about 116 = .ok (.ireturn, 1) := by decide +kernel
theorem dX10_about_117 : decode cX10_about 117 = .ok (.aload_n 0, 1) := by decide +kernel
theorem dX10_about_118 : decode cX10_about 118 = .ok (.iload_n 1, 1) := by decide +kernel
theorem dX10_about_119 : decode cX10_about 119 = .ok (.invokevirtual 139, 3) := by decide +kernel
theorem dX10_about_122 : decode cX10_about 122 = .ok (.ireturn, 1) := by decide +kernel
theorem dX10_about_123 : decode cX10_about 123 = .ok (.aload_n 0, 1) := by decide +kernel
theorem dX10_about_124 : decode cX10_about 124 = .ok (.getfield 37, 3) := by decide +kernel
theorem dX10_about_127 : decode cX10_about 127 = .ok (.iload_n 1, 1) := by decide +kernel
theorem dX10_about_128 : decode cX10_about 128 = .ok (.iaload, 1) := by decide +kernel
theorem dX10_about_129 : decode cX10_about 129 = .ok (.ireturn, 1) := by decide +kernel
theorem dX10_about_130 : decode cX10_about 130 = .ok (.aload_n 0, 1) := by decide +kernel
theorem dX10_about_131 : decode cX10_about 131 = .ok (.getfield 40, 3) := by decide +kernel
theorem dX10_about_134 : decode cX10_about 134 = .ok (.iload_n 1, 1) := by decide +kernel
theorem dX10_about_135 : decode cX10_about 135 = .ok (.iaload, 1) := by decide +kernel
theorem dX10_about_136 : decode cX10_about 136 = .ok (.ireturn, 1) := by decide +kernel
theorem dX10_about_137 : decode cX10_about 137 = .ok (.aload_n 0, 1) := by decide +kernel
theorem dX10_about_138 : decode cX10_about 138 = .ok (.iload_n 1, 1) := by decide +kernel
theorem dX10_about_139 : decode cX10_about 139 = .ok (.invokevirtual 142, 3) := by decide +kernel
theorem dX10_about_142 : decode cX10_about 142 = .ok (.ireturn, 1) := by decide +kernel
theorem dX10_about_143 : decode cX10_about 143 = .ok (.iconst 0, 1) := by decide +kernel
theorem dX10_about_144 : decode cX10_about 144 = .ok (.istore_n 3, 1) := by decide +kernel
theorem dX10_about_145 : decode cX10_about 145 = .ok (.aload_n 0, 1) := by decide +kernel
theorem dX10_about_146 : decode cX10_about 146 = .ok (.getfield 22, 3) := by decide +kernel
theorem dX10_about_149 : decode cX10_about 149 = .ok (.iload_n 3, 1) := by decide +kernel
theorem dX10_about_150 : decode cX10_about 150 = .ok (.iaload, 1) := by decide +kernel
theorem dX10_about_151 : decode cX10_about 151 = .ok (.iload_n 1, 1) := by decide +kernel
theorem dX10_about_152 : decode cX10_about 152 = .ok (.if_icmp .eq 9, 3) := by decide +kernel
theorem dX10_about_155 : decode cX10_about 155 = .ok (.iinc 3 1, 3) := by decide +kernel
theorem dX10_about_158 : decode cX10_about 158 = .ok (.goto (-13), 3) := by decide +kernel
theorem dX10_about_161 : decode cX10_about 161 = .ok (.iload_n 3, 1) := by decide +kernel
theorem dX10_about_162 : decode cX10_about 162 = .ok (.ireturn, 1) := by decide +kernel
theorem dX10_isMinutes_0 : decode cX10_isMinutes 0 = .ok (.iload_n 0, 1) := by decide +kernel
theorem dX10_isMinutes_1 : decode cX10_isMinutes 1 = .ok (.ifCond .lt 14, 3) := by decide +kernel
theorem dX10_isMinutes_4 : decode cX10_isMinutes 4 = .ok (.iload_n 0, 1) := by decide +kernel
theorem dX10_isMinutes_5 : decode cX10_isMinutes 5 = .ok (.sipush 600, 3) := by decide +kernel
theorem dX10_isMinutes_8 : decode cX10_isMinutes 8 = .ok (.if_icmp .gt 7, 3) := by decide +kernel
theorem dX10_isMinutes_11 : decode cX10_isMinutes 11 = .ok (.iconst 1, 1) := by decide +kernel
theorem dX10_isMinutes_12 : decode cX10_isMinutes 12 = .ok (.goto 4, 3) := by decide +kernel
theorem dX10_isMinutes_15 : decode cX10_isMinutes 15 = .ok (.iconst 0, 1) := by decide +kernel
theorem dX10_isMinutes_16 : decode cX10_isMinutes 16 = .ok (.ireturn, 1) := by decide +kernel
theorem dX10_minutes_0 : decode cX10_minutes 0 = .ok (.aload_n 0, 1) := by decide +kernel
theorem dX10_minutes_1 : decode cX10_minutes 1 = .ok (.iload_n 1, 1) := by decide +kernel
theorem dX10_minutes_2 : decode cX10_minutes 2 = .ok (.invokevirtual 108, 3) := by decide +kernel
theorem dX10_minutes_5 : decode cX10_minutes 5 = .ok (.ifCond .eq 23, 3) := by decide +kernel
theorem dX10_minutes_8 : decode cX10_minutes 8 = .ok (.aload_n 0, 1) := by decide +kernel
theorem dX10_minutes_9 : decode cX10_minutes 9 = .ok (.iload_n 2, 1) := by decide +kernel
theorem dX10_minutes_10 : decode cX10_minutes 10 = .ok (.invokestatic 145, 3) := by decide +kernel
theorem dX10_minutes_13 : decode cX10_minutes 13 = .ok (.ifCond .ne 7, 3) := by decide +kernel
theorem dX10_minutes_16 : decode cX10_minutes 16 = .ok (.iconst 1, 1) := by decide +kernel
theorem dX10_minutes_17 : decode cX10_minutes 17 = .ok (.goto 4, 3) := by decide +kernel
theorem dX10_minutes_20 : decode cX10_minutes 20 = .ok (.iconst 0, 1) := by decide +kernel
theorem dX10_minutes_21 : decode cX10_minutes 21 = .ok (.iconst 2, 1) := by decide +kernel
theorem dX10_minutes_22 : decode cX10_minutes 22 = .ok (.invokevirtual 85, 3) := by decide +kernel
theorem dX10_minutes_25 : decode cX10_minutes 25 = .ok (.ifCond .eq 5, 3) := by decide +kernel
theorem dX10_minutes_28 : decode cX10_minutes 28 = .ok (.iconst 0, 1) := by decide +kernel
theorem dX10_minutes_29 : decode cX10_minutes 29 = .ok (.ireturn, 1) := by decide +kernel
theorem dX10_minutes_30 : decode cX10_minutes 30 = .ok (.aload_n 0, 1) := by decide +kernel
theorem dX10_minutes_31 : decode cX10_minutes 31 = .ok (.getfield 37, 3) := by decide +kernel
theorem dX10_minutes_34 : decode cX10_minutes 34 = .ok (.iload_n 1, 1) := by decide +kernel
theorem dX10_minutes_35 : decode cX10_minutes 35 = .ok (.iaload, 1) := by decide +kernel
theorem dX10_minutes_36 : decode cX10_minutes 36 = .ok (.istore_n 3, 1) := by decide +kernel
theorem dX10_minutes_37 : decode cX10_minutes 37 = .ok (.aload_n 0, 1) := by decide +kernel
theorem dX10_minutes_38 : decode cX10_minutes 38 = .ok (.getfield 37, 3) := by decide +kernel
theorem dX10_minutes_41 : decode cX10_minutes 41 = .ok (.iload_n 1, 1) := by decide +kernel
theorem dX10_minutes_42 : decode cX10_minutes 42 = .ok (.iload_n 2, 1) := by decide +kernel
theorem dX10_minutes_43 : decode cX10_minutes 43 = .ok (.iastore, 1) := by decide +kernel
theorem dX10_minutes_44 : decode cX10_minutes 44 = .ok (.iload_n 3, 1) := by decide +kernel
theorem dX10_minutes_45 : decode cX10_minutes 45 = .ok (.ireturn, 1) := by decide +kernel
theorem dX10_limit_0 : decode cX10_limit 0 = .ok (.aload_n 0, 1) := by decide +kernel
theorem dX10_limit_1 : decode cX10_limit 1 = .ok (.iconst 0, 1) := by decide +kernel
theorem dX10_limit_2 : decode cX10_limit 2 = .ok (.putfield 82, 3) := by decide +kernel
theorem dX10_limit_5 : decode cX10_limit 5 = .ok (.aload_n 0, 1) := by decide +kernel
theorem dX10_limit_6 : decode cX10_limit 6 = .ok (.iload_n 1, 1) := by decide +kernel
theorem dX10_limit_7 : decode cX10_limit 7 = .ok (.invokestatic 145, 3) := by decide +kernel
theorem dX10_limit_10 : decode cX10_limit 10 = .ok (.ifCond .ne 7, 3) := by decide +kernel
theorem dX10_limit_13 : decode cX10_limit 13 = .ok (.iconst 1, 1) := by decide +kernel
theorem dX10_limit_14 : decode cX10_limit 14 = .ok (.goto 4, 3) := by decide +kernel
theorem dX10_limit_17 : decode cX10_limit 17 = .ok (.iconst 0, 1) := by decide +kernel
theorem dX10_limit_18 : decode cX10_limit 18 = .ok (.iconst 1, 1) := by decide +kernel
theorem dX10_limit_19 : decode cX10_limit 19 = .ok (.invokevirtual 85, 3) := by decide +kernel
theorem dX10_limit_22 : decode cX10_limit 22 = .ok (.ifCond .eq 5, 3) := by decide +kernel
theorem dX10_limit_25 : decode cX10_limit 25 = .ok (.iconst 0, 1) := by decide +kernel
theorem dX10_limit_26 : decode cX10_limit 26 = .ok (.ireturn, 1) := by decide +kernel
theorem dX10_limit_27 : decode cX10_limit 27 = .ok (.aload_n 0, 1) := by decide +kernel
theorem dX10_limit_28 : decode cX10_limit 28 = .ok (.getfield 43, 3) := by decide +kernel
theorem dX10_limit_31 : decode cX10_limit 31 = .ok (.istore_n 2, 1) := by decide +kernel
theorem dX10_limit_32 : decode cX10_limit 32 = .ok (.aload_n 0, 1) := by decide +kernel
theorem dX10_limit_33 : decode cX10_limit 33 = .ok (.iload_n 1, 1) := by decide +kernel
theorem dX10_limit_34 : decode cX10_limit 34 = .ok (.putfield 43, 3) := by decide +kernel
theorem dX10_limit_37 : decode cX10_limit 37 = .ok (.iload_n 2, 1) := by decide +kernel
theorem dX10_limit_38 : decode cX10_limit 38 = .ok (.ireturn, 1) := by decide +kernel
theorem dX10_protest_0 : decode cX10_protest 0 = .ok (.aload_n 0, 1) := by decide +kernel
theorem dX10_protest_1 : decode cX10_protest 1 = .ok (.iload_n 1, 1) := by decide +kernel
theorem dX10_protest_2 : decode cX10_protest 2 = .ok (.invokevirtual 108, 3) := by decide +kernel
theorem dX10_protest_5 : decode cX10_protest 5 = .ok (.ifCond .eq 28, 3) := by decide +kernel
theorem dX10_protest_8 : decode cX10_protest 8 = .ok (.aload_n 0, 1) := by decide +kernel
theorem dX10_protest_9 : decode cX10_protest 9 = .ok (.iload_n 2, 1) := by decide +kernel
theorem dX10_protest_10 : decode cX10_protest 10 = .ok (.iconst 1, 1) := by decide +kernel
theorem dX10_protest_11 : decode cX10_protest 11 = .ok (.if_icmp .lt 10, 3) := by decide +kernel
theorem dX10_protest_14 : decode cX10_protest 14 = .ok (.iload_n 2, 1) := by decide +kernel
theorem dX10_protest_15 : decode cX10_protest 15 = .ok (.sipush 1000, 3) := by decide +kernel
theorem dX10_protest_18 : decode cX10_protest 18 = .ok (.if_icmp .le 7, 3) := by decide +kernel
theorem dX10_protest_21 : decode cX10_protest 21 = .ok (.iconst 1, 1) := by decide +kernel
theorem dX10_protest_22 : decode cX10_protest 22 = .ok (.goto 4, 3) := by decide +kernel
theorem dX10_protest_25 : decode cX10_protest 25 = .ok (.iconst 0, 1) := by decide +kernel
theorem dX10_protest_26 : decode cX10_protest 26 = .ok (.iconst 2, 1) := by decide +kernel
theorem dX10_protest_27 : decode cX10_protest 27 = .ok (.invokevirtual 85, 3) := by decide +kernel
theorem dX10_protest_30 : decode cX10_protest 30 = .ok (.ifCond .eq 5, 3) := by decide +kernel
theorem dX10_protest_33 : decode cX10_protest 33 = .ok (.iconst 0, 1) := by decide +kernel
theorem dX10_protest_34 : decode cX10_protest 34 = .ok (.ireturn, 1) := by decide +kernel
theorem dX10_protest_35 : decode cX10_protest 35 = .ok (.aload_n 0, 1) := by decide +kernel
theorem dX10_protest_36 : decode cX10_protest 36 = .ok (.getfield 40, 3) := by decide +kernel
theorem dX10_protest_39 : decode cX10_protest 39 = .ok (.iload_n 1, 1) := by decide +kernel
theorem dX10_protest_40 : decode cX10_protest 40 = .ok (.dup2, 1) := by decide +kernel
theorem dX10_protest_41 : decode cX10_protest 41 = .ok (.iaload, 1) := by decide +kernel
theorem dX10_protest_42 : decode cX10_protest 42 = .ok (.iload_n 2, 1) := by decide +kernel
theorem dX10_protest_43 : decode cX10_protest 43 = .ok (.iadd, 1) := by decide +kernel
theorem dX10_protest_44 : decode cX10_protest 44 = .ok (.iastore, 1) := by decide +kernel
theorem dX10_protest_45 : decode cX10_protest 45 = .ok (.aload_n 0, 1) := by decide +kernel
theorem dX10_protest_46 : decode cX10_protest 46 = .ok (.getfield 40, 3) := by decide +kernel
theorem dX10_protest_49 : decode cX10_protest 49 = .ok (.iload_n 1, 1) := by decide +kernel
theorem dX10_protest_50 : decode cX10_protest 50 = .ok (.iaload, 1) := by decide +kernel
theorem dX10_protest_51 : decode cX10_protest 51 = .ok (.ireturn, 1) := by decide +kernel
theorem dX10_feed_0 : decode cX10_feed 0 = .ok (.aload_n 0, 1) := by decide +kernel
theorem dX10_feed_1 : decode cX10_feed 1 = .ok (.iconst 0, 1) := by decide +kernel
theorem dX10_feed_2 : decode cX10_feed 2 = .ok (.putfield 82, 3) := by decide +kernel
theorem dX10_feed_5 : decode cX10_feed 5 = .ok (.aload_n 0, 1) := by decide +kernel
theorem dX10_feed_6 : decode cX10_feed 6 = .ok (.getfield 148, 3) := by decide +kernel
theorem dX10_feed_9 : decode cX10_feed 9 = .ok (.bipush 20, 2) := by decide +kernel
theorem dX10_feed_11 : decode cX10_feed 11 = .ok (.iadd, 1) := by decide +kernel
theorem dX10_feed_12 : decode cX10_feed 12 = .ok (.bipush 100, 2) := by decide +kernel
theorem dX10_feed_14 : decode cX10_feed 14 = .ok (.if_icmp .le 5, 3) := by decide +kernel
theorem dX10_feed_17 : decode cX10_feed 17 = .ok (.iconst (-1), 1) := by decide +kernel
theorem dX10_feed_18 : decode cX10_feed 18 = .ok (.ireturn, 1) := by decide +kernel
theorem dX10_feed_19 : decode cX10_feed 19 = .ok (.iconst 0, 1) := by decide +kernel
theorem dX10_feed_20 : decode cX10_feed 20 = .ok (.istore 6, 2) := by decide +kernel
theorem dX10_feed_22 : decode cX10_feed 22 = .ok (.iload 6, 2) := by decide +kernel
theorem dX10_feed_24 : decode cX10_feed 24 = .ok (.iconst 5, 1) := by decide +kernel
theorem dX10_feed_25 : decode cX10_feed 25 = .ok (.if_icmp .ge 93, 3) := by decide +kernel
theorem dX10_feed_28 : decode cX10_feed 28 = .ok (.iload 6, 2) := by decide +kernel
theorem dX10_feed_30 : decode cX10_feed 30 = .ok (.ifCond .ne 7, 3) := by decide +kernel
theorem dX10_feed_33 : decode cX10_feed 33 = .ok (.iload_n 1, 1) := by decide +kernel
theorem dX10_feed_34 : decode cX10_feed 34 = .ok (.goto 36, 3) := by decide +kernel
theorem dX10_feed_37 : decode cX10_feed 37 = .ok (.iload 6, 2) := by decide +kernel
theorem dX10_feed_39 : decode cX10_feed 39 = .ok (.iconst 1, 1) := by decide +kernel
theorem dX10_feed_40 : decode cX10_feed 40 = .ok (.if_icmp .ne 7, 3) := by decide +kernel
theorem dX10_feed_43 : decode cX10_feed 43 = .ok (.iload_n 2, 1) := by decide +kernel
theorem dX10_feed_44 : decode cX10_feed 44 = .ok (.goto 26, 3) := by decide +kernel
theorem dX10_feed_47 : decode cX10_feed 47 = .ok (.iload 6, 2) := by decide +kernel
theorem dX10_feed_49 : decode cX10_feed 49 = .ok (.iconst 2, 1) := by decide +kernel
theorem dX10_feed_50 : decode cX10_feed 50 = .ok (.if_icmp .ne 7, 3) := by decide +kernel
theorem dX10_feed_53 : decode cX10_feed 53 = .ok (.iload_n 3, 1) := by decide +kernel
theorem dX10_feed_54 : decode cX10_feed 54 = .ok (.goto 16, 3) := by decide +kernel
theorem dX10_feed_57 : decode cX10_feed 57 = .ok (.iload 6, 2) := by decide +kernel
theorem dX10_feed_59 : decode cX10_feed 59 = .ok (.iconst 3, 1) := by decide +kernel
theorem dX10_feed_60 : decode cX10_feed 60 = .ok (.if_icmp .ne 8, 3) := by decide +kernel
theorem dX10_feed_63 : decode cX10_feed 63 = .ok (.iload 4, 2) := by decide +kernel
theorem dX10_feed_65 : decode cX10_feed 65 = .ok (.goto 5, 3) := by decide +kernel
theorem dX10_feed_68 : decode cX10_feed 68 = .ok (.iload 5, 2) := by decide +kernel
theorem dX10_feed_70 : decode cX10_feed 70 = .ok (.istore 7, 2) := by decide +kernel
theorem dX10_feed_72 : decode cX10_feed 72 = .ok (.bipush 24, 2) := by decide +kernel
theorem dX10_feed_74 : decode cX10_feed 74 = .ok (.istore 8, 2) := by decide +kernel
theorem dX10_feed_76 : decode cX10_feed 76 = .ok (.iload 8, 2) := by decide +kernel
theorem dX10_feed_78 : decode cX10_feed 78 = .ok (.ifCond .lt 34, 3) := by decide +kernel
theorem dX10_feed_81 : decode cX10_feed 81 = .ok (.aload_n 0, 1) := by decide +kernel
theorem dX10_feed_82 : decode cX10_feed 82 = .ok (.getfield 47, 3) := by decide +kernel
theorem dX10_feed_85 : decode cX10_feed 85 = .ok (.aload_n 0, 1) := by decide +kernel
theorem dX10_feed_86 : decode cX10_feed 86 = .ok (.getfield 148, 3) := by decide +kernel
theorem dX10_feed_89 : decode cX10_feed 89 = .ok (.iload 7, 2) := by decide +kernel
theorem dX10_feed_91 : decode cX10_feed 91 = .ok (.iload 8, 2) := by decide +kernel
theorem dX10_feed_93 : decode cX10_feed 93 = .ok (.ishr, 1) := by decide +kernel
theorem dX10_feed_94 : decode cX10_feed 94 = .ok (.i2b, 1) := by decide +kernel
theorem dX10_feed_95 : decode cX10_feed 95 = .ok (.bastore, 1) := by decide +kernel
theorem dX10_feed_96 : decode cX10_feed 96 = .ok (.aload_n 0, 1) := by decide +kernel
theorem dX10_feed_97 : decode cX10_feed 97 = .ok (.dup, 1) := by decide +kernel
theorem dX10_feed_98 : decode cX10_feed 98 = .ok (.getfield 148, 3) := by decide +kernel
theorem dX10_feed_101 : decode cX10_feed 101 = .ok (.iconst 1, 1) := by decide +kernel
theorem dX10_feed_102 : decode cX10_feed 102 = .ok (.iadd, 1) := by decide +kernel
theorem dX10_feed_103 : decode cX10_feed 103 = .ok (.putfield 148, 3) := by decide +kernel
theorem dX10_feed_106 : decode cX10_feed 106 = .ok (.iinc 8 (-8), 3) := by decide +kernel
theorem dX10_feed_109 : decode cX10_feed 109 = .ok (.goto (-33), 3) := by decide +kernel
theorem dX10_feed_112 : decode cX10_feed 112 = .ok (.iinc 6 1, 3) := by decide +kernel
theorem dX10_feed_115 : decode cX10_feed 115 = .ok (.goto (-93), 3) := by decide +kernel
theorem dX10_feed_118 : decode cX10_feed 118 = .ok (.aload_n 0, 1) := by decide +kernel
theorem dX10_feed_119 : decode cX10_feed 119 = .ok (.getfield 148, 3) := by decide +kernel
theorem dX10_feed_122 : decode cX10_feed 122 = .ok (.ireturn, 1) := by decide +kernel
theorem dX10_byteAt_0 : decode cX10_byteAt 0 = .ok (.iload_n 1, 1) := by decide +kernel
theorem dX10_byteAt_1 : decode cX10_byteAt 1 = .ok (.aload_n 0, 1) := by decide +kernel
theorem dX10_byteAt_2 : decode cX10_byteAt 2 = .ok (.getfield 151, 3) := by decide +kernel
theorem dX10_byteAt_5 : decode cX10_byteAt 5 = .ok (.if_icmp .ge 16, 3) := by decide +kernel
theorem dX10_byteAt_8 : decode cX10_byteAt 8 = .ok (.aload_n 0, 1) := by decide +kernel
theorem dX10_byteAt_9 : decode cX10_byteAt 9 = .ok (.getfield 47, 3) := by decide +kernel
theorem dX10_byteAt_12 : decode cX10_byteAt 12 = .ok (.iload_n 1, 1) := by decide +kernel
theorem dX10_byteAt_13 : decode cX10_byteAt 13 = .ok (.baload, 1) := by decide +kernel
theorem dX10_byteAt_14 : decode cX10_byteAt 14 = .ok (.sipush 255, 3) := by decide +kernel
theorem dX10_byteAt_17 : decode cX10_byteAt 17 = .ok (.iand, 1) := by decide +kernel
theorem dX10_byteAt_18 : decode cX10_byteAt 18 = .ok (.goto 4, 3) := by decide +kernel
theorem dX10_byteAt_21 : decode cX10_byteAt 21 = .ok (.iconst 0, 1) := by decide +kernel
theorem dX10_byteAt_22 : decode cX10_byteAt 22 = .ok (.ireturn, 1) := by decide +kernel
theorem dX10_blanks_0 : decode cX10_blanks 0 = .ok (.aload_n 0, 1) := by decide +kernel
theorem dX10_blanks_1 : decode cX10_blanks 1 = .ok (.getfield 154, 3) := by decide +kernel
theorem dX10_blanks_4 : decode cX10_blanks 4 = .ok (.aload_n 0, 1) := by decide +kernel
theorem dX10_blanks_5 : decode cX10_blanks 5 = .ok (.getfield 151, 3) := by decide +kernel
theorem dX10_blanks_8 : decode cX10_blanks 8 = .ok (.if_icmp .ge 29, 3) := by decide +kernel
theorem dX10_blanks_11 : decode cX10_blanks 11 = .ok (.aload_n 0, 1) := by decide +kernel
theorem dX10_blanks_12 : decode cX10_blanks 12 = .ok (.aload_n 0, 1) := by decide +kernel
theorem dX10_blanks_13 : decode cX10_blanks 13 = .ok (.getfield 154, 3) := by decide +kernel
theorem dX10_blanks_16 : decode cX10_blanks 16 = .ok (.invokevirtual 157, 3) := by decide +kernel
theorem dX10_blanks_19 : decode cX10_blanks 19 = .ok (.bipush 32, 2) := by decide +kernel
theorem dX10_blanks_21 : decode cX10_blanks 21 = .ok (.if_icmp .ne 16, 3) := by decide +kernel
theorem dX10_blanks_24 : decode cX10_blanks 24 = .ok (.aload_n 0, 1) := by decide +kernel
theorem dX10_blanks_25 : decode cX10_blanks 25 = .ok (.dup, 1) := by decide +kernel
theorem dX10_blanks_26 : decode cX10_blanks 26 = .ok (.getfield 154, 3) := by decide +kernel
theorem dX10_blanks_29 : decode cX10_blanks 29 = .ok (.iconst 1, 1) := by decide +kernel
theorem dX10_blanks_30 : decode cX10_blanks 30 = .ok (.iadd, 1) := by decide +kernel
theorem dX10_blanks_31 : decode cX10_blanks 31 = .ok (.putfield 154, 3) := by decide +kernel
theorem dX10_blanks_34 : decode cX10_blanks 34 = .ok (.goto (-34), 3) := by decide +kernel
theorem dX10_blanks_37 : decode cX10_blanks 37 = .ok (.return_, 1) := by decide +kernel
theorem dX10_eat_0 : decode cX10_eat 0 = .ok (.aload_n 0, 1) := by decide +kernel
theorem dX10_eat_1 : decode cX10_eat 1 = .ok (.invokevirtual 160, 3) := by decide +kernel
theorem dX10_eat_4 : decode cX10_eat 4 = .ok (.iconst 0, 1) := by decide +kernel
theorem dX10_eat_5 : decode cX10_eat 5 = .ok (.istore_n 2, 1) := by decide +kernel
theorem dX10_eat_6 : decode cX10_eat 6 = .ok (.iload_n 2, 1) := by decide +kernel
theorem dX10_eat_7 : decode cX10_eat 7 = .ok (.aload_n 1, 1) := by decide +kernel
theorem dX10_eat_8 : decode cX10_eat 8 = .ok (.invokevirtual 163, 3) := by decide +kernel
theorem dX10_eat_11 : decode cX10_eat 11 = .ok (.if_icmp .ge 29, 3) := by decide +kernel
theorem dX10_eat_14 : decode cX10_eat 14 = .ok (.aload_n 0, 1) := by decide +kernel
theorem dX10_eat_15 : decode cX10_eat 15 = .ok (.aload_n 0, 1) := by decide +kernel
theorem dX10_eat_16 : decode cX10_eat 16 = .ok (.getfield 154, 3) := by decide +kernel
theorem dX10_eat_19 : decode cX10_eat 19 = .ok (.iload_n 2, 1) := by decide +kernel
theorem dX10_eat_20 : decode cX10_eat 20 = .ok (.iadd, 1) := by decide +kernel
theorem dX10_eat_21 : decode cX10_eat 21 = .ok (.invokevirtual 157, 3) := by decide +kernel
theorem dX10_eat_24 : decode cX10_eat 24 = .ok (.aload_n 1, 1) := by decide +kernel
theorem dX10_eat_25 : decode cX10_eat 25 = .ok (.iload_n 2, 1) := by decide +kernel
theorem dX10_eat_26 : decode cX10_eat 26 = .ok (.invokevirtual 169, 3) := by decide +kernel
theorem dX10_eat_29 : decode cX10_eat 29 = .ok (.if_icmp .eq 5, 3) := by decide +kernel
theorem dX10_eat_32 : decode cX10_eat 32 = .ok (.iconst 0, 1) := by decide +kernel
theorem dX10_eat_33 : decode cX10_eat 33 = .ok (.ireturn, 1) := by decide +kernel
theorem dX10_eat_34 : decode cX10_eat 34 = .ok (.iinc 2 1, 3) := by decide +kernel
theorem dX10_eat_37 : decode cX10_eat 37 = .ok (.goto (-31), 3) := by decide +kernel
theorem dX10_eat_40 : decode cX10_eat 40 = .ok (.aload_n 0, 1) := by decide +kernel
theorem dX10_eat_41 : decode cX10_eat 41 = .ok (.aload_n 0, 1) := by decide +kernel
theorem dX10_eat_42 : decode cX10_eat 42 = .ok (.getfield 154, 3) := by decide +kernel
theorem dX10_eat_45 : decode cX10_eat 45 = .ok (.aload_n 1, 1) := by decide +kernel
theorem dX10_eat_46 : decode cX10_eat 46 = .ok (.invokevirtual 163, 3) := by decide +kernel
theorem dX10_eat_49 : decode cX10_eat 49 = .ok (.iadd, 1) := by decide +kernel
theorem dX10_eat_50 : decode cX10_eat 50 = .ok (.invokevirtual 157, 3) := by decide +kernel
theorem dX10_eat_53 : decode cX10_eat 53 = .ok (.istore_n 2, 1) := by decide +kernel
theorem dX10_eat_54 : decode cX10_eat 54 = .ok (.iload_n 2, 1) := by decide +kernel
theorem dX10_eat_55 : decode cX10_eat 55 = .ok (.bipush 97, 2) := by decide +kernel
theorem dX10_eat_57 : decode cX10_eat 57 = .ok (.if_icmp .lt 11, 3) := by decide +kernel
theorem dX10_eat_60 : decode cX10_eat 60 = .ok (.iload_n 2, 1) := by decide +kernel
theorem dX10_eat_61 : decode cX10_eat 61 = .ok (.bipush 122, 2) := by decide +kernel
theorem dX10_eat_63 : decode cX10_eat 63 = .ok (.if_icmp .gt 5, 3) := by decide +kernel
theorem dX10_eat_66 : decode cX10_eat 66 = .ok (.iconst 0, 1) := by decide +kernel
theorem dX10_eat_67 : decode cX10_eat 67 = .ok (.ireturn, 1) := by decide +kernel
theorem dX10_eat_68 : decode cX10_eat 68 = .ok (.aload_n 0, 1) := by decide +kernel
theorem dX10_eat_69 : decode cX10_eat 69 = .ok (.dup, 1) := by decide +kernel
theorem dX10_eat_70 : decode cX10_eat 70 = .ok (.getfield 154, 3) := by decide +kernel
theorem dX10_eat_73 : decode cX10_eat 73 = .ok (.aload_n 1, 1) := by decide +kernel
theorem dX10_eat_74 : decode cX10_eat 74 = .ok (.invokevirtual 163, 3) := by decide +kernel
theorem dX10_eat_77 : decode cX10_eat 77 = .ok (.iadd, 1) := by decide +kernel
theorem dX10_eat_78 : decode cX10_eat 78 = .ok (.putfield 154, 3) := by decide +kernel
theorem dX10_eat_81 : decode cX10_eat 81 = .ok (.iconst 1, 1) := by decide +kernel
theorem dX10_eat_82 : decode cX10_eat 82 = .ok (.ireturn, 1) := by decide +kernel
theorem dX10_key_0 : decode cX10_key 0 = .ok (.aload_n 0, 1) := by decide +kernel
theorem dX10_key_1 : decode cX10_key 1 = .ok (.ldc 173, 2) := by decide +kernel
theorem dX10_key_3 : decode cX10_key 3 = .ok (.invokevirtual 175, 3) := by decide +kernel
theorem dX10_key_6 : decode cX10_key 6 = .ok (.ifCond .eq 7, 3) := by decide +kernel
theorem dX10_key_9 : decode cX10_key 9 = .ok (.iconst 0, 1) := by decide +kernel
theorem dX10_key_10 : decode cX10_key 10 = .ok (.goto 56, 3) := by decide +kernel
theorem dX10_key_13 : decode cX10_key 13 = .ok (.aload_n 0, 1) := by decide +kernel
theorem dX10_key_14 : decode cX10_key 14 = .ok (.ldc 179, 2) := by decide +kernel
theorem dX10_key_16 : decode cX10_key 16 = .ok (.invokevirtual 175, 3) := by decide +kernel
theorem dX10_key_19 : decode cX10_key 19 = .ok (.ifCond .eq 7, 3) := by decide +kernel
theorem dX10_key_22 : decode cX10_key 22 = .ok (.iconst 1, 1) := by decide +kernel
theorem dX10_key_23 : decode cX10_key 23 = .ok (.goto 43, 3) := by decide +kernel
theorem dX10_key_26 : decode cX10_key 26 = .ok (.aload_n 0, 1) := by decide +kernel
theorem dX10_key_27 : decode cX10_key 27 = .ok (.ldc 181, 2) := by decide +kernel
theorem dX10_key_29 : decode cX10_key 29 = .ok (.invokevirtual 175, 3) := by decide +kernel
theorem dX10_key_32 : decode cX10_key 32 = .ok (.ifCond .eq 7, 3) := by decide +kernel
theorem dX10_key_35 : decode cX10_key 35 = .ok (.iconst 2, 1) := by decide +kernel
theorem dX10_key_36 : decode cX10_key 36 = .ok (.goto 30, 3) := by decide +kernel
theorem dX10_key_39 : decode cX10_key 39 = .ok (.aload_n 0, 1) := by decide +kernel
theorem dX10_key_40 : decode cX10_key 40 = .ok (.ldc 182, 2) := by decide +kernel
theorem dX10_key_42 : decode cX10_key 42 = .ok (.invokevirtual 175, 3) := by decide +kernel
theorem dX10_key_45 : decode cX10_key 45 = .ok (.ifCond .eq 7, 3) := by decide +kernel
theorem dX10_key_48 : decode cX10_key 48 = .ok (.iconst 3, 1) := by decide +kernel
theorem dX10_key_49 : decode cX10_key 49 = .ok (.goto 17, 3) := by decide +kernel
theorem dX10_key_52 : decode cX10_key 52 = .ok (.aload_n 0, 1) := by decide +kernel
theorem dX10_key_53 : decode cX10_key 53 = .ok (.ldc 184, 2) := by decide +kernel
theorem dX10_key_55 : decode cX10_key 55 = .ok (.invokevirtual 175, 3) := by decide +kernel
theorem dX10_key_58 : decode cX10_key 58 = .ok (.ifCond .eq 7, 3) := by decide +kernel
theorem dX10_key_61 : decode cX10_key 61 = .ok (.iconst 4, 1) := by decide +kernel
theorem dX10_key_62 : decode cX10_key 62 = .ok (.goto 4, 3) := by decide +kernel
theorem dX10_key_65 : decode cX10_key 65 = .ok (.iconst (-1), 1) := by decide +kernel
theorem dX10_key_66 : decode cX10_key 66 = .ok (.istore_n 2, 1) := by decide +kernel
theorem dX10_key_67 : decode cX10_key 67 = .ok (.iload_n 2, 1) := by decide +kernel
theorem dX10_key_68 : decode cX10_key 68 = .ok (.ifCond .ge 9, 3) := by decide +kernel
theorem dX10_key_71 : decode cX10_key 71 = .ok (.aload_n 0, 1) := by decide +kernel
theorem dX10_key_72 : decode cX10_key 72 = .ok (.iconst 1, 1) := by decide +kernel
theorem dX10_key_73 : decode cX10_key 73 = .ok (.putfield 186, 3) := by decide +kernel
theorem dX10_key_76 : decode cX10_key 76 = .ok (.return_, 1) := by decide +kernel
theorem dX10_key_77 : decode cX10_key 77 = .ok (.iload_n 2, 1) := by decide +kernel
theorem dX10_key_78 : decode cX10_key 78 = .ok (.iconst 4, 1) := by decide +kernel
theorem dX10_key_79 : decode cX10_key 79 = .ok (.if_icmp .ne 105, 3) := by decide +kernel
theorem dX10_key_82 : decode cX10_key 82 = .ok (.aload_n 0, 1) := by decide +kernel
theorem dX10_key_83 : decode cX10_key 83 = .ok (.invokevirtual 160, 3) := by decide +kernel
theorem dX10_key_86 : decode cX10_key 86 = .ok (.aload_n 0, 1) := by decide +kernel
theorem dX10_key_87 : decode cX10_key 87 = .ok (.aload_n 0, 1) := by decide +kernel
theorem dX10_key_88 : decode cX10_key 88 = .ok (.getfield 154, 3) := by decide +kernel
theorem dX10_key_91 : decode cX10_key 91 = .ok (.invokevirtual 157, 3) := by decide +kernel
theorem dX10_key_94 : decode cX10_key 94 = .ok (.istore_n 3, 1) := by decide +kernel
theorem dX10_key_95 : decode cX10_key 95 = .ok (.aload_n 0, 1) := by decide +kernel
theorem dX10_key_96 : decode cX10_key 96 = .ok (.aload_n 0, 1) := by decide +kernel
theorem dX10_key_97 : decode cX10_key 97 = .ok (.getfield 154, 3) := by decide +kernel
theorem dX10_key_100 : decode cX10_key 100 = .ok (.iconst 1, 1) := by decide +kernel
theorem dX10_key_101 : decode cX10_key 101 = .ok (.iadd, 1) := by decide +kernel
theorem dX10_key_102 : decode cX10_key 102 = .ok (.invokevirtual 157, 3) := by decide +kernel
theorem dX10_key_105 : decode cX10_key 105 = .ok (.istore 4, 2) := by decide +kernel
theorem dX10_key_107 : decode cX10_key 107 = .ok (.aload_n 0, 1) := by decide +kernel
theorem dX10_key_108 : decode cX10_key 108 = .ok (.iload_n 3, 1) := by decide +kernel
theorem dX10_key_109 : decode cX10_key 109 = .ok (.bipush 48, 2) := by decide +kernel
theorem dX10_key_111 : decode cX10_key 111 = .ok (.if_icmp .lt 9, 3) := by decide +kernel
theorem dX10_key_114 : decode cX10_key 114 = .ok (.iload_n 3, 1) := by decide +kernel
theorem dX10_key_115 : decode cX10_key 115 = .ok (.bipush 52, 2) := by decide +kernel
theorem dX10_key_117 : decode cX10_key 117 = .ok (.if_icmp .le 7, 3) := by decide +kernel
theorem dX10_key_120 : decode cX10_key 120 = .ok (.iconst 1, 1) := by decide +kernel
theorem dX10_key_121 : decode cX10_key 121 = .ok (.goto 4, 3) := by decide +kernel
theorem dX10_key_124 : decode cX10_key 124 = .ok (.iconst 0, 1) := by decide +kernel
theorem dX10_key_125 : decode cX10_key 125 = .ok (.putfield 186, 3) := by decide +kernel
theorem dX10_key_128 : decode cX10_key 128 = .ok (.aload_n 0, 1) := by decide +kernel
theorem dX10_key_129 : decode cX10_key 129 = .ok (.getfield 186, 3) := by decide +kernel
theorem dX10_key_132 : decode cX10_key 132 = .ok (.ifCond .eq 4, 3) := by decide +kernel
theorem dX10_key_135 : decode cX10_key 135 = .ok (.return_, 1) := by decide +kernel
theorem dX10_key_136 : decode cX10_key 136 = .ok (.iconst 4, 1) := by decide +kernel
theorem dX10_key_137 : decode cX10_key 137 = .ok (.iload_n 3, 1) := by decide +kernel
theorem dX10_key_138 : decode cX10_key 138 = .ok (.iadd, 1) := by decide +kernel
theorem dX10_key_139 : decode cX10_key 139 = .ok (.bipush 48, 2) := by decide +kernel
theorem dX10_key_141 : decode cX10_key 141 = .ok (.isub, 1) := by decide +kernel
theorem dX10_key_142 : decode cX10_key 142 = .ok (.istore_n 2, 1) := by decide +kernel
theorem dX10_key_143 : decode cX10_key 143 = .ok (.aload_n 0, 1) := by decide +kernel
theorem dX10_key_144 : decode cX10_key 144 = .ok (.dup, 1) := by decide +kernel
theorem dX10_key_145 : decode cX10_key 145 = .ok (.getfield 154, 3) := by decide +kernel
theorem dX10_key_148 : decode cX10_key 148 = .ok (.iconst 1, 1) := by decide +kernel
theorem dX10_key_149 : decode cX10_key 149 = .ok (.iadd, 1) := by decide +kernel
theorem dX10_key_150 : decode cX10_key 150 = .ok (.putfield 154, 3) := by decide +kernel
theorem dX10_key_153 : decode cX10_key 153 = .ok (.aload_n 0, 1) := by decide +kernel
theorem dX10_key_154 : decode cX10_key 154 = .ok (.iload 4, 2) := by decide +kernel
theorem dX10_key_156 : decode cX10_key 156 = .ok (.bipush 48, 2) := by decide +kernel
theorem dX10_key_158 : decode cX10_key 158 = .ok (.if_icmp .lt 14, 3) := by decide +kernel
theorem dX10_key_161 : decode cX10_key 161 = .ok (.iload 4, 2) := by decide +kernel
theorem dX10_key_163 : decode cX10_key 163 = .ok (.bipush 57, 2) := by decide +kernel
theorem dX10_key_165 : decode cX10_key 165 = .ok (.if_icmp .gt 7, 3) := by decide +kernel
theorem dX10_key_168 : decode cX10_key 168 = .ok (.iconst 1, 1) := by decide +kernel
theorem dX10_key_169 : decode cX10_key 169 = .ok (.goto 4, 3) := by decide +kernel
theorem dX10_key_172 : decode cX10_key 172 = .ok (.iconst 0, 1) := by decide +kernel
theorem dX10_key_173 : decode cX10_key 173 = .ok (.putfield 186, 3) := by decide +kernel
theorem dX10_key_176 : decode cX10_key 176 = .ok (.aload_n 0, 1) := by decide +kernel
theorem dX10_key_177 : decode cX10_key 177 = .ok (.getfield 186, 3) := by decide +kernel
theorem dX10_key_180 : decode cX10_key 180 = .ok (.ifCond .eq 4, 3) := by decide +kernel
theorem dX10_key_183 : decode cX10_key 183 = .ok (.return_, 1) := by decide +kernel
theorem dX10_key_184 : decode cX10_key 184 = .ok (.aload_n 0, 1) := by decide +kernel
theorem dX10_key_185 : decode cX10_key 185 = .ok (.getfield 58, 3) := by decide +kernel
theorem dX10_key_188 : decode cX10_key 188 = .ok (.iload_n 1, 1) := by decide +kernel
theorem dX10_key_189 : decode cX10_key 189 = .ok (.iload_n 2, 1) := by decide +kernel
theorem dX10_key_190 : decode cX10_key 190 = .ok (.iastore, 1) := by decide +kernel
theorem dX10_key_191 : decode cX10_key 191 = .ok (.aload_n 0, 1) := by decide +kernel
theorem dX10_key_192 : decode cX10_key 192 = .ok (.getfield 61, 3) := by decide +kernel
theorem dX10_key_195 : decode cX10_key 195 = .ok (.iload_n 1, 1) := by decide +kernel
theorem dX10_key_196 : decode cX10_key 196 = .ok (.aload_n 0, 1) := by decide +kernel
theorem dX10_key_197 : decode cX10_key 197 = .ok (.ldc 189, 2) := by decide +kernel
theorem dX10_key_199 : decode cX10_key 199 = .ok (.invokevirtual 175, 3) := by decide +kernel
theorem dX10_key_202 : decode cX10_key 202 = .ok (.bastore, 1) := by decide +kernel
theorem dX10_key_203 : decode cX10_key 203 = .ok (.aload_n 0, 1) := by decide +kernel
theorem dX10_key_204 : decode cX10_key 204 = .ok (.aload_n 0, 1) := by decide +kernel
theorem dX10_key_205 : decode cX10_key 205 = .ok (.getfield 61, 3) := by decide +kernel
theorem dX10_key_208 : decode cX10_key 208 = .ok (.iload_n 1, 1) := by decide +kernel
theorem dX10_key_209 : decode cX10_key 209 = .ok (.baload, 1) := by decide +kernel
theorem dX10_key_210 : decode cX10_key 210 = .ok (.ifCond .ne 16, 3) := by decide +kernel
theorem dX10_key_213 : decode cX10_key 213 = .ok (.aload_n 0, 1) := by decide +kernel
theorem dX10_key_214 : decode cX10_key 214 = .ok (.ldc 191, 2) := by decide +kernel
theorem dX10_key_216 : decode cX10_key 216 = .ok (.invokevirtual 175, 3) := by decide +kernel
theorem dX10_key_219 : decode cX10_key 219 = .ok (.ifCond .ne 7, 3) := by decide +kernel
theorem dX10_key_222 : decode cX10_key 222 = .ok (.iconst 1, 1) := by decide +kernel
theorem dX10_key_223 : decode cX10_key 223 = .ok (.goto 4, 3) := by decide +kernel
theorem dX10_key_226 : decode cX10_key 226 = .ok (.iconst 0, 1) := by decide +kernel
theorem dX10_key_227 : decode cX10_key 227 = .ok (.putfield 186, 3) := by decide +kernel
theorem dX10_key_230 : decode cX10_key 230 = .ok (.return_, 1) := by decide +kernel
theorem dX10_rule_0 : decode cX10_rule 0 = .ok (.aload_n 0, 1) := by decide +kernel
theorem dX10_rule_1 : decode cX10_rule 1 = .ok (.iconst 0, 1) := by decide +kernel
theorem dX10_rule_2 : decode cX10_rule 2 = .ok (.putfield 82, 3) := by decide +kernel
theorem dX10_rule_5 : decode cX10_rule 5 = .ok (.aload_n 0, 1) := by decide +kernel
theorem dX10_rule_6 : decode cX10_rule 6 = .ok (.iload_n 1, 1) := by decide +kernel
theorem dX10_rule_7 : decode cX10_rule 7 = .ok (.ifCond .lt 11, 3) := by decide +kernel
theorem dX10_rule_10 : decode cX10_rule 10 = .ok (.iload_n 1, 1) := by decide +kernel
theorem dX10_rule_11 : decode cX10_rule 11 = .ok (.aload_n 0, 1) := by decide +kernel
theorem dX10_rule_12 : decode cX10_rule 12 = .ok (.getfield 148, 3) := by decide +kernel
theorem dX10_rule_15 : decode cX10_rule 15 = .ok (.if_icmp .le 7, 3) := by decide +kernel
theorem dX10_rule_18 : decode cX10_rule 18 = .ok (.iconst 1, 1) := by decide +kernel
theorem dX10_rule_19 : decode cX10_rule 19 = .ok (.goto 4, 3) := by decide +kernel
theorem dX10_rule_22 : decode cX10_rule 22 = .ok (.iconst 0, 1) := by decide +kernel
theorem dX10_rule_23 : decode cX10_rule 23 = .ok (.iconst 1, 1) := by decide +kernel
theorem dX10_rule_24 : decode cX10_rule 24 = .ok (.invokevirtual 85, 3) := by decide +kernel
theorem dX10_rule_27 : decode cX10_rule 27 = .ok (.ifCond .eq 5, 3) := by decide +kernel
theorem dX10_rule_30 : decode cX10_rule 30 = .ok (.iconst 0, 1) := by decide +kernel
theorem dX10_rule_31 : decode cX10_rule 31 = .ok (.ireturn, 1) := by decide +kernel
theorem dX10_rule_32 : decode cX10_rule 32 = .ok (.aload_n 0, 1) := by decide +kernel
theorem dX10_rule_33 : decode cX10_rule 33 = .ok (.iload_n 1, 1) := by decide +kernel
theorem dX10_rule_34 : decode cX10_rule 34 = .ok (.putfield 151, 3) := by decide +kernel
theorem dX10_rule_37 : decode cX10_rule 37 = .ok (.aload_n 0, 1) := by decide +kernel
theorem dX10_rule_38 : decode cX10_rule 38 = .ok (.iconst 0, 1) := by decide +kernel
theorem dX10_rule_39 : decode cX10_rule 39 = .ok (.putfield 148, 3) := by decide +kernel
theorem dX10_rule_42 : decode cX10_rule 42 = .ok (.aload_n 0, 1) := by decide +kernel
theorem dX10_rule_43 : decode cX10_rule 43 = .ok (.iconst 0, 1) := by decide +kernel
theorem dX10_rule_44 : decode cX10_rule 44 = .ok (.putfield 154, 3) := by decide +kernel
theorem dX10_rule_47 : decode cX10_rule 47 = .ok (.aload_n 0, 1) := by decide +kernel
theorem dX10_rule_48 : decode cX10_rule 48 = .ok (.iconst 0, 1) := by decide +kernel
theorem dX10_rule_49 : decode cX10_rule 49 = .ok (.putfield 186, 3) := by decide +kernel
theorem dX10_rule_52 : decode cX10_rule 52 = .ok (.aload_n 0, 1) := by decide +kernel
theorem dX10_rule_53 : decode cX10_rule 53 = .ok (.iconst 0, 1) := by decide +kernel
theorem dX10_rule_54 : decode cX10_rule 54 = .ok (.invokevirtual 193, 3) := by decide +kernel
theorem dX10_rule_57 : decode cX10_rule 57 = .ok (.iconst 1, 1) := by decide +kernel
theorem dX10_rule_58 : decode cX10_rule 58 = .ok (.istore_n 2, 1) := by decide +kernel
theorem dX10_rule_59 : decode cX10_rule 59 = .ok (.aload_n 0, 1) := by decide +kernel
theorem dX10_rule_60 : decode cX10_rule 60 = .ok (.getfield 186, 3) := by decide +kernel
theorem dX10_rule_63 : decode cX10_rule 63 = .ok (.ifCond .ne 69, 3) := by decide +kernel
theorem dX10_rule_66 : decode cX10_rule 66 = .ok (.aload_n 0, 1) := by decide +kernel
theorem dX10_rule_67 : decode cX10_rule 67 = .ok (.invokevirtual 160, 3) := by decide +kernel
theorem dX10_rule_70 : decode cX10_rule 70 = .ok (.aload_n 0, 1) := by decide +kernel
theorem dX10_rule_71 : decode cX10_rule 71 = .ok (.aload_n 0, 1) := by decide +kernel
theorem dX10_rule_72 : decode cX10_rule 72 = .ok (.getfield 154, 3) := by decide +kernel
theorem dX10_rule_75 : decode cX10_rule 75 = .ok (.invokevirtual 157, 3) := by decide +kernel
theorem dX10_rule_78 : decode cX10_rule 78 = .ok (.bipush 44, 2) := by decide +kernel
theorem dX10_rule_80 : decode cX10_rule 80 = .ok (.if_icmp .eq 6, 3) := by decide +kernel
theorem dX10_rule_83 : decode cX10_rule 83 = .ok (.goto 49, 3) := by decide +kernel
theorem dX10_rule_86 : decode cX10_rule 86 = .ok (.aload_n 0, 1) := by decide +kernel
theorem dX10_rule_87 : decode cX10_rule 87 = .ok (.iload_n 2, 1) := by decide +kernel
theorem dX10_rule_88 : decode cX10_rule 88 = .ok (.bipush 6, 2) := by decide +kernel
theorem dX10_rule_90 : decode cX10_rule 90 = .ok (.if_icmp .ne 7, 3) := by decide +kernel
theorem dX10_rule_93 : decode cX10_rule 93 = .ok (.iconst 1, 1) := by decide +kernel
theorem dX10_rule_94 : decode cX10_rule 94 = .ok (.goto 4, 3) := by decide +kernel
theorem dX10_rule_97 : decode cX10_rule 97 = .ok (.iconst 0, 1) := by decide +kernel
theorem dX10_rule_98 : decode cX10_rule 98 = .ok (.putfield 186, 3) := by decide +kernel
theorem dX10_rule_101 : decode cX10_rule 101 = .ok (.aload_n 0, 1) := by decide +kernel
theorem dX10_rule_102 : decode cX10_rule 102 = .ok (.getfield 186, 3) := by decide +kernel
theorem dX10_rule_105 : decode cX10_rule 105 = .ok (.ifCond .eq 6, 3) := by decide +kernel
theorem dX10_rule_108 : decode cX10_rule 108 = .ok (.goto 24, 3) := by decide +kernel
theorem dX10_rule_111 : decode cX10_rule 111 = .ok (.aload_n 0, 1) := by decide +kernel
theorem dX10_rule_112 : decode cX10_rule 112 = .ok (.dup, 1) := by decide +kernel
theorem dX10_rule_113 : decode cX10_rule 113 = .ok (.getfield 154, 3) := by decide +kernel
theorem dX10_rule_116 : decode cX10_rule 116 = .ok (.iconst 1, 1) := by decide +kernel
theorem dX10_rule_117 : decode cX10_rule 117 = .ok (.iadd, 1) := by decide +kernel
theorem dX10_rule_118 : decode cX10_rule 118 = .ok (.putfield 154, 3) := by decide +kernel
theorem dX10_rule_121 : decode cX10_rule 121 = .ok (.aload_n 0, 1) := by decide +kernel
theorem dX10_rule_122 : decode cX10_rule 122 = .ok (.iload_n 2, 1) := by decide +kernel
theorem dX10_rule_123 : decode cX10_rule 123 = .ok (.invokevirtual 193, 3) := by decide +kernel
theorem dX10_rule_126 : decode cX10_rule 126 = .ok (.iinc 2 1, 3) := by decide +kernel
theorem dX10_rule_129 : decode cX10_rule 129 = .ok (.goto (-70), 3) := by decide +kernel
theorem dX10_rule_132 : decode cX10_rule 132 = .ok (.aload_n 0, 1) := by decide +kernel
theorem dX10_rule_133 : decode cX10_rule 133 = .ok (.getfield 186, 3) := by decide +kernel
theorem dX10_rule_136 : decode cX10_rule 136 = .ok (.ifCond .ne 14, 3) := by decide +kernel
theorem dX10_rule_139 : decode cX10_rule 139 = .ok (.aload_n 0, 1) := by decide +kernel
theorem dX10_rule_140 : decode cX10_rule 140 = .ok (.getfield 154, 3) := by decide +kernel
theorem dX10_rule_143 : decode cX10_rule 143 = .ok (.aload_n 0, 1) := by decide +kernel
theorem dX10_rule_144 : decode cX10_rule 144 = .ok (.getfield 151, 3) := by decide +kernel
theorem dX10_rule_147 : decode cX10_rule 147 = .ok (.if_icmp .ge 11, 3) := by decide +kernel
theorem dX10_rule_150 : decode cX10_rule 150 = .ok (.bipush (-2), 2) := by decide +kernel
theorem dX10_rule_152 : decode cX10_rule 152 = .ok (.aload_n 0, 1) := by decide +kernel
theorem dX10_rule_153 : decode cX10_rule 153 = .ok (.getfield 154, 3) := by decide +kernel
theorem dX10_rule_156 : decode cX10_rule 156 = .ok (.isub, 1) := by decide +kernel
theorem dX10_rule_157 : decode cX10_rule 157 = .ok (.ireturn, 1) := by decide +kernel
theorem dX10_rule_158 : decode cX10_rule 158 = .ok (.iconst 0, 1) := by decide +kernel
theorem dX10_rule_159 : decode cX10_rule 159 = .ok (.istore_n 3, 1) := by decide +kernel
theorem dX10_rule_160 : decode cX10_rule 160 = .ok (.iload_n 3, 1) := by decide +kernel
theorem dX10_rule_161 : decode cX10_rule 161 = .ok (.iload_n 2, 1) := by decide +kernel
theorem dX10_rule_162 : decode cX10_rule 162 = .ok (.if_icmp .ge 33, 3) := by decide +kernel
theorem dX10_rule_165 : decode cX10_rule 165 = .ok (.aload_n 0, 1) := by decide +kernel
theorem dX10_rule_166 : decode cX10_rule 166 = .ok (.getfield 51, 3) := by decide +kernel
theorem dX10_rule_169 : decode cX10_rule 169 = .ok (.iload_n 3, 1) := by decide +kernel
theorem dX10_rule_170 : decode cX10_rule 170 = .ok (.aload_n 0, 1) := by decide +kernel
theorem dX10_rule_171 : decode cX10_rule 171 = .ok (.getfield 58, 3) := by decide +kernel
theorem dX10_rule_174 : decode cX10_rule 174 = .ok (.iload_n 3, 1) := by decide +kernel
theorem dX10_rule_175 : decode cX10_rule 175 = .ok (.iaload, 1) := by decide +kernel
theorem dX10_rule_176 : decode cX10_rule 176 = .ok (.iastore, 1) := by decide +kernel
theorem dX10_rule_177 : decode cX10_rule 177 = .ok (.aload_n 0, 1) := by decide +kernel
theorem dX10_rule_178 : decode cX10_rule 178 = .ok (.getfield 54, 3) := by decide +kernel
theorem dX10_rule_181 : decode cX10_rule 181 = .ok (.iload_n 3, 1) := by decide +kernel
theorem dX10_rule_182 : decode cX10_rule 182 = .ok (.aload_n 0, 1) := by decide +kernel
theorem dX10_rule_183 : decode cX10_rule 183 = .ok (.getfield 61, 3) := by decide +kernel
theorem dX10_rule_186 : decode cX10_rule 186 = .ok (.iload_n 3, 1) := by decide +kernel
theorem dX10_rule_187 : decode cX10_rule 187 = .ok (.baload, 1) := by decide +kernel
theorem dX10_rule_188 : decode cX10_rule 188 = .ok (.bastore, 1) := by decide +kernel
theorem dX10_rule_189 : decode cX10_rule 189 = .ok (.iinc 3 1, 3) := by decide +kernel
theorem dX10_rule_192 : decode cX10_rule 192 = .ok (.goto (-32), 3) := by decide +kernel
theorem dX10_rule_195 : decode cX10_rule 195 = .ok (.aload_n 0, 1) := by decide +kernel
theorem dX10_rule_196 : decode cX10_rule 196 = .ok (.iload_n 2, 1) := by decide +kernel
theorem dX10_rule_197 : decode cX10_rule 197 = .ok (.putfield 79, 3) := by decide +kernel
theorem dX10_rule_200 : decode cX10_rule 200 = .ok (.iload_n 2, 1) := by decide +kernel
theorem dX10_rule_201 : decode cX10_rule 201 = .ok (.ireturn, 1) := by decide +kernel
theorem dX10_valueOf_0 : decode cX10_valueOf 0 = .ok (.aload_n 0, 1) := by decide +kernel
theorem dX10_valueOf_1 : decode cX10_valueOf 1 = .ok (.getfield 22, 3) := by decide +kernel
theorem dX10_valueOf_4 : decode cX10_valueOf 4 = .ok (.iload_n 1, 1) := by decide +kernel
theorem dX10_valueOf_5 : decode cX10_valueOf 5 = .ok (.iaload, 1) := by decide +kernel
theorem dX10_valueOf_6 : decode cX10_valueOf 6 = .ok (.istore_n 3, 1) := by decide +kernel
theorem dX10_valueOf_7 : decode cX10_valueOf 7 = .ok (.iload_n 2, 1) := by decide +kernel
theorem dX10_valueOf_8 : decode cX10_valueOf 8 = .ok (.ifCond .ne 11, 3) := by decide +kernel
theorem dX10_valueOf_11 : decode cX10_valueOf 11 = .ok (.aload_n 0, 1) := by decide +kernel
theorem dX10_valueOf_12 : decode cX10_valueOf 12 = .ok (.iload_n 3, 1) := by decide +kernel
theorem dX10_valueOf_13 : decode cX10_valueOf 13 = .ok (.invokevirtual 142, 3) := by decide +kernel
theorem dX10_valueOf_16 : decode cX10_valueOf 16 = .ok (.goto 52, 3) := by decide +kernel
theorem dX10_valueOf_19 : decode cX10_valueOf 19 = .ok (.iload_n 2, 1) := by decide +kernel
theorem dX10_valueOf_20 : decode cX10_valueOf 20 = .ok (.iconst 1, 1) := by decide +kernel
theorem dX10_valueOf_21 : decode cX10_valueOf 21 = .ok (.if_icmp .ne 11, 3) := by decide +kernel
theorem dX10_valueOf_24 : decode cX10_valueOf 24 = .ok (.aload_n 0, 1) := by decide +kernel
theorem dX10_valueOf_25 : decode cX10_valueOf 25 = .ok (.iload_n 3, 1) := by decide +kernel
theorem dX10_valueOf_26 : decode cX10_valueOf 26 = .ok (.invokevirtual 135, 3) := by decide +kernel
theorem dX10_valueOf_29 : decode cX10_valueOf 29 = .ok (.goto 39, 3) := by decide +kernel
theorem dX10_valueOf_32 : decode cX10_valueOf 32 = .ok (.iload_n 2, 1) := by decide +kernel
theorem dX10_valueOf_33 : decode cX10_valueOf 33 = .ok (.iconst 2, 1) := by decide +kernel
theorem dX10_valueOf_34 : decode cX10_valueOf 34 = .ok (.if_icmp .ne 12, 3) := by decide +kernel
theorem dX10_valueOf_37 : decode cX10_valueOf 37 = .ok (.aload_n 0, 1) := by decide +kernel
theorem dX10_valueOf_38 : decode cX10_valueOf 38 = .ok (.getfield 37, 3) := by decide +kernel
theorem dX10_valueOf_41 : decode cX10_valueOf 41 = .ok (.iload_n 3, 1) := by decide +kernel
theorem dX10_valueOf_42 : decode cX10_valueOf 42 = .ok (.iaload, 1) := by decide +kernel
theorem dX10_valueOf_43 : decode cX10_valueOf 43 = .ok (.goto 25, 3) := by decide +kernel
theorem dX10_valueOf_46 : decode cX10_valueOf 46 = .ok (.iload_n 2, 1) := by decide +kernel
theorem dX10_valueOf_47 : decode cX10_valueOf 47 = .ok (.iconst 3, 1) := by decide +kernel
theorem dX10_valueOf_48 : decode cX10_valueOf 48 = .ok (.if_icmp .ne 12, 3) := by decide +kernel
theorem dX10_valueOf_51 : decode cX10_valueOf 51 = .ok (.aload_n 0, 1) := by decide +kernel
theorem dX10_valueOf_52 : decode cX10_valueOf 52 = .ok (.getfield 13, 3) := by decide +kernel
theorem dX10_valueOf_55 : decode cX10_valueOf 55 = .ok (.iload_n 1, 1) := by decide +kernel
theorem dX10_valueOf_56 : decode cX10_valueOf 56 = .ok (.iaload, 1) := by decide +kernel
theorem dX10_valueOf_57 : decode cX10_valueOf 57 = .ok (.goto 11, 3) := by decide +kernel
theorem dX10_valueOf_60 : decode cX10_valueOf 60 = .ok (.aload_n 0, 1) := by decide +kernel
theorem dX10_valueOf_61 : decode cX10_valueOf 61 = .ok (.iload_n 3, 1) := by decide +kernel
theorem dX10_valueOf_62 : decode cX10_valueOf 62 = .ok (.iload_n 2, 1) := by decide +kernel
theorem dX10_valueOf_63 : decode cX10_valueOf 63 = .ok (.iconst 4, 1) := by decide +kernel
theorem dX10_valueOf_64 : decode cX10_valueOf 64 = .ok (.isub, 1) := by decide +kernel
theorem dX10_valueOf_65 : decode cX10_valueOf 65 = .ok (.invokevirtual 132, 3) := by decide +kernel
theorem dX10_valueOf_68 : decode cX10_valueOf 68 = .ok (.ireturn, 1) := by decide +kernel
theorem dX10_values_0 : decode cX10_values 0 = .ok (.iconst 0, 1) := by decide +kernel
theorem dX10_values_1 : decode cX10_values 1 = .ok (.istore_n 1, 1) := by decide +kernel
theorem dX10_values_2 : decode cX10_values 2 = .ok (.iload_n 1, 1) := by decide +kernel
theorem dX10_values_3 : decode cX10_values 3 = .ok (.aload_n 0, 1) := by decide +kernel
theorem dX10_values_4 : decode cX10_values 4 = .ok (.getfield 89, 3) := by decide +kernel
theorem dX10_values_7 : decode cX10_values 7 = .ok (.if_icmp .ge 47, 3) := by decide +kernel
theorem dX10_values_10 : decode cX10_values 10 = .ok (.iconst 0, 1) := by decide +kernel
theorem dX10_values_11 : decode cX10_values 11 = .ok (.istore_n 2, 1) := by decide +kernel
theorem dX10_values_12 : decode cX10_values 12 = .ok (.iload_n 2, 1) := by decide +kernel
theorem dX10_values_13 : decode cX10_values 13 = .ok (.aload_n 0, 1) := by decide +kernel
theorem dX10_values_14 : decode cX10_values 14 = .ok (.getfield 79, 3) := by decide +kernel
theorem dX10_values_17 : decode cX10_values 17 = .ok (.if_icmp .ge 31, 3) := by decide +kernel
theorem dX10_values_20 : decode cX10_values 20 = .ok (.aload_n 0, 1) := by decide +kernel
theorem dX10_values_21 : decode cX10_values 21 = .ok (.getfield 64, 3) := by decide +kernel
theorem dX10_values_24 : decode cX10_values 24 = .ok (.bipush 6, 2) := by decide +kernel
theorem dX10_values_26 : decode cX10_values 26 = .ok (.iload_n 1, 1) := by decide +kernel
theorem dX10_values_27 : decode cX10_values 27 = .ok (.imul, 1) := by decide +kernel
theorem dX10_values_28 : decode cX10_values 28 = .ok (.iload_n 2, 1) := by decide +kernel
theorem dX10_values_29 : decode cX10_values 29 = .ok (.iadd, 1) := by decide +kernel
theorem dX10_values_30 : decode cX10_values 30 = .ok (.aload_n 0, 1) := by decide +kernel
theorem dX10_values_31 : decode cX10_values 31 = .ok (.iload_n 1, 1) := by decide +kernel
theorem dX10_values_32 : decode cX10_values 32 = .ok (.aload_n 0, 1) := by decide +kernel
theorem dX10_values_33 : decode cX10_values 33 = .ok (.getfield 51, 3) := by decide +kernel
theorem dX10_values_36 : decode cX10_values 36 = .ok (.iload_n 2, 1) := by decide +kernel
theorem dX10_values_37 : decode cX10_values 37 = .ok (.iaload, 1) := by decide +kernel
theorem dX10_values_38 : decode cX10_values 38 = .ok (.invokevirtual 197, 3) := by decide +kernel
theorem dX10_values_41 : decode cX10_values 41 = .ok (.iastore, 1) := by decide +kernel
theorem dX10_values_42 : decode cX10_values 42 = .ok (.iinc 2 1, 3) := by decide +kernel
theorem dX10_values_45 : decode cX10_values 45 = .ok (.goto (-33), 3) := by decide +kernel
theorem dX10_values_48 : decode cX10_values 48 = .ok (.iinc 1 1, 3) := by decide +kernel
theorem dX10_values_51 : decode cX10_values 51 = .ok (.goto (-49), 3) := by decide +kernel
theorem dX10_values_54 : decode cX10_values 54 = .ok (.return_, 1) := by decide +kernel
theorem dX10_isAhead_0 : decode cX10_isAhead 0 = .ok (.iconst 0, 1) := by decide +kernel
theorem dX10_isAhead_1 : decode cX10_isAhead 1 = .ok (.istore_n 3, 1) := by decide +kernel
theorem dX10_isAhead_2 : decode cX10_isAhead 2 = .ok (.iload_n 3, 1) := by decide +kernel
theorem dX10_isAhead_3 : decode cX10_isAhead 3 = .ok (.aload_n 0, 1) := by decide +kernel
theorem dX10_isAhead_4 : decode cX10_isAhead 4 = .ok (.getfield 79, 3) := by decide +kernel
theorem dX10_isAhead_7 : decode cX10_isAhead 7 = .ok (.if_icmp .ge 79, 3) := by decide +kernel
theorem dX10_isAhead_10 : decode cX10_isAhead 10 = .ok (.aload_n 0, 1) := by decide +kernel
theorem dX10_isAhead_11 : decode cX10_isAhead 11 = .ok (.getfield 64, 3) := by decide +kernel
theorem dX10_isAhead_14 : decode cX10_isAhead 14 = .ok (.bipush 6, 2) := by decide +kernel
theorem dX10_isAhead_16 : decode cX10_isAhead 16 = .ok (.iload_n 1, 1) := by decide +kernel
theorem dX10_isAhead_17 : decode cX10_isAhead 17 = .ok (.imul, 1) := by decide +kernel
theorem dX10_isAhead_18 : decode cX10_isAhead 18 = .ok (.iload_n 3, 1) := by decide +kernel
theorem dX10_isAhead_19 : decode cX10_isAhead 19 = .ok (.iadd, 1) := by decide +kernel
theorem dX10_isAhead_20 : decode cX10_isAhead 20 = .ok (.iaload, 1) := by decide +kernel
theorem dX10_isAhead_21 : decode cX10_isAhead 21 = .ok (.istore 4, 2) := by decide +kernel
theorem dX10_isAhead_23 : decode cX10_isAhead 23 = .ok (.aload_n 0, 1) := by decide +kernel
theorem dX10_isAhead_24 : decode cX10_isAhead 24 = .ok (.getfield 64, 3) := by decide +kernel
theorem dX10_isAhead_27 : decode cX10_isAhead 27 = .ok (.bipush 6, 2) := by decide +kernel
theorem dX10_isAhead_29 : decode cX10_isAhead 29 = .ok (.iload_n 2, 1) := by decide +kernel
theorem dX10_isAhead_30 : decode cX10_isAhead 30 = .ok (.imul, 1) := by decide +kernel
theorem dX10_isAhead_31 : decode cX10_isAhead 31 = .ok (.iload_n 3, 1) := by decide +kernel
theorem dX10_isAhead_32 : decode cX10_isAhead 32 = .ok (.iadd, 1) := by decide +kernel
theorem dX10_isAhead_33 : decode cX10_isAhead 33 = .ok (.iaload, 1) := by decide +kernel
theorem dX10_isAhead_34 : decode cX10_isAhead 34 = .ok (.istore 5, 2) := by decide +kernel
theorem dX10_isAhead_36 : decode cX10_isAhead 36 = .ok (.iload 4, 2) := by decide +kernel
theorem dX10_isAhead_38 : decode cX10_isAhead 38 = .ok (.iload 5, 2) := by decide +kernel
theorem dX10_isAhead_40 : decode cX10_isAhead 40 = .ok (.if_icmp .eq 40, 3) := by decide +kernel
theorem dX10_isAhead_43 : decode cX10_isAhead 43 = .ok (.aload_n 0, 1) := by decide +kernel
theorem dX10_isAhead_44 : decode cX10_isAhead 44 = .ok (.getfield 54, 3) := by decide +kernel
theorem dX10_isAhead_47 : decode cX10_isAhead 47 = .ok (.iload_n 3, 1) := by decide +kernel
theorem dX10_isAhead_48 : decode cX10_isAhead 48 = .ok (.baload, 1) := by decide +kernel
theorem dX10_isAhead_49 : decode cX10_isAhead 49 = .ok (.ifCond .eq 18, 3) := by decide +kernel
theorem dX10_isAhead_52 : decode cX10_isAhead 52 = .ok (.iload 4, 2) := by decide +kernel
theorem dX10_isAhead_54 : decode cX10_isAhead 54 = .ok (.iload 5, 2) := by decide +kernel
theorem dX10_isAhead_56 : decode cX10_isAhead 56 = .ok (.if_icmp .le 7, 3) := by decide +kernel
theorem dX10_isAhead_59 : decode cX10_isAhead 59 = .ok (.iconst 1, 1) := by decide +kernel
theorem dX10_isAhead_60 : decode cX10_isAhead 60 = .ok (.goto 19, 3) := by decide +kernel
theorem dX10_isAhead_63 : decode cX10_isAhead 63 = .ok (.iconst 0, 1) := by decide +kernel
theorem dX10_isAhead_64 : decode cX10_isAhead 64 = .ok (.goto 15, 3) := by decide +kernel
theorem dX10_isAhead_67 : decode cX10_isAhead 67 = .ok (.iload 4, 2) := by decide +kernel
theorem dX10_isAhead_69 : decode cX10_isAhead 69 = .ok (.iload 5, 2) := by decide +kernel
theorem dX10_isAhead_71 : decode cX10_isAhead 71 = .ok (.if_icmp .ge 7, 3) := by decide +kernel
theorem dX10_isAhead_74 : decode cX10_isAhead 74 = .ok (.iconst 1, 1) := by decide +kernel
theorem dX10_isAhead_75 : decode cX10_isAhead 75 = .ok (.goto 4, 3) := by decide +kernel
theorem dX10_isAhead_78 : decode cX10_isAhead 78 = .ok (.iconst 0, 1) := by decide +kernel
theorem dX10_isAhead_79 : decode cX10_isAhead 79 = .ok (.ireturn, 1) := by decide +kernel
theorem dX10_isAhead_80 : decode cX10_isAhead 80 = .ok (.iinc 3 1, 3) := by decide +kernel
theorem dX10_isAhead_83 : decode cX10_isAhead 83 = .ok (.goto (-81), 3) := by decide +kernel
theorem dX10_isAhead_86 : decode cX10_isAhead 86 = .ok (.iload_n 1, 1) := by decide +kernel
theorem dX10_isAhead_87 : decode cX10_isAhead 87 = .ok (.iload_n 2, 1) := by decide +kernel
theorem dX10_isAhead_88 : decode cX10_isAhead 88 = .ok (.if_icmp .ge 7, 3) := by decide +kernel
theorem dX10_isAhead_91 : decode cX10_isAhead 91 = .ok (.iconst 1, 1) := by decide +kernel
theorem dX10_isAhead_92 : decode cX10_isAhead 92 = .ok (.goto 4, 3) := by decide +kernel
theorem dX10_isAhead_95 : decode cX10_isAhead 95 = .ok (.iconst 0, 1) := by decide +kernel
theorem dX10_isAhead_96 : decode cX10_isAhead 96 = .ok (.ireturn, 1) := by decide +kernel
theorem dX10_rankOf_0 : decode cX10_rankOf 0 = .ok (.iconst 0, 1) := by decide +kernel
theorem dX10_rankOf_1 : decode cX10_rankOf 1 = .ok (.istore_n 3, 1) := by decide +kernel
theorem dX10_rankOf_2 : decode cX10_rankOf 2 = .ok (.iload_n 3, 1) := by decide +kernel
theorem dX10_rankOf_3 : decode cX10_rankOf 3 = .ok (.aload_n 0, 1) := by decide +kernel
theorem dX10_rankOf_4 : decode cX10_rankOf 4 = .ok (.getfield 89, 3) := by decide +kernel
theorem dX10_rankOf_7 : decode cX10_rankOf 7 = .ok (.if_icmp .ge 88, 3) := by decide +kernel
theorem dX10_rankOf_10 : decode cX10_rankOf 10 = .ok (.aload_n 0, 1) := by decide +kernel
theorem dX10_rankOf_11 : decode cX10_rankOf 11 = .ok (.getfield 9, 3) := by decide +kernel
theorem dX10_rankOf_14 : decode cX10_rankOf 14 = .ok (.iload_n 3, 1) := by decide +kernel
theorem dX10_rankOf_15 : decode cX10_rankOf 15 = .ok (.iaload, 1) := by decide +kernel
theorem dX10_rankOf_16 : decode cX10_rankOf 16 = .ok (.iload_n 1, 1) := by decide +kernel
theorem dX10_rankOf_17 : decode cX10_rankOf 17 = .ok (.if_icmp .eq 6, 3) := by decide +kernel
theorem dX10_rankOf_20 : decode cX10_rankOf 20 = .ok (.goto 69, 3) := by decide +kernel
theorem dX10_rankOf_23 : decode cX10_rankOf 23 = .ok (.iconst 0, 1) := by decide +kernel
theorem dX10_rankOf_24 : decode cX10_rankOf 24 = .ok (.istore 4, 2) := by decide +kernel
theorem dX10_rankOf_26 : decode cX10_rankOf 26 = .ok (.iconst 0, 1) := by decide +kernel
theorem dX10_rankOf_27 : decode cX10_rankOf 27 = .ok (.istore 5, 2) := by decide +kernel
theorem dX10_rankOf_29 : decode cX10_rankOf 29 = .ok (.iload 5, 2) := by decide +kernel
theorem dX10_rankOf_31 : decode cX10_rankOf 31 = .ok (.aload_n 0, 1) := by decide +kernel
theorem dX10_rankOf_32 : decode cX10_rankOf 32 = .ok (.getfield 89, 3) := by decide +kernel
theorem dX10_rankOf_35 : decode cX10_rankOf 35 = .ok (.if_icmp .ge 46, 3) := by decide +kernel
theorem dX10_rankOf_38 : decode cX10_rankOf 38 = .ok (.iload 4, 2) := by decide +kernel
theorem dX10_rankOf_40 : decode cX10_rankOf 40 = .ok (.iload 5, 2) := by decide +kernel
theorem dX10_rankOf_42 : decode cX10_rankOf 42 = .ok (.iload_n 3, 1) := by decide +kernel
theorem dX10_rankOf_43 : decode cX10_rankOf 43 = .ok (.if_icmp .eq 28, 3) := by decide +kernel
theorem dX10_rankOf_46 : decode cX10_rankOf 46 = .ok (.aload_n 0, 1) := by decide +kernel
theorem dX10_rankOf_47 : decode cX10_rankOf 47 = .ok (.getfield 9, 3) := by decide +kernel
theorem dX10_rankOf_50 : decode cX10_rankOf 50 = .ok (.iload 5, 2) := by decide +kernel
theorem dX10_rankOf_52 : decode cX10_rankOf 52 = .ok (.iaload, 1) := by decide +kernel
theorem dX10_rankOf_53 : decode cX10_rankOf 53 = .ok (.iload_n 1, 1) := by decide +kernel
theorem dX10_rankOf_54 : decode cX10_rankOf 54 = .ok (.if_icmp .ne 17, 3) := by decide +kernel
theorem dX10_rankOf_57 : decode cX10_rankOf 57 = .ok (.aload_n 0, 1) := by decide +kernel
theorem dX10_rankOf_58 : decode cX10_rankOf 58 = .ok (.iload 5, 2) := by decide +kernel
theorem dX10_rankOf_60 : decode cX10_rankOf 60 = .ok (.iload_n 3, 1) := by decide +kernel
theorem dX10_rankOf_61 : decode cX10_rankOf 61 = .ok (.invokevirtual 200, 3) := by decide +kernel
theorem dX10_rankOf_64 : decode cX10_rankOf 64 = .ok (.ifCond .eq 7, 3) := by decide +kernel
theorem dX10_rankOf_67 : decode cX10_rankOf 67 = .ok (.iconst 1, 1) := by decide +kernel
theorem dX10_rankOf_68 : decode cX10_rankOf 68 = .ok (.goto 4, 3) := by decide +kernel
theorem dX10_rankOf_71 : decode cX10_rankOf 71 = .ok (.iconst 0, 1) := by decide +kernel
theorem dX10_rankOf_72 : decode cX10_rankOf 72 = .ok (.iadd, 1) := by decide +kernel
theorem dX10_rankOf_73 : decode cX10_rankOf 73 = .ok (.istore 4, 2) := by decide +kernel
theorem dX10_rankOf_75 : decode cX10_rankOf 75 = .ok (.iinc 5 1, 3) := by decide +kernel
theorem dX10_rankOf_78 : decode cX10_rankOf 78 = .ok (.goto (-49), 3) := by decide +kernel
theorem dX10_rankOf_81 : decode cX10_rankOf 81 = .ok (.iload 4, 2) := by decide +kernel
theorem dX10_rankOf_83 : decode cX10_rankOf 83 = .ok (.iload_n 2, 1) := by decide +kernel
theorem dX10_rankOf_84 : decode cX10_rankOf 84 = .ok (.if_icmp .ne 5, 3) := by decide +kernel
theorem dX10_rankOf_87 : decode cX10_rankOf 87 = .ok (.iload_n 3, 1) := by decide +kernel
theorem dX10_rankOf_88 : decode cX10_rankOf 88 = .ok (.ireturn, 1) := by decide +kernel
theorem dX10_rankOf_89 : decode cX10_rankOf 89 = .ok (.iinc 3 1, 3) := by decide +kernel
theorem dX10_rankOf_92 : decode cX10_rankOf 92 = .ok (.goto (-90), 3) := by decide +kernel
theorem dX10_rankOf_95 : decode cX10_rankOf 95 = .ok (.iconst (-1), 1) := by decide +kernel
theorem dX10_rankOf_96 : decode cX10_rankOf 96 = .ok (.ireturn, 1) := by decide +kernel
theorem dX10_rank_0 : decode cX10_rank 0 = .ok (.aload_n 0, 1) := by decide +kernel
theorem dX10_rank_1 : decode cX10_rank 1 = .ok (.iconst 0, 1) := by decide +kernel
theorem dX10_rank_2 : decode cX10_rank 2 = .ok (.putfield 82, 3) := by decide +kernel
theorem dX10_rank_5 : decode cX10_rank 5 = .ok (.aload_n 0, 1) := by decide +kernel
theorem dX10_rank_6 : decode cX10_rank 6 = .ok (.iload_n 1, 1) := by decide +kernel
theorem dX10_rank_7 : decode cX10_rank 7 = .ok (.ifCond .lt 8, 3) := by decide +kernel
theorem dX10_rank_10 : decode cX10_rank 10 = .ok (.iload_n 1, 1) := by decide +kernel
theorem dX10_rank_11 : decode cX10_rank 11 = .ok (.iconst 2, 1) := by decide +kernel
theorem dX10_rank_12 : decode cX10_rank 12 = .ok (.if_icmp .le 7, 3) := by decide +kernel
theorem dX10_rank_15 : decode cX10_rank 15 = .ok (.iconst 1, 1) := by decide +kernel
theorem dX10_rank_16 : decode cX10_rank 16 = .ok (.goto 4, 3) := by decide +kernel
theorem dX10_rank_19 : decode cX10_rank 19 = .ok (.iconst 0, 1) := by decide +kernel
theorem dX10_rank_20 : decode cX10_rank 20 = .ok (.iconst 1, 1) := by decide +kernel
theorem dX10_rank_21 : decode cX10_rank 21 = .ok (.invokevirtual 85, 3) := by decide +kernel
theorem dX10_rank_24 : decode cX10_rank 24 = .ok (.ifCond .eq 5, 3) := by decide +kernel
theorem dX10_rank_27 : decode cX10_rank 27 = .ok (.iconst 0, 1) := by decide +kernel
theorem dX10_rank_28 : decode cX10_rank 28 = .ok (.ireturn, 1) := by decide +kernel
theorem dX10_rank_29 : decode cX10_rank 29 = .ok (.aload_n 0, 1) := by decide +kernel
theorem dX10_rank_30 : decode cX10_rank 30 = .ok (.getfield 92, 3) := by decide +kernel
theorem dX10_rank_33 : decode cX10_rank 33 = .ok (.ifCond .ne 5, 3) := by decide +kernel
theorem dX10_rank_36 : decode cX10_rank 36 = .ok (.iconst (-1), 1) := by decide +kernel
theorem dX10_rank_37 : decode cX10_rank 37 = .ok (.ireturn, 1) := by decide +kernel
theorem dX10_rank_38 : decode cX10_rank 38 = .ok (.aload_n 0, 1) := by decide +kernel
theorem dX10_rank_39 : decode cX10_rank 39 = .ok (.invokevirtual 204, 3) := by decide +kernel
theorem dX10_rank_42 : decode cX10_rank 42 = .ok (.aload_n 0, 1) := by decide +kernel
theorem dX10_rank_43 : decode cX10_rank 43 = .ok (.iload_n 1, 1) := by decide +kernel
theorem dX10_rank_44 : decode cX10_rank 44 = .ok (.iload_n 2, 1) := by decide +kernel
theorem dX10_rank_45 : decode cX10_rank 45 = .ok (.invokevirtual 206, 3) := by decide +kernel
theorem dX10_rank_48 : decode cX10_rank 48 = .ok (.ireturn, 1) := by decide +kernel
theorem dX10_pointsOf_0 : decode cX10_pointsOf 0 = .ok (.iload_n 0, 1) := by decide +kernel
theorem dX10_pointsOf_1 : decode cX10_pointsOf 1 = .ok (.ifCond .ne 8, 3) := by decide +kernel
theorem dX10_pointsOf_4 : decode cX10_pointsOf 4 = .ok (.bipush 10, 2) := by decide +kernel
theorem dX10_pointsOf_6 : decode cX10_pointsOf 6 = .ok (.goto 27, 3) := by decide +kernel
theorem dX10_pointsOf_9 : decode cX10_pointsOf 9 = .ok (.iload_n 0, 1) := by decide +kernel
theorem dX10_pointsOf_10 : decode cX10_pointsOf 10 = .ok (.iconst 1, 1) := by decide +kernel
theorem dX10_pointsOf_11 : decode cX10_pointsOf 11 = .ok (.if_icmp .ne 8, 3) := by decide +kernel
theorem dX10_pointsOf_14 : decode cX10_pointsOf 14 = .ok (.bipush 6, 2) := by decide +kernel
theorem dX10_pointsOf_16 : decode cX10_pointsOf 16 = .ok (.goto 17, 3) := by decide +kernel
theorem dX10_pointsOf_19 : decode cX10_pointsOf 19 = .ok (.iload_n 0, 1) := by decide +kernel
theorem dX10_pointsOf_20 : decode cX10_pointsOf 20 = .ok (.iconst 2, 1) := by decide +kernel
theorem dX10_pointsOf_21 : decode cX10_pointsOf 21 = .ok (.if_icmp .ne 7, 3) := by decide +kernel
theorem dX10_pointsOf_24 : decode cX10_pointsOf 24 = .ok (.iconst 4, 1) := by decide +kernel
theorem dX10_pointsOf_25 : decode cX10_pointsOf 25 = .ok (.goto 8, 3) := by decide +kernel
theorem dX10_pointsOf_28 : decode cX10_pointsOf 28 = .ok (.iconst 5, 1) := by decide +kernel
theorem dX10_pointsOf_29 : decode cX10_pointsOf 29 = .ok (.iload_n 0, 1) := by decide +kernel
theorem dX10_pointsOf_30 : decode cX10_pointsOf 30 = .ok (.isub, 1) := by decide +kernel
theorem dX10_pointsOf_31 : decode cX10_pointsOf 31 = .ok (.iconst 1, 1) := by decide +kernel
theorem dX10_pointsOf_32 : decode cX10_pointsOf 32 = .ok (.iadd, 1) := by decide +kernel
theorem dX10_pointsOf_33 : decode cX10_pointsOf 33 = .ok (.ireturn, 1) := by decide +kernel
theorem dX10_toldOfClub_0 : decode cX10_toldOfClub 0 = .ok (.iconst 0, 1) := by decide +kernel
theorem dX10_toldOfClub_1 : decode cX10_toldOfClub 1 = .ok (.istore_n 3, 1) := by decide +kernel
theorem dX10_toldOfClub_2 : decode cX10_toldOfClub 2 = .ok (.iconst 0, 1) := by decide +kernel
theorem dX10_toldOfClub_3 : decode cX10_toldOfClub 3 = .ok (.istore 4, 2) := by decide +kernel
theorem dX10_toldOfClub_5 : decode cX10_toldOfClub 5 = .ok (.iload 4, 2) := by decide +kernel
theorem dX10_toldOfClub_7 : decode cX10_toldOfClub 7 = .ok (.aload_n 0, 1) := by decide +kernel
theorem dX10_toldOfClub_8 : decode cX10_toldOfClub 8 = .ok (.getfield 209, 3) := by decide +kernel
theorem dX10_toldOfClub_11 : decode cX10_toldOfClub 11 = .ok (.if_icmp .ge 45, 3) := by decide +kernel
theorem dX10_toldOfClub_14 : decode cX10_toldOfClub 14 = .ok (.iload_n 3, 1) := by decide +kernel
theorem dX10_toldOfClub_15 : decode cX10_toldOfClub 15 = .ok (.aload_n 0, 1) := by decide +kernel
theorem dX10_toldOfClub_16 : decode cX10_toldOfClub 16 = .ok (.getfield 70, 3) := by decide +kernel
theorem dX10_toldOfClub_19 : decode cX10_toldOfClub 19 = .ok (.iload 4, 2) := by decide +kernel
theorem dX10_toldOfClub_21 : decode cX10_toldOfClub 21 = .ok (.iaload, 1) := by decide +kernel
theorem dX10_toldOfClub_22 : decode cX10_toldOfClub 22 = .ok (.iload_n 1, 1) := by decide +kernel
theorem dX10_toldOfClub_23 : decode cX10_toldOfClub 23 = .ok (.if_icmp .ne 24, 3) := by decide +kernel
theorem dX10_toldOfClub_26 : decode cX10_toldOfClub 26 = .ok (.aload_n 0, 1) := by decide +kernel
theorem dX10_toldOfClub_27 : decode cX10_toldOfClub 27 = .ok (.getfield 67, 3) := by decide +kernel
theorem dX10_toldOfClub_30 : decode cX10_toldOfClub 30 = .ok (.iload 4, 2) := by decide +kernel
theorem dX10_toldOfClub_32 : decode cX10_toldOfClub 32 = .ok (.iaload, 1) := by decide +kernel
theorem dX10_toldOfClub_33 : decode cX10_toldOfClub 33 = .ok (.iload_n 2, 1) := by decide +kernel
theorem dX10_toldOfClub_34 : decode cX10_toldOfClub 34 = .ok (.if_icmp .gt 13, 3) := by decide +kernel
theorem dX10_toldOfClub_37 : decode cX10_toldOfClub 37 = .ok (.aload_n 0, 1) := by decide +kernel
theorem dX10_toldOfClub_38 : decode cX10_toldOfClub 38 = .ok (.getfield 73, 3) := by decide +kernel
theorem dX10_toldOfClub_41 : decode cX10_toldOfClub 41 = .ok (.iload 4, 2) := by decide +kernel
theorem dX10_toldOfClub_43 : decode cX10_toldOfClub 43 = .ok (.iaload, 1) := by decide +kernel
theorem dX10_toldOfClub_44 : decode cX10_toldOfClub 44 = .ok (.goto 4, 3) := by decide +kernel
theorem dX10_toldOfClub_47 : decode cX10_toldOfClub 47 = .ok (.iconst 0, 1) := by decide +kernel
theorem dX10_toldOfClub_48 : decode cX10_toldOfClub 48 = .ok (.iadd, 1) := by decide +kernel
theorem dX10_toldOfClub_49 : decode cX10_toldOfClub 49 = .ok (.istore_n 3, 1) := by decide +kernel
theorem dX10_toldOfClub_50 : decode cX10_toldOfClub 50 = .ok (.iinc 4 1, 3) := by decide +kernel
theorem dX10_toldOfClub_53 : decode cX10_toldOfClub 53 = .ok (.goto (-48), 3) := by decide +kernel
theorem dX10_toldOfClub_56 : decode cX10_toldOfClub 56 = .ok (.iload_n 3, 1) := by decide +kernel
theorem dX10_toldOfClub_57 : decode cX10_toldOfClub 57 = .ok (.ireturn, 1) := by decide +kernel
theorem dX10_publish_0 : decode cX10_publish 0 = .ok (.aload_n 0, 1) := by decide +kernel
theorem dX10_publish_1 : decode cX10_publish 1 = .ok (.iconst 0, 1) := by decide +kernel
theorem dX10_publish_2 : decode cX10_publish 2 = .ok (.putfield 82, 3) := by decide +kernel
theorem dX10_publish_5 : decode cX10_publish 5 = .ok (.aload_n 0, 1) := by decide +kernel
theorem dX10_publish_6 : decode cX10_publish 6 = .ok (.getfield 92, 3) := by decide +kernel
theorem dX10_publish_9 : decode cX10_publish 9 = .ok (.ifCond .ne 5, 3) := by decide +kernel
theorem dX10_publish_12 : decode cX10_publish 12 = .ok (.iconst (-1), 1) := by decide +kernel
theorem dX10_publish_13 : decode cX10_publish 13 = .ok (.ireturn, 1) := by decide +kernel
theorem dX10_publish_14 : decode cX10_publish 14 = .ok (.iconst 0, 1) := by decide +kernel
theorem dX10_publish_15 : decode cX10_publish 15 = .ok (.istore_n 1, 1) := by decide +kernel
theorem dX10_publish_16 : decode cX10_publish 16 = .ok (.iload_n 1, 1) := by decide +kernel
theorem dX10_publish_17 : decode cX10_publish 17 = .ok (.bipush 10, 2) := by decide +kernel
theorem dX10_publish_19 : decode cX10_publish 19 = .ok (.if_icmp .ge 16, 3) := by decide +kernel
theorem dX10_publish_22 : decode cX10_publish 22 = .ok (.aload_n 0, 1) := by decide +kernel
theorem dX10_publish_23 : decode cX10_publish 23 = .ok (.getfield 76, 3) := by decide +kernel
theorem dX10_publish_26 : decode cX10_publish 26 = .ok (.iload_n 1, 1) := by decide +kernel
theorem dX10_publish_27 : decode cX10_publish 27 = .ok (.iconst 0, 1) := by decide +kernel
theorem dX10_publish_28 : decode cX10_publish 28 = .ok (.iastore, 1) := by decide +kernel
theorem dX10_publish_29 : decode cX10_publish 29 = .ok (.iinc 1 1, 3) := by decide +kernel
theorem dX10_publish_32 : decode cX10_publish 32 = .ok (.goto (-16), 3) := by decide +kernel
theorem dX10_publish_35 : decode cX10_publish 35 = .ok (.aload_n 0, 1) := by decide +kernel
theorem dX10_publish_36 : decode cX10_publish 36 = .ok (.invokevirtual 204, 3) := by decide +kernel
theorem dX10_publish_39 : decode cX10_publish 39 = .ok (.iconst 0, 1) := by decide +kernel
theorem dX10_publish_40 : decode cX10_publish 40 = .ok (.istore_n 1, 1) := by decide +kernel
theorem dX10_publish_41 : decode cX10_publish 41 = .ok (.iload_n 1, 1) := by decide +kernel
theorem dX10_publish_42 : decode cX10_publish 42 = .ok (.iconst 3, 1) := by decide +kernel
theorem dX10_publish_43 : decode cX10_publish 43 = .ok (.if_icmp .ge 52, 3) := by decide +kernel
theorem dX10_publish_46 : decode cX10_publish 46 = .ok (.iconst 0, 1) := by decide +kernel
theorem dX10_publish_47 : decode cX10_publish 47 = .ok (.istore_n 2, 1) := by decide +kernel
theorem dX10_publish_48 : decode cX10_publish 48 = .ok (.iload_n 2, 1) := by decide +kernel
theorem dX10_publish_49 : decode cX10_publish 49 = .ok (.bipush 6, 2) := by decide +kernel
theorem dX10_publish_51 : decode cX10_publish 51 = .ok (.if_icmp .ge 38, 3) := by decide +kernel
theorem dX10_publish_54 : decode cX10_publish 54 = .ok (.aload_n 0, 1) := by decide +kernel
theorem dX10_publish_55 : decode cX10_publish 55 = .ok (.iload_n 1, 1) := by decide +kernel
theorem dX10_publish_56 : decode cX10_publish 56 = .ok (.iload_n 2, 1) := by decide +kernel
theorem dX10_publish_57 : decode cX10_publish 57 = .ok (.invokevirtual 206, 3) := by decide +kernel
theorem dX10_publish_60 : decode cX10_publish 60 = .ok (.istore_n 3, 1) := by decide +kernel
theorem dX10_publish_61 : decode cX10_publish 61 = .ok (.iload_n 3, 1) := by decide +kernel
theorem dX10_publish_62 : decode cX10_publish 62 = .ok (.ifCond .lt 21, 3) := by decide +kernel
theorem dX10_publish_65 : decode cX10_publish 65 = .ok (.aload_n 0, 1) := by decide +kernel
theorem dX10_publish_66 : decode cX10_publish 66 = .ok (.getfield 76, 3) := by decide +kernel
theorem dX10_publish_69 : decode cX10_publish 69 = .ok (.aload_n 0, 1) := by decide +kernel
theorem dX10_publish_70 : decode cX10_publish 70 = .ok (.getfield 16, 3) := by decide +kernel
theorem dX10_publish_73 : decode cX10_publish 73 = .ok (.iload_n 3, 1) := by decide +kernel
theorem dX10_publish_74 : decode cX10_publish 74 = .ok (.iaload, 1) := by decide +kernel
theorem dX10_publish_75 : decode cX10_publish 75 = .ok (.dup2, 1) := by decide +kernel
theorem dX10_publish_76 : decode cX10_publish 76 = .ok (.iaload, 1) := by decide +kernel
theorem dX10_publish_77 : decode cX10_publish 77 = .ok (.iload_n 2, 1) := by decide +kernel
theorem dX10_publish_78 : decode cX10_publish 78 = .ok (.invokestatic 212, 3) := by decide +kernel
theorem dX10_publish_81 : decode cX10_publish 81 = .ok (.iadd, 1) := by decide +kernel
theorem dX10_publish_82 : decode cX10_publish 82 = .ok (.iastore, 1) := by decide +kernel
theorem dX10_publish_83 : decode cX10_publish 83 = .ok (.iinc 2 1, 3) := by decide +kernel
theorem dX10_publish_86 : decode cX10_publish 86 = .ok (.goto (-38), 3) := by decide +kernel
theorem dX10_publish_89 : decode cX10_publish 89 = .ok (.iinc 1 1, 3) := by decide +kernel
theorem dX10_publish_92 : decode cX10_publish 92 = .ok (.goto (-51), 3) := by decide +kernel
theorem dX10_publish_95 : decode cX10_publish 95 = .ok (.iconst 0, 1) := by decide +kernel
theorem dX10_publish_96 : decode cX10_publish 96 = .ok (.istore_n 1, 1) := by decide +kernel
theorem dX10_publish_97 : decode cX10_publish 97 = .ok (.iconst 0, 1) := by decide +kernel
theorem dX10_publish_98 : decode cX10_publish 98 = .ok (.istore_n 2, 1) := by decide +kernel
theorem dX10_publish_99 : decode cX10_publish 99 = .ok (.iload_n 2, 1) := by decide +kernel
theorem dX10_publish_100 : decode cX10_publish 100 = .ok (.bipush 10, 2) := by decide +kernel
theorem dX10_publish_102 : decode cX10_publish 102 = .ok (.if_icmp .ge 44, 3) := by decide +kernel
theorem dX10_publish_105 : decode cX10_publish 105 = .ok (.aload_n 0, 1) := by decide +kernel
theorem dX10_publish_106 : decode cX10_publish 106 = .ok (.getfield 76, 3) := by decide +kernel
theorem dX10_publish_109 : decode cX10_publish 109 = .ok (.iload_n 2, 1) := by decide +kernel
theorem dX10_publish_110 : decode cX10_publish 110 = .ok (.dup2, 1) := by decide +kernel
theorem dX10_publish_111 : decode cX10_publish 111 = .ok (.iaload, 1) := by decide +kernel
theorem dX10_publish_112 : decode cX10_publish 112 = .ok (.aload_n 0, 1) := by decide +kernel
theorem dX10_publish_113 : decode cX10_publish 113 = .ok (.iload_n 2, 1) := by decide +kernel
theorem dX10_publish_114 : decode cX10_publish 114 = .ok (.aload_n 0, 1) := by decide +kernel
theorem dX10_publish_115 : decode cX10_publish 115 = .ok (.getfield 215, 3) := by decide +kernel
theorem dX10_publish_118 : decode cX10_publish 118 = .ok (.invokevirtual 218, 3) := by decide +kernel
theorem dX10_publish_121 : decode cX10_publish 121 = .ok (.isub, 1) := by decide +kernel
theorem dX10_publish_122 : decode cX10_publish 122 = .ok (.iastore, 1) := by decide +kernel
theorem dX10_publish_123 : decode cX10_publish 123 = .ok (.iload_n 1, 1) := by decide +kernel
theorem dX10_publish_124 : decode cX10_publish 124 = .ok (.aload_n 0, 1) := by decide +kernel
theorem dX10_publish_125 : decode cX10_publish 125 = .ok (.getfield 76, 3) := by decide +kernel
theorem dX10_publish_128 : decode cX10_publish 128 = .ok (.iload_n 2, 1) := by decide +kernel
theorem dX10_publish_129 : decode cX10_publish 129 = .ok (.iaload, 1) := by decide +kernel
theorem dX10_publish_130 : decode cX10_publish 130 = .ok (.ifCond .eq 7, 3) := by decide +kernel
theorem dX10_publish_133 : decode cX10_publish 133 = .ok (.iconst 1, 1) := by decide +kernel
theorem dX10_publish_134 : decode cX10_publish 134 = .ok (.goto 4, 3) := by decide +kernel
theorem dX10_publish_137 : decode cX10_publish 137 = .ok (.iconst 0, 1) := by decide +kernel
theorem dX10_publish_138 : decode cX10_publish 138 = .ok (.iadd, 1) := by decide +kernel
theorem dX10_publish_139 : decode cX10_publish 139 = .ok (.istore_n 1, 1) := by decide +kernel
theorem dX10_publish_140 : decode cX10_publish 140 = .ok (.iinc 2 1, 3) := by decide +kernel
theorem dX10_publish_143 : decode cX10_publish 143 = .ok (.goto (-44), 3) := by decide +kernel
theorem dX10_publish_146 : decode cX10_publish 146 = .ok (.aload_n 0, 1) := by decide +kernel
theorem dX10_publish_147 : decode cX10_publish 147 = .ok (.getfield 209, 3) := by decide +kernel
theorem dX10_publish_150 : decode cX10_publish 150 = .ok (.iload_n 1, 1) := by decide +kernel
theorem dX10_publish_151 : decode cX10_publish 151 = .ok (.iadd, 1) := by decide +kernel
theorem dX10_publish_152 : decode cX10_publish 152 = .ok (.sipush 600, 3) := by decide +kernel
theorem dX10_publish_155 : decode cX10_publish 155 = .ok (.if_icmp .le 6, 3) := by decide +kernel
theorem dX10_publish_158 : decode cX10_publish 158 = .ok (.bipush (-2), 2) := by decide +kernel
theorem dX10_publish_160 : decode cX10_publish 160 = .ok (.ireturn, 1) := by decide +kernel
theorem dX10_publish_161 : decode cX10_publish 161 = .ok (.iconst 0, 1) := by decide +kernel
theorem dX10_publish_162 : decode cX10_publish 162 = .ok (.istore_n 2, 1) := by decide +kernel
theorem dX10_publish_163 : decode cX10_publish 163 = .ok (.iload_n 2, 1) := by decide +kernel
theorem dX10_publish_164 : decode cX10_publish 164 = .ok (.bipush 10, 2) := by decide +kernel
theorem dX10_publish_166 : decode cX10_publish 166 = .ok (.if_icmp .ge 69, 3) := by decide +kernel
theorem dX10_publish_169 : decode cX10_publish 169 = .ok (.aload_n 0, 1) := by decide +kernel
theorem dX10_publish_170 : decode cX10_publish 170 = .ok (.getfield 76, 3) := by decide +kernel
theorem dX10_publish_173 : decode cX10_publish 173 = .ok (.iload_n 2, 1) := by decide +kernel
theorem dX10_publish_174 : decode cX10_publish 174 = .ok (.iaload, 1) := by decide +kernel
theorem dX10_publish_175 : decode cX10_publish 175 = .ok (.ifCond .ne 6, 3) := by decide +kernel
theorem dX10_publish_178 : decode cX10_publish 178 = .ok (.goto 51, 3) := by decide +kernel
theorem dX10_publish_181 : decode cX10_publish 181 = .ok (.aload_n 0, 1) := by decide +kernel
theorem dX10_publish_182 : decode cX10_publish 182 = .ok (.getfield 67, 3) := by decide +kernel
theorem dX10_publish_185 : decode cX10_publish 185 = .ok (.aload_n 0, 1) := by decide +kernel
theorem dX10_publish_186 : decode cX10_publish 186 = .ok (.getfield 209, 3) := by decide +kernel
theorem dX10_publish_189 : decode cX10_publish 189 = .ok (.aload_n 0, 1) := by decide +kernel
theorem dX10_publish_190 : decode cX10_publish 190 = .ok (.getfield 215, 3) := by decide +kernel
theorem dX10_publish_193 : decode cX10_publish 193 = .ok (.iastore, 1) := by decide +kernel
theorem dX10_publish_194 : decode cX10_publish 194 = .ok (.aload_n 0, 1) := by decide +kernel
theorem dX10_publish_195 : decode cX10_publish 195 = .ok (.getfield 70, 3) := by decide +kernel
theorem dX10_publish_198 : decode cX10_publish 198 = .ok (.aload_n 0, 1) := by decide +kernel
theorem dX10_publish_199 : decode cX10_publish 199 = .ok (.getfield 209, 3) := by decide +kernel
theorem dX10_publish_202 : decode cX10_publish 202 = .ok (.iload_n 2, 1) := by decide +kernel
theorem dX10_publish_203 : decode cX10_publish 203 = .ok (.iastore, 1) := by decide +kernel
theorem dX10_publish_204 : decode cX10_publish 204 = .ok (.aload_n 0, 1) := by decide +kernel
theorem dX10_publish_205 : decode cX10_publish 205 = .ok (.getfield 73, 3) := by decide +kernel
theorem dX10_publish_208 : decode cX10_publish 208 = .ok (.aload_n 0, 1) := by decide +kernel
theorem dX10_publish_209 : decode cX10_publish 209 = .ok (.getfield 209, 3) := by decide +kernel
theorem dX10_publish_212 : decode cX10_publish 212 = .ok (.aload_n 0, 1) := by decide +kernel
theorem dX10_publish_213 : decode cX10_publish 213 = .ok (.getfield 76, 3) := by decide +kernel
theorem dX10_publish_216 : decode cX10_publish 216 = .ok (.iload_n 2, 1) := by decide +kernel
theorem dX10_publish_217 : decode cX10_publish 217 = .ok (.iaload, 1) := by decide +kernel
theorem dX10_publish_218 : decode cX10_publish 218 = .ok (.iastore, 1) := by decide +kernel
theorem dX10_publish_219 : decode cX10_publish 219 = .ok (.aload_n 0, 1) := by decide +kernel
theorem dX10_publish_220 : decode cX10_publish 220 = .ok (.dup, 1) := by decide +kernel
theorem dX10_publish_221 : decode cX10_publish 221 = .ok (.getfield 209, 3) := by decide +kernel
theorem dX10_publish_224 : decode cX10_publish 224 = .ok (.iconst 1, 1) := by decide +kernel
theorem dX10_publish_225 : decode cX10_publish 225 = .ok (.iadd, 1) := by decide +kernel
theorem dX10_publish_226 : decode cX10_publish 226 = .ok (.putfield 209, 3) := by decide +kernel
theorem dX10_publish_229 : decode cX10_publish 229 = .ok (.iinc 2 1, 3) := by decide +kernel
theorem dX10_publish_232 : decode cX10_publish 232 = .ok (.goto (-69), 3) := by decide +kernel
theorem dX10_publish_235 : decode cX10_publish 235 = .ok (.iload_n 1, 1) := by decide +kernel
theorem dX10_publish_236 : decode cX10_publish 236 = .ok (.ireturn, 1) := by decide +kernel
theorem dX10_points_0 : decode cX10_points 0 = .ok (.aload_n 0, 1) := by decide +kernel
theorem dX10_points_1 : decode cX10_points 1 = .ok (.iconst 0, 1) := by decide +kernel
theorem dX10_points_2 : decode cX10_points 2 = .ok (.putfield 82, 3) := by decide +kernel
theorem dX10_points_5 : decode cX10_points 5 = .ok (.aload_n 0, 1) := by decide +kernel
theorem dX10_points_6 : decode cX10_points 6 = .ok (.iload_n 1, 1) := by decide +kernel
theorem dX10_points_7 : decode cX10_points 7 = .ok (.ifCond .lt 9, 3) := by decide +kernel
theorem dX10_points_10 : decode cX10_points 10 = .ok (.iload_n 1, 1) := by decide +kernel
theorem dX10_points_11 : decode cX10_points 11 = .ok (.bipush 10, 2) := by decide +kernel
theorem dX10_points_13 : decode cX10_points 13 = .ok (.if_icmp .lt 7, 3) := by decide +kernel
theorem dX10_points_16 : decode cX10_points 16 = .ok (.iconst 1, 1) := by decide +kernel
theorem dX10_points_17 : decode cX10_points 17 = .ok (.goto 4, 3) := by decide +kernel
theorem dX10_points_20 : decode cX10_points 20 = .ok (.iconst 0, 1) := by decide +kernel
theorem dX10_points_21 : decode cX10_points 21 = .ok (.iconst 1, 1) := by decide +kernel
theorem dX10_points_22 : decode cX10_points 22 = .ok (.invokevirtual 85, 3) := by decide +kernel
theorem dX10_points_25 : decode cX10_points 25 = .ok (.ifCond .eq 7, 3) := by decide +kernel
theorem dX10_points_28 : decode cX10_points 28 = .ok (.iconst 0, 1) := by decide +kernel
theorem dX10_points_29 : decode cX10_points 29 = .ok (.goto 9, 3) := by decide +kernel
theorem dX10_points_32 : decode cX10_points 32 = .ok (.aload_n 0, 1) := by decide +kernel
theorem dX10_points_33 : decode cX10_points 33 = .ok (.iload_n 1, 1) := by decide +kernel
theorem dX10_points_34 : decode cX10_points 34 = .ok (.iload_n 2, 1) := by decide +kernel
theorem dX10_points_35 : decode cX10_points 35 = .ok (.invokevirtual 218, 3) := by decide +kernel
theorem dX10_points_38 : decode cX10_points 38 = .ok (.ireturn, 1) := by decide +kernel
theorem dX10_line_0 : decode cX10_line 0 = .ok (.aload_n 0, 1) := by decide +kernel
theorem dX10_line_1 : decode cX10_line 1 = .ok (.iconst 0, 1) := by decide +kernel
theorem dX10_line_2 : decode cX10_line 2 = .ok (.putfield 82, 3) := by decide +kernel
theorem dX10_line_5 : decode cX10_line 5 = .ok (.aload_n 0, 1) := by decide +kernel
theorem dX10_line_6 : decode cX10_line 6 = .ok (.iload_n 1, 1) := by decide +kernel
theorem dX10_line_7 : decode cX10_line 7 = .ok (.ifCond .lt 11, 3) := by decide +kernel
theorem dX10_line_10 : decode cX10_line 10 = .ok (.iload_n 1, 1) := by decide +kernel
theorem dX10_line_11 : decode cX10_line 11 = .ok (.aload_n 0, 1) := by decide +kernel
theorem dX10_line_12 : decode cX10_line 12 = .ok (.getfield 209, 3) := by decide +kernel
theorem dX10_line_15 : decode cX10_line 15 = .ok (.if_icmp .lt 7, 3) := by decide +kernel
theorem dX10_line_18 : decode cX10_line 18 = .ok (.iconst 1, 1) := by decide +kernel
theorem dX10_line_19 : decode cX10_line 19 = .ok (.goto 4, 3) := by decide +kernel
theorem dX10_line_22 : decode cX10_line 22 = .ok (.iconst 0, 1) := by decide +kernel
theorem dX10_line_23 : decode cX10_line 23 = .ok (.iconst 1, 1) := by decide +kernel
theorem dX10_line_24 : decode cX10_line 24 = .ok (.invokevirtual 85, 3) := by decide +kernel
theorem dX10_line_27 : decode cX10_line 27 = .ok (.ifCond .ne 25, 3) := by decide +kernel
theorem dX10_line_30 : decode cX10_line 30 = .ok (.aload_n 0, 1) := by decide +kernel
theorem dX10_line_31 : decode cX10_line 31 = .ok (.iload_n 2, 1) := by decide +kernel
theorem dX10_line_32 : decode cX10_line 32 = .ok (.ifCond .lt 8, 3) := by decide +kernel
theorem dX10_line_35 : decode cX10_line 35 = .ok (.iload_n 2, 1) := by decide +kernel
theorem dX10_line_36 : decode cX10_line 36 = .ok (.iconst 2, 1) := by decide +kernel
theorem dX10_line_37 : decode cX10_line 37 = .ok (.if_icmp .le 7, 3) := by decide +kernel
theorem dX10_line_40 : decode cX10_line 40 = .ok (.iconst 1, 1) := by decide +kernel
theorem dX10_line_41 : decode cX10_line 41 = .ok (.goto 4, 3) := by decide +kernel
theorem dX10_line_44 : decode cX10_line 44 = .ok (.iconst 0, 1) := by decide +kernel
theorem dX10_line_45 : decode cX10_line 45 = .ok (.iconst 2, 1) := by decide +kernel
theorem dX10_line_46 : decode cX10_line 46 = .ok (.invokevirtual 85, 3) := by decide +kernel
theorem dX10_line_49 : decode cX10_line 49 = .ok (.ifCond .eq 5, 3) := by decide +kernel
theorem dX10_line_52 : decode cX10_line 52 = .ok (.iconst 0, 1) := by decide +kernel
theorem dX10_line_53 : decode cX10_line 53 = .ok (.ireturn, 1) := by decide +kernel
theorem dX10_line_54 : decode cX10_line 54 = .ok (.iload_n 2, 1) := by decide +kernel
theorem dX10_line_55 : decode cX10_line 55 = .ok (.ifCond .ne 12, 3) := by decide +kernel
theorem dX10_line_58 : decode cX10_line 58 = .ok (.aload_n 0, 1) := by decide +kernel
theorem dX10_line_59 : decode cX10_line 59 = .ok (.getfield 67, 3) := by decide +kernel
theorem dX10_line_62 : decode cX10_line 62 = .ok (.iload_n 1, 1) := by decide +kernel
theorem dX10_line_63 : decode cX10_line 63 = .ok (.iaload, 1) := by decide +kernel
theorem dX10_line_64 : decode cX10_line 64 = .ok (.goto 23, 3) := by decide +kernel
theorem dX10_line_67 : decode cX10_line 67 = .ok (.iload_n 2, 1) := by decide +kernel
theorem dX10_line_68 : decode cX10_line 68 = .ok (.iconst 1, 1) := by decide +kernel
theorem dX10_line_69 : decode cX10_line 69 = .ok (.if_icmp .ne 12, 3) := by decide +kernel
theorem dX10_line_72 : decode cX10_line 72 = .ok (.aload_n 0, 1) := by decide +kernel
theorem dX10_line_73 : decode cX10_line 73 = .ok (.getfield 70, 3) := by decide +kernel
theorem dX10_line_76 : decode cX10_line 76 = .ok (.iload_n 1, 1) := by decide +kernel
theorem dX10_line_77 : decode cX10_line 77 = .ok (.iaload, 1) := by decide +kernel
theorem dX10_line_78 : decode cX10_line 78 = .ok (.goto 9, 3) := by decide +kernel
theorem dX10_line_81 : decode cX10_line 81 = .ok (.aload_n 0, 1) := by decide +kernel
theorem dX10_line_82 : decode cX10_line 82 = .ok (.getfield 73, 3) := by decide +kernel
theorem dX10_line_85 : decode cX10_line 85 = .ok (.iload_n 1, 1) := by decide +kernel
theorem dX10_line_86 : decode cX10_line 86 = .ok (.iaload, 1) := by decide +kernel
theorem dX10_line_87 : decode cX10_line 87 = .ok (.ireturn, 1) := by decide +kernel
theorem dX10_wait_0 : decode cX10_wait 0 = .ok (.aload_n 0, 1) := by decide +kernel
theorem dX10_wait_1 : decode cX10_wait 1 = .ok (.iconst 0, 1) := by decide +kernel
theorem dX10_wait_2 : decode cX10_wait 2 = .ok (.putfield 82, 3) := by decide +kernel
theorem dX10_wait_5 : decode cX10_wait 5 = .ok (.aload_n 0, 1) := by decide +kernel
theorem dX10_wait_6 : decode cX10_wait 6 = .ok (.iload_n 1, 1) := by decide +kernel
theorem dX10_wait_7 : decode cX10_wait 7 = .ok (.ifCond .lt 10, 3) := by decide +kernel
theorem dX10_wait_10 : decode cX10_wait 10 = .ok (.iload_n 1, 1) := by decide +kernel
theorem dX10_wait_11 : decode cX10_wait 11 = .ok (.sipush 1000, 3) := by decide +kernel
theorem dX10_wait_14 : decode cX10_wait 14 = .ok (.if_icmp .le 7, 3) := by decide +kernel
theorem dX10_wait_17 : decode cX10_wait 17 = .ok (.iconst 1, 1) := by decide +kernel
theorem dX10_wait_18 : decode cX10_wait 18 = .ok (.goto 4, 3) := by decide +kernel
theorem dX10_wait_21 : decode cX10_wait 21 = .ok (.iconst 0, 1) := by decide +kernel
theorem dX10_wait_22 : decode cX10_wait 22 = .ok (.iconst 1, 1) := by decide +kernel
theorem dX10_wait_23 : decode cX10_wait 23 = .ok (.invokevirtual 85, 3) := by decide +kernel
theorem dX10_wait_26 : decode cX10_wait 26 = .ok (.ifCond .eq 5, 3) := by decide +kernel
theorem dX10_wait_29 : decode cX10_wait 29 = .ok (.iconst 0, 1) := by decide +kernel
theorem dX10_wait_30 : decode cX10_wait 30 = .ok (.ireturn, 1) := by decide +kernel
theorem dX10_wait_31 : decode cX10_wait 31 = .ok (.aload_n 0, 1) := by decide +kernel
theorem dX10_wait_32 : decode cX10_wait 32 = .ok (.dup, 1) := by decide +kernel
theorem dX10_wait_33 : decode cX10_wait 33 = .ok (.getfield 215, 3) := by decide +kernel
theorem dX10_wait_36 : decode cX10_wait 36 = .ok (.iload_n 1, 1) := by decide +kernel
theorem dX10_wait_37 : decode cX10_wait 37 = .ok (.iadd, 1) := by decide +kernel
theorem dX10_wait_38 : decode cX10_wait 38 = .ok (.putfield 215, 3) := by decide +kernel
theorem dX10_wait_41 : decode cX10_wait 41 = .ok (.aload_n 0, 1) := by decide +kernel
theorem dX10_wait_42 : decode cX10_wait 42 = .ok (.getfield 215, 3) := by decide +kernel
theorem dX10_wait_45 : decode cX10_wait 45 = .ok (.ireturn, 1) := by decide +kernel
theorem dX10_count_0 : decode cX10_count 0 = .ok (.aload_n 0, 1) := by decide +kernel
theorem dX10_count_1 : decode cX10_count 1 = .ok (.iconst 0, 1) := by decide +kernel
theorem dX10_count_2 : decode cX10_count 2 = .ok (.putfield 82, 3) := by decide +kernel
theorem dX10_count_5 : decode cX10_count 5 = .ok (.iload_n 1, 1) := by decide +kernel
theorem dX10_count_6 : decode cX10_count 6 = .ok (.tableswitch 117 0 7 #[46, 51, 56, 92, 97, 102, 107, 112], 46) := by decide +kernel
theorem dX10_count_52 : decode cX10_count 52 = .ok (.aload_n 0, 1) := by decide +kernel
theorem dX10_count_53 : decode cX10_count 53 = .ok (.getfield 89, 3) := by decide +kernel
theorem dX10_count_56 : decode cX10_count 56 = .ok (.ireturn, 1) := by decide +kernel
theorem dX10_count_57 : decode cX10_count 57 = .ok (.aload_n 0, 1) := by decide +kernel
theorem dX10_count_58 : decode cX10_count 58 = .ok (.getfield 92, 3) := by decide +kernel
theorem dX10_count_61 : decode cX10_count 61 = .ok (.ireturn, 1) := by decide +kernel
theorem dX10_count_62 : decode cX10_count 62 = .ok (.iconst 0, 1) := by decide +kernel
theorem dX10_count_63 : decode cX10_count 63 = .ok (.istore_n 2, 1) := by decide +kernel
theorem dX10_count_64 : decode cX10_count 64 = .ok (.iconst 0, 1) := by decide +kernel
theorem dX10_count_65 : decode cX10_count 65 = .ok (.istore_n 3, 1) := by decide +kernel
theorem dX10_count_66 : decode cX10_count 66 = .ok (.iload_n 3, 1) := by decide +kernel
theorem dX10_count_67 : decode cX10_count 67 = .ok (.sipush 480, 3) := by decide +kernel
theorem dX10_count_70 : decode cX10_count 70 = .ok (.if_icmp .ge 26, 3) := by decide +kernel
theorem dX10_count_73 : decode cX10_count 73 = .ok (.iload_n 2, 1) := by decide +kernel
theorem dX10_count_74 : decode cX10_count 74 = .ok (.aload_n 0, 1) := by decide +kernel
theorem dX10_count_75 : decode cX10_count 75 = .ok (.getfield 25, 3) := by decide +kernel
theorem dX10_count_78 : decode cX10_count 78 = .ok (.iload_n 3, 1) := by decide +kernel
theorem dX10_count_79 : decode cX10_count 79 = .ok (.iaload, 1) := by decide +kernel
theorem dX10_count_80 : decode cX10_count 80 = .ok (.ifCond .lt 7, 3) := by decide +kernel
theorem dX10_count_83 : decode cX10_count 83 = .ok (.iconst 1, 1) := by decide +kernel
theorem dX10_count_84 : decode cX10_count 84 = .ok (.goto 4, 3) := by decide +kernel
theorem dX10_count_87 : decode cX10_count 87 = .ok (.iconst 0, 1) := by decide +kernel
theorem dX10_count_88 : decode cX10_count 88 = .ok (.iadd, 1) := by decide +kernel
theorem dX10_count_89 : decode cX10_count 89 = .ok (.istore_n 2, 1) := by decide +kernel
theorem dX10_count_90 : decode cX10_count 90 = .ok (.iinc 3 1, 3) := by decide +kernel
theorem dX10_count_93 : decode cX10_count 93 = .ok (.goto (-27), 3) := by decide +kernel
theorem dX10_count_96 : decode cX10_count 96 = .ok (.iload_n 2, 1) := by decide +kernel
theorem dX10_count_97 : decode cX10_count 97 = .ok (.ireturn, 1) := by decide +kernel
theorem dX10_count_98 : decode cX10_count 98 = .ok (.aload_n 0, 1) := by decide +kernel
theorem dX10_count_99 : decode cX10_count 99 = .ok (.getfield 79, 3) := by decide +kernel
theorem dX10_count_102 : decode cX10_count 102 = .ok (.ireturn, 1) := by decide +kernel
theorem dX10_count_103 : decode cX10_count 103 = .ok (.aload_n 0, 1) := by decide +kernel
theorem dX10_count_104 : decode cX10_count 104 = .ok (.getfield 209, 3) := by decide +kernel
theorem dX10_count_107 : decode cX10_count 107 = .ok (.ireturn, 1) := by decide +kernel
theorem dX10_count_108 : decode cX10_count 108 = .ok (.aload_n 0, 1) := by decide +kernel
theorem dX10_count_109 : decode cX10_count 109 = .ok (.getfield 215, 3) := by decide +kernel
theorem dX10_count_112 : decode cX10_count 112 = .ok (.ireturn, 1) := by decide +kernel
theorem dX10_count_113 : decode cX10_count 113 = .ok (.aload_n 0, 1) := by decide +kernel
theorem dX10_count_114 : decode cX10_count 114 = .ok (.getfield 95, 3) := by decide +kernel
theorem dX10_count_117 : decode cX10_count 117 = .ok (.ireturn, 1) := by decide +kernel
theorem dX10_count_118 : decode cX10_count 118 = .ok (.aload_n 0, 1) := by decide +kernel
theorem dX10_count_119 : decode cX10_count 119 = .ok (.getfield 148, 3) := by decide +kernel
theorem dX10_count_122 : decode cX10_count 122 = .ok (.ireturn, 1) := by decide +kernel
theorem dX10_count_123 : decode cX10_count 123 = .ok (.iconst (-1), 1) := by decide +kernel
theorem dX10_count_124 : decode cX10_count 124 = .ok (.ireturn, 1) := by decide +kernel
theorem dJ9_floorDiv_7cf53_0 : decode cJ9_floorDiv_7cf53 0 = .ok (.iload_n 0, 1) := by decide +kernel
theorem dJ9_floorDiv_7cf53_1 : decode cJ9_floorDiv_7cf53 1 = .ok (.iload_n 1, 1) := by decide +kernel
theorem dJ9_floorDiv_7cf53_2 : decode cJ9_floorDiv_7cf53 2 = .ok (.idiv, 1) := by decide +kernel
theorem dJ9_floorDiv_7cf53_3 : decode cJ9_floorDiv_7cf53 3 = .ok (.istore_n 2, 1) := by decide +kernel
theorem dJ9_floorDiv_7cf53_4 : decode cJ9_floorDiv_7cf53 4 = .ok (.iload_n 0, 1) := by decide +kernel
theorem dJ9_floorDiv_7cf53_5 : decode cJ9_floorDiv_7cf53 5 = .ok (.iload_n 1, 1) := by decide +kernel
theorem dJ9_floorDiv_7cf53_6 : decode cJ9_floorDiv_7cf53 6 = .ok (.ixor, 1) := by decide +kernel
theorem dJ9_floorDiv_7cf53_7 : decode cJ9_floorDiv_7cf53 7 = .ok (.ifCond .ge 14, 3) := by decide +kernel
theorem dJ9_floorDiv_7cf53_10 : decode cJ9_floorDiv_7cf53 10 = .ok (.iload_n 2, 1) := by decide +kernel
theorem dJ9_floorDiv_7cf53_11 : decode cJ9_floorDiv_7cf53 11 = .ok (.iload_n 1, 1) := by decide +kernel
theorem dJ9_floorDiv_7cf53_12 : decode cJ9_floorDiv_7cf53 12 = .ok (.imul, 1) := by decide +kernel
theorem dJ9_floorDiv_7cf53_13 : decode cJ9_floorDiv_7cf53 13 = .ok (.iload_n 0, 1) := by decide +kernel
theorem dJ9_floorDiv_7cf53_14 : decode cJ9_floorDiv_7cf53 14 = .ok (.if_icmp .eq 7, 3) := by decide +kernel
theorem dJ9_floorDiv_7cf53_17 : decode cJ9_floorDiv_7cf53 17 = .ok (.iload_n 2, 1) := by decide +kernel
theorem dJ9_floorDiv_7cf53_18 : decode cJ9_floorDiv_7cf53 18 = .ok (.iconst 1, 1) := by decide +kernel
theorem dJ9_floorDiv_7cf53_19 : decode cJ9_floorDiv_7cf53 19 = .ok (.isub, 1) := by decide +kernel
theorem dJ9_floorDiv_7cf53_20 : decode cJ9_floorDiv_7cf53 20 = .ok (.ireturn, 1) := by decide +kernel
theorem dJ9_floorDiv_7cf53_21 : decode cJ9_floorDiv_7cf53 21 = .ok (.iload_n 2, 1) := by decide +kernel
theorem dJ9_floorDiv_7cf53_22 : decode cJ9_floorDiv_7cf53 22 = .ok (.ireturn, 1) := by decide +kernel
theorem dJ9_min_7cf53_0 : decode cJ9_min_7cf53 0 = .ok (.iload_n 0, 1) := by decide +kernel
theorem dJ9_min_7cf53_1 : decode cJ9_min_7cf53 1 = .ok (.iload_n 1, 1) := by decide +kernel
theorem dJ9_min_7cf53_2 : decode cJ9_min_7cf53 2 = .ok (.if_icmp .gt 7, 3) := by decide +kernel
theorem dJ9_min_7cf53_5 : decode cJ9_min_7cf53 5 = .ok (.iload_n 0, 1) := by decide +kernel
theorem dJ9_min_7cf53_6 : decode cJ9_min_7cf53 6 = .ok (.goto 4, 3) := by decide +kernel
theorem dJ9_min_7cf53_9 : decode cJ9_min_7cf53 9 = .ok (.iload_n 1, 1) := by decide +kernel
theorem dJ9_min_7cf53_10 : decode cJ9_min_7cf53 10 = .ok (.ireturn, 1) := by decide +kernel
theorem dJ0_length_8abf5_0 : decode cJ0_length_8abf5 0 = .ok (.aload_n 0, 1) := by decide +kernel
theorem dJ0_length_8abf5_1 : decode cJ0_length_8abf5 1 = .ok (.getfield 9, 3) := by decide +kernel
theorem dJ0_length_8abf5_4 : decode cJ0_length_8abf5 4 = .ok (.arraylength, 1) := by decide +kernel
theorem dJ0_length_8abf5_5 : decode cJ0_length_8abf5 5 = .ok (.aload_n 0, 1) := by decide +kernel
theorem dJ0_length_8abf5_6 : decode cJ0_length_8abf5 6 = .ok (.invokevirtual 335, 3) := by decide +kernel
theorem dJ0_length_8abf5_9 : decode cJ0_length_8abf5 9 = .ok (.ishr, 1) := by decide +kernel
theorem dJ0_length_8abf5_10 : decode cJ0_length_8abf5 10 = .ok (.ireturn, 1) := by decide +kernel
theorem dJ0_charAt_5068e_0 : decode cJ0_charAt_5068e 0 = .ok (.aload_n 0, 1) := by decide +kernel
theorem dJ0_charAt_5068e_1 : decode cJ0_charAt_5068e 1 = .ok (.invokevirtual 492, 3) := by decide +kernel
theorem dJ0_charAt_5068e_4 : decode cJ0_charAt_5068e 4 = .ok (.ifCond .eq 12, 3) := by decide +kernel
theorem dJ0_charAt_5068e_7 : decode cJ0_charAt_5068e 7 = .ok (.aload_n 0, 1) := by decide +kernel
theorem dJ0_charAt_5068e_8 : decode cJ0_charAt_5068e 8 = .ok (.getfield 9, 3) := by decide +kernel
theorem dJ0_charAt_5068e_11 : decode cJ0_charAt_5068e 11 = .ok (.iload_n 1, 1) := by decide +kernel
theorem dJ0_charAt_5068e_12 : decode cJ0_charAt_5068e 12 = .ok (.invokestatic 495, 3) := by decide +kernel
theorem dJ0_charAt_5068e_15 : decode cJ0_charAt_5068e 15 = .ok (.ireturn, 1) := by decide +kernel
theorem dJ0_charAt_5068e_16 : decode cJ0_charAt_5068e 16 = .ok (.aload_n 0, 1) := by decide +kernel
theorem dJ0_charAt_5068e_17 : decode cJ0_charAt_5068e 17 = .ok (.getfield 9, 3) := by decide +kernel
theorem dJ0_charAt_5068e_20 : decode cJ0_charAt_5068e 20 = .ok (.iload_n 1, 1) := by decide +kernel
theorem dJ0_charAt_5068e_21 : decode cJ0_charAt_5068e 21 = .ok (.invokestatic 498, 3) := by decide +kernel
theorem dJ0_charAt_5068e_24 : decode cJ0_charAt_5068e 24 = .ok (.ireturn, 1) := by decide +kernel
theorem dJ0_coder_7d493_0 : decode cJ0_coder_7d493 0 = .ok (.getstatic 38, 3) := by decide +kernel
theorem dJ0_coder_7d493_3 : decode cJ0_coder_7d493 3 = .ok (.ifCond .eq 10, 3) := by decide +kernel
theorem dJ0_coder_7d493_6 : decode cJ0_coder_7d493 6 = .ok (.aload_n 0, 1) := by decide +kernel
theorem dJ0_coder_7d493_7 : decode cJ0_coder_7d493 7 = .ok (.getfield 15, 3) := by decide +kernel
theorem dJ0_coder_7d493_10 : decode cJ0_coder_7d493 10 = .ok (.goto 4, 3) := by decide +kernel
theorem dJ0_coder_7d493_13 : decode cJ0_coder_7d493 13 = .ok (.iconst 1, 1) := by decide +kernel
theorem dJ0_coder_7d493_14 : decode cJ0_coder_7d493 14 = .ok (.ireturn, 1) := by decide +kernel
theorem dJ0_isLatin1_aae02_0 : decode cJ0_isLatin1_aae02 0 = .ok (.getstatic 38, 3) := by decide +kernel
theorem dJ0_isLatin1_aae02_3 : decode cJ0_isLatin1_aae02 3 = .ok (.ifCond .eq 14, 3) := by decide +kernel
theorem dJ0_isLatin1_aae02_6 : decode cJ0_isLatin1_aae02 6 = .ok (.aload_n 0, 1) := by decide +kernel
theorem dJ0_isLatin1_aae02_7 : decode cJ0_isLatin1_aae02 7 = .ok (.getfield 15, 3) := by decide +kernel
theorem dJ0_isLatin1_aae02_10 : decode cJ0_isLatin1_aae02 10 = .ok (.ifCond .ne 7, 3) := by decide +kernel
theorem dJ0_isLatin1_aae02_13 : decode cJ0_isLatin1_aae02 13 = .ok (.iconst 1, 1) := by decide +kernel
theorem dJ0_isLatin1_aae02_14 : decode cJ0_isLatin1_aae02 14 = .ok (.goto 4, 3) := by decide +kernel
theorem dJ0_isLatin1_aae02_17 : decode cJ0_isLatin1_aae02 17 = .ok (.iconst 0, 1) := by decide +kernel
theorem dJ0_isLatin1_aae02_18 : decode cJ0_isLatin1_aae02 18 = .ok (.ireturn, 1) := by decide +kernel
theorem dJ0_checkIndex_df160_0 : decode cJ0_checkIndex_df160 0 = .ok (.iload_n 0, 1) := by decide +kernel
theorem dJ0_checkIndex_df160_1 : decode cJ0_checkIndex_df160 1 = .ok (.iload_n 1, 1) := by decide +kernel
theorem dJ0_checkIndex_df160_2 : decode cJ0_checkIndex_df160 2 = .ok (.getstatic 1053, 3) := by decide +kernel
theorem dJ0_checkIndex_df160_5 : decode cJ0_checkIndex_df160 5 = .ok (.invokestatic 1059, 3) := by decide +kernel
theorem dJ0_checkIndex_df160_8 : decode cJ0_checkIndex_df160 8 = .ok (.pop, 1) := by decide +kernel
theorem dJ0_checkIndex_df160_9 : decode cJ0_checkIndex_df160 9 = .ok (.return_, 1) := by decide +kernel
theorem dJ1_charAt_3b067_0 : decode cJ1_charAt_3b067 0 = .ok (.iload_n 1, 1) := by decide +kernel
theorem dJ1_charAt_3b067_1 : decode cJ1_charAt_3b067 1 = .ok (.aload_n 0, 1) := by decide +kernel
theorem dJ1_charAt_3b067_2 : decode cJ1_charAt_3b067 2 = .ok (.arraylength, 1) := by decide +kernel
theorem dJ1_charAt_3b067_3 : decode cJ1_charAt_3b067 3 = .ok (.invokestatic 9, 3) := by decide +kernel
theorem dJ1_charAt_3b067_6 : decode cJ1_charAt_3b067 6 = .ok (.aload_n 0, 1) := by decide +kernel
theorem dJ1_charAt_3b067_7 : decode cJ1_charAt_3b067 7 = .ok (.iload_n 1, 1) := by decide +kernel
theorem dJ1_charAt_3b067_8 : decode cJ1_charAt_3b067 8 = .ok (.baload, 1) := by decide +kernel
theorem dJ1_charAt_3b067_9 : decode cJ1_charAt_3b067 9 = .ok (.sipush 255, 3) := by decide +kernel
theorem dJ1_charAt_3b067_12 : decode cJ1_charAt_3b067 12 = .ok (.iand, 1) := by decide +kernel
theorem dJ1_charAt_3b067_13 : decode cJ1_charAt_3b067 13 = .ok (.i2c, 1) := by decide +kernel
theorem dJ1_charAt_3b067_14 : decode cJ1_charAt_3b067 14 = .ok (.ireturn, 1) := by decide +kernel
theorem dJ2_getChar_3b067_0 : decode cJ2_getChar_3b067 0 = .ok (.getstatic 44, 3) := by decide +kernel
theorem dJ2_getChar_3b067_3 : decode cJ2_getChar_3b067 3 = .ok (.ifCond .ne 25, 3) := by decide +kernel
theorem dJ2_getChar_3b067_6 : decode cJ2_getChar_3b067 6 = .ok (.iload_n 1, 1) := by decide +kernel
theorem dJ2_getChar_3b067_7 : decode cJ2_getChar_3b067 7 = .ok (.ifCond .lt 11, 3) := by decide +kernel
theorem dJ2_getChar_3b067_10 : decode cJ2_getChar_3b067 10 = .ok (.iload_n 1, 1) := by decide +kernel
theorem dJ2_getChar_3b067_11 : decode cJ2_getChar_3b067 11 = .ok (.aload_n 0, 1) := by decide +kernel
theorem dJ2_getChar_3b067_12 : decode cJ2_getChar_3b067 12 = .ok (.invokestatic 48, 3) := by decide +kernel
theorem dJ2_getChar_3b067_15 : decode cJ2_getChar_3b067 15 = .ok (.if_icmp .lt 13, 3) := by decide +kernel
theorem dJ2_getChar_3b067_18 : decode cJ2_getChar_3b067 18 = .ok (.new 52, 3) := by decide +kernel
theorem dJ2_getChar_3b067_21 : decode cJ2_getChar_3b067 21 = .ok (.dup, 1) := by decide +kernel
theorem dJ2_getChar_3b067_22 : decode cJ2_getChar_3b067 22 = .ok (.ldc 54, 2) := by decide +kernel
theorem dJ2_getChar_3b067_24 : decode cJ2_getChar_3b067 24 = .ok (.invokespecial 56, 3) := by decide +kernel
theorem dJ2_getChar_3b067_27 : decode cJ2_getChar_3b067 27 = .ok (.athrow, 1) := by decide +kernel
theorem dJ2_getChar_3b067_28 : decode cJ2_getChar_3b067 28 = .ok (.iload_n 1, 1) := by decide +kernel
theorem dJ2_getChar_3b067_29 : decode cJ2_getChar_3b067 29 = .ok (.iconst 1, 1) := by decide +kernel
theorem dJ2_getChar_3b067_30 : decode cJ2_getChar_3b067 30 = .ok (.ishl, 1) := by decide +kernel
theorem dJ2_getChar_3b067_31 : decode cJ2_getChar_3b067 31 = .ok (.istore_n 1, 1) := by decide +kernel
theorem dJ2_getChar_3b067_32 : decode cJ2_getChar_3b067 32 = .ok (.aload_n 0, 1) := by decide +kernel
theorem dJ2_getChar_3b067_33 : decode cJ2_getChar_3b067 33 = .ok (.iload_n 1, 1) := by decide +kernel
theorem dJ2_getChar_3b067_34 : decode cJ2_getChar_3b067 34 = .ok (.iinc 1 1, 3) := by decide +kernel
theorem dJ2_getChar_3b067_37 : decode cJ2_getChar_3b067 37 = .ok (.baload, 1) := by decide +kernel
theorem dJ2_getChar_3b067_38 : decode cJ2_getChar_3b067 38 = .ok (.sipush 255, 3) := by decide +kernel
theorem dJ2_getChar_3b067_41 : decode cJ2_getChar_3b067 41 = .ok (.iand, 1) := by decide +kernel
theorem dJ2_getChar_3b067_42 : decode cJ2_getChar_3b067 42 = .ok (.getstatic 59, 3) := by decide +kernel
theorem dJ2_getChar_3b067_45 : decode cJ2_getChar_3b067 45 = .ok (.ishl, 1) := by decide +kernel
theorem dJ2_getChar_3b067_46 : decode cJ2_getChar_3b067 46 = .ok (.aload_n 0, 1) := by decide +kernel
theorem dJ2_getChar_3b067_47 : decode cJ2_getChar_3b067 47 = .ok (.iload_n 1, 1) := by decide +kernel
theorem dJ2_getChar_3b067_48 : decode cJ2_getChar_3b067 48 = .ok (.baload, 1) := by decide +kernel
theorem dJ2_getChar_3b067_49 : decode cJ2_getChar_3b067 49 = .ok (.sipush 255, 3) := by decide +kernel
theorem dJ2_getChar_3b067_52 : decode cJ2_getChar_3b067 52 = .ok (.iand, 1) := by decide +kernel
theorem dJ2_getChar_3b067_53 : decode cJ2_getChar_3b067 53 = .ok (.getstatic 63, 3) := by decide +kernel
theorem dJ2_getChar_3b067_56 : decode cJ2_getChar_3b067 56 = .ok (.ishl, 1) := by decide +kernel
theorem dJ2_getChar_3b067_57 : decode cJ2_getChar_3b067 57 = .ok (.ior, 1) := by decide +kernel
theorem dJ2_getChar_3b067_58 : decode cJ2_getChar_3b067 58 = .ok (.i2c, 1) := by decide +kernel
theorem dJ2_getChar_3b067_59 : decode cJ2_getChar_3b067 59 = .ok (.ireturn, 1) := by decide +kernel
theorem dJ2_length_9d52b_0 : decode cJ2_length_9d52b 0 = .ok (.aload_n 0, 1) := by decide +kernel
theorem dJ2_length_9d52b_1 : decode cJ2_length_9d52b 1 = .ok (.arraylength, 1) := by decide +kernel
theorem dJ2_length_9d52b_2 : decode cJ2_length_9d52b 2 = .ok (.iconst 1, 1) := by decide +kernel
theorem dJ2_length_9d52b_3 : decode cJ2_length_9d52b 3 = .ok (.ishr, 1) := by decide +kernel
theorem dJ2_length_9d52b_4 : decode cJ2_length_9d52b 4 = .ok (.ireturn, 1) := by decide +kernel
theorem dJ2_charAt_3b067_0 : decode cJ2_charAt_3b067 0 = .ok (.iload_n 1, 1) := by decide +kernel
theorem dJ2_charAt_3b067_1 : decode cJ2_charAt_3b067 1 = .ok (.aload_n 0, 1) := by decide +kernel
theorem dJ2_charAt_3b067_2 : decode cJ2_charAt_3b067 2 = .ok (.invokestatic 67, 3) := by decide +kernel
theorem dJ2_charAt_3b067_5 : decode cJ2_charAt_3b067 5 = .ok (.aload_n 0, 1) := by decide +kernel
theorem dJ2_charAt_3b067_6 : decode cJ2_charAt_3b067 6 = .ok (.iload_n 1, 1) := by decide +kernel
theorem dJ2_charAt_3b067_7 : decode cJ2_charAt_3b067 7 = .ok (.invokestatic 71, 3) := by decide +kernel
theorem dJ2_charAt_3b067_10 : decode cJ2_charAt_3b067 10 = .ok (.ireturn, 1) := by decide +kernel
theorem dJ2_checkIndex_2214a_0 : decode cJ2_checkIndex_2214a 0 = .ok (.iload_n 0, 1) := by decide +kernel
theorem dJ2_checkIndex_2214a_1 : decode cJ2_checkIndex_2214a 1 = .ok (.aload_n 1, 1) := by decide +kernel
theorem dJ2_checkIndex_2214a_2 : decode cJ2_checkIndex_2214a 2 = .ok (.invokestatic 48, 3) := by decide +kernel
theorem dJ2_checkIndex_2214a_5 : decode cJ2_checkIndex_2214a 5 = .ok (.invokestatic 414, 3) := by decide +kernel
theorem dJ2_checkIndex_2214a_8 : decode cJ2_checkIndex_2214a 8 = .ok (.return_, 1) := by decide +kernel
theorem dJ7_fill_53178_0 : decode cJ7_fill_53178 0 = .ok (.iconst 0, 1) := by decide +kernel
theorem dJ7_fill_53178_1 : decode cJ7_fill_53178 1 = .ok (.istore_n 2, 1) := by decide +kernel
theorem dJ7_fill_53178_2 : decode cJ7_fill_53178 2 = .ok (.aload_n 0, 1) := by decide +kernel
theorem dJ7_fill_53178_3 : decode cJ7_fill_53178 3 = .ok (.arraylength, 1) := by decide +kernel
theorem dJ7_fill_53178_4 : decode cJ7_fill_53178 4 = .ok (.istore_n 3, 1) := by decide +kernel
theorem dJ7_fill_53178_5 : decode cJ7_fill_53178 5 = .ok (.iload_n 2, 1) := by decide +kernel
theorem dJ7_fill_53178_6 : decode cJ7_fill_53178 6 = .ok (.iload_n 3, 1) := by decide +kernel
theorem dJ7_fill_53178_7 : decode cJ7_fill_53178 7 = .ok (.if_icmp .ge 13, 3) := by decide +kernel
theorem dJ7_fill_53178_10 : decode cJ7_fill_53178 10 = .ok (.aload_n 0, 1) := by decide +kernel
theorem dJ7_fill_53178_11 : decode cJ7_fill_53178 11 = .ok (.iload_n 2, 1) := by decide +kernel
theorem dJ7_fill_53178_12 : decode cJ7_fill_53178 12 = .ok (.iload_n 1, 1) := by decide +kernel
theorem dJ7_fill_53178_13 : decode cJ7_fill_53178 13 = .ok (.iastore, 1) := by decide +kernel
theorem dJ7_fill_53178_14 : decode cJ7_fill_53178 14 = .ok (.iinc 2 1, 3) := by decide +kernel
theorem dJ7_fill_53178_17 : decode cJ7_fill_53178 17 = .ok (.goto (-12), 3) := by decide +kernel
theorem dJ7_fill_53178_20 : decode cJ7_fill_53178 20 = .ok (.return_, 1) := by decide +kernel
theorem dJ3_checkIndex_8e157_0 : decode cJ3_checkIndex_8e157 0 = .ok (.iload_n 0, 1) := by decide +kernel
theorem dJ3_checkIndex_8e157_1 : decode cJ3_checkIndex_8e157 1 = .ok (.ifCond .lt 8, 3) := by decide +kernel
theorem dJ3_checkIndex_8e157_4 : decode cJ3_checkIndex_8e157 4 = .ok (.iload_n 0, 1) := by decide +kernel
theorem dJ3_checkIndex_8e157_5 : decode cJ3_checkIndex_8e157 5 = .ok (.iload_n 1, 1) := by decide +kernel
theorem dJ3_checkIndex_8e157_6 : decode cJ3_checkIndex_8e157 6 = .ok (.if_icmp .lt 10, 3) := by decide +kernel
theorem dJ3_checkIndex_8e157_9 : decode cJ3_checkIndex_8e157 9 = .ok (.aload_n 2, 1) := by decide +kernel
theorem dJ3_checkIndex_8e157_10 : decode cJ3_checkIndex_8e157 10 = .ok (.iload_n 0, 1) := by decide +kernel
theorem dJ3_checkIndex_8e157_11 : decode cJ3_checkIndex_8e157 11 = .ok (.iload_n 1, 1) := by decide +kernel
theorem dJ3_checkIndex_8e157_12 : decode cJ3_checkIndex_8e157 12 = .ok (.invokestatic 95, 3) := by decide +kernel
theorem dJ3_checkIndex_8e157_15 : decode cJ3_checkIndex_8e157 15 = .ok (.athrow, 1) := by decide +kernel
theorem dJ3_checkIndex_8e157_16 : decode cJ3_checkIndex_8e157 16 = .ok (.iload_n 0, 1) := by decide +kernel
theorem dJ3_checkIndex_8e157_17 : decode cJ3_checkIndex_8e157 17 = .ok (.ireturn, 1) := by decide +kernel
