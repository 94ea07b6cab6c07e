theorem dL_ploughman_0 : decode cL_ploughman 0 = .ok (.aload 4, 2) := by decide +kernel
theorem dL_ploughman_2 : decode cL_ploughman 2 = .ok (.iconst 0, 1) := by decide +kernel
theorem dL_ploughman_3 : decode cL_ploughman 3 = .ok (.aload_n 0, 1) := by decide +kernel
theorem dL_ploughman_4 : decode cL_ploughman 4 = .ok (.iload_n 1, 1) := by decide +kernel
theorem dL_ploughman_5 : decode cL_ploughman 5 = .ok (.iload_n 2, 1) := by decide +kernel
theorem dL_ploughman_6 : decode cL_ploughman 6 = .ok (.iload_n 3, 1) := by decide +kernel
theorem dL_ploughman_7 : decode cL_ploughman 7 = .ok (.invokevirtual 7, 3) := by decide +kernel
theorem dL_ploughman_10 : decode cL_ploughman 10 = .ok (.i2l, 1) := by decide +kernel
theorem dL_ploughman_11 : decode cL_ploughman 11 = .ok (.lastore, 1) := by decide +kernel
theorem dL_ploughman_12 : decode cL_ploughman 12 = .ok (.goto 11, 3) := by decide +kernel
theorem dL_ploughman_15 : decode cL_ploughman 15 = .ok (.astore 5, 2) := by decide +kernel
theorem dL_ploughman_17 : decode cL_ploughman 17 = .ok (.iconst 1, 1) := by decide +kernel
theorem dL_ploughman_18 : decode cL_ploughman 18 = .ok (.ireturn, 1) := by decide +kernel
theorem dL_ploughman_19 : decode cL_ploughman 19 = .ok (.astore 5, 2) := by decide +kernel
theorem dL_ploughman_21 : decode cL_ploughman 21 = .ok (.iconst 2, 1) := by decide +kernel
theorem dL_ploughman_22 : decode cL_ploughman 22 = .ok (.ireturn, 1) := by decide +kernel
theorem dL_ploughman_23 : decode cL_ploughman 23 = .ok (.iconst 0, 1) := by decide +kernel
theorem dL_ploughman_24 : decode cL_ploughman 24 = .ok (.ireturn, 1) := by decide +kernel
theorem dL_draw_0 : decode cL_draw 0 = .ok (.aload_n 1, 1) := by decide +kernel
theorem dL_draw_1 : decode cL_draw 1 = .ok (.iconst 0, 1) := by decide +kernel
theorem dL_draw_2 : decode cL_draw 2 = .ok (.aload_n 0, 1) := by decide +kernel
theorem dL_draw_3 : decode cL_draw 3 = .ok (.invokevirtual 17, 3) := by decide +kernel
theorem dL_draw_6 : decode cL_draw 6 = .ok (.i2l, 1) := by decide +kernel
theorem dL_draw_7 : decode cL_draw 7 = .ok (.lastore, 1) := by decide +kernel
theorem dL_draw_8 : decode cL_draw 8 = .ok (.goto 6, 3) := by decide +kernel
theorem dL_draw_11 : decode cL_draw 11 = .ok (.astore_n 2, 1) := by decide +kernel
theorem dL_draw_12 : decode cL_draw 12 = .ok (.iconst 1, 1) := by decide +kernel
theorem dL_draw_13 : decode cL_draw 13 = .ok (.ireturn, 1) := by decide +kernel
theorem dL_draw_14 : decode cL_draw 14 = .ok (.iconst 0, 1) := by decide +kernel
theorem dL_draw_15 : decode cL_draw 15 = .ok (.ireturn, 1) := by decide +kernel
theorem dL_plot_0 : decode cL_plot 0 = .ok (.aload_n 2, 1) := by decide +kernel
theorem dL_plot_1 : decode cL_plot 1 = .ok (.iconst 0, 1) := by decide +kernel
theorem dL_plot_2 : decode cL_plot 2 = .ok (.aload_n 0, 1) := by decide +kernel
theorem dL_plot_3 : decode cL_plot 3 = .ok (.iload_n 1, 1) := by decide +kernel
theorem dL_plot_4 : decode cL_plot 4 = .ok (.invokevirtual 21, 3) := by decide +kernel
theorem dL_plot_7 : decode cL_plot 7 = .ok (.i2l, 1) := by decide +kernel
theorem dL_plot_8 : decode cL_plot 8 = .ok (.lastore, 1) := by decide +kernel
theorem dL_plot_9 : decode cL_plot 9 = .ok (.goto 6, 3) := by decide +kernel
theorem dL_plot_12 : decode cL_plot 12 = .ok (.astore_n 3, 1) := by decide +kernel
theorem dL_plot_13 : decode cL_plot 13 = .ok (.iconst 1, 1) := by decide +kernel
theorem dL_plot_14 : decode cL_plot 14 = .ok (.ireturn, 1) := by decide +kernel
theorem dL_plot_15 : decode cL_plot 15 = .ok (.iconst 0, 1) := by decide +kernel
theorem dL_plot_16 : decode cL_plot 16 = .ok (.ireturn, 1) := by decide +kernel
theorem dL_mark_0 : decode cL_mark 0 = .ok (.aload 5, 2) := by decide +kernel
theorem dL_mark_2 : decode cL_mark 2 = .ok (.iconst 0, 1) := by decide +kernel
theorem dL_mark_3 : decode cL_mark 3 = .ok (.aload_n 0, 1) := by decide +kernel
theorem dL_mark_4 : decode cL_mark 4 = .ok (.iload_n 1, 1) := by decide +kernel
theorem dL_mark_5 : decode cL_mark 5 = .ok (.iload_n 2, 1) := by decide +kernel
theorem dL_mark_6 : decode cL_mark 6 = .ok (.iload_n 3, 1) := by decide +kernel
theorem dL_mark_7 : decode cL_mark 7 = .ok (.iload 4, 2) := by decide +kernel
theorem dL_mark_9 : decode cL_mark 9 = .ok (.invokevirtual 27, 3) := by decide +kernel
theorem dL_mark_12 : decode cL_mark 12 = .ok (.i2l, 1) := by decide +kernel
theorem dL_mark_13 : decode cL_mark 13 = .ok (.lastore, 1) := by decide +kernel
theorem dL_mark_14 : decode cL_mark 14 = .ok (.goto 11, 3) := by decide +kernel
theorem dL_mark_17 : decode cL_mark 17 = .ok (.astore 6, 2) := by decide +kernel
theorem dL_mark_19 : decode cL_mark 19 = .ok (.iconst 1, 1) := by decide +kernel
theorem dL_mark_20 : decode cL_mark 20 = .ok (.ireturn, 1) := by decide +kernel
theorem dL_mark_21 : decode cL_mark 21 = .ok (.astore 6, 2) := by decide +kernel
theorem dL_mark_23 : decode cL_mark 23 = .ok (.iconst 2, 1) := by decide +kernel
theorem dL_mark_24 : decode cL_mark 24 = .ok (.ireturn, 1) := by decide +kernel
theorem dL_mark_25 : decode cL_mark 25 = .ok (.iconst 0, 1) := by decide +kernel
theorem dL_mark_26 : decode cL_mark 26 = .ok (.ireturn, 1) := by decide +kernel
theorem dL_hard_0 : decode cL_hard 0 = .ok (.aload_n 3, 1) := by decide +kernel
theorem dL_hard_1 : decode cL_hard 1 = .ok (.iconst 0, 1) := by decide +kernel
theorem dL_hard_2 : decode cL_hard 2 = .ok (.aload_n 0, 1) := by decide +kernel
theorem dL_hard_3 : decode cL_hard 3 = .ok (.iload_n 1, 1) := by decide +kernel
theorem dL_hard_4 : decode cL_hard 4 = .ok (.iload_n 2, 1) := by decide +kernel
theorem dL_hard_5 : decode cL_hard 5 = .ok (.invokevirtual 31, 3) := by decide +kernel
theorem dL_hard_8 : decode cL_hard 8 = .ok (.i2l, 1) := by decide +kernel
theorem dL_hard_9 : decode cL_hard 9 = .ok (.lastore, 1) := by decide +kernel
theorem dL_hard_10 : decode cL_hard 10 = .ok (.goto 7, 3) := by decide +kernel
theorem dL_hard_13 : decode cL_hard 13 = .ok (.astore 4, 2) := by decide +kernel
theorem dL_hard_15 : decode cL_hard 15 = .ok (.iconst 1, 1) := by decide +kernel
theorem dL_hard_16 : decode cL_hard 16 = .ok (.ireturn, 1) := by decide +kernel
theorem dL_hard_17 : decode cL_hard 17 = .ok (.iconst 0, 1) := by decide +kernel
theorem dL_hard_18 : decode cL_hard 18 = .ok (.ireturn, 1) := by decide +kernel
theorem dL_told_0 : decode cL_told 0 = .ok (.aload_n 3, 1) := by decide +kernel
theorem dL_told_1 : decode cL_told 1 = .ok (.iconst 0, 1) := by decide +kernel
theorem dL_told_2 : decode cL_told 2 = .ok (.aload_n 0, 1) := by decide +kernel
theorem dL_told_3 : decode cL_told 3 = .ok (.iload_n 1, 1) := by decide +kernel
theorem dL_told_4 : decode cL_told 4 = .ok (.iload_n 2, 1) := by decide +kernel
theorem dL_told_5 : decode cL_told 5 = .ok (.invokevirtual 35, 3) := by decide +kernel
theorem dL_told_8 : decode cL_told 8 = .ok (.i2l, 1) := by decide +kernel
theorem dL_told_9 : decode cL_told 9 = .ok (.lastore, 1) := by decide +kernel
theorem dL_told_10 : decode cL_told 10 = .ok (.goto 11, 3) := by decide +kernel
theorem dL_told_13 : decode cL_told 13 = .ok (.astore 4, 2) := by decide +kernel
theorem dL_told_15 : decode cL_told 15 = .ok (.iconst 1, 1) := by decide +kernel
theorem dL_told_16 : decode cL_told 16 = .ok (.ireturn, 1) := by decide +kernel
theorem dL_told_17 : decode cL_told 17 = .ok (.astore 4, 2) := by decide +kernel
theorem dL_told_19 : decode cL_told 19 = .ok (.iconst 2, 1) := by decide +kernel
theorem dL_told_20 : decode cL_told 20 = .ok (.ireturn, 1) := by decide +kernel
theorem dL_told_21 : decode cL_told 21 = .ok (.iconst 0, 1) := by decide +kernel
theorem dL_told_22 : decode cL_told 22 = .ok (.ireturn, 1) := by decide +kernel
theorem dL_about_0 : decode cL_about 0 = .ok (.aload_n 3, 1) := by decide +kernel
theorem dL_about_1 : decode cL_about 1 = .ok (.iconst 0, 1) := by decide +kernel
theorem dL_about_2 : decode cL_about 2 = .ok (.aload_n 0, 1) := by decide +kernel
theorem dL_about_3 : decode cL_about 3 = .ok (.iload_n 1, 1) := by decide +kernel
theorem dL_about_4 : decode cL_about 4 = .ok (.iload_n 2, 1) := by decide +kernel
theorem dL_about_5 : decode cL_about 5 = .ok (.invokevirtual 38, 3) := by decide +kernel
theorem dL_about_8 : decode cL_about 8 = .ok (.i2l, 1) := by decide +kernel
theorem dL_about_9 : decode cL_about 9 = .ok (.lastore, 1) := by decide +kernel
theorem dL_about_10 : decode cL_about 10 = .ok (.goto 11, 3) := by decide +kernel
theorem dL_about_13 : decode cL_about 13 = .ok (.astore 4, 2) := by decide +kernel
theorem dL_about_15 : decode cL_about 15 = .ok (.iconst 1, 1) := by decide +kernel
theorem dL_about_16 : decode cL_about 16 = .ok (.ireturn, 1) := by decide +kernel
theorem dL_about_17 : decode cL_about 17 = .ok (.astore 4, 2) := by decide +kernel
theorem dL_about_19 : decode cL_about 19 = .ok (.iconst 2, 1) := by decide +kernel
theorem dL_about_20 : decode cL_about 20 = .ok (.ireturn, 1) := by decide +kernel
theorem dL_about_21 : decode cL_about 21 = .ok (.iconst 0, 1) := by decide +kernel
theorem dL_about_22 : decode cL_about 22 = .ok (.ireturn, 1) := by decide +kernel
theorem dL_minutes_0 : decode cL_minutes 0 = .ok (.aload_n 3, 1) := by decide +kernel
theorem dL_minutes_1 : decode cL_minutes 1 = .ok (.iconst 0, 1) := by decide +kernel
theorem dL_minutes_2 : decode cL_minutes 2 = .ok (.aload_n 0, 1) := by decide +kernel
theorem dL_minutes_3 : decode cL_minutes 3 = .ok (.iload_n 1, 1) := by decide +kernel
theorem dL_minutes_4 : decode cL_minutes 4 = .ok (.iload_n 2, 1) := by decide +kernel
theorem dL_minutes_5 : decode cL_minutes 5 = .ok (.invokevirtual 41, 3) := by decide +kernel
theorem dL_minutes_8 : decode cL_minutes 8 = .ok (.i2l, 1) := by decide +kernel
theorem dL_minutes_9 : decode cL_minutes 9 = .ok (.lastore, 1) := by decide +kernel
theorem dL_minutes_10 : decode cL_minutes 10 = .ok (.goto 11, 3) := by decide +kernel
theorem dL_minutes_13 : decode cL_minutes 13 = .ok (.astore 4, 2) := by decide +kernel
theorem dL_minutes_15 : decode cL_minutes 15 = .ok (.iconst 1, 1) := by decide +kernel
theorem dL_minutes_16 : decode cL_minutes 16 = .ok (.ireturn, 1) := by decide +kernel
theorem dL_minutes_17 : decode cL_minutes 17 = .ok (.astore 4, 2) := by decide +kernel
theorem dL_minutes_19 : decode cL_minutes 19 = .ok (.iconst 2, 1) := by decide +kernel
theorem dL_minutes_20 : decode cL_minutes 20 = .ok (.ireturn, 1) := by decide +kernel
theorem dL_minutes_21 : decode cL_minutes 21 = .ok (.iconst 0, 1) := by decide +kernel
theorem dL_minutes_22 : decode cL_minutes 22 = .ok (.ireturn, 1) := by decide +kernel
theorem dL_limit_0 : decode cL_limit 0 = .ok (.aload_n 2, 1) := by decide +kernel
theorem dL_limit_1 : decode cL_limit 1 = .ok (.iconst 0, 1) := by decide +kernel
theorem dL_limit_2 : decode cL_limit 2 = .ok (.aload_n 0, 1) := by decide +kernel
theorem dL_limit_3 : decode cL_limit 3 = .ok (.iload_n 1, 1) := by decide +kernel
theorem dL_limit_4 : decode cL_limit 4 = .ok (.invokevirtual 44, 3) := by decide +kernel
theorem dL_limit_7 : decode cL_limit 7 = .ok (.i2l, 1) := by decide +kernel
theorem dL_limit_8 : decode cL_limit 8 = .ok (.lastore, 1) := by decide +kernel
theorem dL_limit_9 : decode cL_limit 9 = .ok (.goto 6, 3) := by decide +kernel
theorem dL_limit_12 : decode cL_limit 12 = .ok (.astore_n 3, 1) := by decide +kernel
theorem dL_limit_13 : decode cL_limit 13 = .ok (.iconst 1, 1) := by decide +kernel
theorem dL_limit_14 : decode cL_limit 14 = .ok (.ireturn, 1) := by decide +kernel
theorem dL_limit_15 : decode cL_limit 15 = .ok (.iconst 0, 1) := by decide +kernel
theorem dL_limit_16 : decode cL_limit 16 = .ok (.ireturn, 1) := by decide +kernel
theorem dL_rule_0 : decode cL_rule 0 = .ok (.aload_n 2, 1) := by decide +kernel
theorem dL_rule_1 : decode cL_rule 1 = .ok (.iconst 0, 1) := by decide +kernel
theorem dL_rule_2 : decode cL_rule 2 = .ok (.aload_n 0, 1) := by decide +kernel
theorem dL_rule_3 : decode cL_rule 3 = .ok (.iload_n 1, 1) := by decide +kernel
theorem dL_rule_4 : decode cL_rule 4 = .ok (.invokevirtual 47, 3) := by decide +kernel
theorem dL_rule_7 : decode cL_rule 7 = .ok (.i2l, 1) := by decide +kernel
theorem dL_rule_8 : decode cL_rule 8 = .ok (.lastore, 1) := by decide +kernel
theorem dL_rule_9 : decode cL_rule 9 = .ok (.goto 6, 3) := by decide +kernel
theorem dL_rule_12 : decode cL_rule 12 = .ok (.astore_n 3, 1) := by decide +kernel
theorem dL_rule_13 : decode cL_rule 13 = .ok (.iconst 1, 1) := by decide +kernel
theorem dL_rule_14 : decode cL_rule 14 = .ok (.ireturn, 1) := by decide +kernel
theorem dL_rule_15 : decode cL_rule 15 = .ok (.iconst 0, 1) := by decide +kernel
theorem dL_rule_16 : decode cL_rule 16 = .ok (.ireturn, 1) := by decide +kernel
theorem dL_rank_0 : decode cL_rank 0 = .ok (.aload_n 3, 1) := by decide +kernel
theorem dL_rank_1 : decode cL_rank 1 = .ok (.iconst 0, 1) := by decide +kernel
theorem dL_rank_2 : decode cL_rank 2 = .ok (.aload_n 0, 1) := by decide +kernel
theorem dL_rank_3 : decode cL_rank 3 = .ok (.iload_n 1, 1) := by decide +kernel
theorem dL_rank_4 : decode cL_rank 4 = .ok (.iload_n 2, 1) := by decide +kernel
theorem dL_rank_5 : decode cL_rank 5 = .ok (.invokevirtual 50, 3) := by decide +kernel
theorem dL_rank_8 : decode cL_rank 8 = .ok (.i2l, 1) := by decide +kernel
theorem dL_rank_9 : decode cL_rank 9 = .ok (.lastore, 1) := by decide +kernel
theorem dL_rank_10 : decode cL_rank 10 = .ok (.goto 7, 3) := by decide +kernel
theorem dL_rank_13 : decode cL_rank 13 = .ok (.astore 4, 2) := by decide +kernel
theorem dL_rank_15 : decode cL_rank 15 = .ok (.iconst 1, 1) := by decide +kernel
theorem dL_rank_16 : decode cL_rank 16 = .ok (.ireturn, 1) := by decide +kernel
theorem dL_rank_17 : decode cL_rank 17 = .ok (.iconst 0, 1) := by decide +kernel
theorem dL_rank_18 : decode cL_rank 18 = .ok (.ireturn, 1) := by decide +kernel
theorem dL_protest_0 : decode cL_protest 0 = .ok (.aload_n 3, 1) := by decide +kernel
theorem dL_protest_1 : decode cL_protest 1 = .ok (.iconst 0, 1) := by decide +kernel
theorem dL_protest_2 : decode cL_protest 2 = .ok (.aload_n 0, 1) := by decide +kernel
theorem dL_protest_3 : decode cL_protest 3 = .ok (.iload_n 1, 1) := by decide +kernel
theorem dL_protest_4 : decode cL_protest 4 = .ok (.iload_n 2, 1) := by decide +kernel
theorem dL_protest_5 : decode cL_protest 5 = .ok (.invokevirtual 53, 3) := by decide +kernel
theorem dL_protest_8 : decode cL_protest 8 = .ok (.i2l, 1) := by decide +kernel
theorem dL_protest_9 : decode cL_protest 9 = .ok (.lastore, 1) := by decide +kernel
theorem dL_protest_10 : decode cL_protest 10 = .ok (.goto 11, 3) := by decide +kernel
theorem dL_protest_13 : decode cL_protest 13 = .ok (.astore 4, 2) := by decide +kernel
theorem dL_protest_15 : decode cL_protest 15 = .ok (.iconst 1, 1) := by decide +kernel
theorem dL_protest_16 : decode cL_protest 16 = .ok (.ireturn, 1) := by decide +kernel
theorem dL_protest_17 : decode cL_protest 17 = .ok (.astore 4, 2) := by decide +kernel
theorem dL_protest_19 : decode cL_protest 19 = .ok (.iconst 2, 1) := by decide +kernel
theorem dL_protest_20 : decode cL_protest 20 = .ok (.ireturn, 1) := by decide +kernel
theorem dL_protest_21 : decode cL_protest 21 = .ok (.iconst 0, 1) := by decide +kernel
theorem dL_protest_22 : decode cL_protest 22 = .ok (.ireturn, 1) := by decide +kernel
theorem dL_points_0 : decode cL_points 0 = .ok (.aload_n 3, 1) := by decide +kernel
theorem dL_points_1 : decode cL_points 1 = .ok (.iconst 0, 1) := by decide +kernel
theorem dL_points_2 : decode cL_points 2 = .ok (.aload_n 0, 1) := by decide +kernel
theorem dL_points_3 : decode cL_points 3 = .ok (.iload_n 1, 1) := by decide +kernel
theorem dL_points_4 : decode cL_points 4 = .ok (.iload_n 2, 1) := by decide +kernel
theorem dL_points_5 : decode cL_points 5 = .ok (.invokevirtual 56, 3) := by decide +kernel
theorem dL_points_8 : decode cL_points 8 = .ok (.i2l, 1) := by decide +kernel
theorem dL_points_9 : decode cL_points 9 = .ok (.lastore, 1) := by decide +kernel
theorem dL_points_10 : decode cL_points 10 = .ok (.goto 7, 3) := by decide +kernel
theorem dL_points_13 : decode cL_points 13 = .ok (.astore 4, 2) := by decide +kernel
theorem dL_points_15 : decode cL_points 15 = .ok (.iconst 1, 1) := by decide +kernel
theorem dL_points_16 : decode cL_points 16 = .ok (.ireturn, 1) := by decide +kernel
theorem dL_points_17 : decode cL_points 17 = .ok (.iconst 0, 1) := by decide +kernel
theorem dL_points_18 : decode cL_points 18 = .ok (.ireturn, 1) := by decide +kernel
theorem dL_line_0 : decode cL_line 0 = .ok (.aload_n 3, 1) := by decide +kernel
theorem dL_line_1 : decode cL_line 1 = .ok (.iconst 0, 1) := by decide +kernel
theorem dL_line_2 : decode cL_line 2 = .ok (.aload_n 0, 1) := by decide +kernel
theorem dL_line_3 : decode cL_line 3 = .ok (.iload_n 1, 1) := by decide +kernel
theorem dL_line_4 : decode cL_line 4 = .ok (.iload_n 2, 1) := by decide +kernel
theorem dL_line_5 : decode cL_line 5 = .ok (.invokevirtual 59, 3) := by decide +kernel
theorem dL_line_8 : decode cL_line 8 = .ok (.i2l, 1) := by decide +kernel
theorem dL_line_9 : decode cL_line 9 = .ok (.lastore, 1) := by decide +kernel
theorem dL_line_10 : decode cL_line 10 = .ok (.goto 11, 3) := by decide +kernel
theorem dL_line_13 : decode cL_line 13 = .ok (.astore 4, 2) := by decide +kernel
theorem dL_line_15 : decode cL_line 15 = .ok (.iconst 1, 1) := by decide +kernel
theorem dL_line_16 : decode cL_line 16 = .ok (.ireturn, 1) := by decide +kernel
theorem dL_line_17 : decode cL_line 17 = .ok (.astore 4, 2) := by decide +kernel
theorem dL_line_19 : decode cL_line 19 = .ok (.iconst 2, 1) := by decide +kernel
theorem dL_line_20 : decode cL_line 20 = .ok (.ireturn, 1) := by decide +kernel
theorem dL_line_21 : decode cL_line 21 = .ok (.iconst 0, 1) := by decide +kernel
theorem dL_line_22 : decode cL_line 22 = .ok (.ireturn, 1) := by decide +kernel
theorem dL_wait_0 : decode cL_wait 0 = .ok (.aload_n 2, 1) := by decide +kernel
theorem dL_wait_1 : decode cL_wait 1 = .ok (.iconst 0, 1) := by decide +kernel
theorem dL_wait_2 : decode cL_wait 2 = .ok (.aload_n 0, 1) := by decide +kernel
theorem dL_wait_3 : decode cL_wait 3 = .ok (.iload_n 1, 1) := by decide +kernel
theorem dL_wait_4 : decode cL_wait 4 = .ok (.invokevirtual 62, 3) := by decide +kernel
theorem dL_wait_7 : decode cL_wait 7 = .ok (.i2l, 1) := by decide +kernel
theorem dL_wait_8 : decode cL_wait 8 = .ok (.lastore, 1) := by decide +kernel
theorem dL_wait_9 : decode cL_wait 9 = .ok (.goto 6, 3) := by decide +kernel
theorem dL_wait_12 : decode cL_wait 12 = .ok (.astore_n 3, 1) := by decide +kernel
theorem dL_wait_13 : decode cL_wait 13 = .ok (.iconst 1, 1) := by decide +kernel
theorem dL_wait_14 : decode cL_wait 14 = .ok (.ireturn, 1) := by decide +kernel
theorem dL_wait_15 : decode cL_wait 15 = .ok (.iconst 0, 1) := by decide +kernel
theorem dL_wait_16 : decode cL_wait 16 = .ok (.ireturn, 1) := by decide +kernel
theorem dL_law_0 : decode cL_law 0 = .ok (.new 8, 3) := by decide +kernel
theorem dL_law_3 : decode cL_law 3 = .ok (.dup, 1) := by decide +kernel
theorem dL_law_4 : decode cL_law 4 = .ok (.invokespecial 65, 3) := by decide +kernel
theorem dL_law_7 : decode cL_law 7 = .ok (.astore_n 1, 1) := by decide +kernel
theorem dL_law_8 : decode cL_law 8 = .ok (.new 66, 3) := by decide +kernel
theorem dL_law_11 : decode cL_law 11 = .ok (.dup, 1) := by decide +kernel
theorem dL_law_12 : decode cL_law 12 = .ok (.invokespecial 68, 3) := by decide +kernel
theorem dL_law_15 : decode cL_law 15 = .ok (.astore_n 2, 1) := by decide +kernel
theorem dL_law_16 : decode cL_law 16 = .ok (.iconst 1, 1) := by decide +kernel
theorem dL_law_17 : decode cL_law 17 = .ok (.newarray .long, 2) := by decide +kernel
theorem dL_law_19 : decode cL_law 19 = .ok (.astore_n 3, 1) := by decide +kernel
theorem dL_law_20 : decode cL_law 20 = .ok (.iconst 0, 1) := by decide +kernel
theorem dL_law_21 : decode cL_law 21 = .ok (.istore 4, 2) := by decide +kernel
theorem dL_law_23 : decode cL_law 23 = .ok (.iload 4, 2) := by decide +kernel
theorem dL_law_25 : decode cL_law 25 = .ok (.aload_n 0, 1) := by decide +kernel
theorem dL_law_26 : decode cL_law 26 = .ok (.arraylength, 1) := by decide +kernel
theorem dL_law_27 : decode cL_law 27 = .ok (.bipush 6, 2) := by decide +kernel
theorem dL_law_29 : decode cL_law 29 = .ok (.isub, 1) := by decide +kernel
theorem dL_law_30 : decode cL_law 30 = .ok (.if_icmp .gt 1228, 3) := by decide +kernel
theorem dL_law_33 : decode cL_law 33 = .ok (.aload_n 0, 1) := by decide +kernel
theorem dL_law_34 : decode cL_law 34 = .ok (.iload 4, 2) := by decide +kernel
theorem dL_law_36 : decode cL_law 36 = .ok (.iaload, 1) := by decide +kernel
theorem dL_law_37 : decode cL_law 37 = .ok (.bipush 31, 2) := by decide +kernel
theorem dL_law_39 : decode cL_law 39 = .ok (.iand, 1) := by decide +kernel
theorem dL_law_40 : decode cL_law 40 = .ok (.tableswitch 1212 0 18 #[92, 172, 197, 241, 297, 389, 457, 525, 593, 661, 717, 790, 846, 914, 982, 995, 1063, 1131, 1187], 92) := by decide +kernel
theorem dL_law_132 : decode cL_law 132 = .ok (.aload_n 1, 1) := by decide +kernel
theorem dL_law_133 : decode cL_law 133 = .ok (.aload_n 0, 1) := by decide +kernel
theorem dL_law_134 : decode cL_law 134 = .ok (.iload 4, 2) := by decide +kernel
theorem dL_law_136 : decode cL_law 136 = .ok (.iconst 1, 1) := by decide +kernel
theorem dL_law_137 : decode cL_law 137 = .ok (.iadd, 1) := by decide +kernel
theorem dL_law_138 : decode cL_law 138 = .ok (.iaload, 1) := by decide +kernel
theorem dL_law_139 : decode cL_law 139 = .ok (.aload_n 0, 1) := by decide +kernel
theorem dL_law_140 : decode cL_law 140 = .ok (.iload 4, 2) := by decide +kernel
theorem dL_law_142 : decode cL_law 142 = .ok (.iconst 2, 1) := by decide +kernel
theorem dL_law_143 : decode cL_law 143 = .ok (.iadd, 1) := by decide +kernel
theorem dL_law_144 : decode cL_law 144 = .ok (.iaload, 1) := by decide +kernel
theorem dL_law_145 : decode cL_law 145 = .ok (.aload_n 0, 1) := by decide +kernel
theorem dL_law_146 : decode cL_law 146 = .ok (.iload 4, 2) := by decide +kernel
theorem dL_law_148 : decode cL_law 148 = .ok (.iconst 3, 1) := by decide +kernel
theorem dL_law_149 : decode cL_law 149 = .ok (.iadd, 1) := by decide +kernel
theorem dL_law_150 : decode cL_law 150 = .ok (.iaload, 1) := by decide +kernel
theorem dL_law_151 : decode cL_law 151 = .ok (.aload_n 3, 1) := by decide +kernel
theorem dL_law_152 : decode cL_law 152 = .ok (.invokestatic 69, 3) := by decide +kernel
theorem dL_law_155 : decode cL_law 155 = .ok (.istore 5, 2) := by decide +kernel
theorem dL_law_157 : decode cL_law 157 = .ok (.aload_n 2, 1) := by decide +kernel
theorem dL_law_158 : decode cL_law 158 = .ok (.aload_n 0, 1) := by decide +kernel
theorem dL_law_159 : decode cL_law 159 = .ok (.iload 4, 2) := by decide +kernel
theorem dL_law_161 : decode cL_law 161 = .ok (.iconst 1, 1) := by decide +kernel
theorem dL_law_162 : decode cL_law 162 = .ok (.iadd, 1) := by decide +kernel
theorem dL_law_163 : decode cL_law 163 = .ok (.iaload, 1) := by decide +kernel
theorem dL_law_164 : decode cL_law 164 = .ok (.aload_n 0, 1) := by decide +kernel
theorem dL_law_165 : decode cL_law 165 = .ok (.iload 4, 2) := by decide +kernel
theorem dL_law_167 : decode cL_law 167 = .ok (.iconst 2, 1) := by decide +kernel
theorem dL_law_168 : decode cL_law 168 = .ok (.iadd, 1) := by decide +kernel
theorem dL_law_169 : decode cL_law 169 = .ok (.iaload, 1) := by decide +kernel
theorem dL_law_170 : decode cL_law 170 = .ok (.aload_n 0, 1) := by decide +kernel
theorem dL_law_171 : decode cL_law 171 = .ok (.iload 4, 2) := by decide +kernel
theorem dL_law_173 : decode cL_law 173 = .ok (.iconst 3, 1) := by decide +kernel
theorem dL_law_174 : decode cL_law 174 = .ok (.iadd, 1) := by decide +kernel
theorem dL_law_175 : decode cL_law 175 = .ok (.iaload, 1) := by decide +kernel
theorem dL_law_176 : decode cL_law 176 = .ok (.invokevirtual 74, 3) := by decide +kernel
theorem dL_law_179 : decode cL_law 179 = .ok (.istore 6, 2) := by decide +kernel
theorem dL_law_181 : decode cL_law 181 = .ok (.aload_n 2, 1) := by decide +kernel
theorem dL_law_182 : decode cL_law 182 = .ok (.invokevirtual 75, 3) := by decide +kernel
theorem dL_law_185 : decode cL_law 185 = .ok (.iload 5, 2) := by decide +kernel
theorem dL_law_187 : decode cL_law 187 = .ok (.if_icmp .eq 5, 3) := by decide +kernel
theorem dL_law_190 : decode cL_law 190 = .ok (.iconst 0, 1) := by decide +kernel
theorem dL_law_191 : decode cL_law 191 = .ok (.ireturn, 1) := by decide +kernel
theorem dL_law_192 : decode cL_law 192 = .ok (.iload 5, 2) := by decide +kernel
theorem dL_law_194 : decode cL_law 194 = .ok (.ifCond .ne 15, 3) := by decide +kernel
theorem dL_law_197 : decode cL_law 197 = .ok (.aload_n 3, 1) := by decide +kernel
theorem dL_law_198 : decode cL_law 198 = .ok (.iconst 0, 1) := by decide +kernel
theorem dL_law_199 : decode cL_law 199 = .ok (.laload, 1) := by decide +kernel
theorem dL_law_200 : decode cL_law 200 = .ok (.iload 6, 2) := by decide +kernel
theorem dL_law_202 : decode cL_law 202 = .ok (.i2l, 1) := by decide +kernel
theorem dL_law_203 : decode cL_law 203 = .ok (.lcmp, 1) := by decide +kernel
theorem dL_law_204 : decode cL_law 204 = .ok (.ifCond .eq 5, 3) := by decide +kernel
theorem dL_law_207 : decode cL_law 207 = .ok (.iconst 0, 1) := by decide +kernel
theorem dL_law_208 : decode cL_law 208 = .ok (.ireturn, 1) := by decide +kernel
theorem dL_law_209 : decode cL_law 209 = .ok (.goto 1043, 3) := by decide +kernel
theorem dL_law_212 : decode cL_law 212 = .ok (.aload_n 1, 1) := by decide +kernel
theorem dL_law_213 : decode cL_law 213 = .ok (.aload_n 0, 1) := by decide +kernel
theorem dL_law_214 : decode cL_law 214 = .ok (.iload 4, 2) := by decide +kernel
theorem dL_law_216 : decode cL_law 216 = .ok (.iconst 1, 1) := by decide +kernel
theorem dL_law_217 : decode cL_law 217 = .ok (.iadd, 1) := by decide +kernel
theorem dL_law_218 : decode cL_law 218 = .ok (.iaload, 1) := by decide +kernel
theorem dL_law_219 : decode cL_law 219 = .ok (.invokevirtual 78, 3) := by decide +kernel
theorem dL_law_222 : decode cL_law 222 = .ok (.aload_n 2, 1) := by decide +kernel
theorem dL_law_223 : decode cL_law 223 = .ok (.aload_n 0, 1) := by decide +kernel
theorem dL_law_224 : decode cL_law 224 = .ok (.iload 4, 2) := by decide +kernel
theorem dL_law_226 : decode cL_law 226 = .ok (.iconst 1, 1) := by decide +kernel
theorem dL_law_227 : decode cL_law 227 = .ok (.iadd, 1) := by decide +kernel
theorem dL_law_228 : decode cL_law 228 = .ok (.iaload, 1) := by decide +kernel
theorem dL_law_229 : decode cL_law 229 = .ok (.invokevirtual 81, 3) := by decide +kernel
theorem dL_law_232 : decode cL_law 232 = .ok (.if_icmp .eq 1020, 3) := by decide +kernel
theorem dL_law_235 : decode cL_law 235 = .ok (.iconst 0, 1) := by decide +kernel
theorem dL_law_236 : decode cL_law 236 = .ok (.ireturn, 1) := by decide +kernel
theorem dL_law_237 : decode cL_law 237 = .ok (.aload_n 1, 1) := by decide +kernel
theorem dL_law_238 : decode cL_law 238 = .ok (.aload_n 3, 1) := by decide +kernel
theorem dL_law_239 : decode cL_law 239 = .ok (.invokestatic 82, 3) := by decide +kernel
theorem dL_law_242 : decode cL_law 242 = .ok (.istore 5, 2) := by decide +kernel
theorem dL_law_244 : decode cL_law 244 = .ok (.aload_n 2, 1) := by decide +kernel
theorem dL_law_245 : decode cL_law 245 = .ok (.invokevirtual 85, 3) := by decide +kernel
theorem dL_law_248 : decode cL_law 248 = .ok (.istore 6, 2) := by decide +kernel
theorem dL_law_250 : decode cL_law 250 = .ok (.aload_n 2, 1) := by decide +kernel
theorem dL_law_251 : decode cL_law 251 = .ok (.invokevirtual 75, 3) := by decide +kernel
theorem dL_law_254 : decode cL_law 254 = .ok (.iload 5, 2) := by decide +kernel
theorem dL_law_256 : decode cL_law 256 = .ok (.if_icmp .eq 5, 3) := by decide +kernel
theorem dL_law_259 : decode cL_law 259 = .ok (.iconst 0, 1) := by decide +kernel
theorem dL_law_260 : decode cL_law 260 = .ok (.ireturn, 1) := by decide +kernel
theorem dL_law_261 : decode cL_law 261 = .ok (.iload 5, 2) := by decide +kernel
theorem dL_law_263 : decode cL_law 263 = .ok (.ifCond .ne 15, 3) := by decide +kernel
theorem dL_law_266 : decode cL_law 266 = .ok (.aload_n 3, 1) := by decide +kernel
theorem dL_law_267 : decode cL_law 267 = .ok (.iconst 0, 1) := by decide +kernel
theorem dL_law_268 : decode cL_law 268 = .ok (.laload, 1) := by decide +kernel
theorem dL_law_269 : decode cL_law 269 = .ok (.iload 6, 2) := by decide +kernel
theorem dL_law_271 : decode cL_law 271 = .ok (.i2l, 1) := by decide +kernel
theorem dL_law_272 : decode cL_law 272 = .ok (.lcmp, 1) := by decide +kernel
theorem dL_law_273 : decode cL_law 273 = .ok (.ifCond .eq 5, 3) := by decide +kernel
theorem dL_law_276 : decode cL_law 276 = .ok (.iconst 0, 1) := by decide +kernel
theorem dL_law_277 : decode cL_law 277 = .ok (.ireturn, 1) := by decide +kernel
theorem dL_law_278 : decode cL_law 278 = .ok (.goto 974, 3) := by decide +kernel
theorem dL_law_281 : decode cL_law 281 = .ok (.aload_n 1, 1) := by decide +kernel
theorem dL_law_282 : decode cL_law 282 = .ok (.aload_n 0, 1) := by decide +kernel
theorem dL_law_283 : decode cL_law 283 = .ok (.iload 4, 2) := by decide +kernel
theorem dL_law_285 : decode cL_law 285 = .ok (.iconst 1, 1) := by decide +kernel
theorem dL_law_286 : decode cL_law 286 = .ok (.iadd, 1) := by decide +kernel
theorem dL_law_287 : decode cL_law 287 = .ok (.iaload, 1) := by decide +kernel
theorem dL_law_288 : decode cL_law 288 = .ok (.aload_n 3, 1) := by decide +kernel
theorem dL_law_289 : decode cL_law 289 = .ok (.invokestatic 86, 3) := by decide +kernel
theorem dL_law_292 : decode cL_law 292 = .ok (.istore 5, 2) := by decide +kernel
theorem dL_law_294 : decode cL_law 294 = .ok (.aload_n 2, 1) := by decide +kernel
theorem dL_law_295 : decode cL_law 295 = .ok (.aload_n 0, 1) := by decide +kernel
theorem dL_law_296 : decode cL_law 296 = .ok (.iload 4, 2) := by decide +kernel
theorem dL_law_298 : decode cL_law 298 = .ok (.iconst 1, 1) := by decide +kernel
theorem dL_law_299 : decode cL_law 299 = .ok (.iadd, 1) := by decide +kernel
theorem dL_law_300 : decode cL_law 300 = .ok (.iaload, 1) := by decide +kernel
theorem dL_law_301 : decode cL_law 301 = .ok (.invokevirtual 89, 3) := by decide +kernel
theorem dL_law_304 : decode cL_law 304 = .ok (.istore 6, 2) := by decide +kernel
theorem dL_law_306 : decode cL_law 306 = .ok (.aload_n 2, 1) := by decide +kernel
theorem dL_law_307 : decode cL_law 307 = .ok (.invokevirtual 75, 3) := by decide +kernel
theorem dL_law_310 : decode cL_law 310 = .ok (.iload 5, 2) := by decide +kernel
theorem dL_law_312 : decode cL_law 312 = .ok (.if_icmp .eq 5, 3) := by decide +kernel
theorem dL_law_315 : decode cL_law 315 = .ok (.iconst 0, 1) := by decide +kernel
theorem dL_law_316 : decode cL_law 316 = .ok (.ireturn, 1) := by decide +kernel
theorem dL_law_317 : decode cL_law 317 = .ok (.iload 5, 2) := by decide +kernel
theorem dL_law_319 : decode cL_law 319 = .ok (.ifCond .ne 15, 3) := by decide +kernel
theorem dL_law_322 : decode cL_law 322 = .ok (.aload_n 3, 1) := by decide +kernel
theorem dL_law_323 : decode cL_law 323 = .ok (.iconst 0, 1) := by decide +kernel
theorem dL_law_324 : decode cL_law 324 = .ok (.laload, 1) := by decide +kernel
theorem dL_law_325 : decode cL_law 325 = .ok (.iload 6, 2) := by decide +kernel
theorem dL_law_327 : decode cL_law 327 = .ok (.i2l, 1) := by decide +kernel
theorem dL_law_328 : decode cL_law 328 = .ok (.lcmp, 1) := by decide +kernel
theorem dL_law_329 : decode cL_law 329 = .ok (.ifCond .eq 5, 3) := by decide +kernel
theorem dL_law_332 : decode cL_law 332 = .ok (.iconst 0, 1) := by decide +kernel
theorem dL_law_333 : decode cL_law 333 = .ok (.ireturn, 1) := by decide +kernel
theorem dL_law_334 : decode cL_law 334 = .ok (.goto 918, 3) := by decide +kernel
theorem dL_law_337 : decode cL_law 337 = .ok (.aload_n 1, 1) := by decide +kernel
theorem dL_law_338 : decode cL_law 338 = .ok (.aload_n 0, 1) := by decide +kernel
theorem dL_law_339 : decode cL_law 339 = .ok (.iload 4, 2) := by decide +kernel
theorem dL_law_341 : decode cL_law 341 = .ok (.iconst 1, 1) := by decide +kernel
theorem dL_law_342 : decode cL_law 342 = .ok (.iadd, 1) := by decide +kernel
theorem dL_law_343 : decode cL_law 343 = .ok (.iaload, 1) := by decide +kernel
theorem dL_law_344 : decode cL_law 344 = .ok (.aload_n 0, 1) := by decide +kernel
theorem dL_law_345 : decode cL_law 345 = .ok (.iload 4, 2) := by decide +kernel
theorem dL_law_347 : decode cL_law 347 = .ok (.iconst 2, 1) := by decide +kernel
theorem dL_law_348 : decode cL_law 348 = .ok (.iadd, 1) := by decide +kernel
theorem dL_law_349 : decode cL_law 349 = .ok (.iaload, 1) := by decide +kernel
theorem dL_law_350 : decode cL_law 350 = .ok (.aload_n 0, 1) := by decide +kernel
theorem dL_law_351 : decode cL_law 351 = .ok (.iload 4, 2) := by decide +kernel
theorem dL_law_353 : decode cL_law 353 = .ok (.iconst 3, 1) := by decide +kernel
theorem dL_law_354 : decode cL_law 354 = .ok (.iadd, 1) := by decide +kernel
theorem dL_law_355 : decode cL_law 355 = .ok (.iaload, 1) := by decide +kernel
theorem dL_law_356 : decode cL_law 356 = .ok (.aload_n 0, 1) := by decide +kernel
theorem dL_law_357 : decode cL_law 357 = .ok (.iload 4, 2) := by decide +kernel
theorem dL_law_359 : decode cL_law 359 = .ok (.iconst 4, 1) := by decide +kernel
theorem dL_law_360 : decode cL_law 360 = .ok (.iadd, 1) := by decide +kernel
theorem dL_law_361 : decode cL_law 361 = .ok (.iaload, 1) := by decide +kernel
theorem dL_law_362 : decode cL_law 362 = .ok (.aload_n 3, 1) := by decide +kernel
theorem dL_law_363 : decode cL_law 363 = .ok (.invokestatic 90, 3) := by decide +kernel
theorem dL_law_366 : decode cL_law 366 = .ok (.istore 5, 2) := by decide +kernel
theorem dL_law_368 : decode cL_law 368 = .ok (.aload_n 2, 1) := by decide +kernel
theorem dL_law_369 : decode cL_law 369 = .ok (.aload_n 0, 1) := by decide +kernel
theorem dL_law_370 : decode cL_law 370 = .ok (.iload 4, 2) := by decide +kernel
theorem dL_law_372 : decode cL_law 372 = .ok (.iconst 1, 1) := by decide +kernel
theorem dL_law_373 : decode cL_law 373 = .ok (.iadd, 1) := by decide +kernel
theorem dL_law_374 : decode cL_law 374 = .ok (.iaload, 1) := by decide +kernel
theorem dL_law_375 : decode cL_law 375 = .ok (.aload_n 0, 1) := by decide +kernel
theorem dL_law_376 : decode cL_law 376 = .ok (.iload 4, 2) := by decide +kernel
theorem dL_law_378 : decode cL_law 378 = .ok (.iconst 2, 1) := by decide +kernel
theorem dL_law_379 : decode cL_law 379 = .ok (.iadd, 1) := by decide +kernel
theorem dL_law_380 : decode cL_law 380 = .ok (.iaload, 1) := by decide +kernel
theorem dL_law_381 : decode cL_law 381 = .ok (.aload_n 0, 1) := by decide +kernel
theorem dL_law_382 : decode cL_law 382 = .ok (.iload 4, 2) := by decide +kernel
theorem dL_law_384 : decode cL_law 384 = .ok (.iconst 3, 1) := by decide +kernel
theorem dL_law_385 : decode cL_law 385 = .ok (.iadd, 1) := by decide +kernel
theorem dL_law_386 : decode cL_law 386 = .ok (.iaload, 1) := by decide +kernel
theorem dL_law_387 : decode cL_law 387 = .ok (.aload_n 0, 1) := by decide +kernel
theorem dL_law_388 : decode cL_law 388 = .ok (.iload 4, 2) := by decide +kernel
theorem dL_law_390 : decode cL_law 390 = .ok (.iconst 4, 1) := by decide +kernel
theorem dL_law_391 : decode cL_law 391 = .ok (.iadd, 1) := by decide +kernel
theorem dL_law_392 : decode cL_law 392 = .ok (.iaload, 1) := by decide +kernel
theorem dL_law_393 : decode cL_law 393 = .ok (.invokevirtual 93, 3) := by decide +kernel
theorem dL_law_396 : decode cL_law 396 = .ok (.istore 6, 2) := by decide +kernel
theorem dL_law_398 : decode cL_law 398 = .ok (.aload_n 2, 1) := by decide +kernel
theorem dL_law_399 : decode cL_law 399 = .ok (.invokevirtual 75, 3) := by decide +kernel
theorem dL_law_402 : decode cL_law 402 = .ok (.iload 5, 2) := by decide +kernel
theorem dL_law_404 : decode cL_law 404 = .ok (.if_icmp .eq 5, 3) := by decide +kernel
theorem dL_law_407 : decode cL_law 407 = .ok (.iconst 0, 1) := by decide +kernel
theorem dL_law_408 : decode cL_law 408 = .ok (.ireturn, 1) := by decide +kernel
theorem dL_law_409 : decode cL_law 409 = .ok (.iload 5, 2) := by decide +kernel
theorem dL_law_411 : decode cL_law 411 = .ok (.ifCond .ne 15, 3) := by decide +kernel
theorem dL_law_414 : decode cL_law 414 = .ok (.aload_n 3, 1) := by decide +kernel
theorem dL_law_415 : decode cL_law 415 = .ok (.iconst 0, 1) := by decide +kernel
theorem dL_law_416 : decode cL_law 416 = .ok (.laload, 1) := by decide +kernel
theorem dL_law_417 : decode cL_law 417 = .ok (.iload 6, 2) := by decide +kernel
theorem dL_law_419 : decode cL_law 419 = .ok (.i2l, 1) := by decide +kernel
theorem dL_law_420 : decode cL_law 420 = .ok (.lcmp, 1) := by decide +kernel
theorem dL_law_421 : decode cL_law 421 = .ok (.ifCond .eq 5, 3) := by decide +kernel
theorem dL_law_424 : decode cL_law 424 = .ok (.iconst 0, 1) := by decide +kernel
theorem dL_law_425 : decode cL_law 425 = .ok (.ireturn, 1) := by decide +kernel
theorem dL_law_426 : decode cL_law 426 = .ok (.goto 826, 3) := by decide +kernel
theorem dL_law_429 : decode cL_law 429 = .ok (.aload_n 1, 1) := by decide +kernel
theorem dL_law_430 : decode cL_law 430 = .ok (.aload_n 0, 1) := by decide +kernel
theorem dL_law_431 : decode cL_law 431 = .ok (.iload 4, 2) := by decide +kernel
theorem dL_law_433 : decode cL_law 433 = .ok (.iconst 1, 1) := by decide +kernel
theorem dL_law_434 : decode cL_law 434 = .ok (.iadd, 1) := by decide +kernel
theorem dL_law_435 : decode cL_law 435 = .ok (.iaload, 1) := by decide +kernel
theorem dL_law_436 : decode cL_law 436 = .ok (.aload_n 0, 1) := by decide +kernel
theorem dL_law_437 : decode cL_law 437 = .ok (.iload 4, 2) := by decide +kernel
theorem dL_law_439 : decode cL_law 439 = .ok (.iconst 2, 1) := by decide +kernel
theorem dL_law_440 : decode cL_law 440 = .ok (.iadd, 1) := by decide +kernel
theorem dL_law_441 : decode cL_law 441 = .ok (.iaload, 1) := by decide +kernel
theorem dL_law_442 : decode cL_law 442 = .ok (.aload_n 3, 1) := by decide +kernel
theorem dL_law_443 : decode cL_law 443 = .ok (.invokestatic 94, 3) := by decide +kernel
theorem dL_law_446 : decode cL_law 446 = .ok (.istore 5, 2) := by decide +kernel
theorem dL_law_448 : decode cL_law 448 = .ok (.aload_n 2, 1) := by decide +kernel
theorem dL_law_449 : decode cL_law 449 = .ok (.aload_n 0, 1) := by decide +kernel
theorem dL_law_450 : decode cL_law 450 = .ok (.iload 4, 2) := by decide +kernel
theorem dL_law_452 : decode cL_law 452 = .ok (.iconst 1, 1) := by decide +kernel
theorem dL_law_453 : decode cL_law 453 = .ok (.iadd, 1) := by decide +kernel
theorem dL_law_454 : decode cL_law 454 = .ok (.iaload, 1) := by decide +kernel
theorem dL_law_455 : decode cL_law 455 = .ok (.aload_n 0, 1) := by decide +kernel
theorem dL_law_456 : decode cL_law 456 = .ok (.iload 4, 2) := by decide +kernel
theorem dL_law_458 : decode cL_law 458 = .ok (.iconst 2, 1) := by decide +kernel
theorem dL_law_459 : decode cL_law 459 = .ok (.iadd, 1) := by decide +kernel
theorem dL_law_460 : decode cL_law 460 = .ok (.iaload, 1) := by decide +kernel
theorem dL_law_461 : decode cL_law 461 = .ok (.invokevirtual 97, 3) := by decide +kernel
theorem dL_law_464 : decode cL_law 464 = .ok (.istore 6, 2) := by decide +kernel
theorem dL_law_466 : decode cL_law 466 = .ok (.aload_n 2, 1) := by decide +kernel
theorem dL_law_467 : decode cL_law 467 = .ok (.invokevirtual 75, 3) := by decide +kernel
theorem dL_law_470 : decode cL_law 470 = .ok (.iload 5, 2) := by decide +kernel
theorem dL_law_472 : decode cL_law 472 = .ok (.if_icmp .eq 5, 3) := by decide +kernel
theorem dL_law_475 : decode cL_law 475 = .ok (.iconst 0, 1) := by decide +kernel
theorem dL_law_476 : decode cL_law 476 = .ok (.ireturn, 1) := by decide +kernel
theorem dL_law_477 : decode cL_law 477 = .ok (.iload 5, 2) := by decide +kernel
theorem dL_law_479 : decode cL_law 479 = .ok (.ifCond .ne 15, 3) := by decide +kernel
theorem dL_law_482 : decode cL_law 482 = .ok (.aload_n 3, 1) := by decide +kernel
theorem dL_law_483 : decode cL_law 483 = .ok (.iconst 0, 1) := by decide +kernel
theorem dL_law_484 : decode cL_law 484 = .ok (.laload, 1) := by decide +kernel
theorem dL_law_485 : decode cL_law 485 = .ok (.iload 6, 2) := by decide +kernel
theorem dL_law_487 : decode cL_law 487 = .ok (.i2l, 1) := by decide +kernel
theorem dL_law_488 : decode cL_law 488 = .ok (.lcmp, 1) := by decide +kernel
theorem dL_law_489 : decode cL_law 489 = .ok (.ifCond .eq 5, 3) := by decide +kernel
theorem dL_law_492 : decode cL_law 492 = .ok (.iconst 0, 1) := by decide +kernel
theorem dL_law_493 : decode cL_law 493 = .ok (.ireturn, 1) := by decide +kernel
theorem dL_law_494 : decode cL_law 494 = .ok (.goto 758, 3) := by decide +kernel
theorem dL_law_497 : decode cL_law 497 = .ok (.aload_n 1, 1) := by decide +kernel
theorem dL_law_498 : decode cL_law 498 = .ok (.aload_n 0, 1) := by decide +kernel
theorem dL_law_499 : decode cL_law 499 = .ok (.iload 4, 2) := by decide +kernel
theorem dL_law_501 : decode cL_law 501 = .ok (.iconst 1, 1) := by decide +kernel
theorem dL_law_502 : decode cL_law 502 = .ok (.iadd, 1) := by decide +kernel
