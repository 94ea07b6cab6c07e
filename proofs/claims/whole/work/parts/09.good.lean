set_option maxRecDepth 20000 in
theorem ggX9_rank_X9_requireArgument : GoodIn wsX9_rank wsX9_requireArgument := goodIn_ca (goodIn_r _ [9, 10, 11] (by decide +kernel) (by decide +kernel)) (goodIn_sub (fun _ h => List.mem_cons_of_mem _ (List.mem_append_right _ h)) (by decide +kernel))
set_option maxRecDepth 20000 in
theorem gX9_rank_X9_requireArgument : GoodIn wsX9_rank (va_wsS RX9 94 yX9_requireArgument wsX9_requireArgument) := goodIn_app (goodIn_of _ (by decide +kernel)) ggX9_rank_X9_requireArgument
set_option maxRecDepth 20000 in
theorem ggX9_rank_X1_isDrawn : GoodIn wsX9_rank wsX1_isDrawn := goodIn_r _ [16, 17, 122, 123, 124, 125, 126, 127, 128] (by decide +kernel) (by decide +kernel)
set_option maxRecDepth 20000 in
theorem gX9_rank_X1_isDrawn : GoodIn wsX9_rank (wsV RX9 98 RX1 yX1_isDrawn wsX1_isDrawn) := goodIn_app (goodIn_of _ (by decide +kernel)) ggX9_rank_X1_isDrawn
set_option maxRecDepth 20000 in
theorem ggX9_rank_X4_arrange : GoodIn wsX9_rank wsX4_arrange := goodIn_r _ [22, 23, 24, 25, 26, 27, 28, 15, 29, 30, 31, 32, 33, 34, 35, 36, 37, 38, 21, 39, 40, 41, 42, 43, 44, 45, 46, 47, 48, 49, 50, 51, 52, 53, 54, 55, 56, 57, 58, 59, 60, 61, 62, 63, 64, 65, 66, 67, 68, 69, 70, 71, 72, 73, 74, 75, 76, 77, 78, 79, 80, 81, 82, 83, 84, 85, 86, 87, 88, 89, 90, 91, 92, 93, 94, 95, 96, 97, 98, 99, 100, 101, 102, 103, 104, 105, 106, 129, 130, 131, 132, 133, 134, 122, 123, 124, 125, 126, 127, 128, 135, 136, 137, 138, 139, 140, 141, 142, 143, 144, 145, 146, 147, 148] (by decide +kernel) (by decide +kernel)
set_option maxRecDepth 20000 in
theorem gX9_rank_X4_arrange : GoodIn wsX9_rank (wsV RX9 214 RX4 yX4_arrange wsX4_arrange) := goodIn_app (goodIn_of _ (by decide +kernel)) ggX9_rank_X4_arrange
set_option maxRecDepth 20000 in
theorem ggX9_rank_X4_ploughmanAt : GoodIn wsX9_rank wsX4_ploughmanAt := goodIn_r _ [110, 23, 25, 4, 5, 6, 129, 130, 131, 132, 133, 134] (by decide +kernel) (by decide +kernel)
set_option maxRecDepth 20000 in
theorem gX9_rank_X4_ploughmanAt : GoodIn wsX9_rank (wsV RX9 217 RX4 yX4_ploughmanAt wsX4_ploughmanAt) := goodIn_app (goodIn_of _ (by decide +kernel)) ggX9_rank_X4_ploughmanAt
set_option maxRecDepth 20000 in
theorem ggX9_protest_X1_plots : GoodIn wsX9_protest wsX1_plots := goodIn_r _ [7, 8, 9, 41, 42, 43, 44, 45, 46, 47] (by decide +kernel) (by decide +kernel)
set_option maxRecDepth 20000 in
theorem gX9_protest_X1_plots : GoodIn wsX9_protest (wsV RX9 144 RX1 yX1_plots wsX1_plots) := goodIn_app (goodIn_of _ (by decide +kernel)) ggX9_protest_X1_plots
set_option maxRecDepth 20000 in
theorem ggX9_protest_X9_requireIndex : GoodIn wsX9_protest wsX9_requireIndex := goodIn_ca (goodIn_r _ [13, 14, 15, 16, 17, 12, 18] (by decide +kernel) (by decide +kernel)) (goodIn_sub (fun _ h => List.mem_cons_of_mem _ (List.mem_append_left _ (List.mem_append_right _ h))) (by decide +kernel))
set_option maxRecDepth 20000 in
theorem gX9_protest_X9_requireIndex : GoodIn wsX9_protest (va_wsS RX9 137 yX9_requireIndex wsX9_requireIndex) := goodIn_app (goodIn_of _ (by decide +kernel)) ggX9_protest_X9_requireIndex
set_option maxRecDepth 20000 in
theorem ggX9_protest_X9_requireArgument : GoodIn wsX9_protest wsX9_requireArgument := goodIn_ca (goodIn_r _ [21, 22, 23] (by decide +kernel) (by decide +kernel)) (goodIn_sub (fun _ h => List.mem_cons_of_mem _ (List.mem_append_right _ h)) (by decide +kernel))
set_option maxRecDepth 20000 in
theorem gX9_protest_X9_requireArgument : GoodIn wsX9_protest (va_wsS RX9 94 yX9_requireArgument wsX9_requireArgument) := goodIn_app (goodIn_of _ (by decide +kernel)) ggX9_protest_X9_requireArgument
set_option maxRecDepth 20000 in
theorem ggX9_protest_X5_takeOff : GoodIn wsX9_protest wsX5_takeOff := goodIn_r _ [28, 29, 48, 49, 50, 51] (by decide +kernel) (by decide +kernel)
set_option maxRecDepth 20000 in
theorem gX9_protest_X5_takeOff : GoodIn wsX9_protest (wsV RX9 220 RX5 yX5_takeOff wsX5_takeOff) := goodIn_app (goodIn_of _ (by decide +kernel)) ggX9_protest_X5_takeOff
set_option maxRecDepth 20000 in
theorem ggX9_publish_X1_isDrawn : GoodIn wsX9_publish wsX1_isDrawn := goodIn_r _ [9, 10, 155, 156, 157, 158, 159, 160, 161] (by decide +kernel) (by decide +kernel)
set_option maxRecDepth 20000 in
theorem gX9_publish_X1_isDrawn : GoodIn wsX9_publish (wsV RX9 98 RX1 yX1_isDrawn wsX1_isDrawn) := goodIn_app (goodIn_of _ (by decide +kernel)) ggX9_publish_X1_isDrawn
set_option maxRecDepth 20000 in
theorem ggX9_publish_J7_fill_53178 : GoodIn wsX9_publish wsJ7_fill_53178 := goodIn_r _ [14] (by decide +kernel) (by decide +kernel)
set_option maxRecDepth 20000 in
theorem gX9_publish_J7_fill_53178 : GoodIn wsX9_publish (va_wsS RX9 223 yJ7_fill_53178 wsJ7_fill_53178) := goodIn_app (goodIn_of _ (by decide +kernel)) ggX9_publish_J7_fill_53178
set_option maxRecDepth 20000 in
theorem ggX9_publish_X9_awardPrizes : GoodIn wsX9_publish wsX9_awardPrizes := goodIn_r _ [19, 20, 21, 22, 23, 24, 25, 2, 1, 26, 27, 28, 29, 30, 31, 32, 33, 34, 35, 36, 8, 37, 38, 39, 40, 41, 42, 43, 44, 45, 46, 47, 48, 49, 50, 51, 52, 53, 54, 55, 56, 57, 58, 59, 60, 61, 62, 63, 64, 65, 66, 67, 68, 69, 70, 71, 72, 73, 74, 75, 76, 77, 78, 79, 80, 81, 82, 83, 84, 85, 86, 87, 88, 89, 90, 91, 92, 93, 94, 95, 96, 97, 98, 99, 100, 101, 102, 103, 104, 105, 106, 107, 108, 109, 110, 111, 112, 113, 114, 115, 116, 117, 118, 119, 120, 121, 122, 123, 18, 124, 125, 126, 127, 128, 129, 144, 145, 146, 147, 148, 149, 150, 151, 152, 153, 154, 162, 163, 164, 165, 166, 167, 155, 156, 157, 158, 159, 160, 161, 168, 169, 170, 171, 172, 173, 174, 175, 176, 177, 178, 179, 180, 181] (by decide +kernel) (by decide +kernel)
set_option maxRecDepth 20000 in
theorem gX9_publish_X9_awardPrizes : GoodIn wsX9_publish (wsV RX9 229 RX9 yX9_awardPrizes wsX9_awardPrizes) := goodIn_app (goodIn_of _ (by decide +kernel)) ggX9_publish_X9_awardPrizes
set_option maxRecDepth 20000 in
theorem ggX9_publish_X0_write : GoodIn wsX9_publish wsX0_write := goodIn_r _ [134, 135, 136, 137, 138, 139, 140, 141, 142, 133, 143, 182, 183, 184, 185, 186] (by decide +kernel) (by decide +kernel)
set_option maxRecDepth 20000 in
theorem gX9_publish_X0_write : GoodIn wsX9_publish (wsV RX9 232 RX0 yX0_write wsX0_write) := goodIn_app (goodIn_of _ (by decide +kernel)) ggX9_publish_X0_write
set_option maxRecDepth 20000 in
theorem ggX9_points_X9_isBelow : GoodIn wsX9_points wsX9_isBelow := goodIn_r _ [5] (by decide +kernel) (by decide +kernel)
set_option maxRecDepth 20000 in
theorem gX9_points_X9_isBelow : GoodIn wsX9_points (va_wsS RX9 90 yX9_isBelow wsX9_isBelow) := goodIn_app (goodIn_of _ (by decide +kernel)) ggX9_points_X9_isBelow
set_option maxRecDepth 20000 in
theorem ggX9_points_X9_requireArgument : GoodIn wsX9_points wsX9_requireArgument := goodIn_ca (goodIn_r _ [8, 9, 10] (by decide +kernel) (by decide +kernel)) (goodIn_sub (fun _ h => List.mem_cons_of_mem _ (List.mem_append_right _ h)) (by decide +kernel))
set_option maxRecDepth 20000 in
theorem gX9_points_X9_requireArgument : GoodIn wsX9_points (va_wsS RX9 94 yX9_requireArgument wsX9_requireArgument) := goodIn_app (goodIn_of _ (by decide +kernel)) ggX9_points_X9_requireArgument
set_option maxRecDepth 20000 in
theorem ggX9_points_X0_knownOf : GoodIn wsX9_points wsX0_knownOf := goodIn_r _ [15, 16, 17, 18, 19, 31, 32, 33, 34, 35] (by decide +kernel) (by decide +kernel)
set_option maxRecDepth 20000 in
theorem gX9_points_X0_knownOf : GoodIn wsX9_points (wsV RX9 236 RX0 yX0_knownOf wsX0_knownOf) := goodIn_app (goodIn_of _ (by decide +kernel)) ggX9_points_X0_knownOf
set_option maxRecDepth 20000 in
theorem ggX9_line_X0_size : GoodIn wsX9_line wsX0_size := goodIn_r _ [8, 9, 45, 46, 47, 48, 49] (by decide +kernel) (by decide +kernel)
set_option maxRecDepth 20000 in
theorem gX9_line_X0_size : GoodIn wsX9_line (wsV RX9 239 RX0 yX0_size wsX0_size) := goodIn_app (goodIn_of _ (by decide +kernel)) ggX9_line_X0_size
set_option maxRecDepth 20000 in
theorem ggX9_line_X9_requireIndex : GoodIn wsX9_line wsX9_requireIndex := goodIn_ca (goodIn_r _ [13, 14, 15, 16, 17, 12, 18] (by decide +kernel) (by decide +kernel)) (goodIn_sub (fun _ h => List.mem_cons_of_mem _ (List.mem_append_right _ h)) (by decide +kernel))
set_option maxRecDepth 20000 in
theorem gX9_line_X9_requireIndex : GoodIn wsX9_line (va_wsS RX9 137 yX9_requireIndex wsX9_requireIndex) := goodIn_app (goodIn_of _ (by decide +kernel)) ggX9_line_X9_requireIndex
set_option maxRecDepth 20000 in
theorem ggX9_line_X0_dayAt : GoodIn wsX9_line wsX0_dayAt := goodIn_r _ [22, 23, 45, 46, 47, 48, 49] (by decide +kernel) (by decide +kernel)
set_option maxRecDepth 20000 in
theorem gX9_line_X0_dayAt : GoodIn wsX9_line (wsV RX9 240 RX0 yX0_dayAt wsX0_dayAt) := goodIn_app (goodIn_of _ (by decide +kernel)) ggX9_line_X0_dayAt
set_option maxRecDepth 20000 in
theorem ggX9_line_X0_clubAt : GoodIn wsX9_line wsX0_clubAt := goodIn_r _ [27, 28, 45, 46, 47, 48, 49] (by decide +kernel) (by decide +kernel)
set_option maxRecDepth 20000 in
theorem gX9_line_X0_clubAt : GoodIn wsX9_line (wsV RX9 243 RX0 yX0_clubAt wsX0_clubAt) := goodIn_app (goodIn_of _ (by decide +kernel)) ggX9_line_X0_clubAt
set_option maxRecDepth 20000 in
theorem ggX9_line_X0_differenceAt : GoodIn wsX9_line wsX0_differenceAt := goodIn_r _ [32, 33, 45, 46, 47, 48, 49] (by decide +kernel) (by decide +kernel)
set_option maxRecDepth 20000 in
theorem gX9_line_X0_differenceAt : GoodIn wsX9_line (wsV RX9 246 RX0 yX0_differenceAt wsX0_differenceAt) := goodIn_app (goodIn_of _ (by decide +kernel)) ggX9_line_X0_differenceAt
set_option maxRecDepth 20000 in
theorem ggX9_wait_X9_requireArgument : GoodIn wsX9_wait wsX9_requireArgument := goodIn_ca (goodIn_r _ [5, 6, 7] (by decide +kernel) (by decide +kernel)) (goodIn_sub (fun _ h => List.mem_cons_of_mem _ (List.mem_append_right _ h)) (by decide +kernel))
set_option maxRecDepth 20000 in
theorem gX9_wait_X9_requireArgument : GoodIn wsX9_wait (va_wsS RX9 94 yX9_requireArgument wsX9_requireArgument) := goodIn_app (goodIn_of _ (by decide +kernel)) ggX9_wait_X9_requireArgument
set_option maxRecDepth 20000 in
theorem ggX9_count_X1_size : GoodIn wsX9_count wsX1_size := goodIn_r _ [12, 13, 60, 61, 62, 63, 64, 65, 66] (by decide +kernel) (by decide +kernel)
set_option maxRecDepth 20000 in
theorem gX9_count_X1_size : GoodIn wsX9_count (wsV RX9 121 RX1 yX1_size wsX1_size) := goodIn_app (goodIn_of _ (by decide +kernel)) ggX9_count_X1_size
set_option maxRecDepth 20000 in
theorem ggX9_count_X1_plots : GoodIn wsX9_count wsX1_plots := goodIn_r _ [17, 18, 13, 60, 61, 62, 63, 64, 65, 66] (by decide +kernel) (by decide +kernel)
set_option maxRecDepth 20000 in
theorem gX9_count_X1_plots : GoodIn wsX9_count (wsV RX9 144 RX1 yX1_plots wsX1_plots) := goodIn_app (goodIn_of _ (by decide +kernel)) ggX9_count_X1_plots
set_option maxRecDepth 20000 in
theorem ggX9_count_X7_size : GoodIn wsX9_count wsX7_size := goodIn_r _ [23, 24, 67, 68, 69, 70, 71, 72, 73] (by decide +kernel) (by decide +kernel)
set_option maxRecDepth 20000 in
theorem gX9_count_X7_size : GoodIn wsX9_count (wsV RX9 251 RX7 yX7_size wsX7_size) := goodIn_app (goodIn_of _ (by decide +kernel)) ggX9_count_X7_size
set_option maxRecDepth 20000 in
theorem ggX9_count_X2_size : GoodIn wsX9_count wsX2_size := goodIn_r _ [29, 30, 74, 75, 76] (by decide +kernel) (by decide +kernel)
set_option maxRecDepth 20000 in
theorem gX9_count_X2_size : GoodIn wsX9_count (wsV RX9 213 RX2 yX2_size wsX2_size) := goodIn_app (goodIn_of _ (by decide +kernel)) ggX9_count_X2_size
set_option maxRecDepth 20000 in
theorem ggX9_count_X0_size : GoodIn wsX9_count wsX0_size := goodIn_r _ [35, 36, 77, 78, 79, 80, 81] (by decide +kernel) (by decide +kernel)
set_option maxRecDepth 20000 in
theorem gX9_count_X0_size : GoodIn wsX9_count (wsV RX9 239 RX0 yX0_size wsX0_size) := goodIn_app (goodIn_of _ (by decide +kernel)) ggX9_count_X0_size
set_option maxRecDepth 20000 in
theorem ggX9_count_X3_size : GoodIn wsX9_count wsX3_size := goodIn_r _ [41, 42, 82, 83] (by decide +kernel) (by decide +kernel)
set_option maxRecDepth 20000 in
theorem gX9_count_X3_size : GoodIn wsX9_count (wsV RX9 125 RX3 yX3_size wsX3_size) := goodIn_app (goodIn_of _ (by decide +kernel)) ggX9_count_X3_size
set_option maxRecDepth 20000 in
theorem ggX9_count_X8_size : GoodIn wsX9_count wsX8_size := goodIn_r _ [47, 48, 84, 85] (by decide +kernel) (by decide +kernel)
set_option maxRecDepth 20000 in
theorem gX9_count_X8_size : GoodIn wsX9_count (wsV RX9 195 RX8 yX8_size wsX8_size) := goodIn_app (goodIn_of _ (by decide +kernel)) ggX9_count_X8_size
set_option maxRecDepth 20000 in
theorem ggX9_awardPrizes_X4_arrange : GoodIn wsX9_awardPrizes wsX4_arrange := goodIn_r _ [13, 14, 15, 16, 17, 18, 19, 20, 21, 22, 23, 24, 25, 26, 27, 28, 29, 30, 12, 31, 32, 33, 34, 35, 36, 37, 38, 39, 40, 41, 42, 43, 44, 45, 46, 47, 48, 49, 50, 51, 52, 53, 54, 55, 56, 57, 58, 59, 60, 61, 62, 63, 64, 65, 66, 67, 68, 69, 70, 71, 72, 73, 74, 75, 76, 77, 78, 79, 80, 81, 82, 83, 84, 85, 86, 87, 88, 89, 90, 91, 92, 93, 94, 95, 96, 97, 98, 126, 127, 128, 129, 130, 131, 132, 133, 134, 135, 136, 137, 138, 139, 140, 141, 142, 143, 144, 145, 146, 147, 148, 149, 150, 151, 152] (by decide +kernel) (by decide +kernel)
set_option maxRecDepth 20000 in
theorem gX9_awardPrizes_X4_arrange : GoodIn wsX9_awardPrizes (wsV RX9 214 RX4 yX4_arrange wsX4_arrange) := goodIn_app (goodIn_of _ (by decide +kernel)) ggX9_awardPrizes_X4_arrange
set_option maxRecDepth 20000 in
theorem ggX9_awardPrizes_X4_size : GoodIn wsX9_awardPrizes wsX4_size := goodIn_r _ [102, 14, 126, 127, 128, 129, 130, 131] (by decide +kernel) (by decide +kernel)
set_option maxRecDepth 20000 in
theorem gX9_awardPrizes_X4_size : GoodIn wsX9_awardPrizes (wsV RX9 255 RX4 yX4_size wsX4_size) := goodIn_app (goodIn_of _ (by decide +kernel)) ggX9_awardPrizes_X4_size
set_option maxRecDepth 20000 in
theorem ggX9_awardPrizes_X4_ploughmanAt : GoodIn wsX9_awardPrizes wsX4_ploughmanAt := goodIn_r _ [106, 14, 16, 107, 108, 109, 126, 127, 128, 129, 130, 131] (by decide +kernel) (by decide +kernel)
set_option maxRecDepth 20000 in
theorem gX9_awardPrizes_X4_ploughmanAt : GoodIn wsX9_awardPrizes (wsV RX9 217 RX4 yX4_ploughmanAt wsX4_ploughmanAt) := goodIn_app (goodIn_of _ (by decide +kernel)) ggX9_awardPrizes_X4_ploughmanAt
set_option maxRecDepth 20000 in
theorem ggX9_awardPrizes_X1_clubOf : GoodIn wsX9_awardPrizes wsX1_clubOf := goodIn_r _ [113, 114, 132, 133, 134, 135, 136, 137, 138] (by decide +kernel) (by decide +kernel)
set_option maxRecDepth 20000 in
theorem gX9_awardPrizes_X1_clubOf : GoodIn wsX9_awardPrizes (wsV RX9 261 RX1 yX1_clubOf wsX1_clubOf) := goodIn_app (goodIn_of _ (by decide +kernel)) ggX9_awardPrizes_X1_clubOf
set_option maxRecDepth 20000 in
theorem ggX9_requireIndex_X9_isBelow : GoodIn wsX9_requireIndex wsX9_isBelow := goodIn_r _ [6] (by decide +kernel) (by decide +kernel)
set_option maxRecDepth 20000 in
theorem gX9_requireIndex_X9_isBelow : GoodIn wsX9_requireIndex (va_wsS RX9 90 yX9_isBelow wsX9_isBelow) := goodIn_app (goodIn_of _ (by decide +kernel)) ggX9_requireIndex_X9_isBelow
set_option maxRecDepth 20000 in
theorem ggX10_ploughman_X10_bad : GoodIn wsX10_ploughman wsX10_bad := goodIn_r _ [11, 1, 12, 13, 14, 15, 16, 17, 18, 19, 20, 21, 22, 23, 24, 25, 26, 27, 28, 29, 30, 31, 32, 33, 34, 35, 36, 37, 38, 39, 40, 41, 42, 43, 44, 45] (by decide +kernel) (by decide +kernel)
set_option maxRecDepth 20000 in
theorem gX10_ploughman_X10_bad : GoodIn wsX10_ploughman (wsV RX10 85 RX10 yX10_bad wsX10_bad) := goodIn_app (goodIn_of _ (by decide +kernel)) ggX10_ploughman_X10_bad
set_option maxRecDepth 20000 in
theorem ggX10_draw_X10_bad : GoodIn wsX10_draw wsX10_bad := goodIn_r _ [13, 1, 14, 15, 16, 17, 18, 19, 20, 21, 22, 23, 24, 25, 26, 27, 28, 29, 30, 31, 32, 33, 34, 35, 36, 37, 38, 39, 40, 41, 42, 43, 44, 45, 46, 47] (by decide +kernel) (by decide +kernel)
set_option maxRecDepth 20000 in
theorem gX10_draw_X10_bad : GoodIn wsX10_draw (wsV RX10 85 RX10 yX10_bad wsX10_bad) := goodIn_app (goodIn_of _ (by decide +kernel)) ggX10_draw_X10_bad
set_option maxRecDepth 20000 in
theorem ggX10_plot_X10_isMan : GoodIn wsX10_plot wsX10_isMan := goodIn_r _ [7, 8, 9, 10, 11, 12, 13, 14, 15, 16, 17, 18, 19, 20, 21, 22, 23, 24, 25, 26, 27, 28, 29, 30, 31, 32, 33, 34, 35, 36, 37, 38, 39, 40, 41, 42, 43] (by decide +kernel) (by decide +kernel)
set_option maxRecDepth 20000 in
theorem gX10_plot_X10_isMan : GoodIn wsX10_plot (wsV RX10 104 RX10 yX10_isMan wsX10_isMan) := goodIn_app (goodIn_of _ (by decide +kernel)) ggX10_plot_X10_isMan
set_option maxRecDepth 20000 in
theorem ggX10_mark_X10_isPlot : GoodIn wsX10_mark wsX10_isPlot := goodIn_r _ [7, 8, 9, 21, 22, 23, 24, 25, 26, 27, 28, 29, 30, 31, 32, 33, 34, 35, 36, 37, 38, 39, 40, 41, 42, 43, 44, 45, 46, 47, 48, 49, 50, 51, 52, 53, 54] (by decide +kernel) (by decide +kernel)
set_option maxRecDepth 20000 in
theorem gX10_mark_X10_isPlot : GoodIn wsX10_mark (wsV RX10 108 RX10 yX10_isPlot wsX10_isPlot) := goodIn_app (goodIn_of _ (by decide +kernel)) ggX10_mark_X10_isPlot
set_option maxRecDepth 20000 in
theorem ggX10_mark_X10_isPart : GoodIn wsX10_mark wsX10_isPart := goodIn_r _ [12] (by decide +kernel) (by decide +kernel)
set_option maxRecDepth 20000 in
theorem gX10_mark_X10_isPart : GoodIn wsX10_mark (va_wsS RX10 111 yX10_isPart wsX10_isPart) := goodIn_app (goodIn_of _ (by decide +kernel)) ggX10_mark_X10_isPart
set_option maxRecDepth 20000 in
theorem ggX10_mark_X10_bad : GoodIn wsX10_mark wsX10_bad := goodIn_r _ [16, 9, 21, 22, 23, 24, 25, 26, 27, 28, 29, 30, 31, 32, 33, 34, 35, 36, 37, 38, 39, 40, 41, 42, 43, 44, 45, 46, 47, 48, 49, 50, 51, 52, 53, 54] (by decide +kernel) (by decide +kernel)
set_option maxRecDepth 20000 in
theorem gX10_mark_X10_bad : GoodIn wsX10_mark (wsV RX10 85 RX10 yX10_bad wsX10_bad) := goodIn_app (goodIn_of _ (by decide +kernel)) ggX10_mark_X10_bad
set_option maxRecDepth 20000 in
theorem ggX10_mark_X10_markOf : GoodIn wsX10_mark wsX10_markOf := goodIn_r _ [20, 1, 21, 22, 23, 24, 25, 26, 27, 28, 29, 30, 31, 32, 33, 34, 35, 36, 37, 38, 39, 40, 41, 42, 43, 44, 45, 46, 47, 48, 49, 50, 51, 52, 53, 54] (by decide +kernel) (by decide +kernel)
set_option maxRecDepth 20000 in
theorem gX10_mark_X10_markOf : GoodIn wsX10_mark (wsV RX10 114 RX10 yX10_markOf wsX10_markOf) := goodIn_app (goodIn_of _ (by decide +kernel)) ggX10_mark_X10_markOf
set_option maxRecDepth 20000 in
theorem ggX10_hardOf_X10_markOf : GoodIn wsX10_hardOf wsX10_markOf := goodIn_r _ [6, 7, 11, 12, 13, 14, 15, 16, 17, 18, 19, 20, 21, 22, 23, 24, 25, 26, 27, 28, 29, 30, 31, 32, 33, 34, 35, 36, 37, 38, 39, 40, 41, 42, 43, 44] (by decide +kernel) (by decide +kernel)
set_option maxRecDepth 20000 in
theorem gX10_hardOf_X10_markOf : GoodIn wsX10_hardOf (wsV RX10 114 RX10 yX10_markOf wsX10_markOf) := goodIn_app (goodIn_of _ (by decide +kernel)) ggX10_hardOf_X10_markOf
set_option maxRecDepth 20000 in
theorem ggX10_hardOf_X10_floored : GoodIn wsX10_hardOf wsX10_floored := goodIn_r _ [10] (by decide +kernel) (by decide +kernel)
set_option maxRecDepth 20000 in
theorem gX10_hardOf_X10_floored : GoodIn wsX10_hardOf (va_wsS RX10 118 yX10_floored wsX10_floored) := goodIn_app (goodIn_of _ (by decide +kernel)) ggX10_hardOf_X10_floored
set_option maxRecDepth 20000 in
theorem ggX10_hard_X10_isPart : GoodIn wsX10_hard wsX10_isPart := goodIn_r _ [5] (by decide +kernel) (by decide +kernel)
set_option maxRecDepth 20000 in
theorem gX10_hard_X10_isPart : GoodIn wsX10_hard (va_wsS RX10 111 yX10_isPart wsX10_isPart) := goodIn_app (goodIn_of _ (by decide +kernel)) ggX10_hard_X10_isPart
set_option maxRecDepth 20000 in
theorem ggX10_hard_X10_bad : GoodIn wsX10_hard wsX10_bad := goodIn_r _ [9, 1, 23, 24, 25, 26, 27, 28, 29, 30, 31, 32, 33, 34, 35, 36, 37, 38, 39, 40, 41, 42, 43, 44, 45, 46, 47, 48, 49, 50, 51, 52, 53, 54, 55, 56] (by decide +kernel) (by decide +kernel)
set_option maxRecDepth 20000 in
theorem gX10_hard_X10_bad : GoodIn wsX10_hard (wsV RX10 85 RX10 yX10_bad wsX10_bad) := goodIn_app (goodIn_of _ (by decide +kernel)) ggX10_hard_X10_bad
set_option maxRecDepth 20000 in
theorem ggX10_hard_X10_hardOf : GoodIn wsX10_hard wsX10_hardOf := goodIn_r _ [13, 14, 15, 16, 17, 4, 18, 19, 20, 21, 22, 23, 24, 25, 26, 27, 28, 29, 30, 31, 32, 33, 34, 35, 36, 37, 38, 39, 40, 41, 42, 43, 44, 45, 46, 47, 48, 49, 50, 51, 52, 53, 54, 55, 56] (by decide +kernel) (by decide +kernel)
set_option maxRecDepth 20000 in
theorem gX10_hard_X10_hardOf : GoodIn wsX10_hard (wsV RX10 122 RX10 yX10_hardOf wsX10_hardOf) := goodIn_app (goodIn_of _ (by decide +kernel)) ggX10_hard_X10_hardOf
set_option maxRecDepth 20000 in
theorem ggX10_sumAll_X10_hardOf : GoodIn wsX10_sumAll wsX10_hardOf := goodIn_r _ [11, 3, 12, 13, 14, 10, 15, 16, 17, 18, 19, 24, 25, 26, 27, 28, 29, 30, 31, 32, 33, 34, 35, 36, 37, 38, 39, 40, 41, 42, 43, 44, 45, 46, 47, 48, 49, 50, 51, 52, 53, 54, 55, 56, 57] (by decide +kernel) (by decide +kernel)
set_option maxRecDepth 20000 in
theorem gX10_sumAll_X10_hardOf : GoodIn wsX10_sumAll (wsV RX10 122 RX10 yX10_hardOf wsX10_hardOf) := goodIn_app (goodIn_of _ (by decide +kernel)) ggX10_sumAll_X10_hardOf
set_option maxRecDepth 20000 in
theorem ggX10_sumAll_X10_freshTold : GoodIn wsX10_sumAll wsX10_freshTold := goodIn_r _ [23, 2, 6, 12, 13, 14, 10, 15, 16, 17, 18, 19, 24, 25, 26, 27, 28, 29, 30, 31, 32, 33, 34, 35, 36, 37, 38, 39, 40, 41, 42, 43, 44, 45, 46, 47, 48, 49, 50, 51, 52, 53, 54, 55, 56, 57] (by decide +kernel) (by decide +kernel)
set_option maxRecDepth 20000 in
theorem gX10_sumAll_X10_freshTold : GoodIn wsX10_sumAll (wsV RX10 125 RX10 yX10_freshTold wsX10_freshTold) := goodIn_app (goodIn_of _ (by decide +kernel)) ggX10_sumAll_X10_freshTold
set_option maxRecDepth 20000 in
theorem ggX10_freshTold_X10_markOf : GoodIn wsX10_freshTold wsX10_markOf := goodIn_r _ [7, 8, 12, 13, 14, 15, 16, 17, 18, 19, 20, 21, 22, 23, 24, 25, 26, 27, 28, 29, 30, 31, 32, 33, 34, 35, 36, 37, 38, 39, 40, 41, 42, 43, 44, 45] (by decide +kernel) (by decide +kernel)
set_option maxRecDepth 20000 in
theorem gX10_freshTold_X10_markOf : GoodIn wsX10_freshTold (wsV RX10 114 RX10 yX10_markOf wsX10_markOf) := goodIn_app (goodIn_of _ (by decide +kernel)) ggX10_freshTold_X10_markOf
set_option maxRecDepth 20000 in
theorem ggX10_freshTold_X10_floored : GoodIn wsX10_freshTold wsX10_floored := goodIn_r _ [11] (by decide +kernel) (by decide +kernel)
set_option maxRecDepth 20000 in
theorem gX10_freshTold_X10_floored : GoodIn wsX10_freshTold (va_wsS RX10 118 yX10_floored wsX10_floored) := goodIn_app (goodIn_of _ (by decide +kernel)) ggX10_freshTold_X10_floored
set_option maxRecDepth 20000 in
theorem ggX10_toldOf_X10_sumAll : GoodIn wsX10_toldOf wsX10_sumAll := goodIn_r _ [6, 7, 8, 9, 10, 1, 11, 12, 13, 14, 5, 15, 16, 17, 18, 19, 20, 21, 22, 23, 24, 25, 26, 27, 28, 29, 30, 31, 32, 33, 34, 35, 36, 37, 38, 39, 40, 41, 42, 43, 44, 45, 46, 47, 48, 49, 50, 51, 52, 53, 54, 55, 56, 57, 58, 59, 60, 61] (by decide +kernel) (by decide +kernel)
set_option maxRecDepth 20000 in
theorem gX10_toldOf_X10_sumAll : GoodIn wsX10_toldOf (wsV RX10 129 RX10 yX10_sumAll wsX10_sumAll) := goodIn_app (goodIn_of _ (by decide +kernel)) ggX10_toldOf_X10_sumAll
set_option maxRecDepth 20000 in
theorem ggX10_told_X10_isPlot : GoodIn wsX10_told wsX10_isPlot := goodIn_r _ [5, 6, 7, 44, 45, 46, 47, 48, 49, 50, 51, 52, 53, 54, 55, 56, 57, 58, 59, 60, 61, 62, 63, 64, 65, 66, 67, 68, 69, 70, 71, 72, 73, 74, 75, 76, 77] (by decide +kernel) (by decide +kernel)
set_option maxRecDepth 20000 in
theorem gX10_told_X10_isPlot : GoodIn wsX10_told (wsV RX10 108 RX10 yX10_isPlot wsX10_isPlot) := goodIn_app (goodIn_of _ (by decide +kernel)) ggX10_told_X10_isPlot
set_option maxRecDepth 20000 in
theorem ggX10_told_X10_isPart : GoodIn wsX10_told wsX10_isPart := goodIn_r _ [10] (by decide +kernel) (by decide +kernel)
set_option maxRecDepth 20000 in
theorem gX10_told_X10_isPart : GoodIn wsX10_told (va_wsS RX10 111 yX10_isPart wsX10_isPart) := goodIn_app (goodIn_of _ (by decide +kernel)) ggX10_told_X10_isPart
set_option maxRecDepth 20000 in
theorem ggX10_told_X10_bad : GoodIn wsX10_told wsX10_bad := goodIn_r _ [14, 7, 44, 45, 46, 47, 48, 49, 50, 51, 52, 53, 54, 55, 56, 57, 58, 59, 60, 61, 62, 63, 64, 65, 66, 67, 68, 69, 70, 71, 72, 73, 74, 75, 76, 77] (by decide +kernel) (by decide +kernel)
set_option maxRecDepth 20000 in
theorem gX10_told_X10_bad : GoodIn wsX10_told (wsV RX10 85 RX10 yX10_bad wsX10_bad) := goodIn_app (goodIn_of _ (by decide +kernel)) ggX10_told_X10_bad
set_option maxRecDepth 20000 in
theorem ggX10_told_X10_toldOf : GoodIn wsX10_told wsX10_toldOf := goodIn_r _ [18, 19, 20, 21, 22, 4, 23, 24, 25, 6, 26, 27, 28, 29, 30, 31, 32, 33, 34, 35, 36, 37, 38, 39, 40, 41, 42, 43, 44, 45, 46, 47, 48, 49, 50, 51, 52, 53, 54, 55, 56, 57, 58, 59, 60, 61, 62, 63, 64, 65, 66, 67, 68, 69, 70, 71, 72, 73, 74, 75, 76, 77] (by decide +kernel) (by decide +kernel)
set_option maxRecDepth 20000 in
theorem gX10_told_X10_toldOf : GoodIn wsX10_told (wsV RX10 132 RX10 yX10_toldOf wsX10_toldOf) := goodIn_app (goodIn_of _ (by decide +kernel)) ggX10_told_X10_toldOf
set_option maxRecDepth 20000 in
theorem ggX10_sumOf_X10_sumAll : GoodIn wsX10_sumOf wsX10_sumAll := goodIn_r _ [6, 7, 8, 9, 1, 10, 11, 12, 13, 14, 5, 15, 16, 17, 18, 19, 20, 21, 22, 23, 24, 25, 26, 27, 28, 29, 30, 31, 32, 33, 34, 35, 36, 37, 38, 39, 40, 41, 42, 43, 44, 45, 46, 47, 48, 49, 50, 51, 52, 53, 54, 55, 56, 57, 58, 59, 60, 61] (by decide +kernel) (by decide +kernel)
set_option maxRecDepth 20000 in
theorem gX10_sumOf_X10_sumAll : GoodIn wsX10_sumOf (wsV RX10 129 RX10 yX10_sumAll wsX10_sumAll) := goodIn_app (goodIn_of _ (by decide +kernel)) ggX10_sumOf_X10_sumAll
set_option maxRecDepth 20000 in
theorem ggX10_groundOf_X10_sumOf : GoodIn wsX10_groundOf wsX10_sumOf := goodIn_r _ [6, 7, 8, 9, 10, 5, 11, 12, 13, 1, 14, 15, 16, 17, 18, 19, 20, 21, 22, 23, 24, 25, 26, 27, 28, 29, 30, 31, 32, 33, 34, 35, 36, 37, 38, 39, 40, 41, 42, 43, 44, 45, 46, 47, 48, 49, 50, 51, 52, 53, 54, 55, 56, 57, 58, 59, 60, 61, 62, 63, 64, 65] (by decide +kernel) (by decide +kernel)
set_option maxRecDepth 20000 in
theorem gX10_groundOf_X10_sumOf : GoodIn wsX10_groundOf (wsV RX10 135 RX10 yX10_sumOf wsX10_sumOf) := goodIn_app (goodIn_of _ (by decide +kernel)) ggX10_groundOf_X10_sumOf
set_option maxRecDepth 20000 in
theorem ggX10_groundOf_X10_floored : GoodIn wsX10_groundOf wsX10_floored := goodIn_r _ [27] (by decide +kernel) (by decide +kernel)
set_option maxRecDepth 20000 in
theorem gX10_groundOf_X10_floored : GoodIn wsX10_groundOf (va_wsS RX10 118 yX10_floored wsX10_floored) := goodIn_app (goodIn_of _ (by decide +kernel)) ggX10_groundOf_X10_floored
set_option maxRecDepth 20000 in
theorem ggX10_finalOf_X10_sumOf : GoodIn wsX10_finalOf wsX10_sumOf := goodIn_r _ [8, 9, 10, 11, 12, 7, 13, 14, 15, 16, 17, 18, 19, 20, 21, 22, 23, 24, 25, 26, 27, 28, 29, 30, 31, 32, 33, 34, 39, 40, 41, 42, 43, 44, 45, 46, 47, 48, 49, 50, 51, 52, 53, 54, 55, 56, 57, 58, 59, 60, 61, 62, 63, 64, 65, 66, 67, 68, 69, 70, 71, 72] (by decide +kernel) (by decide +kernel)
set_option maxRecDepth 20000 in
theorem gX10_finalOf_X10_sumOf : GoodIn wsX10_finalOf (wsV RX10 135 RX10 yX10_sumOf wsX10_sumOf) := goodIn_app (goodIn_of _ (by decide +kernel)) ggX10_finalOf_X10_sumOf
set_option maxRecDepth 20000 in
theorem ggX10_finalOf_X10_groundOf : GoodIn wsX10_finalOf wsX10_groundOf := goodIn_r _ [38, 16, 4, 5, 6, 7, 8, 9, 10, 11, 12, 13, 14, 15, 17, 18, 19, 20, 21, 22, 23, 24, 25, 26, 27, 28, 29, 30, 31, 32, 33, 34, 39, 40, 41, 42, 43, 44, 45, 46, 47, 48, 49, 50, 51, 52, 53, 54, 55, 56, 57, 58, 59, 60, 61, 62, 63, 64, 65, 66, 67, 68, 69, 70, 71, 72] (by decide +kernel) (by decide +kernel)
set_option maxRecDepth 20000 in
theorem gX10_finalOf_X10_groundOf : GoodIn wsX10_finalOf (wsV RX10 139 RX10 yX10_groundOf wsX10_groundOf) := goodIn_app (goodIn_of _ (by decide +kernel)) ggX10_finalOf_X10_groundOf
set_option maxRecDepth 20000 in
theorem ggX10_about_X10_isPlot : GoodIn wsX10_about wsX10_isPlot := goodIn_r _ [9, 10, 11, 57, 58, 59, 60, 61, 62, 63, 64, 65, 66, 67, 68, 69, 70, 71, 72, 73, 74, 75, 76, 77, 78, 79, 80, 81, 82, 83, 84, 85, 86, 87, 88, 89, 90] (by decide +kernel) (by decide +kernel)
set_option maxRecDepth 20000 in
theorem gX10_about_X10_isPlot : GoodIn wsX10_about (wsV RX10 108 RX10 yX10_isPlot wsX10_isPlot) := goodIn_app (goodIn_of _ (by decide +kernel)) ggX10_about_X10_isPlot
set_option maxRecDepth 20000 in
theorem ggX10_about_X10_bad : GoodIn wsX10_about wsX10_bad := goodIn_r _ [15, 11, 57, 58, 59, 60, 61, 62, 63, 64, 65, 66, 67, 68, 69, 70, 71, 72, 73, 74, 75, 76, 77, 78, 79, 80, 81, 82, 83, 84, 85, 86, 87, 88, 89, 90] (by decide +kernel) (by decide +kernel)
set_option maxRecDepth 20000 in
theorem gX10_about_X10_bad : GoodIn wsX10_about (wsV RX10 85 RX10 yX10_bad wsX10_bad) := goodIn_app (goodIn_of _ (by decide +kernel)) ggX10_about_X10_bad
set_option maxRecDepth 20000 in
theorem ggX10_about_X10_sumOf : GoodIn wsX10_about wsX10_sumOf := goodIn_r _ [19, 20, 21, 22, 23, 8, 24, 25, 26, 10, 27, 1, 28, 29, 30, 31, 32, 33, 34, 35, 36, 37, 38, 39, 40, 41, 42, 43, 57, 58, 59, 60, 61, 62, 63, 64, 65, 66, 67, 68, 69, 70, 71, 72, 73, 74, 75, 76, 77, 78, 79, 80, 81, 82, 83, 84, 85, 86, 87, 88, 89, 90] (by decide +kernel) (by decide +kernel)
set_option maxRecDepth 20000 in
theorem gX10_about_X10_sumOf : GoodIn wsX10_about (wsV RX10 135 RX10 yX10_sumOf wsX10_sumOf) := goodIn_app (goodIn_of _ (by decide +kernel)) ggX10_about_X10_sumOf
set_option maxRecDepth 20000 in
theorem ggX10_about_X10_toldOf : GoodIn wsX10_about wsX10_toldOf := goodIn_r _ [47, 27, 21, 22, 23, 8, 24, 25, 26, 10, 20, 1, 28, 29, 30, 31, 32, 33, 34, 35, 36, 37, 38, 39, 40, 41, 42, 43, 57, 58, 59, 60, 61, 62, 63, 64, 65, 66, 67, 68, 69, 70, 71, 72, 73, 74, 75, 76, 77, 78, 79, 80, 81, 82, 83, 84, 85, 86, 87, 88, 89, 90] (by decide +kernel) (by decide +kernel)
set_option maxRecDepth 20000 in
theorem gX10_about_X10_toldOf : GoodIn wsX10_about (wsV RX10 132 RX10 yX10_toldOf wsX10_toldOf) := goodIn_app (goodIn_of _ (by decide +kernel)) ggX10_about_X10_toldOf
set_option maxRecDepth 20000 in
theorem ggX10_about_X10_groundOf : GoodIn wsX10_about wsX10_groundOf := goodIn_r _ [51, 10, 16, 17, 18, 8, 19, 20, 21, 22, 23, 24, 25, 26, 27, 1, 28, 29, 30, 31, 32, 33, 34, 35, 36, 37, 38, 39, 40, 41, 42, 43, 57, 58, 59, 60, 61, 62, 63, 64, 65, 66, 67, 68, 69, 70, 71, 72, 73, 74, 75, 76, 77, 78, 79, 80, 81, 82, 83, 84, 85, 86, 87, 88, 89, 90] (by decide +kernel) (by decide +kernel)
set_option maxRecDepth 20000 in
theorem gX10_about_X10_groundOf : GoodIn wsX10_about (wsV RX10 139 RX10 yX10_groundOf wsX10_groundOf) := goodIn_app (goodIn_of _ (by decide +kernel)) ggX10_about_X10_groundOf
set_option maxRecDepth 20000 in
theorem ggX10_about_X10_finalOf : GoodIn wsX10_about wsX10_finalOf := goodIn_r _ [55, 2, 56, 3, 16, 17, 18, 8, 19, 20, 21, 22, 23, 24, 25, 26, 10, 27, 1, 28, 29, 30, 31, 32, 33, 34, 35, 36, 37, 38, 39, 40, 41, 42, 43, 48, 49, 50, 51, 57, 58, 59, 60, 61, 62, 63, 64, 65, 66, 67, 68, 69, 70, 71, 72, 73, 74, 75, 76, 77, 78, 79, 80, 81, 82, 83, 84, 85, 86, 87, 88, 89, 90] (by decide +kernel) (by decide +kernel)
set_option maxRecDepth 20000 in
theorem gX10_about_X10_finalOf : GoodIn wsX10_about (wsV RX10 142 RX10 yX10_finalOf wsX10_finalOf) := goodIn_app (goodIn_of _ (by decide +kernel)) ggX10_about_X10_finalOf
set_option maxRecDepth 20000 in
theorem ggX10_minutes_X10_isPlot : GoodIn wsX10_minutes wsX10_isPlot := goodIn_r _ [6, 7, 8, 16, 17, 18, 19, 20, 21, 22, 23, 24, 25, 26, 27, 28, 29, 30, 31, 32, 33, 34, 35, 36, 37, 38, 39, 40, 41, 42, 43, 44, 45, 46, 47, 48, 49] (by decide +kernel) (by decide +kernel)
set_option maxRecDepth 20000 in
theorem gX10_minutes_X10_isPlot : GoodIn wsX10_minutes (wsV RX10 108 RX10 yX10_isPlot wsX10_isPlot) := goodIn_app (goodIn_of _ (by decide +kernel)) ggX10_minutes_X10_isPlot
set_option maxRecDepth 20000 in
theorem ggX10_minutes_X10_isMinutes : GoodIn wsX10_minutes wsX10_isMinutes := goodIn_r _ [11] (by decide +kernel) (by decide +kernel)
set_option maxRecDepth 20000 in
theorem gX10_minutes_X10_isMinutes : GoodIn wsX10_minutes (va_wsS RX10 145 yX10_isMinutes wsX10_isMinutes) := goodIn_app (goodIn_of _ (by decide +kernel)) ggX10_minutes_X10_isMinutes
set_option maxRecDepth 20000 in
theorem ggX10_minutes_X10_bad : GoodIn wsX10_minutes wsX10_bad := goodIn_r _ [15, 8, 16, 17, 18, 19, 20, 21, 22, 23, 24, 25, 26, 27, 28, 29, 30, 31, 32, 33, 34, 35, 36, 37, 38, 39, 40, 41, 42, 43, 44, 45, 46, 47, 48, 49] (by decide +kernel) (by decide +kernel)
set_option maxRecDepth 20000 in
theorem gX10_minutes_X10_bad : GoodIn wsX10_minutes (wsV RX10 85 RX10 yX10_bad wsX10_bad) := goodIn_app (goodIn_of _ (by decide +kernel)) ggX10_minutes_X10_bad
set_option maxRecDepth 20000 in
theorem ggX10_limit_X10_isMinutes : GoodIn wsX10_limit wsX10_isMinutes := goodIn_r _ [6] (by decide +kernel) (by decide +kernel)
set_option maxRecDepth 20000 in
theorem gX10_limit_X10_isMinutes : GoodIn wsX10_limit (va_wsS RX10 145 yX10_isMinutes wsX10_isMinutes) := goodIn_app (goodIn_of _ (by decide +kernel)) ggX10_limit_X10_isMinutes
set_option maxRecDepth 20000 in
theorem ggX10_limit_X10_bad : GoodIn wsX10_limit wsX10_bad := goodIn_r _ [10, 1, 11, 12, 13, 14, 15, 16, 17, 18, 19, 20, 21, 22, 23, 24, 25, 26, 27, 28, 29, 30, 31, 32, 33, 34, 35, 36, 37, 38, 39, 40, 41, 42, 43, 44] (by decide +kernel) (by decide +kernel)
set_option maxRecDepth 20000 in
theorem gX10_limit_X10_bad : GoodIn wsX10_limit (wsV RX10 85 RX10 yX10_bad wsX10_bad) := goodIn_app (goodIn_of _ (by decide +kernel)) ggX10_limit_X10_bad
set_option maxRecDepth 20000 in
theorem ggX10_protest_X10_isPlot : GoodIn wsX10_protest wsX10_isPlot := goodIn_r _ [6, 7, 8, 13, 14, 15, 16, 17, 18, 19, 20, 21, 22, 23, 24, 25, 26, 27, 28, 29, 30, 31, 32, 33, 34, 35, 36, 37, 38, 39, 40, 41, 42, 43, 44, 45, 46] (by decide +kernel) (by decide +kernel)
set_option maxRecDepth 20000 in
theorem gX10_protest_X10_isPlot : GoodIn wsX10_protest (wsV RX10 108 RX10 yX10_isPlot wsX10_isPlot) := goodIn_app (goodIn_of _ (by decide +kernel)) ggX10_protest_X10_isPlot
set_option maxRecDepth 20000 in
theorem ggX10_protest_X10_bad : GoodIn wsX10_protest wsX10_bad := goodIn_r _ [12, 8, 13, 14, 15, 16, 17, 18, 19, 20, 21, 22, 23, 24, 25, 26, 27, 28, 29, 30, 31, 32, 33, 34, 35, 36, 37, 38, 39, 40, 41, 42, 43, 44, 45, 46] (by decide +kernel) (by decide +kernel)
set_option maxRecDepth 20000 in
theorem gX10_protest_X10_bad : GoodIn wsX10_protest (wsV RX10 85 RX10 yX10_bad wsX10_bad) := goodIn_app (goodIn_of _ (by decide +kernel)) ggX10_protest_X10_bad
set_option maxRecDepth 20000 in
theorem ggX10_blanks_X10_byteAt : GoodIn wsX10_blanks wsX10_byteAt := goodIn_r _ [7, 2, 8, 9, 10, 11, 12, 13, 14, 15, 16, 17, 18, 19, 20, 21, 22, 23, 24, 25, 26, 27, 28, 29, 30, 31, 32, 33, 34, 35, 36, 37, 38, 39, 40, 41, 42] (by decide +kernel) (by decide +kernel)
set_option maxRecDepth 20000 in
theorem gX10_blanks_X10_byteAt : GoodIn wsX10_blanks (wsV RX10 157 RX10 yX10_byteAt wsX10_byteAt) := goodIn_app (goodIn_of _ (by decide +kernel)) ggX10_blanks_X10_byteAt
set_option maxRecDepth 20000 in
theorem ggX10_eat_X10_blanks : GoodIn wsX10_eat wsX10_blanks := goodIn_r _ [6, 1, 7, 8, 9, 10, 5, 11, 12, 62, 63, 64, 65, 66, 67, 68, 69, 70, 71, 72, 73, 74, 75, 76, 77, 78, 79, 80, 81, 82, 83, 84, 85, 86, 87, 88, 89, 90, 91, 92, 93, 94, 95] (by decide +kernel) (by decide +kernel)
set_option maxRecDepth 20000 in
theorem gX10_eat_X10_blanks : GoodIn wsX10_eat (wsV RX10 160 RX10 yX10_blanks wsX10_blanks) := goodIn_app (goodIn_of _ (by decide +kernel)) ggX10_eat_X10_blanks
set_option maxRecDepth 20000 in
theorem ggX10_eat_J0_length_8abf5 : GoodIn wsX10_eat wsJ0_length_8abf5 := goodIn_r _ [17, 18, 19, 20, 21, 16, 22, 23, 24] (by decide +kernel) (by decide +kernel)
set_option maxRecDepth 20000 in
theorem gX10_eat_J0_length_8abf5 : GoodIn wsX10_eat (wsV RX10 163 RJ0 yJ0_length_8abf5 wsJ0_length_8abf5) := goodIn_app (goodIn_of _ (by decide +kernel)) ggX10_eat_J0_length_8abf5
set_option maxRecDepth 20000 in
theorem ggX10_eat_X10_byteAt : GoodIn wsX10_eat wsX10_byteAt := goodIn_r _ [11, 7, 12, 62, 63, 64, 65, 66, 67, 68, 69, 70, 71, 72, 73, 74, 75, 76, 77, 78, 79, 80, 81, 82, 83, 84, 85, 86, 87, 88, 89, 90, 91, 92, 93, 94, 95] (by decide +kernel) (by decide +kernel)
set_option maxRecDepth 20000 in
theorem gX10_eat_X10_byteAt : GoodIn wsX10_eat (wsV RX10 157 RX10 yX10_byteAt wsX10_byteAt) := goodIn_app (goodIn_of _ (by decide +kernel)) ggX10_eat_X10_byteAt
set_option maxRecDepth 20000 in
theorem ggX10_eat_J0_charAt_5068e : GoodIn wsX10_eat wsJ0_charAt_5068e := goodIn_r _ [28, 18, 29, 30, 31, 16, 32, 23, 24, 33, 34, 35, 36, 37, 38, 39, 40, 41, 42, 43, 44, 45, 46, 47, 48, 49, 50, 51, 52, 53, 54, 55, 56, 57, 58, 59, 60, 61] (by decide +kernel) (by decide +kernel)
set_option maxRecDepth 20000 in
theorem gX10_eat_J0_charAt_5068e : GoodIn wsX10_eat (wsV RX10 169 RJ0 yJ0_charAt_5068e wsJ0_charAt_5068e) := goodIn_app (goodIn_of _ (by decide +kernel)) ggX10_eat_J0_charAt_5068e
set_option maxRecDepth 20000 in
theorem ggX10_key_X10_eat : GoodIn wsX10_key wsX10_eat := goodIn_r _ [9, 2, 10, 11, 12, 8, 13, 14, 15, 16, 17, 18, 19, 20, 21, 22, 23, 24, 25, 26, 27, 28, 29, 30, 31, 32, 33, 34, 35, 36, 37, 38, 39, 40, 41, 42, 43, 44, 45, 46, 47, 48, 49, 50, 51, 52, 53, 54, 55, 56, 57, 58, 59, 60, 61, 62, 63, 64, 65, 66, 67, 68, 69, 70, 71, 72, 73, 74, 75, 76, 77, 78, 79, 80, 81, 82, 83, 84, 85, 86, 87, 88, 89, 90, 91, 92, 93, 94, 95, 96, 97, 98, 99, 100, 101, 102] (by decide +kernel) (by decide +kernel)
set_option maxRecDepth 20000 in
theorem gX10_key_X10_eat : GoodIn wsX10_key (wsV RX10 175 RX10 yX10_eat wsX10_eat) := goodIn_app (goodIn_of _ (by decide +kernel)) ggX10_key_X10_eat
set_option maxRecDepth 20000 in
theorem ggX10_key_X10_blanks : GoodIn wsX10_key wsX10_blanks := goodIn_r _ [13, 2, 14, 15, 16, 17, 8, 18, 19, 69, 70, 71, 72, 73, 74, 75, 76, 77, 78, 79, 80, 81, 82, 83, 84, 85, 86, 87, 88, 89, 90, 91, 92, 93, 94, 95, 96, 97, 98, 99, 100, 101, 102] (by decide +kernel) (by decide +kernel)
set_option maxRecDepth 20000 in
theorem gX10_key_X10_blanks : GoodIn wsX10_key (wsV RX10 160 RX10 yX10_blanks wsX10_blanks) := goodIn_app (goodIn_of _ (by decide +kernel)) ggX10_key_X10_blanks
set_option maxRecDepth 20000 in
theorem ggX10_key_X10_byteAt : GoodIn wsX10_key wsX10_byteAt := goodIn_r _ [18, 14, 19, 69, 70, 71, 72, 73, 74, 75, 76, 77, 78, 79, 80, 81, 82, 83, 84, 85, 86, 87, 88, 89, 90, 91, 92, 93, 94, 95, 96, 97, 98, 99, 100, 101, 102] (by decide +kernel) (by decide +kernel)
set_option maxRecDepth 20000 in
theorem gX10_key_X10_byteAt : GoodIn wsX10_key (wsV RX10 157 RX10 yX10_byteAt wsX10_byteAt) := goodIn_app (goodIn_of _ (by decide +kernel)) ggX10_key_X10_byteAt
set_option maxRecDepth 20000 in
theorem ggX10_rule_X10_bad : GoodIn wsX10_rule wsX10_bad := goodIn_r _ [15, 1, 82, 83, 84, 85, 86, 87, 88, 89, 90, 91, 92, 93, 94, 95, 96, 97, 98, 99, 100, 101, 102, 103, 104, 105, 106, 107, 108, 109, 110, 111, 112, 113, 114, 115] (by decide +kernel) (by decide +kernel)
set_option maxRecDepth 20000 in
theorem gX10_rule_X10_bad : GoodIn wsX10_rule (wsV RX10 85 RX10 yX10_bad wsX10_bad) := goodIn_app (goodIn_of _ (by decide +kernel)) ggX10_rule_X10_bad
set_option maxRecDepth 20000 in
theorem ggX10_rule_X10_key : GoodIn wsX10_rule wsX10_key := goodIn_r _ [19, 5, 4, 7, 9, 20, 21, 22, 14, 23, 24, 25, 26, 27, 3, 28, 29, 30, 31, 32, 33, 34, 35, 36, 37, 38, 39, 40, 41, 42, 43, 44, 45, 46, 47, 48, 49, 50, 51, 52, 53, 54, 55, 56, 57, 58, 59, 60, 61, 62, 63, 64, 65, 66, 67, 68, 69, 70, 71, 72, 73, 74, 75, 76, 77, 78, 79, 80, 81, 82, 83, 84, 85, 86, 87, 88, 89, 90, 91, 92, 93, 94, 95, 96, 97, 98, 99, 100, 101, 102, 103, 104, 105, 106, 107, 108, 109, 110, 111, 112, 113, 114, 115] (by decide +kernel) (by decide +kernel)
set_option maxRecDepth 20000 in
theorem gX10_rule_X10_key : GoodIn wsX10_rule (wsV RX10 193 RX10 yX10_key wsX10_key) := goodIn_app (goodIn_of _ (by decide +kernel)) ggX10_rule_X10_key
set_option maxRecDepth 20000 in
theorem ggX10_rule_X10_blanks : GoodIn wsX10_rule wsX10_blanks := goodIn_r _ [27, 4, 3, 28, 29, 30, 14, 31, 32, 82, 83, 84, 85, 86, 87, 88, 89, 90, 91, 92, 93, 94, 95, 96, 97, 98, 99, 100, 101, 102, 103, 104, 105, 106, 107, 108, 109, 110, 111, 112, 113, 114, 115] (by decide +kernel) (by decide +kernel)
set_option maxRecDepth 20000 in
theorem gX10_rule_X10_blanks : GoodIn wsX10_rule (wsV RX10 160 RX10 yX10_blanks wsX10_blanks) := goodIn_app (goodIn_of _ (by decide +kernel)) ggX10_rule_X10_blanks
set_option maxRecDepth 20000 in
theorem ggX10_rule_X10_byteAt : GoodIn wsX10_rule wsX10_byteAt := goodIn_r _ [31, 3, 32, 82, 83, 84, 85, 86, 87, 88, 89, 90, 91, 92, 93, 94, 95, 96, 97, 98, 99, 100, 101, 102, 103, 104, 105, 106, 107, 108, 109, 110, 111, 112, 113, 114, 115] (by decide +kernel) (by decide +kernel)
set_option maxRecDepth 20000 in
theorem gX10_rule_X10_byteAt : GoodIn wsX10_rule (wsV RX10 157 RX10 yX10_byteAt wsX10_byteAt) := goodIn_app (goodIn_of _ (by decide +kernel)) ggX10_rule_X10_byteAt
set_option maxRecDepth 20000 in
theorem ggX10_valueOf_X10_finalOf : GoodIn wsX10_valueOf wsX10_finalOf := goodIn_r _ [8, 2, 9, 10, 11, 12, 13, 7, 14, 15, 16, 17, 18, 19, 20, 21, 22, 23, 24, 25, 26, 27, 28, 29, 30, 31, 32, 33, 34, 35, 36, 37, 38, 39, 40, 41, 42, 43, 44, 49, 50, 51, 52, 53, 54, 55, 56, 57, 58, 59, 60, 61, 62, 63, 64, 65, 66, 67, 68, 69, 70, 71, 72, 73, 74, 75, 76, 77, 78, 79, 80, 81, 82] (by decide +kernel) (by decide +kernel)
set_option maxRecDepth 20000 in
theorem gX10_valueOf_X10_finalOf : GoodIn wsX10_valueOf (wsV RX10 142 RX10 yX10_finalOf wsX10_finalOf) := goodIn_app (goodIn_of _ (by decide +kernel)) ggX10_valueOf_X10_finalOf
set_option maxRecDepth 20000 in
theorem ggX10_valueOf_X10_sumOf : GoodIn wsX10_valueOf wsX10_sumOf := goodIn_r _ [14, 15, 16, 17, 18, 7, 19, 20, 21, 22, 23, 24, 25, 26, 27, 28, 29, 30, 31, 32, 33, 34, 35, 36, 37, 38, 39, 40, 49, 50, 51, 52, 53, 54, 55, 56, 57, 58, 59, 60, 61, 62, 63, 64, 65, 66, 67, 68, 69, 70, 71, 72, 73, 74, 75, 76, 77, 78, 79, 80, 81, 82] (by decide +kernel) (by decide +kernel)
set_option maxRecDepth 20000 in
theorem gX10_valueOf_X10_sumOf : GoodIn wsX10_valueOf (wsV RX10 135 RX10 yX10_sumOf wsX10_sumOf) := goodIn_app (goodIn_of _ (by decide +kernel)) ggX10_valueOf_X10_sumOf
set_option maxRecDepth 20000 in
theorem ggX10_valueOf_X10_toldOf : GoodIn wsX10_valueOf wsX10_toldOf := goodIn_r _ [48, 23, 16, 17, 18, 7, 19, 20, 21, 22, 15, 24, 25, 26, 27, 28, 29, 30, 31, 32, 33, 34, 35, 36, 37, 38, 39, 40, 49, 50, 51, 52, 53, 54, 55, 56, 57, 58, 59, 60, 61, 62, 63, 64, 65, 66, 67, 68, 69, 70, 71, 72, 73, 74, 75, 76, 77, 78, 79, 80, 81, 82] (by decide +kernel) (by decide +kernel)
set_option maxRecDepth 20000 in
theorem gX10_valueOf_X10_toldOf : GoodIn wsX10_valueOf (wsV RX10 132 RX10 yX10_toldOf wsX10_toldOf) := goodIn_app (goodIn_of _ (by decide +kernel)) ggX10_valueOf_X10_toldOf
set_option maxRecDepth 20000 in
theorem ggX10_values_X10_valueOf : GoodIn wsX10_values wsX10_valueOf := goodIn_r _ [9, 10, 11, 12, 13, 14, 15, 8, 16, 17, 18, 19, 20, 21, 22, 23, 24, 25, 26, 27, 28, 29, 30, 31, 32, 33, 34, 35, 36, 37, 38, 39, 40, 41, 42, 43, 44, 45, 46, 47, 48, 49, 50, 51, 52, 53, 54, 55, 56, 57, 58, 59, 60, 61, 62, 63, 64, 65, 66, 67, 68, 69, 70, 71, 72, 73, 74, 75, 76, 77, 78, 79, 80, 81, 82, 83, 84, 85, 86, 87, 88, 89, 90] (by decide +kernel) (by decide +kernel)
set_option maxRecDepth 20000 in
theorem gX10_values_X10_valueOf : GoodIn wsX10_values (wsV RX10 197 RX10 yX10_valueOf wsX10_valueOf) := goodIn_app (goodIn_of _ (by decide +kernel)) ggX10_values_X10_valueOf
set_option maxRecDepth 20000 in
theorem ggX10_rankOf_X10_isAhead : GoodIn wsX10_rankOf wsX10_isAhead := goodIn_r _ [7, 8, 9, 10, 11, 12, 13, 14, 15, 16, 17, 18, 19, 20, 21, 22, 23, 24, 25, 26, 27, 28, 29, 30, 31, 32, 33, 34, 35, 36, 37, 38, 39, 40, 41, 42, 43, 44] (by decide +kernel) (by decide +kernel)
set_option maxRecDepth 20000 in
theorem gX10_rankOf_X10_isAhead : GoodIn wsX10_rankOf (wsV RX10 200 RX10 yX10_isAhead wsX10_isAhead) := goodIn_app (goodIn_of _ (by decide +kernel)) ggX10_rankOf_X10_isAhead
set_option maxRecDepth 20000 in
theorem ggX10_rank_X10_bad : GoodIn wsX10_rank wsX10_bad := goodIn_r _ [7, 1, 76, 77, 78, 79, 80, 81, 82, 83, 84, 85, 86, 87, 88, 89, 90, 91, 92, 93, 94, 95, 96, 97, 98, 99, 100, 101, 102, 103, 104, 105, 106, 107, 108, 109] (by decide +kernel) (by decide +kernel)
set_option maxRecDepth 20000 in
theorem gX10_rank_X10_bad : GoodIn wsX10_rank (wsV RX10 85 RX10 yX10_bad wsX10_bad) := goodIn_app (goodIn_of _ (by decide +kernel)) ggX10_rank_X10_bad
set_option maxRecDepth 20000 in
theorem ggX10_rank_X10_values : GoodIn wsX10_rank wsX10_values := goodIn_r _ [11, 12, 13, 14, 15, 16, 17, 18, 6, 19, 20, 21, 22, 23, 24, 25, 26, 27, 28, 29, 30, 31, 32, 33, 34, 35, 36, 37, 38, 39, 2, 40, 41, 42, 43, 44, 45, 46, 47, 48, 49, 50, 51, 52, 53, 54, 55, 56, 57, 58, 59, 60, 61, 62, 63, 64, 65, 76, 77, 78, 79, 80, 81, 82, 83, 84, 85, 86, 87, 88, 89, 90, 91, 92, 93, 94, 95, 96, 97, 98, 99, 100, 101, 102, 103, 104, 105, 106, 107, 108, 109] (by decide +kernel) (by decide +kernel)
set_option maxRecDepth 20000 in
theorem gX10_rank_X10_values : GoodIn wsX10_rank (wsV RX10 204 RX10 yX10_values wsX10_values) := goodIn_app (goodIn_of _ (by decide +kernel)) ggX10_rank_X10_values
set_option maxRecDepth 20000 in
theorem ggX10_rank_X10_rankOf : GoodIn wsX10_rank wsX10_rankOf := goodIn_r _ [69, 12, 70, 71, 72, 73, 6, 74, 13, 14, 75, 76, 77, 78, 79, 80, 81, 82, 83, 84, 85, 86, 87, 88, 89, 90, 91, 92, 93, 94, 95, 96, 97, 98, 99, 100, 101, 102, 103, 104, 105, 106, 107, 108, 109] (by decide +kernel) (by decide +kernel)
set_option maxRecDepth 20000 in
theorem gX10_rank_X10_rankOf : GoodIn wsX10_rank (wsV RX10 206 RX10 yX10_rankOf wsX10_rankOf) := goodIn_app (goodIn_of _ (by decide +kernel)) ggX10_rank_X10_rankOf
set_option maxRecDepth 20000 in
theorem ggX10_publish_X10_values : GoodIn wsX10_publish wsX10_values := goodIn_r _ [14, 15, 16, 17, 18, 19, 20, 21, 13, 22, 23, 24, 25, 26, 27, 28, 29, 30, 31, 32, 33, 34, 35, 36, 37, 38, 39, 40, 41, 42, 2, 43, 44, 45, 46, 47, 48, 49, 50, 51, 52, 53, 54, 55, 56, 57, 58, 59, 60, 61, 62, 63, 64, 65, 66, 67, 68, 86, 87, 88, 89, 90, 91, 92, 93, 94, 95, 96, 97, 98, 99, 100, 101, 102, 103, 104, 105, 106, 107, 108, 109, 110, 111, 112, 113, 114, 115, 116, 117, 118, 119] (by decide +kernel) (by decide +kernel)
set_option maxRecDepth 20000 in
theorem gX10_publish_X10_values : GoodIn wsX10_publish (wsV RX10 204 RX10 yX10_values wsX10_values) := goodIn_app (goodIn_of _ (by decide +kernel)) ggX10_publish_X10_values
set_option maxRecDepth 20000 in
theorem ggX10_publish_X10_rankOf : GoodIn wsX10_publish wsX10_rankOf := goodIn_r _ [72, 15, 73, 74, 75, 76, 13, 77, 16, 17, 78, 86, 87, 88, 89, 90, 91, 92, 93, 94, 95, 96, 97, 98, 99, 100, 101, 102, 103, 104, 105, 106, 107, 108, 109, 110, 111, 112, 113, 114, 115, 116, 117, 118, 119] (by decide +kernel) (by decide +kernel)
set_option maxRecDepth 20000 in
theorem gX10_publish_X10_rankOf : GoodIn wsX10_publish (wsV RX10 206 RX10 yX10_rankOf wsX10_rankOf) := goodIn_app (goodIn_of _ (by decide +kernel)) ggX10_publish_X10_rankOf
set_option maxRecDepth 20000 in
theorem ggX10_publish_X10_pointsOf : GoodIn wsX10_publish wsX10_pointsOf := goodIn_r _ [81] (by decide +kernel) (by decide +kernel)
set_option maxRecDepth 20000 in
theorem gX10_publish_X10_pointsOf : GoodIn wsX10_publish (va_wsS RX10 212 yX10_pointsOf wsX10_pointsOf) := goodIn_app (goodIn_of _ (by decide +kernel)) ggX10_publish_X10_pointsOf
set_option maxRecDepth 20000 in
theorem ggX10_publish_X10_toldOfClub : GoodIn wsX10_publish wsX10_toldOfClub := goodIn_r _ [85, 6, 8, 7, 9, 86, 87, 88, 89, 90, 91, 92, 93, 94, 95, 96, 97, 98, 99, 100, 101, 102, 103, 104, 105, 106, 107, 108, 109, 110, 111, 112, 113, 114, 115, 116, 117, 118, 119] (by decide +kernel) (by decide +kernel)
set_option maxRecDepth 20000 in
theorem gX10_publish_X10_toldOfClub : GoodIn wsX10_publish (wsV RX10 218 RX10 yX10_toldOfClub wsX10_toldOfClub) := goodIn_app (goodIn_of _ (by decide +kernel)) ggX10_publish_X10_toldOfClub
set_option maxRecDepth 20000 in
theorem ggX10_points_X10_bad : GoodIn wsX10_points wsX10_bad := goodIn_r _ [6, 1, 15, 16, 17, 18, 19, 20, 21, 22, 23, 24, 25, 26, 27, 28, 29, 30, 31, 32, 33, 34, 35, 36, 37, 38, 39, 40, 41, 42, 43, 44, 45, 46, 47, 48] (by decide +kernel) (by decide +kernel)
set_option maxRecDepth 20000 in
theorem gX10_points_X10_bad : GoodIn wsX10_points (wsV RX10 85 RX10 yX10_bad wsX10_bad) := goodIn_app (goodIn_of _ (by decide +kernel)) ggX10_points_X10_bad
set_option maxRecDepth 20000 in
theorem ggX10_points_X10_toldOfClub : GoodIn wsX10_points wsX10_toldOfClub := goodIn_r _ [10, 11, 12, 13, 14, 15, 16, 17, 18, 19, 20, 21, 22, 23, 24, 25, 26, 27, 28, 29, 30, 31, 32, 33, 34, 35, 36, 37, 38, 39, 40, 41, 42, 43, 44, 45, 46, 47, 48] (by decide +kernel) (by decide +kernel)
set_option maxRecDepth 20000 in
theorem gX10_points_X10_toldOfClub : GoodIn wsX10_points (wsV RX10 218 RX10 yX10_toldOfClub wsX10_toldOfClub) := goodIn_app (goodIn_of _ (by decide +kernel)) ggX10_points_X10_toldOfClub
set_option maxRecDepth 20000 in
theorem ggX10_line_X10_bad : GoodIn wsX10_line wsX10_bad := goodIn_r _ [10, 1, 11, 12, 13, 14, 15, 16, 17, 18, 19, 20, 21, 22, 23, 24, 25, 26, 27, 28, 29, 30, 31, 32, 33, 34, 35, 36, 37, 38, 39, 40, 41, 42, 43, 44] (by decide +kernel) (by decide +kernel)
set_option maxRecDepth 20000 in
theorem gX10_line_X10_bad : GoodIn wsX10_line (wsV RX10 85 RX10 yX10_bad wsX10_bad) := goodIn_app (goodIn_of _ (by decide +kernel)) ggX10_line_X10_bad
set_option maxRecDepth 20000 in
theorem ggX10_wait_X10_bad : GoodIn wsX10_wait wsX10_bad := goodIn_r _ [7, 1, 8, 9, 10, 11, 12, 13, 14, 15, 16, 17, 18, 19, 20, 21, 22, 23, 24, 25, 26, 27, 28, 29, 30, 31, 32, 33, 34, 35, 36, 37, 38, 39, 40, 41] (by decide +kernel) (by decide +kernel)
set_option maxRecDepth 20000 in
theorem gX10_wait_X10_bad : GoodIn wsX10_wait (wsV RX10 85 RX10 yX10_bad wsX10_bad) := goodIn_app (goodIn_of _ (by decide +kernel)) ggX10_wait_X10_bad
set_option maxRecDepth 20000 in
theorem ggJ0_length_8abf5_J0_coder_7d493 : GoodIn wsJ0_length_8abf5 wsJ0_coder_7d493 := goodIn_r _ [6, 7, 8] (by decide +kernel) (by decide +kernel)
set_option maxRecDepth 20000 in
theorem gJ0_length_8abf5_J0_coder_7d493 : GoodIn wsJ0_length_8abf5 (wsV RJ0 335 RJ0 yJ0_coder_7d493 wsJ0_coder_7d493) := goodIn_app (goodIn_of _ (by decide +kernel)) ggJ0_length_8abf5_J0_coder_7d493
set_option maxRecDepth 20000 in
theorem ggJ0_charAt_5068e_J0_isLatin1_aae02 : GoodIn wsJ0_charAt_5068e wsJ0_isLatin1_aae02 := goodIn_r _ [6, 7, 8] (by decide +kernel) (by decide +kernel)
set_option maxRecDepth 20000 in
theorem gJ0_charAt_5068e_J0_isLatin1_aae02 : GoodIn wsJ0_charAt_5068e (wsV RJ0 492 RJ0 yJ0_isLatin1_aae02 wsJ0_isLatin1_aae02) := goodIn_app (goodIn_of _ (by decide +kernel)) ggJ0_charAt_5068e_J0_isLatin1_aae02
set_option maxRecDepth 20000 in
theorem ggJ0_charAt_5068e_J1_charAt_3b067 : GoodIn wsJ0_charAt_5068e wsJ1_charAt_3b067 := goodIn_r _ [12, 13, 14, 5, 15, 16, 17, 18, 19, 20] (by decide +kernel) (by decide +kernel)
set_option maxRecDepth 20000 in
theorem gJ0_charAt_5068e_J1_charAt_3b067 : GoodIn wsJ0_charAt_5068e (va_wsS RJ0 495 yJ1_charAt_3b067 wsJ1_charAt_3b067) := goodIn_app (goodIn_of _ (by decide +kernel)) ggJ0_charAt_5068e_J1_charAt_3b067
set_option maxRecDepth 20000 in
theorem ggJ0_charAt_5068e_J2_charAt_3b067 : GoodIn wsJ0_charAt_5068e wsJ2_charAt_3b067 := goodIn_r _ [24, 25, 26, 23, 27, 28, 29, 30, 31, 14, 5, 15, 16, 17, 18, 19, 20, 32, 33, 34, 35, 36, 37] (by decide +kernel) (by decide +kernel)
set_option maxRecDepth 20000 in
theorem gJ0_charAt_5068e_J2_charAt_3b067 : GoodIn wsJ0_charAt_5068e (va_wsS RJ0 498 yJ2_charAt_3b067 wsJ2_charAt_3b067) := goodIn_app (goodIn_of _ (by decide +kernel)) ggJ0_charAt_5068e_J2_charAt_3b067
set_option maxRecDepth 20000 in
theorem ggJ0_checkIndex_df160_J3_checkIndex_8e157 : GoodIn wsJ0_checkIndex_df160 wsJ3_checkIndex_8e157 := goodIn_r _ [5] (by decide +kernel) (by decide +kernel)
set_option maxRecDepth 20000 in
theorem gJ0_checkIndex_df160_J3_checkIndex_8e157 : GoodIn wsJ0_checkIndex_df160 (va_wsS RJ0 1059 yJ3_checkIndex_8e157 wsJ3_checkIndex_8e157) := goodIn_app (goodIn_of _ (by decide +kernel)) ggJ0_checkIndex_df160_J3_checkIndex_8e157
set_option maxRecDepth 20000 in
theorem ggJ1_charAt_3b067_J0_checkIndex_df160 : GoodIn wsJ1_charAt_3b067 wsJ0_checkIndex_df160 := goodIn_r _ [4, 5, 6, 7, 8, 9] (by decide +kernel) (by decide +kernel)
set_option maxRecDepth 20000 in
theorem gJ1_charAt_3b067_J0_checkIndex_df160 : GoodIn wsJ1_charAt_3b067 (va_wsS RJ1 9 yJ0_checkIndex_df160 wsJ0_checkIndex_df160) := goodIn_app (goodIn_of _ (by decide +kernel)) ggJ1_charAt_3b067_J0_checkIndex_df160
set_option maxRecDepth 20000 in
theorem ggJ2_getChar_3b067_J2_length_9d52b : GoodIn wsJ2_getChar_3b067 wsJ2_length_9d52b := goodIn_r _ [7] (by decide +kernel) (by decide +kernel)
set_option maxRecDepth 20000 in
theorem gJ2_getChar_3b067_J2_length_9d52b : GoodIn wsJ2_getChar_3b067 (va_wsS RJ2 48 yJ2_length_9d52b wsJ2_length_9d52b) := goodIn_app (goodIn_of _ (by decide +kernel)) ggJ2_getChar_3b067_J2_length_9d52b
set_option maxRecDepth 20000 in
theorem ggJ2_charAt_3b067_J2_checkIndex_2214a : GoodIn wsJ2_charAt_3b067 wsJ2_checkIndex_2214a := goodIn_r _ [4, 5, 6, 3, 7, 8, 9, 10, 11, 12, 13, 14, 15, 16] (by decide +kernel) (by decide +kernel)
set_option maxRecDepth 20000 in
theorem gJ2_charAt_3b067_J2_checkIndex_2214a : GoodIn wsJ2_charAt_3b067 (va_wsS RJ2 67 yJ2_checkIndex_2214a wsJ2_checkIndex_2214a) := goodIn_app (goodIn_of _ (by decide +kernel)) ggJ2_charAt_3b067_J2_checkIndex_2214a
set_option maxRecDepth 20000 in
theorem ggJ2_charAt_3b067_J2_getChar_3b067 : GoodIn wsJ2_charAt_3b067 wsJ2_getChar_3b067 := goodIn_r _ [19, 20, 21, 22, 5, 6, 3, 7] (by decide +kernel) (by decide +kernel)
set_option maxRecDepth 20000 in
theorem gJ2_charAt_3b067_J2_getChar_3b067 : GoodIn wsJ2_charAt_3b067 (va_wsS RJ2 71 yJ2_getChar_3b067 wsJ2_getChar_3b067) := goodIn_app (goodIn_of _ (by decide +kernel)) ggJ2_charAt_3b067_J2_getChar_3b067
set_option maxRecDepth 20000 in
theorem ggJ2_checkIndex_2214a_J2_length_9d52b : GoodIn wsJ2_checkIndex_2214a wsJ2_length_9d52b := goodIn_r _ [4] (by decide +kernel) (by decide +kernel)
set_option maxRecDepth 20000 in
theorem gJ2_checkIndex_2214a_J2_length_9d52b : GoodIn wsJ2_checkIndex_2214a (va_wsS RJ2 48 yJ2_length_9d52b wsJ2_length_9d52b) := goodIn_app (goodIn_of _ (by decide +kernel)) ggJ2_checkIndex_2214a_J2_length_9d52b
set_option maxRecDepth 20000 in
theorem ggJ2_checkIndex_2214a_J0_checkIndex_df160 : GoodIn wsJ2_checkIndex_2214a wsJ0_checkIndex_df160 := goodIn_r _ [8, 9, 10, 11, 12, 13] (by decide +kernel) (by decide +kernel)
set_option maxRecDepth 20000 in
theorem gJ2_checkIndex_2214a_J0_checkIndex_df160 : GoodIn wsJ2_checkIndex_2214a (va_wsS RJ2 414 yJ0_checkIndex_df160 wsJ0_checkIndex_df160) := goodIn_app (goodIn_of _ (by decide +kernel)) ggJ2_checkIndex_2214a_J0_checkIndex_df160
set_option maxRecDepth 20000 in
theorem ggL_ploughman_X9_ploughman : GoodIn wsL_ploughman wsX9_ploughman := goodIn_ca (goodIn_ca (goodIn_r _ [7, 8, 9, 10, 11, 12, 6, 13, 14, 15, 16, 17, 18, 19, 20, 21, 22, 23, 24, 25, 26, 27, 28, 29, 30, 31, 32, 33, 34, 35, 36, 37, 38, 39, 40, 41, 42, 43, 44, 45, 46, 47, 48, 49, 50, 51, 52, 53, 54] (by decide +kernel) (by decide +kernel)) (goodIn_sub (fun _ h => List.mem_cons_of_mem _ (List.mem_append_left _ (List.mem_append_right _ h))) (by decide +kernel))) (goodIn_sub (fun _ h => List.mem_cons_of_mem _ (List.mem_append_right _ h)) (by decide +kernel))
set_option maxRecDepth 20000 in
theorem gL_ploughman_X9_ploughman : GoodIn wsL_ploughman (wsV RL 7 RX9 yX9_ploughman wsX9_ploughman) := goodIn_app (goodIn_of _ (by decide +kernel)) ggL_ploughman_X9_ploughman
set_option maxRecDepth 20000 in
theorem ggL_draw_X9_draw : GoodIn wsL_draw wsX9_draw := goodIn_ca (goodIn_r _ [6, 7, 8, 9, 10, 11, 12, 13, 14, 15, 16, 17, 18, 19, 20, 21, 22, 23, 24, 25, 26, 27, 28, 29, 30, 31, 32, 33, 34, 35, 36, 37, 38, 39, 40, 41, 5, 42, 43, 44, 45, 46, 47, 48, 49, 50, 51, 52, 53, 54, 55, 56, 57, 58, 59, 60, 61, 62, 63, 64, 65, 66, 67, 68, 69, 70, 71, 72, 73, 74, 75, 76, 77, 78, 79] (by decide +kernel) (by decide +kernel)) (goodIn_sub (fun _ h => List.mem_cons_of_mem _ (List.mem_append_right _ h)) (by decide +kernel))
set_option maxRecDepth 20000 in
theorem gL_draw_X9_draw : GoodIn wsL_draw (wsV RL 17 RX9 yX9_draw wsX9_draw) := goodIn_app (goodIn_of _ (by decide +kernel)) ggL_draw_X9_draw
set_option maxRecDepth 20000 in
theorem ggL_plot_X9_plot : GoodIn wsL_plot wsX9_plot := goodIn_ca (goodIn_r _ [6, 7, 8, 9, 10, 11, 12, 13, 14, 15, 5, 16, 17, 18, 19, 20, 21, 22, 23, 24, 25, 26, 27, 28, 29, 30, 31, 32, 33, 34, 35, 36, 37, 38, 39, 40, 41, 42, 43, 44, 45, 46, 47, 48, 49] (by decide +kernel) (by decide +kernel)) (goodIn_sub (fun _ h => List.mem_cons_of_mem _ (List.mem_append_right _ h)) (by decide +kernel))
set_option maxRecDepth 20000 in
theorem gL_plot_X9_plot : GoodIn wsL_plot (wsV RL 21 RX9 yX9_plot wsX9_plot) := goodIn_app (goodIn_of _ (by decide +kernel)) ggL_plot_X9_plot
set_option maxRecDepth 20000 in
theorem ggL_mark_X9_mark : GoodIn wsL_mark wsX9_mark := goodIn_ca (goodIn_ca (goodIn_r _ [7, 8, 9, 10, 11, 12, 13, 14, 15, 16, 17, 18, 6, 19, 20, 21, 22, 23, 24, 25, 26, 27, 28, 29, 30, 31, 32, 33, 34, 35, 36, 37, 38, 39, 40, 41, 42, 43, 44, 45, 46, 47, 48, 49, 50, 51, 52, 53, 54, 55, 56, 57, 58, 59, 60, 61, 62, 63, 64, 65, 66, 67, 68, 69, 70, 71, 72, 73, 74, 75, 76, 77, 78, 79, 80, 81, 82, 83, 84, 85, 86, 87, 88, 89, 90, 91, 92, 93, 94, 95, 96, 97, 98, 99, 100, 101, 102, 103, 104, 105, 106] (by decide +kernel) (by decide +kernel)) (goodIn_sub (fun _ h => List.mem_cons_of_mem _ (List.mem_append_left _ (List.mem_append_right _ h))) (by decide +kernel))) (goodIn_sub (fun _ h => List.mem_cons_of_mem _ (List.mem_append_right _ h)) (by decide +kernel))
set_option maxRecDepth 20000 in
theorem gL_mark_X9_mark : GoodIn wsL_mark (wsV RL 27 RX9 yX9_mark wsX9_mark) := goodIn_app (goodIn_of _ (by decide +kernel)) ggL_mark_X9_mark
set_option maxRecDepth 20000 in
theorem ggL_hard_X9_hard : GoodIn wsL_hard wsX9_hard := goodIn_ca (goodIn_r _ [6, 7, 8, 9, 5, 10, 11, 12, 13, 14, 15, 16, 17, 18, 19, 20, 21, 22, 23, 24, 25, 26, 27, 28, 29, 30, 31, 32, 33, 34, 35, 36, 37, 38, 39] (by decide +kernel) (by decide +kernel)) (goodIn_sub (fun _ h => List.mem_cons_of_mem _ (List.mem_append_right _ h)) (by decide +kernel))
set_option maxRecDepth 20000 in
theorem gL_hard_X9_hard : GoodIn wsL_hard (wsV RL 31 RX9 yX9_hard wsX9_hard) := goodIn_app (goodIn_of _ (by decide +kernel)) ggL_hard_X9_hard
set_option maxRecDepth 20000 in
theorem ggL_told_X9_told : GoodIn wsL_told wsX9_told := goodIn_ca (goodIn_ca (goodIn_r _ [7, 8, 9, 10, 11, 12, 13, 14, 15, 16, 17, 18, 6, 19, 20, 21, 22, 23, 24, 25, 26, 27, 28, 29, 30, 31, 32, 33, 34, 35, 36, 37, 38, 39, 40, 41, 42, 43, 44, 45, 46, 47, 48, 49, 50, 51, 52, 53, 54, 55, 56, 57, 58, 59, 60] (by decide +kernel) (by decide +kernel)) (goodIn_sub (fun _ h => List.mem_cons_of_mem _ (List.mem_append_left _ (List.mem_append_right _ h))) (by decide +kernel))) (goodIn_sub (fun _ h => List.mem_cons_of_mem _ (List.mem_append_right _ h)) (by decide +kernel))
set_option maxRecDepth 20000 in
theorem gL_told_X9_told : GoodIn wsL_told (wsV RL 35 RX9 yX9_told wsX9_told) := goodIn_app (goodIn_of _ (by decide +kernel)) ggL_told_X9_told
set_option maxRecDepth 20000 in
theorem ggL_about_X9_about : GoodIn wsL_about wsX9_about := goodIn_ca (goodIn_ca (goodIn_r _ [7, 8, 9, 10, 11, 12, 13, 14, 15, 16, 17, 18, 19, 20, 21, 6, 22, 23, 24, 25, 26, 27, 28, 29, 30, 31, 32, 33, 34, 35, 36, 37, 38, 39, 40, 41, 42, 43, 44, 45, 46, 47, 48, 49, 50, 51, 52, 53, 54, 55, 56, 57, 58, 59, 60, 61, 62, 63, 64, 65, 66, 67, 68, 69, 70, 71, 72, 73, 74, 75, 76, 77, 78, 79, 80, 81, 82, 83, 84, 85, 86, 87, 88, 89, 90, 91, 92, 93, 94, 95, 96, 97, 98, 99, 100, 101, 102, 103, 104, 105] (by decide +kernel) (by decide +kernel)) (goodIn_sub (fun _ h => List.mem_cons_of_mem _ (List.mem_append_left _ (List.mem_append_right _ h))) (by decide +kernel))) (goodIn_sub (fun _ h => List.mem_cons_of_mem _ (List.mem_append_right _ h)) (by decide +kernel))
set_option maxRecDepth 20000 in
theorem gL_about_X9_about : GoodIn wsL_about (wsV RL 38 RX9 yX9_about wsX9_about) := goodIn_app (goodIn_of _ (by decide +kernel)) ggL_about_X9_about
set_option maxRecDepth 20000 in
theorem ggL_minutes_X9_minutes : GoodIn wsL_minutes wsX9_minutes := goodIn_ca (goodIn_ca (goodIn_r _ [7, 8, 9, 10, 11, 12, 13, 14, 15, 16, 17, 18, 6, 19, 20, 21, 22, 23, 24, 25, 26, 27, 28, 29, 30, 31, 32, 33, 34, 35, 36, 37, 38, 39, 40, 41, 42, 43, 44, 45, 46, 47, 48, 49, 50, 51, 52, 53, 54, 55, 56, 57] (by decide +kernel) (by decide +kernel)) (goodIn_sub (fun _ h => List.mem_cons_of_mem _ (List.mem_append_left _ (List.mem_append_right _ h))) (by decide +kernel))) (goodIn_sub (fun _ h => List.mem_cons_of_mem _ (List.mem_append_right _ h)) (by decide +kernel))
set_option maxRecDepth 20000 in
theorem gL_minutes_X9_minutes : GoodIn wsL_minutes (wsV RL 41 RX9 yX9_minutes wsX9_minutes) := goodIn_app (goodIn_of _ (by decide +kernel)) ggL_minutes_X9_minutes
set_option maxRecDepth 20000 in
theorem ggL_limit_X9_limit : GoodIn wsL_limit wsX9_limit := goodIn_ca (goodIn_r _ [6, 7, 8, 9, 5, 10, 11, 12, 13, 14, 15, 16, 17, 18, 19, 20, 21, 22, 23, 24, 25, 26, 27, 28, 29, 30, 31, 32, 33] (by decide +kernel) (by decide +kernel)) (goodIn_sub (fun _ h => List.mem_cons_of_mem _ (List.mem_append_right _ h)) (by decide +kernel))
set_option maxRecDepth 20000 in
theorem gL_limit_X9_limit : GoodIn wsL_limit (wsV RL 44 RX9 yX9_limit wsX9_limit) := goodIn_app (goodIn_of _ (by decide +kernel)) ggL_limit_X9_limit
set_option maxRecDepth 20000 in
theorem ggL_rule_X9_rule : GoodIn wsL_rule wsX9_rule := goodIn_ca (goodIn_r _ [6, 7, 8, 9, 10, 11, 12, 13, 14, 15, 16, 17, 5, 18, 19, 20, 21, 22, 23, 24, 25, 26, 27, 28, 29, 30, 31, 32, 33, 34, 35, 36, 37, 38, 39, 40, 41, 42, 43, 44, 45, 46, 47, 48, 49, 50, 51, 52, 53, 54, 55, 56, 57, 58, 59, 60, 61, 62, 63, 64, 65, 66, 67, 68, 69, 70, 71, 72, 73, 74, 75, 76, 77, 78, 79, 80, 81, 82, 83, 84, 85, 86, 87, 88, 89, 90, 91, 92, 93, 94, 95, 96, 97, 98, 99, 100, 101, 102, 103, 104, 105, 106, 107, 108, 109, 110, 111, 112, 113, 114, 115, 116, 117, 118, 119, 120, 121, 122, 123, 124, 125, 126, 127, 128, 129, 130, 131, 132, 133, 134, 135, 136, 137, 138, 139, 140, 141, 142, 143, 144, 145, 146, 147, 148, 149, 150, 151, 152, 153, 154, 155, 156, 157, 158, 159, 160, 161, 162, 163, 164] (by decide +kernel) (by decide +kernel)) (goodIn_sub (fun _ h => List.mem_cons_of_mem _ (List.mem_append_right _ h)) (by decide +kernel))
set_option maxRecDepth 20000 in
theorem gL_rule_X9_rule : GoodIn wsL_rule (wsV RL 47 RX9 yX9_rule wsX9_rule) := goodIn_app (goodIn_of _ (by decide +kernel)) ggL_rule_X9_rule
set_option maxRecDepth 20000 in
theorem ggL_rank_X9_rank : GoodIn wsL_rank wsX9_rank := goodIn_ca (goodIn_r _ [6, 7, 8, 9, 10, 5, 11, 12, 13, 14, 15, 16, 17, 18, 19, 20, 21, 22, 23, 24, 25, 26, 27, 28, 29, 30, 31, 32, 33, 34, 35, 36, 37, 38, 39, 40, 41, 42, 43, 44, 45, 46, 47, 48, 49, 50, 51, 52, 53, 54, 55, 56, 57, 58, 59, 60, 61, 62, 63, 64, 65, 66, 67, 68, 69, 70, 71, 72, 73, 74, 75, 76, 77, 78, 79, 80, 81, 82, 83, 84, 85, 86, 87, 88, 89, 90, 91, 92, 93, 94, 95, 96, 97, 98, 99, 100, 101, 102, 103, 104, 105, 106, 107, 108, 109, 110, 111, 112, 113, 114, 115, 116, 117, 118, 119, 120, 121, 122, 123, 124, 125, 126, 127, 128, 129, 130, 131, 132, 133, 134, 135, 136, 137, 138, 139, 140, 141, 142, 143, 144, 145, 146, 147, 148, 149, 150, 151, 152, 153] (by decide +kernel) (by decide +kernel)) (goodIn_sub (fun _ h => List.mem_cons_of_mem _ (List.mem_append_right _ h)) (by decide +kernel))
set_option maxRecDepth 20000 in
theorem gL_rank_X9_rank : GoodIn wsL_rank (wsV RL 50 RX9 yX9_rank wsX9_rank) := goodIn_app (goodIn_of _ (by decide +kernel)) ggL_rank_X9_rank
set_option maxRecDepth 20000 in
theorem ggL_protest_X9_protest : GoodIn wsL_protest wsX9_protest := goodIn_ca (goodIn_ca (goodIn_r _ [7, 8, 9, 10, 11, 12, 13, 14, 15, 16, 17, 18, 6, 19, 20, 21, 22, 23, 24, 25, 26, 27, 28, 29, 30, 31, 32, 33, 34, 35, 36, 37, 38, 39, 40, 41, 42, 43, 44, 45, 46, 47, 48, 49, 50, 51, 52, 53, 54, 55, 56, 57] (by decide +kernel) (by decide +kernel)) (goodIn_sub (fun _ h => List.mem_cons_of_mem _ (List.mem_append_left _ (List.mem_append_right _ h))) (by decide +kernel))) (goodIn_sub (fun _ h => List.mem_cons_of_mem _ (List.mem_append_right _ h)) (by decide +kernel))
set_option maxRecDepth 20000 in
theorem gL_protest_X9_protest : GoodIn wsL_protest (wsV RL 53 RX9 yX9_protest wsX9_protest) := goodIn_app (goodIn_of _ (by decide +kernel)) ggL_protest_X9_protest
set_option maxRecDepth 20000 in
theorem ggL_points_X9_points : GoodIn wsL_points wsX9_points := goodIn_ca (goodIn_r _ [6, 7, 8, 9, 5, 10, 11, 12, 13, 14, 15, 16, 17, 18, 19, 20, 21, 22, 23, 24, 25, 26, 27, 28, 29, 30, 31, 32, 33, 34, 35, 36, 37, 38, 39, 40] (by decide +kernel) (by decide +kernel)) (goodIn_sub (fun _ h => List.mem_cons_of_mem _ (List.mem_append_right _ h)) (by decide +kernel))
set_option maxRecDepth 20000 in
theorem gL_points_X9_points : GoodIn wsL_points (wsV RL 56 RX9 yX9_points wsX9_points) := goodIn_app (goodIn_of _ (by decide +kernel)) ggL_points_X9_points
set_option maxRecDepth 20000 in
theorem ggL_line_X9_line : GoodIn wsL_line wsX9_line := goodIn_ca (goodIn_ca (goodIn_r _ [7, 8, 9, 10, 11, 12, 13, 14, 15, 16, 17, 18, 6, 19, 20, 21, 22, 23, 24, 25, 26, 27, 28, 29, 30, 31, 32, 33, 34, 35, 36, 37, 38, 39, 40, 41, 42, 43, 44, 45, 46, 47, 48, 49, 50, 51, 52, 53, 54, 55] (by decide +kernel) (by decide +kernel)) (goodIn_sub (fun _ h => List.mem_cons_of_mem _ (List.mem_append_left _ (List.mem_append_right _ h))) (by decide +kernel))) (goodIn_sub (fun _ h => List.mem_cons_of_mem _ (List.mem_append_right _ h)) (by decide +kernel))
set_option maxRecDepth 20000 in
theorem gL_line_X9_line : GoodIn wsL_line (wsV RL 59 RX9 yX9_line wsX9_line) := goodIn_app (goodIn_of _ (by decide +kernel)) ggL_line_X9_line
set_option maxRecDepth 20000 in
theorem ggL_wait_X9_wait : GoodIn wsL_wait wsX9_wait := goodIn_ca (goodIn_r _ [6, 7, 8, 9, 5, 10, 11, 12, 13, 14, 15, 16, 17, 18, 19, 20, 21, 22, 23] (by decide +kernel) (by decide +kernel)) (goodIn_sub (fun _ h => List.mem_cons_of_mem _ (List.mem_append_right _ h)) (by decide +kernel))
set_option maxRecDepth 20000 in
theorem gL_wait_X9_wait : GoodIn wsL_wait (wsV RL 62 RX9 yX9_wait wsX9_wait) := goodIn_app (goodIn_of _ (by decide +kernel)) ggL_wait_X9_wait
