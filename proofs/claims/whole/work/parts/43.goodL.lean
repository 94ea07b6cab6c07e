set_option maxRecDepth 20000 in
theorem ggL_law_X9_init : GoodIn wsL_law wsX9_init := goodIn_r _ [9, 10, 11, 12, 13, 14, 15, 16, 17, 18, 19, 20, 21, 22, 23, 24, 25, 26, 27, 28, 29, 30, 31, 32, 33, 34, 35, 36, 37, 38, 39, 40, 41, 42, 43, 44, 45, 46, 47, 48, 49, 50, 51, 52, 53, 54, 55, 56, 57, 58, 59, 60, 61, 62, 63, 64, 65, 66, 67, 68, 69, 70, 71, 72, 73, 74, 75, 76, 77, 78, 79, 80, 81, 82, 83, 84, 85, 86, 87, 88, 89, 90, 91, 92, 93, 94, 95, 96, 97, 98, 99, 100, 101, 102, 103, 104, 105, 106, 107, 108, 109, 110, 111, 112, 113, 114, 115, 116, 117, 118, 119, 120, 121, 122, 123, 124, 125, 126, 127, 128, 129, 130, 131, 132, 133, 134, 885, 886, 840, 841, 842, 843, 844, 845, 846, 847, 848, 849, 850, 887, 888, 889, 890, 891, 892, 893, 894, 895, 896, 897, 898, 899, 900, 901, 902, 903, 904, 905, 906, 907, 908, 909, 910, 911, 912, 913, 914, 915, 916, 917, 918, 919, 920, 921, 922, 923, 924, 925] (by decide +kernel) (by decide +kernel)
set_option maxRecDepth 20000 in
theorem gL_law_X9_init : GoodIn wsL_law (wsX9_init) := ggL_law_X9_init
set_option maxRecDepth 20000 in
theorem ggL_law_X10_init : GoodIn wsL_law wsX10_init := goodIn_r _ [137, 138, 11, 12, 49, 139, 140, 141, 142, 143, 144, 145, 146, 147, 148, 149, 150, 151, 152, 153, 100, 154, 155, 156, 157, 158, 159, 160, 161, 162, 851, 852, 853, 854, 855, 856, 857, 858, 859, 860, 861, 862, 863, 864, 865, 866, 867, 868, 869, 870, 871, 872, 873, 874, 875, 876, 877, 878, 879, 880, 881, 882, 883, 884] (by decide +kernel) (by decide +kernel)
set_option maxRecDepth 20000 in
theorem gL_law_X10_init : GoodIn wsL_law (wsX10_init) := ggL_law_X10_init
set_option maxRecDepth 20000 in
theorem ggL_law_L_ploughman : GoodIn wsL_law wsL_ploughman := goodIn_ca (goodIn_ca (goodIn_r _ [166, 167, 168, 169, 170, 171, 2, 172, 173, 174, 20, 175, 176, 177, 178, 179, 180, 181, 182, 183, 184, 185, 19, 186, 66, 187, 188, 189, 190, 65, 191, 192, 193, 194, 60, 61, 62, 840, 841, 842, 843, 844, 845, 846, 847, 848, 849, 850, 887, 888, 889, 890, 891, 892, 893] (by decide +kernel) (by decide +kernel)) (goodIn_sub (fun _ h => List.mem_append_left _ (List.mem_append_left _ (List.mem_append_right _ h))) (by decide +kernel))) (goodIn_sub (fun _ h => List.mem_append_left _ (List.mem_append_right _ h)) (by decide +kernel))
set_option maxRecDepth 20000 in
theorem gL_law_L_ploughman : GoodIn wsL_law (va_wsS RL 69 yL_ploughman wsL_ploughman) := goodIn_app (goodIn_of _ (by decide +kernel)) ggL_law_L_ploughman
set_option maxRecDepth 20000 in
theorem ggL_law_X10_ploughman : GoodIn wsL_law wsX10_ploughman := goodIn_r _ [198, 199, 200, 201, 139, 140, 141, 202, 203, 204, 5, 205, 851, 852, 853, 854, 855, 856, 857, 858, 859, 860, 861, 862, 863, 864, 865, 866, 867, 868, 869, 870, 871, 872, 873, 874, 875, 876, 877, 878, 879, 880, 881, 882, 883, 884] (by decide +kernel) (by decide +kernel)
set_option maxRecDepth 20000 in
theorem gL_law_X10_ploughman : GoodIn wsL_law (wsV RL 74 RX10 yX10_ploughman wsX10_ploughman) := goodIn_app (goodIn_of _ (by decide +kernel)) ggL_law_X10_ploughman
set_option maxRecDepth 20000 in
theorem ggL_law_X10_thrown : GoodIn wsL_law wsX10_thrown := goodIn_r _ [209, 199, 851, 852, 853, 854, 855, 856, 857, 858, 859, 860, 861, 862, 863, 864, 865, 866, 867, 868, 869, 870, 871, 872, 873, 874, 875, 876, 877, 878, 879, 880, 881, 882, 883, 884] (by decide +kernel) (by decide +kernel)
set_option maxRecDepth 20000 in
theorem gL_law_X10_thrown : GoodIn wsL_law (wsV RL 75 RX10 yX10_thrown wsX10_thrown) := goodIn_app (goodIn_of _ (by decide +kernel)) ggL_law_X10_thrown
set_option maxRecDepth 20000 in
theorem ggL_law_X9_noise : GoodIn wsL_law wsX9_noise := goodIn_r _ [213, 16, 214, 215, 216, 15, 217, 56, 55, 840, 841, 842, 843, 844, 845, 846, 847, 848, 849, 850, 885, 886] (by decide +kernel) (by decide +kernel)
set_option maxRecDepth 20000 in
theorem gL_law_X9_noise : GoodIn wsL_law (wsV RL 78 RX9 yX9_noise wsX9_noise) := goodIn_app (goodIn_of _ (by decide +kernel)) ggL_law_X9_noise
set_option maxRecDepth 20000 in
theorem ggL_law_X10_noise : GoodIn wsL_law wsX10_noise := goodIn_r _ [221, 199, 222, 142, 851, 852, 853, 854, 855, 856, 857, 858, 859, 860, 861, 862, 863, 864, 865, 866, 867, 868, 869, 870, 871, 872, 873, 874, 875, 876, 877, 878, 879, 880, 881, 882, 883, 884] (by decide +kernel) (by decide +kernel)
set_option maxRecDepth 20000 in
theorem gL_law_X10_noise : GoodIn wsL_law (wsV RL 81 RX10 yX10_noise wsX10_noise) := goodIn_app (goodIn_of _ (by decide +kernel)) ggL_law_X10_noise
set_option maxRecDepth 20000 in
theorem ggL_law_L_draw : GoodIn wsL_law wsL_draw := goodIn_ca (goodIn_r _ [225, 168, 226, 227, 228, 2, 229, 173, 174, 20, 16, 24, 183, 184, 185, 19, 186, 66, 230, 231, 232, 233, 65, 234, 235, 236, 15, 237, 56, 238, 239, 240, 241, 63, 64, 242, 243, 244, 245, 55, 246, 176, 177, 247, 248, 249, 250, 251, 252, 253, 23, 254, 76, 840, 841, 842, 843, 844, 845, 846, 847, 848, 849, 850, 887, 888, 889, 890, 891, 892, 893, 885, 886, 894, 895, 896, 897, 898, 899, 900] (by decide +kernel) (by decide +kernel)) (goodIn_sub (fun _ h => List.mem_append_left _ (List.mem_append_left _ (List.mem_append_right _ h))) (by decide +kernel))
set_option maxRecDepth 20000 in
theorem gL_law_L_draw : GoodIn wsL_law (va_wsS RL 82 yL_draw wsL_draw) := goodIn_app (goodIn_of _ (by decide +kernel)) ggL_law_L_draw
set_option maxRecDepth 20000 in
theorem ggL_law_X10_draw : GoodIn wsL_law wsX10_draw := goodIn_r _ [258, 199, 201, 222, 200, 259, 143, 142, 260, 202, 203, 204, 5, 205, 851, 852, 853, 854, 855, 856, 857, 858, 859, 860, 861, 862, 863, 864, 865, 866, 867, 868, 869, 870, 871, 872, 873, 874, 875, 876, 877, 878, 879, 880, 881, 882, 883, 884] (by decide +kernel) (by decide +kernel)
set_option maxRecDepth 20000 in
theorem gL_law_X10_draw : GoodIn wsL_law (wsV RL 85 RX10 yX10_draw wsX10_draw) := goodIn_app (goodIn_of _ (by decide +kernel)) ggL_law_X10_draw
set_option maxRecDepth 20000 in
theorem ggL_law_L_plot : GoodIn wsL_law wsL_plot := goodIn_ca (goodIn_r _ [263, 264, 265, 266, 267, 2, 268, 20, 230, 231, 232, 19, 233, 65, 269, 270, 271, 272, 273, 175, 176, 177, 183, 184, 185, 186, 66, 274, 275, 276, 277, 63, 840, 841, 842, 843, 844, 845, 846, 847, 848, 849, 850, 887, 888, 889, 890, 891, 892, 893] (by decide +kernel) (by decide +kernel)) (goodIn_sub (fun _ h => List.mem_append_right _ h) (by decide +kernel))
set_option maxRecDepth 20000 in
theorem gL_law_L_plot : GoodIn wsL_law (va_wsS RL 86 yL_plot wsL_plot) := goodIn_app (goodIn_of _ (by decide +kernel)) ggL_law_L_plot
set_option maxRecDepth 20000 in
theorem ggL_law_X10_plot : GoodIn wsL_law wsX10_plot := goodIn_r _ [281, 201, 143, 282, 283, 284, 5, 285, 200, 199, 851, 852, 853, 854, 855, 856, 857, 858, 859, 860, 861, 862, 863, 864, 865, 866, 867, 868, 869, 870, 871, 872, 873, 874, 875, 876, 877, 878, 879, 880, 881, 882, 883, 884] (by decide +kernel) (by decide +kernel)
set_option maxRecDepth 20000 in
theorem gL_law_X10_plot : GoodIn wsL_law (wsV RL 89 RX10 yX10_plot wsX10_plot) := goodIn_app (goodIn_of _ (by decide +kernel)) ggL_law_X10_plot
set_option maxRecDepth 20000 in
theorem ggL_law_L_mark : GoodIn wsL_law wsL_mark := goodIn_ca (goodIn_ca (goodIn_r _ [288, 264, 167, 289, 290, 291, 2, 292, 20, 24, 293, 294, 295, 19, 296, 66, 65, 269, 270, 271, 272, 273, 175, 176, 177, 178, 179, 180, 181, 182, 297, 298, 299, 23, 300, 71, 77, 301, 302, 303, 304, 305, 306, 307, 72, 76, 73, 308, 309, 310, 311, 312, 313, 314, 315, 316, 317, 318, 319, 78, 320, 321, 322, 323, 324, 325, 326, 327, 74, 328, 329, 330, 331, 332, 333, 334, 335, 75, 336, 337, 338, 339, 840, 841, 842, 843, 844, 845, 846, 847, 848, 849, 850, 887, 888, 889, 890, 891, 892, 893, 894, 895, 896, 897, 898, 899, 900] (by decide +kernel) (by decide +kernel)) (goodIn_sub (fun _ h => List.mem_append_right _ h) (by decide +kernel))) (goodIn_sub (fun _ h => List.mem_append_left _ (List.mem_append_right _ h)) (by decide +kernel))
set_option maxRecDepth 20000 in
theorem gL_law_L_mark : GoodIn wsL_law (va_wsS RL 90 yL_mark wsL_mark) := goodIn_app (goodIn_of _ (by decide +kernel)) ggL_law_L_mark
set_option maxRecDepth 20000 in
theorem ggL_law_X10_mark : GoodIn wsL_law wsX10_mark := goodIn_r _ [343, 144, 259, 344, 345, 346, 5, 347, 201, 199, 348, 349, 350, 202, 203, 204, 205, 351, 352, 353, 354, 851, 852, 853, 854, 855, 856, 857, 858, 859, 860, 861, 862, 863, 864, 865, 866, 867, 868, 869, 870, 871, 872, 873, 874, 875, 876, 877, 878, 879, 880, 881, 882, 883, 884] (by decide +kernel) (by decide +kernel)
set_option maxRecDepth 20000 in
theorem gL_law_X10_mark : GoodIn wsL_law (wsV RL 93 RX10 yX10_mark wsX10_mark) := goodIn_app (goodIn_of _ (by decide +kernel)) ggL_law_X10_mark
set_option maxRecDepth 20000 in
theorem ggL_law_L_hard : GoodIn wsL_law wsL_hard := goodIn_ca (goodIn_r _ [357, 167, 358, 359, 360, 2, 361, 24, 175, 176, 177, 178, 179, 180, 181, 182, 362, 321, 322, 23, 323, 72, 840, 841, 842, 843, 844, 845, 846, 847, 848, 849, 850, 894, 895, 896, 897, 898, 899, 900] (by decide +kernel) (by decide +kernel)) (goodIn_sub (fun _ h => List.mem_append_left _ (List.mem_append_right _ h)) (by decide +kernel))
set_option maxRecDepth 20000 in
theorem gL_law_L_hard : GoodIn wsL_law (va_wsS RL 94 yL_hard wsL_hard) := goodIn_app (goodIn_of _ (by decide +kernel)) ggL_law_L_hard
