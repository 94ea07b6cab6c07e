set_option maxRecDepth 20000 in
theorem ggL_law_X10_rank : GoodIn wsL_law wsX10_rank := goodIn_r _ [700, 199, 201, 202, 203, 204, 5, 205, 701, 702, 703, 704, 200, 162, 157, 153, 705, 706, 707, 708, 143, 148, 140, 452, 453, 454, 455, 150, 149, 444, 445, 446, 447, 147, 390, 391, 392, 393, 259, 145, 146, 394, 367, 368, 369, 370, 351, 352, 353, 354, 144, 371, 372, 373, 395, 396, 397, 398, 448, 449, 450, 451, 386, 387, 388, 389, 709, 710, 711, 712, 139, 713, 714, 715, 716, 154, 851, 852, 853, 854, 855, 856, 857, 858, 859, 860, 861, 862, 863, 864, 865, 866, 867, 868, 869, 870, 871, 872, 873, 874, 875, 876, 877, 878, 879, 880, 881, 882, 883, 884] (by decide +kernel) (by decide +kernel)
set_option maxRecDepth 20000 in
theorem gL_law_X10_rank : GoodIn wsL_law (wsV RL 120 RX10 yX10_rank wsX10_rank) := goodIn_app (goodIn_of _ (by decide +kernel)) ggL_law_X10_rank
set_option maxRecDepth 20000 in
theorem ggL_law_L_protest : GoodIn wsL_law wsL_protest := goodIn_ca (goodIn_ca (goodIn_r _ [719, 264, 167, 720, 721, 722, 2, 723, 20, 28, 293, 294, 295, 19, 296, 66, 65, 269, 270, 271, 272, 273, 175, 176, 177, 178, 179, 180, 181, 182, 724, 725, 726, 27, 727, 88, 840, 841, 842, 843, 844, 845, 846, 847, 848, 849, 850, 887, 888, 889, 890, 891, 892, 893, 901, 902, 903, 904] (by decide +kernel) (by decide +kernel)) (goodIn_sub (fun _ h => List.mem_append_right _ h) (by decide +kernel))) (goodIn_sub (fun _ h => List.mem_append_left _ (List.mem_append_right _ h)) (by decide +kernel))
set_option maxRecDepth 20000 in
theorem gL_law_L_protest : GoodIn wsL_law (va_wsS RL 121 yL_protest wsL_protest) := goodIn_app (goodIn_of _ (by decide +kernel)) ggL_law_L_protest
set_option maxRecDepth 20000 in
theorem ggL_law_X10_protest : GoodIn wsL_law wsX10_protest := goodIn_r _ [731, 149, 344, 345, 346, 5, 347, 201, 199, 202, 203, 204, 205, 851, 852, 853, 854, 855, 856, 857, 858, 859, 860, 861, 862, 863, 864, 865, 866, 867, 868, 869, 870, 871, 872, 873, 874, 875, 876, 877, 878, 879, 880, 881, 882, 883, 884] (by decide +kernel) (by decide +kernel)
set_option maxRecDepth 20000 in
theorem gL_law_X10_protest : GoodIn wsL_law (wsV RL 123 RX10 yX10_protest wsX10_protest) := goodIn_app (goodIn_of _ (by decide +kernel)) ggL_law_X10_protest
set_option maxRecDepth 20000 in
theorem ggL_law_X9_publish : GoodIn wsL_law wsX9_publish := goodIn_r _ [735, 20, 50, 48, 51, 183, 184, 185, 19, 186, 66, 736, 80, 81, 82, 737, 738, 739, 2, 740, 44, 741, 742, 743, 744, 745, 658, 659, 660, 43, 661, 118, 119, 117, 662, 231, 232, 233, 65, 663, 664, 665, 666, 60, 667, 668, 669, 670, 122, 671, 623, 624, 35, 625, 102, 672, 673, 674, 675, 99, 676, 677, 678, 679, 121, 120, 680, 275, 276, 277, 63, 681, 427, 428, 27, 429, 90, 88, 430, 407, 408, 23, 409, 74, 431, 415, 416, 417, 75, 432, 433, 434, 435, 87, 89, 682, 683, 419, 420, 421, 684, 685, 686, 687, 61, 688, 329, 330, 331, 73, 689, 690, 691, 692, 101, 746, 747, 748, 749, 693, 694, 695, 696, 176, 177, 750, 751, 752, 753, 62, 754, 755, 756, 47, 757, 130, 129, 126, 127, 128, 758, 759, 760, 761, 840, 841, 842, 843, 844, 845, 846, 847, 848, 849, 850, 887, 888, 889, 890, 891, 892, 893, 915, 916, 917, 918, 919, 920, 907, 908, 909, 901, 902, 903, 904, 894, 895, 896, 897, 898, 899, 900, 921, 922, 923, 924, 925] (by decide +kernel) (by decide +kernel)
set_option maxRecDepth 20000 in
theorem gL_law_X9_publish : GoodIn wsL_law (wsV RL 124 RX9 yX9_publish wsX9_publish) := goodIn_app (goodIn_of _ (by decide +kernel)) ggL_law_X9_publish
set_option maxRecDepth 20000 in
theorem ggL_law_X10_publish : GoodIn wsL_law wsX10_publish := goodIn_r _ [765, 199, 201, 161, 141, 766, 767, 158, 159, 160, 701, 702, 703, 5, 704, 200, 162, 157, 153, 705, 706, 707, 708, 143, 148, 140, 452, 453, 454, 455, 150, 149, 444, 445, 446, 447, 147, 390, 391, 392, 393, 259, 145, 146, 394, 367, 368, 369, 370, 351, 352, 353, 354, 144, 371, 372, 373, 395, 396, 397, 398, 448, 449, 450, 451, 386, 387, 388, 389, 709, 710, 711, 712, 139, 713, 714, 715, 716, 154, 768, 769, 770, 771, 772, 773, 774, 851, 852, 853, 854, 855, 856, 857, 858, 859, 860, 861, 862, 863, 864, 865, 866, 867, 868, 869, 870, 871, 872, 873, 874, 875, 876, 877, 878, 879, 880, 881, 882, 883, 884] (by decide +kernel) (by decide +kernel)
set_option maxRecDepth 20000 in
theorem gL_law_X10_publish : GoodIn wsL_law (wsV RL 127 RX10 yX10_publish wsX10_publish) := goodIn_app (goodIn_of _ (by decide +kernel)) ggL_law_X10_publish
set_option maxRecDepth 20000 in
theorem ggL_law_L_points : GoodIn wsL_law wsL_points := goodIn_ca (goodIn_r _ [777, 167, 778, 779, 780, 2, 781, 48, 175, 176, 177, 178, 179, 180, 181, 182, 782, 783, 784, 47, 785, 130, 127, 126, 128, 840, 841, 842, 843, 844, 845, 846, 847, 848, 849, 850, 921, 922, 923, 924, 925] (by decide +kernel) (by decide +kernel)) (goodIn_sub (fun _ h => List.mem_append_left _ (List.mem_append_right _ h)) (by decide +kernel))
set_option maxRecDepth 20000 in
theorem gL_law_L_points : GoodIn wsL_law (va_wsS RL 128 yL_points wsL_points) := goodIn_app (goodIn_of _ (by decide +kernel)) ggL_law_L_points
set_option maxRecDepth 20000 in
theorem ggL_law_X10_points : GoodIn wsL_law wsX10_points := goodIn_r _ [789, 199, 202, 203, 204, 5, 205, 771, 772, 773, 774, 767, 159, 158, 160, 851, 852, 853, 854, 855, 856, 857, 858, 859, 860, 861, 862, 863, 864, 865, 866, 867, 868, 869, 870, 871, 872, 873, 874, 875, 876, 877, 878, 879, 880, 881, 882, 883, 884] (by decide +kernel) (by decide +kernel)
set_option maxRecDepth 20000 in
theorem gL_law_X10_points : GoodIn wsL_law (wsV RL 130 RX10 yX10_points wsX10_points) := goodIn_app (goodIn_of _ (by decide +kernel)) ggL_law_X10_points
set_option maxRecDepth 20000 in
theorem ggL_law_L_line : GoodIn wsL_law wsL_line := goodIn_ca (goodIn_ca (goodIn_r _ [792, 264, 167, 793, 794, 795, 2, 796, 181, 182, 48, 797, 798, 799, 47, 800, 130, 269, 270, 271, 272, 273, 175, 176, 177, 801, 802, 803, 804, 126, 805, 806, 807, 808, 127, 809, 810, 811, 812, 128, 840, 841, 842, 843, 844, 845, 846, 847, 848, 849, 850, 921, 922, 923, 924, 925] (by decide +kernel) (by decide +kernel)) (goodIn_sub (fun _ h => List.mem_append_left _ (List.mem_append_right _ h)) (by decide +kernel))) (goodIn_sub (fun _ h => List.mem_append_right _ h) (by decide +kernel))
set_option maxRecDepth 20000 in
theorem gL_law_L_line : GoodIn wsL_law (va_wsS RL 131 yL_line wsL_line) := goodIn_app (goodIn_of _ (by decide +kernel)) ggL_law_L_line
set_option maxRecDepth 20000 in
theorem ggL_law_X10_line : GoodIn wsL_law wsX10_line := goodIn_r _ [816, 199, 767, 158, 159, 160, 202, 203, 204, 5, 205, 851, 852, 853, 854, 855, 856, 857, 858, 859, 860, 861, 862, 863, 864, 865, 866, 867, 868, 869, 870, 871, 872, 873, 874, 875, 876, 877, 878, 879, 880, 881, 882, 883, 884] (by decide +kernel) (by decide +kernel)
set_option maxRecDepth 20000 in
theorem gL_law_X10_line : GoodIn wsL_law (wsV RL 133 RX10 yX10_line wsX10_line) := goodIn_app (goodIn_of _ (by decide +kernel)) ggL_law_X10_line
set_option maxRecDepth 20000 in
theorem ggL_law_L_wait : GoodIn wsL_law wsL_wait := goodIn_ca (goodIn_r _ [819, 167, 820, 821, 822, 2, 823, 51, 178, 179, 180, 181, 182, 840, 841, 842, 843, 844, 845, 846, 847, 848, 849, 850] (by decide +kernel) (by decide +kernel)) (goodIn_sub (fun _ h => List.mem_append_left _ (List.mem_append_right _ h)) (by decide +kernel))
set_option maxRecDepth 20000 in
theorem gL_law_L_wait : GoodIn wsL_law (va_wsS RL 134 yL_wait wsL_wait) := goodIn_app (goodIn_of _ (by decide +kernel)) ggL_law_L_wait
set_option maxRecDepth 20000 in
theorem ggL_law_X10_wait : GoodIn wsL_law wsX10_wait := goodIn_r _ [827, 199, 766, 202, 203, 204, 5, 205, 851, 852, 853, 854, 855, 856, 857, 858, 859, 860, 861, 862, 863, 864, 865, 866, 867, 868, 869, 870, 871, 872, 873, 874, 875, 876, 877, 878, 879, 880, 881, 882, 883, 884] (by decide +kernel) (by decide +kernel)
set_option maxRecDepth 20000 in
theorem gL_law_X10_wait : GoodIn wsL_law (wsV RL 136 RX10 yX10_wait wsX10_wait) := goodIn_app (goodIn_of _ (by decide +kernel)) ggL_law_X10_wait
set_option maxRecDepth 20000 in
theorem ggL_law_X9_count : GoodIn wsL_law wsX9_count := goodIn_r _ [831, 20, 24, 36, 48, 51, 16, 32, 230, 231, 232, 19, 233, 65, 293, 294, 295, 296, 66, 832, 833, 834, 23, 835, 77, 622, 623, 624, 35, 625, 102, 797, 798, 799, 47, 800, 130, 234, 235, 236, 15, 237, 56, 501, 502, 503, 31, 504, 95, 840, 841, 842, 843, 844, 845, 846, 847, 848, 849, 850, 887, 888, 889, 890, 891, 892, 893, 894, 895, 896, 897, 898, 899, 900, 907, 908, 909, 921, 922, 923, 924, 925, 885, 886, 905, 906] (by decide +kernel) (by decide +kernel)
set_option maxRecDepth 20000 in
theorem gL_law_X9_count : GoodIn wsL_law (wsV RL 137 RX9 yX9_count wsX9_count) := goodIn_app (goodIn_of _ (by decide +kernel)) ggL_law_X9_count
set_option maxRecDepth 20000 in
theorem ggL_law_X10_count : GoodIn wsL_law wsX10_count := goodIn_r _ [839, 199, 200, 201, 144, 162, 767, 766, 222, 509, 851, 852, 853, 854, 855, 856, 857, 858, 859, 860, 861, 862, 863, 864, 865, 866, 867, 868, 869, 870, 871, 872, 873, 874, 875, 876, 877, 878, 879, 880, 881, 882, 883, 884] (by decide +kernel) (by decide +kernel)
set_option maxRecDepth 20000 in
theorem gL_law_X10_count : GoodIn wsL_law (wsV RL 140 RX10 yX10_count wsX10_count) := goodIn_app (goodIn_of _ (by decide +kernel)) ggL_law_X10_count
