set_option maxRecDepth 20000 in
theorem ggL_law_X10_hard : GoodIn wsL_law wsX10_hard := goodIn_r _ [366, 199, 348, 349, 5, 350, 202, 203, 204, 205, 367, 368, 369, 370, 201, 351, 352, 353, 354, 144, 371, 372, 373, 851, 852, 853, 854, 855, 856, 857, 858, 859, 860, 861, 862, 863, 864, 865, 866, 867, 868, 869, 870, 871, 872, 873, 874, 875, 876, 877, 878, 879, 880, 881, 882, 883, 884] (by decide +kernel) (by decide +kernel)
set_option maxRecDepth 20000 in
theorem gL_law_X10_hard : GoodIn wsL_law (wsV RL 97 RX10 yX10_hard wsX10_hard) := goodIn_app (goodIn_of _ (by decide +kernel)) ggL_law_X10_hard
set_option maxRecDepth 20000 in
theorem ggL_law_L_told : GoodIn wsL_law wsL_told := goodIn_ca (goodIn_ca (goodIn_r _ [376, 264, 167, 377, 378, 379, 2, 380, 20, 24, 293, 294, 295, 19, 296, 66, 65, 269, 270, 271, 272, 273, 175, 176, 177, 178, 179, 180, 181, 182, 381, 329, 330, 23, 331, 73, 840, 841, 842, 843, 844, 845, 846, 847, 848, 849, 850, 887, 888, 889, 890, 891, 892, 893, 894, 895, 896, 897, 898, 899, 900] (by decide +kernel) (by decide +kernel)) (goodIn_sub (fun _ h => List.mem_append_right _ h) (by decide +kernel))) (goodIn_sub (fun _ h => List.mem_append_left _ (List.mem_append_right _ h)) (by decide +kernel))
set_option maxRecDepth 20000 in
theorem gL_law_L_told : GoodIn wsL_law (va_wsS RL 98 yL_told wsL_told) := goodIn_app (goodIn_of _ (by decide +kernel)) ggL_law_L_told
set_option maxRecDepth 20000 in
theorem ggL_law_X10_told : GoodIn wsL_law wsX10_told := goodIn_r _ [385, 344, 345, 346, 5, 347, 201, 199, 348, 349, 350, 202, 203, 204, 205, 386, 387, 388, 389, 146, 390, 391, 392, 393, 259, 145, 147, 394, 367, 368, 369, 370, 351, 352, 353, 354, 144, 371, 372, 373, 395, 396, 397, 398, 851, 852, 853, 854, 855, 856, 857, 858, 859, 860, 861, 862, 863, 864, 865, 866, 867, 868, 869, 870, 871, 872, 873, 874, 875, 876, 877, 878, 879, 880, 881, 882, 883, 884] (by decide +kernel) (by decide +kernel)
set_option maxRecDepth 20000 in
theorem gL_law_X10_told : GoodIn wsL_law (wsV RL 100 RX10 yX10_told wsX10_told) := goodIn_app (goodIn_of _ (by decide +kernel)) ggL_law_X10_told
set_option maxRecDepth 20000 in
theorem ggL_law_L_about : GoodIn wsL_law wsL_about := goodIn_ca (goodIn_ca (goodIn_r _ [401, 264, 167, 402, 403, 404, 2, 405, 181, 182, 20, 24, 28, 293, 294, 295, 19, 296, 66, 65, 269, 270, 271, 272, 273, 175, 176, 177, 406, 407, 408, 23, 409, 74, 410, 411, 412, 413, 78, 328, 329, 330, 331, 73, 414, 415, 416, 417, 75, 418, 419, 420, 27, 421, 87, 422, 423, 424, 425, 88, 426, 427, 428, 429, 90, 430, 431, 432, 433, 434, 435, 89, 436, 437, 438, 439, 64, 840, 841, 842, 843, 844, 845, 846, 847, 848, 849, 850, 887, 888, 889, 890, 891, 892, 893, 894, 895, 896, 897, 898, 899, 900, 901, 902, 903, 904] (by decide +kernel) (by decide +kernel)) (goodIn_sub (fun _ h => List.mem_append_left _ (List.mem_append_right _ h)) (by decide +kernel))) (goodIn_sub (fun _ h => List.mem_append_right _ h) (by decide +kernel))
set_option maxRecDepth 20000 in
theorem gL_law_L_about : GoodIn wsL_law (va_wsS RL 101 yL_about wsL_about) := goodIn_app (goodIn_of _ (by decide +kernel)) ggL_law_L_about
set_option maxRecDepth 20000 in
theorem ggL_law_X10_about : GoodIn wsL_law wsX10_about := goodIn_r _ [443, 394, 148, 149, 143, 344, 345, 346, 5, 347, 201, 199, 202, 203, 204, 205, 444, 445, 446, 447, 147, 390, 391, 392, 393, 259, 145, 146, 367, 368, 369, 370, 351, 352, 353, 354, 144, 371, 372, 373, 395, 396, 397, 398, 386, 387, 388, 389, 448, 449, 450, 451, 452, 453, 454, 455, 150, 851, 852, 853, 854, 855, 856, 857, 858, 859, 860, 861, 862, 863, 864, 865, 866, 867, 868, 869, 870, 871, 872, 873, 874, 875, 876, 877, 878, 879, 880, 881, 882, 883, 884] (by decide +kernel) (by decide +kernel)
set_option maxRecDepth 20000 in
theorem gL_law_X10_about : GoodIn wsL_law (wsV RL 103 RX10 yX10_about wsX10_about) := goodIn_app (goodIn_of _ (by decide +kernel)) ggL_law_X10_about
set_option maxRecDepth 20000 in
theorem ggL_law_L_minutes : GoodIn wsL_law wsL_minutes := goodIn_ca (goodIn_ca (goodIn_r _ [458, 264, 167, 459, 460, 461, 2, 462, 20, 28, 293, 294, 295, 19, 296, 66, 65, 269, 270, 271, 272, 273, 175, 176, 177, 178, 179, 180, 181, 182, 463, 464, 465, 27, 466, 87, 840, 841, 842, 843, 844, 845, 846, 847, 848, 849, 850, 887, 888, 889, 890, 891, 892, 893, 901, 902, 903, 904] (by decide +kernel) (by decide +kernel)) (goodIn_sub (fun _ h => List.mem_append_right _ h) (by decide +kernel))) (goodIn_sub (fun _ h => List.mem_append_left _ (List.mem_append_right _ h)) (by decide +kernel))
set_option maxRecDepth 20000 in
theorem gL_law_L_minutes : GoodIn wsL_law (va_wsS RL 104 yL_minutes wsL_minutes) := goodIn_app (goodIn_of _ (by decide +kernel)) ggL_law_L_minutes
set_option maxRecDepth 20000 in
theorem ggL_law_X10_minutes : GoodIn wsL_law wsX10_minutes := goodIn_r _ [470, 148, 344, 345, 346, 5, 347, 201, 199, 471, 472, 473, 202, 203, 204, 205, 851, 852, 853, 854, 855, 856, 857, 858, 859, 860, 861, 862, 863, 864, 865, 866, 867, 868, 869, 870, 871, 872, 873, 874, 875, 876, 877, 878, 879, 880, 881, 882, 883, 884] (by decide +kernel) (by decide +kernel)
set_option maxRecDepth 20000 in
theorem gL_law_X10_minutes : GoodIn wsL_law (wsV RL 106 RX10 yX10_minutes wsX10_minutes) := goodIn_app (goodIn_of _ (by decide +kernel)) ggL_law_X10_minutes
set_option maxRecDepth 20000 in
theorem ggL_law_L_limit : GoodIn wsL_law wsL_limit := goodIn_ca (goodIn_r _ [476, 167, 477, 478, 479, 2, 480, 28, 178, 179, 180, 181, 182, 481, 482, 483, 27, 484, 89, 840, 841, 842, 843, 844, 845, 846, 847, 848, 849, 850, 901, 902, 903, 904] (by decide +kernel) (by decide +kernel)) (goodIn_sub (fun _ h => List.mem_append_left _ (List.mem_append_right _ h)) (by decide +kernel))
set_option maxRecDepth 20000 in
theorem gL_law_L_limit : GoodIn wsL_law (va_wsS RL 107 yL_limit wsL_limit) := goodIn_app (goodIn_of _ (by decide +kernel)) ggL_law_L_limit
set_option maxRecDepth 20000 in
theorem ggL_law_X10_limit : GoodIn wsL_law wsX10_limit := goodIn_r _ [488, 199, 150, 471, 472, 5, 473, 202, 203, 204, 205, 851, 852, 853, 854, 855, 856, 857, 858, 859, 860, 861, 862, 863, 864, 865, 866, 867, 868, 869, 870, 871, 872, 873, 874, 875, 876, 877, 878, 879, 880, 881, 882, 883, 884] (by decide +kernel) (by decide +kernel)
set_option maxRecDepth 20000 in
theorem gL_law_X10_limit : GoodIn wsL_law (wsV RL 109 RX10 yX10_limit wsX10_limit) := goodIn_app (goodIn_of _ (by decide +kernel)) ggL_law_X10_limit
set_option maxRecDepth 20000 in
theorem ggL_law_X9_feed : GoodIn wsL_law wsX9_feed := goodIn_r _ [492, 32, 493, 494, 495, 31, 496, 95, 497, 498, 499, 500, 94, 501, 502, 503, 504, 840, 841, 842, 843, 844, 845, 846, 847, 848, 849, 850, 905, 906] (by decide +kernel) (by decide +kernel)
set_option maxRecDepth 20000 in
theorem gL_law_X9_feed : GoodIn wsL_law (wsV RL 110 RX9 yX9_feed wsX9_feed) := goodIn_app (goodIn_of _ (by decide +kernel)) ggL_law_X9_feed
set_option maxRecDepth 20000 in
theorem ggL_law_X10_feed : GoodIn wsL_law wsX10_feed := goodIn_r _ [508, 199, 509, 152, 851, 852, 853, 854, 855, 856, 857, 858, 859, 860, 861, 862, 863, 864, 865, 866, 867, 868, 869, 870, 871, 872, 873, 874, 875, 876, 877, 878, 879, 880, 881, 882, 883, 884] (by decide +kernel) (by decide +kernel)
set_option maxRecDepth 20000 in
theorem gL_law_X10_feed : GoodIn wsL_law (wsV RL 114 RX10 yX10_feed wsX10_feed) := goodIn_app (goodIn_of _ (by decide +kernel)) ggL_law_X10_feed
set_option maxRecDepth 20000 in
theorem ggL_law_L_rule : GoodIn wsL_law wsL_rule := goodIn_ca (goodIn_r _ [512, 167, 513, 514, 515, 2, 516, 32, 40, 36, 501, 502, 503, 31, 504, 95, 178, 179, 180, 181, 182, 517, 518, 519, 520, 521, 522, 523, 39, 524, 112, 109, 110, 108, 525, 526, 527, 528, 35, 529, 102, 530, 531, 532, 533, 111, 534, 535, 536, 537, 538, 539, 540, 541, 542, 543, 544, 545, 546, 547, 548, 549, 94, 550, 551, 552, 553, 554, 555, 556, 557, 558, 559, 560, 561, 562, 563, 564, 565, 566, 567, 568, 569, 570, 571, 572, 573, 574, 575, 576, 577, 578, 579, 580, 581, 582, 583, 584, 585, 586, 587, 588, 589, 590, 591, 592, 593, 594, 595, 596, 597, 598, 599, 600, 601, 602, 603, 604, 605, 606, 607, 132, 133, 134, 99, 101, 608, 609, 610, 611, 612, 613, 614, 615, 616, 617, 618, 619, 620, 621, 622, 623, 624, 625, 840, 841, 842, 843, 844, 845, 846, 847, 848, 849, 850, 905, 906, 910, 911, 912, 913, 914, 907, 908, 909] (by decide +kernel) (by decide +kernel)) (goodIn_sub (fun _ h => List.mem_append_left _ (List.mem_append_right _ h)) (by decide +kernel))
set_option maxRecDepth 20000 in
theorem gL_law_L_rule : GoodIn wsL_law (va_wsS RL 115 yL_rule wsL_rule) := goodIn_app (goodIn_of _ (by decide +kernel)) ggL_law_L_rule
set_option maxRecDepth 20000 in
theorem ggL_law_X10_rule : GoodIn wsL_law wsX10_rule := goodIn_r _ [629, 199, 509, 630, 631, 632, 153, 155, 154, 156, 162, 202, 203, 204, 5, 205, 633, 634, 635, 636, 637, 638, 639, 640, 641, 642, 643, 644, 645, 646, 647, 648, 152, 649, 555, 556, 557, 558, 559, 560, 561, 562, 563, 564, 565, 650, 567, 568, 569, 570, 571, 572, 573, 574, 575, 576, 577, 578, 579, 580, 581, 582, 583, 584, 585, 586, 587, 588, 589, 590, 591, 592, 593, 594, 595, 596, 597, 598, 599, 600, 601, 602, 851, 852, 853, 854, 855, 856, 857, 858, 859, 860, 861, 862, 863, 864, 865, 866, 867, 868, 869, 870, 871, 872, 873, 874, 875, 876, 877, 878, 879, 880, 881, 882, 883, 884] (by decide +kernel) (by decide +kernel)
set_option maxRecDepth 20000 in
theorem gL_law_X10_rule : GoodIn wsL_law (wsV RL 117 RX10 yX10_rule wsX10_rule) := goodIn_app (goodIn_of _ (by decide +kernel)) ggL_law_X10_rule
set_option maxRecDepth 20000 in
theorem ggL_law_L_rank : GoodIn wsL_law wsL_rank := goodIn_ca (goodIn_r _ [653, 167, 654, 655, 656, 2, 657, 20, 44, 175, 176, 177, 178, 179, 180, 181, 182, 183, 184, 185, 19, 186, 66, 658, 659, 660, 43, 661, 118, 119, 117, 662, 231, 232, 233, 65, 663, 664, 665, 666, 60, 667, 668, 669, 670, 122, 671, 623, 624, 35, 625, 102, 672, 673, 674, 675, 99, 676, 677, 678, 679, 121, 120, 680, 275, 276, 277, 63, 681, 427, 428, 27, 429, 90, 88, 430, 407, 408, 23, 409, 74, 431, 415, 416, 417, 75, 432, 433, 434, 435, 87, 89, 682, 683, 419, 420, 421, 684, 685, 686, 687, 61, 688, 329, 330, 331, 73, 689, 690, 691, 692, 101, 693, 694, 695, 696, 840, 841, 842, 843, 844, 845, 846, 847, 848, 849, 850, 887, 888, 889, 890, 891, 892, 893, 915, 916, 917, 918, 919, 920, 907, 908, 909, 901, 902, 903, 904, 894, 895, 896, 897, 898, 899, 900] (by decide +kernel) (by decide +kernel)) (goodIn_sub (fun _ h => List.mem_append_left _ (List.mem_append_right _ h)) (by decide +kernel))
set_option maxRecDepth 20000 in
theorem gL_law_L_rank : GoodIn wsL_law (va_wsS RL 118 yL_rank wsL_rank) := goodIn_app (goodIn_of _ (by decide +kernel)) ggL_law_L_rank
