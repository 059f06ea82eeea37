set_option maxRecDepth 20000 in
theorem gL_law_X6_firstError : GoodIn wsL_law (wsV RL 138 RX6 yX6_firstError wsX6_firstError) := goodIn_app (goodIn_of _ (by decide +kernel)) ggL_law_X6_firstError
set_option maxRecDepth 20000 in
theorem ggL_law_L_undo : GoodIn wsL_law wsL_undo := goodIn_ca (goodIn_r _ [658, 91, 659, 660, 661, 2, 662, 108, 109, 20, 16, 663, 664, 665, 19, 666, 119, 667, 668, 669, 670, 120, 57, 122, 123, 124, 15, 125, 114, 45, 126, 127, 128, 129, 130, 131, 35, 38, 132, 133, 134, 37, 135, 51, 136, 137, 138, 139, 140, 141, 142, 143, 144, 145, 146, 147, 970, 971, 972, 973, 974, 997, 998, 999, 991, 992, 993, 994, 995, 996, 1011, 1012, 1013] (by decide +kernel) (by decide +kernel)) (goodIn_sub (fun _ h => List.mem_append_left _ (List.mem_append_right _ h)) (by decide +kernel))
set_option maxRecDepth 20000 in
theorem gL_law_L_undo : GoodIn wsL_law (va_wsS RL 139 yL_undo wsL_undo) := goodIn_app (goodIn_of _ (by decide +kernel)) ggL_law_L_undo
set_option maxRecDepth 20000 in
theorem ggL_law_X6_undo : GoodIn wsL_law wsX6_undo := goodIn_r _ [674, 183, 172, 77, 78, 975, 976, 977, 978, 979, 980, 981, 982, 983, 984, 985, 986, 987, 988, 989, 990] (by decide +kernel) (by decide +kernel)
set_option maxRecDepth 20000 in
theorem gL_law_X6_undo : GoodIn wsL_law (wsV RL 141 RX6 yX6_undo wsX6_undo) := goodIn_app (goodIn_of _ (by decide +kernel)) ggL_law_X6_undo
set_option maxRecDepth 20000 in
theorem ggL_law_L_keep : GoodIn wsL_law wsL_keep := goodIn_ca (goodIn_r _ [677, 90, 678, 679, 680, 2, 681, 102, 103, 21, 13, 14, 15, 16, 30, 31, 32, 33, 11, 12, 34, 35, 36, 37, 38, 39, 40, 41, 42, 43, 44, 45, 46, 47, 48, 49, 50, 51, 682, 123, 124, 125, 114, 126, 127, 128, 129, 130, 131, 132, 133, 134, 135, 136, 137, 138, 139, 140, 141, 142, 143, 144, 145, 146, 147, 110, 111, 112, 113, 970, 971, 972, 973, 974, 991, 992, 993, 994, 995, 996, 1011, 1012, 1013] (by decide +kernel) (by decide +kernel)) (goodIn_sub (fun _ h => List.mem_append_left _ (List.mem_append_left _ (List.mem_append_right _ h))) (by decide +kernel))
set_option maxRecDepth 20000 in
theorem gL_law_L_keep : GoodIn wsL_law (va_wsS RL 142 yL_keep wsL_keep) := goodIn_app (goodIn_of _ (by decide +kernel)) ggL_law_L_keep
set_option maxRecDepth 20000 in
theorem ggL_law_X6_keep : GoodIn wsL_law wsX6_keep := goodIn_r _ [686, 172, 79, 77, 81, 176, 177, 5, 178, 975, 976, 977, 978, 979, 980, 981, 982, 983, 984, 985, 986, 987, 988, 989, 990] (by decide +kernel) (by decide +kernel)
set_option maxRecDepth 20000 in
theorem gL_law_X6_keep : GoodIn wsL_law (wsV RL 144 RX6 yX6_keep wsX6_keep) := goodIn_app (goodIn_of _ (by decide +kernel)) ggL_law_X6_keep
set_option maxRecDepth 20000 in
theorem ggL_law_L_goBack : GoodIn wsL_law wsL_goBack := goodIn_ca (goodIn_ca (goodIn_r _ [689, 90, 91, 690, 691, 692, 2, 693, 102, 103, 108, 109, 21, 20, 16, 115, 116, 117, 19, 118, 119, 120, 57, 56, 14, 15, 121, 31, 32, 33, 11, 12, 34, 35, 36, 37, 38, 39, 40, 41, 42, 43, 44, 45, 46, 47, 48, 49, 50, 51, 122, 123, 124, 125, 114, 126, 127, 128, 129, 130, 131, 132, 133, 134, 135, 136, 137, 138, 139, 140, 141, 142, 143, 144, 145, 146, 147, 682, 110, 111, 112, 113, 970, 971, 972, 973, 974, 997, 998, 999, 991, 992, 993, 994, 995, 996, 1011, 1012, 1013] (by decide +kernel) (by decide +kernel)) (goodIn_sub (fun _ h => List.mem_append_left _ (List.mem_append_left _ (List.mem_append_right _ h))) (by decide +kernel))) (goodIn_sub (fun _ h => List.mem_append_left _ (List.mem_append_right _ h)) (by decide +kernel))
set_option maxRecDepth 20000 in
theorem gL_law_L_goBack : GoodIn wsL_law (va_wsS RL 145 yL_goBack wsL_goBack) := goodIn_app (goodIn_of _ (by decide +kernel)) ggL_law_L_goBack
set_option maxRecDepth 20000 in
theorem ggL_law_X6_goBack : GoodIn wsL_law wsX6_goBack := goodIn_r _ [697, 81, 172, 77, 79, 176, 177, 5, 178, 179, 180, 181, 182, 183, 78, 975, 976, 977, 978, 979, 980, 981, 982, 983, 984, 985, 986, 987, 988, 989, 990] (by decide +kernel) (by decide +kernel)
set_option maxRecDepth 20000 in
theorem gL_law_X6_goBack : GoodIn wsL_law (wsV RL 147 RX6 yX6_goBack wsX6_goBack) := goodIn_app (goodIn_of _ (by decide +kernel)) ggL_law_X6_goBack
set_option maxRecDepth 20000 in
theorem ggL_law_L_point : GoodIn wsL_law wsL_point := goodIn_ca (goodIn_ca (goodIn_r _ [700, 293, 90, 701, 702, 703, 2, 704, 102, 103, 16, 300, 301, 302, 303, 304, 305, 306, 307, 298, 299, 110, 111, 112, 15, 113, 114, 308, 129, 130, 131, 35, 38, 351, 352, 353, 309, 245, 246, 37, 247, 136, 354, 318, 319, 320, 51, 355, 322, 323, 324, 705, 326, 327, 328, 706, 584, 585, 586, 137, 458, 459, 444, 416, 417, 418, 45, 232, 233, 707, 420, 421, 422, 423, 424, 425, 426, 427, 428, 429, 430, 431, 432, 433, 434, 435, 317, 321, 436, 437, 438, 439, 440, 441, 442, 443, 325, 708, 709, 710, 711, 583, 712, 713, 714, 715, 716, 717, 718, 719, 720, 721, 722, 723, 724, 473, 474, 475, 468, 469, 142, 470, 464, 465, 466, 467, 725, 726, 970, 971, 972, 973, 974, 991, 992, 993, 994, 995, 996, 1011, 1012, 1013] (by decide +kernel) (by decide +kernel)) (goodIn_sub (fun _ h => List.mem_append_left _ (List.mem_append_left _ (List.mem_append_right _ h))) (by decide +kernel))) (goodIn_sub (fun _ h => List.mem_append_right _ h) (by decide +kernel))
set_option maxRecDepth 20000 in
theorem gL_law_L_point : GoodIn wsL_law (va_wsS RL 148 yL_point wsL_point) := goodIn_app (goodIn_of _ (by decide +kernel)) ggL_law_L_point
set_option maxRecDepth 20000 in
theorem ggL_law_X6_point : GoodIn wsL_law wsX6_point := goodIn_r _ [730, 172, 362, 363, 364, 5, 365, 333, 334, 335, 336, 77, 176, 177, 178, 196, 197, 198, 199, 340, 341, 342, 343, 591, 592, 593, 594, 528, 529, 530, 531, 532, 533, 534, 535, 536, 731, 732, 733, 734, 540, 541, 542, 735, 736, 737, 537, 538, 539, 738, 739, 740, 741, 547, 548, 549, 550, 551, 552, 553, 554, 555, 556, 742, 743, 744, 745, 975, 976, 977, 978, 979, 980, 981, 982, 983, 984, 985, 986, 987, 988, 989, 990] (by decide +kernel) (by decide +kernel)
set_option maxRecDepth 20000 in
theorem gL_law_X6_point : GoodIn wsL_law (wsV RL 151 RX6 yX6_point wsX6_point) := goodIn_app (goodIn_of _ (by decide +kernel)) ggL_law_X6_point
set_option maxRecDepth 20000 in
theorem ggL_law_L_strokeOf : GoodIn wsL_law wsL_strokeOf := goodIn_ca (goodIn_ca (goodIn_r _ [748, 293, 90, 749, 750, 751, 2, 752, 102, 103, 16, 300, 301, 302, 303, 304, 305, 306, 307, 298, 299, 110, 111, 112, 15, 113, 114, 308, 129, 130, 131, 35, 38, 309, 245, 246, 37, 247, 136, 497, 498, 499, 500, 137, 501, 502, 503, 504, 505, 506, 507, 753, 754, 755, 756, 414, 415, 416, 417, 418, 45, 232, 233, 419, 420, 421, 422, 423, 424, 425, 426, 427, 428, 429, 430, 431, 432, 433, 434, 435, 317, 318, 319, 320, 51, 321, 322, 323, 324, 436, 437, 438, 439, 440, 441, 442, 443, 325, 326, 327, 328, 757, 758, 759, 760, 583, 584, 585, 586, 458, 459, 712, 713, 714, 715, 725, 726, 761, 762, 763, 764, 765, 709, 710, 711, 716, 717, 718, 719, 720, 721, 722, 723, 724, 473, 474, 475, 468, 469, 142, 470, 464, 465, 466, 467, 708, 766, 767, 768, 769, 770, 141, 143, 771, 772, 773, 774, 775, 776, 777, 444, 778, 779, 780, 781, 782, 783, 784, 785, 970, 971, 972, 973, 974, 991, 992, 993, 994, 995, 996, 1011, 1012, 1013] (by decide +kernel) (by decide +kernel)) (goodIn_sub (fun _ h => List.mem_append_left _ (List.mem_append_left _ (List.mem_append_right _ h))) (by decide +kernel))) (goodIn_sub (fun _ h => List.mem_append_right _ h) (by decide +kernel))
set_option maxRecDepth 20000 in
theorem gL_law_L_strokeOf : GoodIn wsL_law (va_wsS RL 152 yL_strokeOf wsL_strokeOf) := goodIn_app (goodIn_of _ (by decide +kernel)) ggL_law_L_strokeOf
set_option maxRecDepth 20000 in
theorem ggL_law_X6_strokeOf : GoodIn wsL_law wsX6_strokeOf := goodIn_r _ [789, 172, 333, 334, 335, 5, 336, 77, 176, 177, 178, 196, 197, 198, 199, 591, 592, 593, 594, 569, 570, 571, 790, 791, 792, 793, 528, 529, 530, 531, 340, 341, 342, 343, 532, 533, 534, 535, 536, 794, 795, 796, 797, 537, 538, 539, 540, 541, 542, 553, 554, 555, 556, 742, 743, 744, 745, 798, 799, 800, 801, 731, 732, 733, 734, 735, 736, 737, 738, 739, 740, 741, 547, 548, 549, 550, 551, 552, 802, 803, 804, 805, 806, 807, 808, 809, 810, 811, 812, 813, 975, 976, 977, 978, 979, 980, 981, 982, 983, 984, 985, 986, 987, 988, 989, 990] (by decide +kernel) (by decide +kernel)
set_option maxRecDepth 20000 in
theorem gL_law_X6_strokeOf : GoodIn wsL_law (wsV RL 154 RX6 yX6_strokeOf wsX6_strokeOf) := goodIn_app (goodIn_of _ (by decide +kernel)) ggL_law_X6_strokeOf
set_option maxRecDepth 20000 in
theorem ggL_law_L_distance : GoodIn wsL_law wsL_distance := goodIn_ca (goodIn_r _ [816, 293, 817, 818, 819, 2, 820, 300, 301, 302, 303, 16, 304, 305, 306, 307, 298, 299, 110, 111, 112, 15, 113, 114, 308, 129, 130, 131, 35, 38, 351, 352, 353, 309, 245, 246, 37, 247, 136, 821, 721, 722, 723, 431, 724, 473, 474, 475, 468, 469, 142, 470, 436, 437, 438, 439, 317, 318, 319, 320, 51, 321, 322, 323, 324, 464, 465, 466, 467, 725, 726, 970, 971, 972, 973, 974, 991, 992, 993, 994, 995, 996, 1011, 1012, 1013] (by decide +kernel) (by decide +kernel)) (goodIn_sub (fun _ h => List.mem_append_right _ h) (by decide +kernel))
set_option maxRecDepth 20000 in
theorem gL_law_L_distance : GoodIn wsL_law (va_wsS RL 155 yL_distance wsL_distance) := goodIn_app (goodIn_of _ (by decide +kernel)) ggL_law_L_distance
set_option maxRecDepth 20000 in
theorem ggL_law_X6_distance : GoodIn wsL_law wsX6_distance := goodIn_r _ [825, 172, 362, 363, 364, 5, 365, 333, 334, 335, 336, 77, 176, 177, 178, 196, 197, 198, 199, 738, 739, 740, 741, 536, 547, 548, 549, 550, 551, 552, 340, 341, 342, 343, 553, 554, 555, 556, 742, 743, 744, 745, 975, 976, 977, 978, 979, 980, 981, 982, 983, 984, 985, 986, 987, 988, 989, 990] (by decide +kernel) (by decide +kernel)
set_option maxRecDepth 20000 in
theorem gL_law_X6_distance : GoodIn wsL_law (wsV RL 157 RX6 yX6_distance wsX6_distance) := goodIn_app (goodIn_of _ (by decide +kernel)) ggL_law_X6_distance
set_option maxRecDepth 20000 in
theorem ggL_law_L_crossings : GoodIn wsL_law wsL_crossings := goodIn_ca (goodIn_r _ [828, 293, 829, 830, 831, 2, 832, 300, 301, 302, 303, 16, 304, 305, 306, 307, 298, 299, 110, 111, 112, 15, 113, 114, 308, 129, 130, 131, 35, 38, 833, 834, 835, 37, 836, 136, 583, 584, 585, 586, 137, 458, 459, 837, 838, 839, 840, 712, 713, 714, 715, 716, 717, 718, 719, 841, 842, 843, 844, 845, 846, 847, 848, 849, 850, 851, 852, 317, 318, 319, 320, 51, 321, 322, 323, 324, 970, 971, 972, 973, 974, 991, 992, 993, 994, 995, 996, 1011, 1012, 1013] (by decide +kernel) (by decide +kernel)) (goodIn_sub (fun _ h => List.mem_append_right _ h) (by decide +kernel))
set_option maxRecDepth 20000 in
theorem gL_law_L_crossings : GoodIn wsL_law (va_wsS RL 158 yL_crossings wsL_crossings) := goodIn_app (goodIn_of _ (by decide +kernel)) ggL_law_L_crossings
set_option maxRecDepth 20000 in
theorem ggL_law_X6_crossings : GoodIn wsL_law wsX6_crossings := goodIn_r _ [856, 172, 333, 334, 335, 5, 336, 77, 176, 177, 178, 591, 592, 593, 594, 196, 197, 198, 199, 537, 538, 539, 540, 541, 542, 857, 858, 859, 860, 861, 862, 863, 864, 340, 341, 342, 343, 865, 866, 867, 975, 976, 977, 978, 979, 980, 981, 982, 983, 984, 985, 986, 987, 988, 989, 990] (by decide +kernel) (by decide +kernel)
set_option maxRecDepth 20000 in
theorem gL_law_X6_crossings : GoodIn wsL_law (wsV RL 160 RX6 yX6_crossings wsX6_crossings) := goodIn_app (goodIn_of _ (by decide +kernel)) ggL_law_X6_crossings
set_option maxRecDepth 20000 in
theorem ggL_law_L_count : GoodIn wsL_law wsL_count := goodIn_ca (goodIn_r _ [870, 90, 871, 872, 873, 2, 874, 102, 103, 16, 20, 25, 110, 111, 112, 15, 113, 114, 875, 876, 877, 878, 128, 129, 130, 131, 35, 38, 414, 245, 246, 37, 247, 136, 879, 880, 881, 882, 883, 498, 499, 500, 137, 501, 502, 503, 504, 505, 506, 507, 884, 885, 886, 887, 126, 888, 889, 890, 891, 127, 663, 664, 665, 19, 666, 119, 627, 628, 629, 24, 630, 219, 970, 971, 972, 973, 974, 991, 992, 993, 994, 995, 996, 1011, 1012, 1013, 997, 998, 999, 1000, 1001, 1002, 1003, 1004, 1005, 1006, 1007] (by decide +kernel) (by decide +kernel)) (goodIn_sub (fun _ h => List.mem_append_left _ (List.mem_append_left _ (List.mem_append_right _ h))) (by decide +kernel))
set_option maxRecDepth 20000 in
theorem gL_law_L_count : GoodIn wsL_law (va_wsS RL 161 yL_count wsL_count) := goodIn_app (goodIn_of _ (by decide +kernel)) ggL_law_L_count
set_option maxRecDepth 20000 in
theorem ggL_law_X6_count : GoodIn wsL_law wsX6_count := goodIn_r _ [895, 172, 77, 183, 267, 176, 177, 5, 178, 896, 897, 898, 899, 196, 197, 198, 199, 900, 901, 902, 903, 591, 592, 593, 594, 569, 570, 571, 975, 976, 977, 978, 979, 980, 981, 982, 983, 984, 985, 986, 987, 988, 989, 990] (by decide +kernel) (by decide +kernel)
set_option maxRecDepth 20000 in
theorem gL_law_X6_count : GoodIn wsL_law (wsV RL 163 RX6 yX6_count wsX6_count) := goodIn_app (goodIn_of _ (by decide +kernel)) ggL_law_X6_count
set_option maxRecDepth 20000 in
theorem ggL_law_L_setting : GoodIn wsL_law wsL_setting := goodIn_ca (goodIn_r _ [906, 293, 907, 908, 909, 2, 910, 16, 604, 605, 606, 298, 299, 607, 444, 416, 417, 15, 418, 45, 232, 233, 970, 971, 972, 973, 974, 991, 992, 993, 994, 995, 996] (by decide +kernel) (by decide +kernel)) (goodIn_sub (fun _ h => List.mem_append_right _ h) (by decide +kernel))
set_option maxRecDepth 20000 in
theorem gL_law_L_setting : GoodIn wsL_law (va_wsS RL 164 yL_setting wsL_setting) := goodIn_app (goodIn_of _ (by decide +kernel)) ggL_law_L_setting
set_option maxRecDepth 20000 in
theorem ggL_law_X6_setting : GoodIn wsL_law wsX6_setting := goodIn_r _ [914, 172, 77, 176, 177, 5, 178, 975, 976, 977, 978, 979, 980, 981, 982, 983, 984, 985, 986, 987, 988, 989, 990] (by decide +kernel) (by decide +kernel)
set_option maxRecDepth 20000 in
theorem gL_law_X6_setting : GoodIn wsL_law (wsV RL 166 RX6 yX6_setting wsX6_setting) := goodIn_app (goodIn_of _ (by decide +kernel)) ggL_law_X6_setting
set_option maxRecDepth 20000 in
theorem ggL_law_L_nearest : GoodIn wsL_law wsL_nearest := goodIn_ca (goodIn_r _ [917, 90, 918, 919, 920, 2, 921, 16, 96, 97, 98, 99, 100, 101, 102, 103, 922, 923, 924, 15, 925, 114, 128, 129, 130, 131, 35, 38, 414, 245, 246, 37, 247, 136, 926, 927, 928, 929, 317, 318, 319, 320, 51, 321, 322, 323, 324, 970, 971, 972, 973, 974, 991, 992, 993, 994, 995, 996, 1011, 1012, 1013] (by decide +kernel) (by decide +kernel)) (goodIn_sub (fun _ h => List.mem_append_left _ (List.mem_append_left _ (List.mem_append_right _ h))) (by decide +kernel))
set_option maxRecDepth 20000 in
theorem gL_law_L_nearest : GoodIn wsL_law (va_wsS RL 167 yL_nearest wsL_nearest) := goodIn_app (goodIn_of _ (by decide +kernel)) ggL_law_L_nearest
set_option maxRecDepth 20000 in
theorem ggL_law_X6_nearest : GoodIn wsL_law wsX6_nearest := goodIn_r _ [933, 172, 77, 173, 174, 5, 175, 176, 177, 178, 196, 197, 198, 199, 340, 341, 342, 343, 975, 976, 977, 978, 979, 980, 981, 982, 983, 984, 985, 986, 987, 988, 989, 990] (by decide +kernel) (by decide +kernel)
set_option maxRecDepth 20000 in
theorem gL_law_X6_nearest : GoodIn wsL_law (wsV RL 169 RX6 yX6_nearest wsX6_nearest) := goodIn_app (goodIn_of _ (by decide +kernel)) ggL_law_X6_nearest
set_option maxRecDepth 20000 in
theorem ggL_law_L_ifSimplified : GoodIn wsL_law wsL_ifSimplified := goodIn_ca (goodIn_ca (goodIn_r _ [936, 293, 90, 937, 938, 939, 2, 940, 29, 16, 300, 301, 302, 303, 304, 305, 306, 307, 298, 299, 110, 111, 112, 15, 113, 114, 308, 129, 130, 131, 35, 38, 99, 100, 101, 102, 103, 407, 408, 409, 410, 411, 412, 413, 414, 245, 246, 37, 247, 136, 415, 416, 417, 418, 45, 232, 233, 419, 420, 421, 422, 423, 424, 425, 426, 427, 428, 429, 430, 431, 432, 433, 434, 435, 317, 318, 319, 320, 51, 321, 322, 323, 324, 436, 437, 438, 439, 440, 441, 442, 443, 325, 326, 327, 328, 445, 446, 447, 28, 448, 449, 450, 451, 452, 453, 454, 455, 456, 457, 458, 459, 460, 461, 462, 463, 464, 465, 466, 467, 468, 469, 142, 470, 471, 472, 473, 474, 475, 476, 477, 478, 479, 480, 481, 482, 70, 483, 484, 485, 486, 487, 488, 489, 490, 491, 492, 71, 72, 941, 502, 503, 504, 505, 506, 507, 970, 971, 972, 973, 974, 991, 992, 993, 994, 995, 996, 1011, 1012, 1013, 1008, 1009, 1010] (by decide +kernel) (by decide +kernel)) (goodIn_sub (fun _ h => List.mem_append_right _ h) (by decide +kernel))) (goodIn_sub (fun _ h => List.mem_append_left _ (List.mem_append_left _ (List.mem_append_right _ h))) (by decide +kernel))
set_option maxRecDepth 20000 in
theorem gL_law_L_ifSimplified : GoodIn wsL_law (va_wsS RL 170 yL_ifSimplified wsL_ifSimplified) := goodIn_app (goodIn_of _ (by decide +kernel)) ggL_law_L_ifSimplified
set_option maxRecDepth 20000 in
theorem ggL_law_X6_ifSimplified : GoodIn wsL_law wsX6_ifSimplified := goodIn_r _ [945, 172, 333, 334, 335, 5, 336, 77, 176, 177, 178, 516, 517, 518, 519, 520, 521, 522, 523, 524, 525, 526, 527, 196, 197, 198, 199, 528, 529, 530, 531, 340, 341, 342, 343, 532, 533, 534, 535, 536, 537, 538, 539, 540, 541, 542, 543, 544, 545, 546, 547, 548, 549, 550, 551, 552, 553, 554, 555, 556, 557, 558, 559, 560, 83, 84, 561, 562, 563, 564, 565, 566, 567, 568, 569, 570, 571, 975, 976, 977, 978, 979, 980, 981, 982, 983, 984, 985, 986, 987, 988, 989, 990] (by decide +kernel) (by decide +kernel)
set_option maxRecDepth 20000 in
theorem gL_law_X6_ifSimplified : GoodIn wsL_law (wsV RL 172 RX6 yX6_ifSimplified wsX6_ifSimplified) := goodIn_app (goodIn_of _ (by decide +kernel)) ggL_law_X6_ifSimplified
set_option maxRecDepth 20000 in
theorem ggL_law_L_leastBound : GoodIn wsL_law wsL_leastBound := goodIn_ca (goodIn_ca (goodIn_r _ [948, 293, 90, 949, 950, 951, 2, 952, 29, 16, 300, 301, 302, 303, 304, 305, 306, 307, 298, 299, 110, 111, 112, 15, 113, 114, 308, 129, 130, 131, 35, 38, 99, 100, 101, 102, 103, 407, 408, 409, 410, 411, 412, 413, 414, 245, 246, 37, 247, 136, 415, 416, 417, 418, 45, 232, 233, 419, 420, 421, 422, 423, 424, 425, 426, 427, 428, 429, 430, 431, 432, 433, 434, 435, 317, 318, 319, 320, 51, 321, 322, 323, 324, 436, 437, 438, 439, 440, 441, 442, 443, 325, 326, 327, 328, 953, 954, 955, 28, 956, 479, 480, 481, 482, 70, 453, 483, 484, 485, 486, 460, 461, 462, 463, 464, 465, 466, 467, 468, 469, 142, 470, 471, 472, 473, 474, 475, 476, 477, 478, 487, 488, 458, 459, 489, 490, 491, 492, 71, 72, 449, 450, 451, 452, 454, 455, 456, 457, 957, 502, 503, 504, 505, 506, 507, 970, 971, 972, 973, 974, 991, 992, 993, 994, 995, 996, 1011, 1012, 1013, 1008, 1009, 1010] (by decide +kernel) (by decide +kernel)) (goodIn_sub (fun _ h => List.mem_append_right _ h) (by decide +kernel))) (goodIn_sub (fun _ h => List.mem_append_left _ (List.mem_append_left _ (List.mem_append_right _ h))) (by decide +kernel))
set_option maxRecDepth 20000 in
theorem gL_law_L_leastBound : GoodIn wsL_law (va_wsS RL 173 yL_leastBound wsL_leastBound) := goodIn_app (goodIn_of _ (by decide +kernel)) ggL_law_L_leastBound
set_option maxRecDepth 20000 in
theorem ggL_law_X6_leastBound : GoodIn wsL_law wsX6_leastBound := goodIn_r _ [961, 172, 333, 334, 335, 5, 336, 77, 176, 177, 178, 516, 517, 518, 519, 520, 521, 522, 523, 524, 525, 526, 527, 196, 197, 198, 199, 528, 529, 530, 531, 340, 341, 342, 343, 532, 533, 534, 535, 536, 537, 538, 539, 540, 541, 542, 543, 544, 545, 546, 547, 548, 549, 550, 551, 552, 553, 554, 555, 556, 557, 558, 559, 560, 83, 84, 561, 562, 563, 564, 565, 566, 567, 568, 569, 570, 571, 975, 976, 977, 978, 979, 980, 981, 982, 983, 984, 985, 986, 987, 988, 989, 990] (by decide +kernel) (by decide +kernel)
set_option maxRecDepth 20000 in
theorem gL_law_X6_leastBound : GoodIn wsL_law (wsV RL 175 RX6 yX6_leastBound wsX6_leastBound) := goodIn_app (goodIn_of _ (by decide +kernel)) ggL_law_X6_leastBound
set_option maxRecDepth 20000 in
theorem ggL_law_X5_share : GoodIn wsL_law wsX5_share := goodIn_r _ [965, 16, 875, 876, 877, 15, 878, 114, 128, 129, 130, 131, 35, 38, 414, 245, 246, 37, 247, 136, 879, 880, 881, 882, 883, 498, 499, 500, 137, 501, 502, 503, 504, 505, 506, 507, 970, 971, 972, 973, 974, 991, 992, 993, 994, 995, 996, 1011, 1012, 1013] (by decide +kernel) (by decide +kernel)
set_option maxRecDepth 20000 in
theorem gL_law_X5_share : GoodIn wsL_law (wsV RL 176 RX5 yX5_share wsX5_share) := goodIn_app (goodIn_of _ (by decide +kernel)) ggL_law_X5_share
set_option maxRecDepth 20000 in
theorem ggL_law_X6_share : GoodIn wsL_law wsX6_share := goodIn_r _ [969, 172, 77, 900, 901, 902, 5, 903, 591, 592, 593, 594, 569, 570, 571, 896, 897, 898, 899, 196, 197, 198, 199, 975, 976, 977, 978, 979, 980, 981, 982, 983, 984, 985, 986, 987, 988, 989, 990] (by decide +kernel) (by decide +kernel)
set_option maxRecDepth 20000 in
theorem gL_law_X6_share : GoodIn wsL_law (wsV RL 180 RX6 yX6_share wsX6_share) := goodIn_app (goodIn_of _ (by decide +kernel)) ggL_law_X6_share
