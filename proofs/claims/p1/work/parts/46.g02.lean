set_option maxRecDepth 20000 in
theorem ggL_law_X4_count : GoodIn wsL_law wsX4_count := goodIn_r _ [619, 16, 620, 621, 622, 15, 623, 151, 42, 624, 625, 626, 627, 40, 39, 628, 629, 630, 631, 905, 906, 907, 908, 909, 910, 911, 912, 913, 914, 915, 927, 928, 929, 930] (by decide +kernel) (by decide +kernel)
set_option maxRecDepth 20000 in
theorem gL_law_X4_count : GoodIn wsL_law (wsV RL 147 RX4 yX4_count wsX4_count) := goodIn_app (goodIn_of _ (by decide +kernel)) ggL_law_X4_count
set_option maxRecDepth 20000 in
theorem ggL_law_X5_count : GoodIn wsL_law wsX5_count := goodIn_r _ [635, 116, 636, 637, 638, 5, 639, 111, 406, 33, 71, 226, 227, 228, 229, 640, 641, 642, 916, 917, 918, 919, 920, 921, 922, 923, 924, 925, 926] (by decide +kernel) (by decide +kernel)
set_option maxRecDepth 20000 in
theorem gL_law_X5_count : GoodIn wsL_law (wsV RL 151 RX5 yX5_count wsX5_count) := goodIn_app (goodIn_of _ (by decide +kernel)) ggL_law_X5_count
set_option maxRecDepth 20000 in
theorem ggL_law_X4_density : GoodIn wsL_law wsX4_density := goodIn_r _ [646, 16, 106, 20, 647, 430, 431, 432, 19, 433, 49, 214, 47, 905, 906, 907, 908, 909, 910, 911, 912, 913, 914, 915, 927, 928, 929, 930, 931, 932, 933] (by decide +kernel) (by decide +kernel)
set_option maxRecDepth 20000 in
theorem gL_law_X4_density : GoodIn wsL_law (wsV RL 152 RX4 yX4_density wsX4_density) := goodIn_app (goodIn_of _ (by decide +kernel)) ggL_law_X4_density
set_option maxRecDepth 20000 in
theorem ggL_law_X5_density : GoodIn wsL_law wsX5_density := goodIn_r _ [651, 116, 111, 652, 72, 307, 308, 5, 309, 653, 654, 655, 656, 657, 658, 659, 660, 661, 662, 663, 664, 665, 666, 667, 668, 669, 670, 671, 672, 673, 674, 675, 676, 916, 917, 918, 919, 920, 921, 922, 923, 924, 925, 926] (by decide +kernel) (by decide +kernel)
set_option maxRecDepth 20000 in
theorem gL_law_X5_density : GoodIn wsL_law (wsV RL 156 RX5 yX5_density wsX5_density) := goodIn_app (goodIn_of _ (by decide +kernel)) ggL_law_X5_density
set_option maxRecDepth 20000 in
theorem ggL_law_L_would : GoodIn wsL_law wsL_would := goodIn_ca (goodIn_ca (goodIn_ca (goodIn_r _ [679, 128, 129, 99, 680, 681, 682, 2, 683, 21, 187, 188, 189, 190, 141, 142, 16, 191, 148, 149, 15, 150, 151, 152, 153, 154, 134, 135, 241, 242, 243, 244, 104, 105, 245, 246, 247, 248, 249, 250, 251, 252, 39, 253, 254, 255, 256, 257, 258, 259, 684, 685, 686, 687, 20, 186, 688, 689, 690, 19, 691, 47, 692, 323, 324, 325, 264, 265, 266, 267, 48, 268, 269, 270, 271, 272, 273, 274, 275, 276, 49, 214, 209, 277, 211, 212, 213, 215, 278, 279, 280, 281, 282, 283, 284, 285, 693, 694, 695, 696, 905, 906, 907, 908, 909, 910, 911, 912, 913, 914, 915, 927, 928, 929, 930, 931, 932, 933] (by decide +kernel) (by decide +kernel)) (goodIn_sub (fun _ h => List.mem_append_right _ h) (by decide +kernel))) (goodIn_sub (fun _ h => List.mem_append_left _ (List.mem_append_right _ h)) (by decide +kernel))) (goodIn_sub (fun _ h => List.mem_append_left _ (List.mem_append_left _ (List.mem_append_right _ h))) (by decide +kernel))
set_option maxRecDepth 20000 in
theorem gL_law_L_would : GoodIn wsL_law (va_wsS RL 157 yL_would wsL_would) := goodIn_app (goodIn_of _ (by decide +kernel)) ggL_law_L_would
set_option maxRecDepth 20000 in
theorem ggL_law_X5_would : GoodIn wsL_law wsX5_would := goodIn_r _ [700, 172, 173, 174, 5, 175, 111, 176, 177, 178, 112, 113, 114, 115, 116, 117, 118, 119, 120, 290, 291, 292, 293, 294, 71, 701, 702, 703, 704, 72, 335, 336, 337, 33, 338, 323, 324, 325, 295, 296, 297, 298, 299, 300, 301, 302, 222, 223, 224, 225, 226, 227, 228, 229, 230, 231, 232, 233, 530, 531, 532, 307, 308, 309, 310, 311, 312, 313, 916, 917, 918, 919, 920, 921, 922, 923, 924, 925, 926] (by decide +kernel) (by decide +kernel)
set_option maxRecDepth 20000 in
theorem gL_law_X5_would : GoodIn wsL_law (wsV RL 159 RX5 yX5_would wsX5_would) := goodIn_app (goodIn_of _ (by decide +kernel)) ggL_law_X5_would
set_option maxRecDepth 20000 in
theorem ggL_law_L_isLasting : GoodIn wsL_law wsL_isLasting := goodIn_ca (goodIn_r _ [707, 99, 708, 709, 710, 2, 711, 241, 242, 243, 244, 104, 105, 16, 245, 246, 247, 15, 248, 151, 249, 250, 251, 252, 39, 253, 254, 255, 256, 257, 258, 259, 712, 713, 714, 715, 20, 21, 186, 582, 583, 584, 19, 585, 49, 214, 586, 206, 207, 208, 209, 47, 688, 689, 690, 691, 692, 323, 324, 325, 716, 717, 718, 719, 215, 264, 265, 266, 267, 48, 268, 269, 270, 271, 272, 273, 274, 275, 276, 277, 211, 212, 213, 720, 721, 722, 723, 905, 906, 907, 908, 909, 910, 911, 912, 913, 914, 915, 927, 928, 929, 930, 931, 932, 933] (by decide +kernel) (by decide +kernel)) (goodIn_sub (fun _ h => List.mem_append_left _ (List.mem_append_left _ (List.mem_append_right _ h))) (by decide +kernel))
set_option maxRecDepth 20000 in
theorem gL_law_L_isLasting : GoodIn wsL_law (va_wsS RL 160 yL_isLasting wsL_isLasting) := goodIn_app (goodIn_of _ (by decide +kernel)) ggL_law_L_isLasting
set_option maxRecDepth 20000 in
theorem ggL_law_X5_isLasting : GoodIn wsL_law wsX5_isLasting := goodIn_r _ [727, 290, 291, 292, 5, 293, 294, 71, 111, 112, 113, 114, 115, 116, 117, 118, 119, 120, 728, 729, 730, 731, 72, 299, 300, 301, 302, 222, 223, 224, 225, 226, 227, 228, 229, 335, 336, 337, 33, 338, 323, 324, 325, 295, 296, 297, 298, 230, 231, 232, 233, 916, 917, 918, 919, 920, 921, 922, 923, 924, 925, 926] (by decide +kernel) (by decide +kernel)
set_option maxRecDepth 20000 in
theorem gL_law_X5_isLasting : GoodIn wsL_law (wsV RL 162 RX5 yX5_isLasting wsX5_isLasting) := goodIn_app (goodIn_of _ (by decide +kernel)) ggL_law_X5_isLasting
set_option maxRecDepth 20000 in
theorem ggL_law_L_neutral : GoodIn wsL_law wsL_neutral := goodIn_ca (goodIn_ca (goodIn_r _ [734, 128, 99, 735, 736, 737, 2, 738, 22, 186, 187, 188, 189, 190, 141, 142, 16, 191, 148, 149, 15, 150, 151, 241, 242, 243, 244, 104, 105, 245, 246, 247, 248, 249, 250, 251, 252, 39, 253, 254, 255, 256, 257, 258, 259, 739, 740, 741, 19, 742, 49, 214, 47, 209, 743, 265, 266, 267, 48, 268, 269, 270, 271, 272, 273, 274, 275, 276, 277, 211, 212, 213, 215, 905, 906, 907, 908, 909, 910, 911, 912, 913, 914, 915, 931, 932, 933, 927, 928, 929, 930] (by decide +kernel) (by decide +kernel)) (goodIn_sub (fun _ h => List.mem_append_right _ h) (by decide +kernel))) (goodIn_sub (fun _ h => List.mem_append_left _ (List.mem_append_left _ (List.mem_append_right _ h))) (by decide +kernel))
set_option maxRecDepth 20000 in
theorem gL_law_L_neutral : GoodIn wsL_law (va_wsS RL 163 yL_neutral wsL_neutral) := goodIn_app (goodIn_of _ (by decide +kernel)) ggL_law_L_neutral
set_option maxRecDepth 20000 in
theorem ggL_law_X5_neutral_ : GoodIn wsL_law wsX5_neutral_ := goodIn_r _ [747, 172, 173, 174, 5, 175, 111, 176, 177, 178, 112, 113, 114, 115, 116, 117, 118, 119, 120, 290, 291, 292, 293, 294, 71, 748, 749, 750, 751, 33, 226, 227, 228, 229, 335, 336, 337, 338, 323, 324, 325, 295, 296, 297, 298, 299, 300, 301, 302, 222, 223, 224, 225, 230, 231, 232, 233, 916, 917, 918, 919, 920, 921, 922, 923, 924, 925, 926] (by decide +kernel) (by decide +kernel)
set_option maxRecDepth 20000 in
theorem gL_law_X5_neutral_ : GoodIn wsL_law (wsV RL 165 RX5 yX5_neutral_ wsX5_neutral_) := goodIn_app (goodIn_of _ (by decide +kernel)) ggL_law_X5_neutral_
set_option maxRecDepth 20000 in
theorem ggL_law_X4_fire : GoodIn wsL_law wsX4_fire := goodIn_r _ [755, 20, 756, 757, 758, 19, 759, 49, 214, 760, 761, 762, 763, 47, 764, 250, 251, 15, 252, 39, 905, 906, 907, 908, 909, 910, 911, 912, 913, 914, 915, 931, 932, 933, 927, 928, 929, 930] (by decide +kernel) (by decide +kernel)
set_option maxRecDepth 20000 in
theorem gL_law_X4_fire : GoodIn wsL_law (wsV RL 166 RX4 yX4_fire wsX4_fire) := goodIn_app (goodIn_of _ (by decide +kernel)) ggL_law_X4_fire
set_option maxRecDepth 20000 in
theorem ggL_law_X5_fire : GoodIn wsL_law wsX5_fire := goodIn_r _ [768, 116, 769, 770, 771, 5, 772, 111, 71, 72, 916, 917, 918, 919, 920, 921, 922, 923, 924, 925, 926] (by decide +kernel) (by decide +kernel)
set_option maxRecDepth 20000 in
theorem gL_law_X5_fire : GoodIn wsL_law (wsV RL 169 RX5 yX5_fire wsX5_fire) := goodIn_app (goodIn_of _ (by decide +kernel)) ggL_law_X5_fire
set_option maxRecDepth 20000 in
theorem ggL_law_L_order : GoodIn wsL_law wsL_order := goodIn_ca (goodIn_r _ [775, 99, 776, 777, 778, 2, 779, 21, 20, 186, 22, 23, 241, 242, 243, 244, 104, 105, 16, 245, 246, 247, 15, 248, 151, 249, 250, 251, 252, 39, 253, 254, 255, 256, 257, 258, 259, 688, 689, 690, 19, 691, 47, 692, 323, 324, 325, 264, 265, 266, 267, 48, 268, 269, 270, 271, 272, 273, 274, 275, 276, 49, 214, 209, 277, 211, 212, 213, 215, 739, 740, 741, 742, 743, 398, 399, 400, 401, 780, 781, 782, 783, 905, 906, 907, 908, 909, 910, 911, 912, 913, 914, 915, 931, 932, 933, 927, 928, 929, 930] (by decide +kernel) (by decide +kernel)) (goodIn_sub (fun _ h => List.mem_append_left _ (List.mem_append_left _ (List.mem_append_right _ h))) (by decide +kernel))
set_option maxRecDepth 20000 in
theorem gL_law_L_order : GoodIn wsL_law (va_wsS RL 170 yL_order wsL_order) := goodIn_app (goodIn_of _ (by decide +kernel)) ggL_law_L_order
set_option maxRecDepth 20000 in
theorem ggL_law_X5_order : GoodIn wsL_law wsX5_order := goodIn_r _ [787, 72, 290, 291, 292, 5, 293, 294, 71, 111, 112, 113, 114, 115, 116, 117, 118, 119, 120, 748, 749, 750, 751, 33, 226, 227, 228, 229, 335, 336, 337, 338, 323, 324, 325, 295, 296, 297, 298, 299, 300, 301, 302, 222, 223, 224, 225, 230, 231, 232, 233, 423, 424, 425, 788, 789, 790, 916, 917, 918, 919, 920, 921, 922, 923, 924, 925, 926] (by decide +kernel) (by decide +kernel)
set_option maxRecDepth 20000 in
theorem gL_law_X5_order : GoodIn wsL_law (wsV RL 172 RX5 yX5_order wsX5_order) := goodIn_app (goodIn_of _ (by decide +kernel)) ggL_law_X5_order
set_option maxRecDepth 20000 in
theorem ggL_law_L_canPay : GoodIn wsL_law wsL_canPay := goodIn_ca (goodIn_r _ [793, 99, 794, 795, 796, 2, 797, 31, 241, 242, 243, 244, 104, 105, 16, 245, 246, 247, 15, 248, 151, 249, 250, 251, 252, 39, 253, 254, 255, 256, 257, 258, 259, 798, 799, 800, 30, 801, 63, 802, 803, 804, 805, 61, 806, 807, 60, 808, 809, 810, 811, 812, 497, 813, 265, 266, 19, 267, 48, 268, 269, 270, 271, 272, 273, 274, 275, 276, 49, 214, 209, 47, 277, 211, 212, 213, 215, 814, 717, 718, 719, 815, 721, 722, 723, 816, 588, 589, 590, 817, 818, 819, 820, 905, 906, 907, 908, 909, 910, 911, 912, 913, 914, 915, 927, 928, 929, 930, 937, 938, 939, 940, 931, 932, 933] (by decide +kernel) (by decide +kernel)) (goodIn_sub (fun _ h => List.mem_append_left _ (List.mem_append_left _ (List.mem_append_right _ h))) (by decide +kernel))
set_option maxRecDepth 20000 in
theorem gL_law_L_canPay : GoodIn wsL_law (va_wsS RL 173 yL_canPay wsL_canPay) := goodIn_app (goodIn_of _ (by decide +kernel)) ggL_law_L_canPay
set_option maxRecDepth 20000 in
theorem ggL_law_X5_canPay : GoodIn wsL_law wsX5_canPay := goodIn_r _ [824, 75, 290, 291, 292, 5, 293, 294, 71, 111, 112, 113, 114, 115, 116, 117, 118, 119, 120, 825, 826, 827, 828, 335, 336, 337, 33, 338, 323, 324, 325, 503, 504, 505, 506, 226, 227, 228, 229, 916, 917, 918, 919, 920, 921, 922, 923, 924, 925, 926] (by decide +kernel) (by decide +kernel)
set_option maxRecDepth 20000 in
theorem gL_law_X5_canPay : GoodIn wsL_law (wsV RL 175 RX5 yX5_canPay wsX5_canPay) := goodIn_app (goodIn_of _ (by decide +kernel)) ggL_law_X5_canPay
set_option maxRecDepth 20000 in
theorem ggL_law_L_weakest : GoodIn wsL_law wsL_weakest := goodIn_ca (goodIn_r _ [831, 99, 832, 833, 834, 2, 835, 31, 241, 242, 243, 244, 104, 105, 16, 245, 246, 247, 15, 248, 151, 249, 250, 251, 252, 39, 253, 254, 255, 256, 257, 258, 259, 836, 837, 838, 30, 839, 61, 806, 64, 63, 807, 802, 803, 804, 805, 60, 808, 809, 810, 811, 812, 497, 813, 265, 266, 19, 267, 48, 268, 269, 270, 271, 272, 273, 274, 275, 276, 49, 214, 209, 47, 277, 211, 212, 213, 215, 814, 717, 718, 719, 815, 721, 722, 723, 816, 588, 589, 590, 840, 689, 690, 691, 692, 323, 324, 325, 817, 818, 819, 820, 905, 906, 907, 908, 909, 910, 911, 912, 913, 914, 915, 927, 928, 929, 930, 937, 938, 939, 940, 931, 932, 933] (by decide +kernel) (by decide +kernel)) (goodIn_sub (fun _ h => List.mem_append_left _ (List.mem_append_left _ (List.mem_append_right _ h))) (by decide +kernel))
set_option maxRecDepth 20000 in
theorem gL_law_L_weakest : GoodIn wsL_law (va_wsS RL 176 yL_weakest wsL_weakest) := goodIn_app (goodIn_of _ (by decide +kernel)) ggL_law_L_weakest
set_option maxRecDepth 20000 in
theorem ggL_law_X5_weakest : GoodIn wsL_law wsX5_weakest := goodIn_r _ [844, 290, 291, 292, 5, 293, 294, 71, 111, 112, 113, 114, 115, 116, 117, 118, 119, 120, 845, 846, 847, 848, 75, 168, 169, 170, 171, 172, 173, 174, 175, 176, 177, 178, 335, 336, 337, 33, 338, 323, 324, 325, 825, 826, 827, 828, 503, 504, 505, 506, 226, 227, 228, 229, 916, 917, 918, 919, 920, 921, 922, 923, 924, 925, 926] (by decide +kernel) (by decide +kernel)
