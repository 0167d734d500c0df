set_option maxRecDepth 20000 in
theorem gL_law_X4_sweep : GoodIn wsL_law (wsV RL 118 RX4 yX4_sweep wsX4_sweep) := goodIn_app (goodIn_of _ (by decide +kernel)) ggL_law_X4_sweep
set_option maxRecDepth 20000 in
theorem ggL_law_X5_sweep : GoodIn wsL_law wsX5_sweep := goodIn_r _ [438, 116, 72, 33, 307, 308, 5, 309, 916, 917, 918, 919, 920, 921, 922, 923, 924, 925, 926] (by decide +kernel) (by decide +kernel)
set_option maxRecDepth 20000 in
theorem gL_law_X5_sweep : GoodIn wsL_law (wsV RL 121 RX5 yX5_sweep wsX5_sweep) := goodIn_app (goodIn_of _ (by decide +kernel)) ggL_law_X5_sweep
set_option maxRecDepth 20000 in
theorem ggL_law_L_walk : GoodIn wsL_law wsL_walk := goodIn_ca (goodIn_ca (goodIn_r _ [441, 128, 99, 442, 443, 444, 2, 445, 27, 187, 188, 189, 190, 141, 142, 16, 191, 148, 149, 15, 150, 151, 241, 242, 243, 244, 104, 105, 245, 246, 247, 248, 249, 250, 251, 252, 39, 253, 254, 255, 256, 257, 258, 259, 446, 447, 448, 26, 449, 55, 450, 451, 163, 452, 453, 454, 455, 54, 456, 457, 458, 459, 460, 461, 462, 463, 464, 905, 906, 907, 908, 909, 910, 911, 912, 913, 914, 915, 927, 928, 929, 930, 934, 935, 936] (by decide +kernel) (by decide +kernel)) (goodIn_sub (fun _ h => List.mem_append_right _ h) (by decide +kernel))) (goodIn_sub (fun _ h => List.mem_append_left _ (List.mem_append_left _ (List.mem_append_right _ h))) (by decide +kernel))
set_option maxRecDepth 20000 in
theorem gL_law_L_walk : GoodIn wsL_law (va_wsS RL 122 yL_walk wsL_walk) := goodIn_app (goodIn_of _ (by decide +kernel)) ggL_law_L_walk
set_option maxRecDepth 20000 in
theorem ggL_law_X5_walk : GoodIn wsL_law wsX5_walk := goodIn_r _ [468, 74, 469, 172, 173, 174, 5, 175, 111, 176, 177, 178, 112, 113, 114, 115, 116, 117, 118, 119, 120, 290, 291, 292, 293, 294, 71, 226, 227, 228, 229, 470, 471, 472, 473, 916, 917, 918, 919, 920, 921, 922, 923, 924, 925, 926] (by decide +kernel) (by decide +kernel)
set_option maxRecDepth 20000 in
theorem gL_law_X5_walk : GoodIn wsL_law (wsV RL 124 RX5 yX5_walk wsX5_walk) := goodIn_app (goodIn_of _ (by decide +kernel)) ggL_law_X5_walk
set_option maxRecDepth 20000 in
theorem ggL_law_L_pay : GoodIn wsL_law wsL_pay := goodIn_ca (goodIn_ca (goodIn_r _ [476, 128, 129, 477, 478, 479, 2, 480, 31, 481, 137, 138, 139, 140, 141, 142, 16, 143, 144, 145, 15, 146, 147, 148, 149, 150, 151, 152, 153, 154, 134, 135, 905, 906, 907, 908, 909, 910, 911, 912, 913, 914, 915, 937, 938, 939, 940, 927, 928, 929, 930] (by decide +kernel) (by decide +kernel)) (goodIn_sub (fun _ h => List.mem_append_right _ h) (by decide +kernel))) (goodIn_sub (fun _ h => List.mem_append_left _ (List.mem_append_right _ h)) (by decide +kernel))
set_option maxRecDepth 20000 in
theorem gL_law_L_pay : GoodIn wsL_law (va_wsS RL 125 yL_pay wsL_pay) := goodIn_app (goodIn_of _ (by decide +kernel)) ggL_law_L_pay
set_option maxRecDepth 20000 in
theorem ggL_law_X5_pay : GoodIn wsL_law wsX5_pay := goodIn_r _ [485, 75, 168, 169, 170, 5, 171, 172, 173, 174, 175, 111, 176, 177, 178, 112, 113, 114, 115, 116, 117, 118, 119, 120, 916, 917, 918, 919, 920, 921, 922, 923, 924, 925, 926] (by decide +kernel) (by decide +kernel)
set_option maxRecDepth 20000 in
theorem gL_law_X5_pay : GoodIn wsL_law (wsV RL 127 RX5 yX5_pay wsX5_pay) := goodIn_app (goodIn_of _ (by decide +kernel)) ggL_law_X5_pay
set_option maxRecDepth 20000 in
theorem ggL_law_L_lend : GoodIn wsL_law wsL_lend := goodIn_ca (goodIn_r _ [488, 128, 489, 490, 491, 2, 492, 31, 481, 137, 138, 139, 140, 141, 142, 16, 143, 144, 145, 15, 146, 147, 148, 149, 150, 151, 493, 494, 495, 30, 496, 60, 61, 497, 498, 905, 906, 907, 908, 909, 910, 911, 912, 913, 914, 915, 937, 938, 939, 940, 927, 928, 929, 930] (by decide +kernel) (by decide +kernel)) (goodIn_sub (fun _ h => List.mem_append_right _ h) (by decide +kernel))
set_option maxRecDepth 20000 in
theorem gL_law_L_lend : GoodIn wsL_law (va_wsS RL 128 yL_lend wsL_lend) := goodIn_app (goodIn_of _ (by decide +kernel)) ggL_law_L_lend
set_option maxRecDepth 20000 in
theorem ggL_law_X5_lend : GoodIn wsL_law wsX5_lend := goodIn_r _ [502, 75, 168, 169, 170, 5, 171, 172, 173, 174, 175, 111, 176, 177, 178, 112, 113, 114, 115, 116, 117, 118, 119, 120, 503, 504, 505, 506, 71, 226, 227, 228, 229, 916, 917, 918, 919, 920, 921, 922, 923, 924, 925, 926] (by decide +kernel) (by decide +kernel)
set_option maxRecDepth 20000 in
theorem gL_law_X5_lend : GoodIn wsL_law (wsV RL 131 RX5 yX5_lend wsX5_lend) := goodIn_app (goodIn_of _ (by decide +kernel)) ggL_law_X5_lend
set_option maxRecDepth 20000 in
theorem ggL_law_L_ofSpot : GoodIn wsL_law wsL_ofSpot := goodIn_ca (goodIn_ca (goodIn_r _ [509, 128, 129, 510, 511, 512, 2, 513, 187, 188, 189, 190, 141, 142, 16, 191, 148, 149, 15, 150, 151, 152, 153, 154, 134, 135, 514, 515, 516, 517, 20, 186, 518, 136, 519, 27, 520, 205, 206, 207, 19, 208, 49, 209, 47, 521, 458, 459, 26, 460, 55, 54, 461, 462, 463, 464, 39, 905, 906, 907, 908, 909, 910, 911, 912, 913, 914, 915, 927, 928, 929, 930, 931, 932, 933, 934, 935, 936] (by decide +kernel) (by decide +kernel)) (goodIn_sub (fun _ h => List.mem_append_right _ h) (by decide +kernel))) (goodIn_sub (fun _ h => List.mem_append_left _ (List.mem_append_right _ h)) (by decide +kernel))
set_option maxRecDepth 20000 in
theorem gL_law_L_ofSpot : GoodIn wsL_law (va_wsS RL 132 yL_ofSpot wsL_ofSpot) := goodIn_app (goodIn_of _ (by decide +kernel)) ggL_law_L_ofSpot
set_option maxRecDepth 20000 in
theorem ggL_law_X5_ofSpot : GoodIn wsL_law wsX5_ofSpot := goodIn_r _ [525, 172, 173, 174, 5, 175, 111, 176, 177, 178, 112, 113, 114, 115, 116, 117, 118, 119, 120, 526, 527, 528, 529, 33, 72, 71, 73, 74, 226, 227, 228, 229, 222, 223, 224, 225, 530, 531, 532, 470, 471, 472, 473, 916, 917, 918, 919, 920, 921, 922, 923, 924, 925, 926] (by decide +kernel) (by decide +kernel)
set_option maxRecDepth 20000 in
theorem gL_law_X5_ofSpot : GoodIn wsL_law (wsV RL 134 RX5 yX5_ofSpot wsX5_ofSpot) := goodIn_app (goodIn_of _ (by decide +kernel)) ggL_law_X5_ofSpot
set_option maxRecDepth 20000 in
theorem ggL_law_L_between : GoodIn wsL_law wsL_between := goodIn_ca (goodIn_r _ [535, 128, 536, 537, 538, 2, 539, 16, 136, 137, 138, 139, 140, 141, 142, 143, 144, 145, 15, 146, 147, 148, 149, 150, 151, 905, 906, 907, 908, 909, 910, 911, 912, 913, 914, 915, 927, 928, 929, 930] (by decide +kernel) (by decide +kernel)) (goodIn_sub (fun _ h => List.mem_append_right _ h) (by decide +kernel))
set_option maxRecDepth 20000 in
theorem gL_law_L_between : GoodIn wsL_law (va_wsS RL 135 yL_between wsL_between) := goodIn_app (goodIn_of _ (by decide +kernel)) ggL_law_L_between
set_option maxRecDepth 20000 in
theorem ggL_law_X5_between : GoodIn wsL_law wsX5_between := goodIn_r _ [543, 71, 168, 169, 170, 5, 171, 172, 173, 174, 175, 111, 176, 177, 178, 112, 113, 114, 115, 116, 117, 118, 119, 120, 916, 917, 918, 919, 920, 921, 922, 923, 924, 925, 926] (by decide +kernel) (by decide +kernel)
set_option maxRecDepth 20000 in
theorem gL_law_X5_between : GoodIn wsL_law (wsV RL 137 RX5 yX5_between wsX5_between) := goodIn_app (goodIn_of _ (by decide +kernel)) ggL_law_X5_between
set_option maxRecDepth 20000 in
theorem ggL_law_L_coins : GoodIn wsL_law wsL_coins := goodIn_ca (goodIn_r _ [546, 128, 547, 548, 549, 2, 550, 31, 481, 137, 138, 139, 140, 141, 142, 16, 143, 144, 145, 15, 146, 147, 148, 149, 150, 151, 905, 906, 907, 908, 909, 910, 911, 912, 913, 914, 915, 937, 938, 939, 940, 927, 928, 929, 930] (by decide +kernel) (by decide +kernel)) (goodIn_sub (fun _ h => List.mem_append_right _ h) (by decide +kernel))
set_option maxRecDepth 20000 in
theorem gL_law_L_coins : GoodIn wsL_law (va_wsS RL 138 yL_coins wsL_coins) := goodIn_app (goodIn_of _ (by decide +kernel)) ggL_law_L_coins
set_option maxRecDepth 20000 in
theorem ggL_law_X5_coins : GoodIn wsL_law wsX5_coins := goodIn_r _ [554, 75, 168, 169, 170, 5, 171, 172, 173, 174, 175, 111, 176, 177, 178, 112, 113, 114, 115, 116, 117, 118, 119, 120, 916, 917, 918, 919, 920, 921, 922, 923, 924, 925, 926] (by decide +kernel) (by decide +kernel)
set_option maxRecDepth 20000 in
theorem gL_law_X5_coins : GoodIn wsL_law (wsV RL 140 RX5 yX5_coins wsX5_coins) := goodIn_app (goodIn_of _ (by decide +kernel)) ggL_law_X5_coins
set_option maxRecDepth 20000 in
theorem ggL_law_L_kept : GoodIn wsL_law wsL_kept := goodIn_ca (goodIn_r _ [557, 128, 558, 559, 560, 2, 561, 34, 394, 395, 396, 397, 141, 142, 321, 187, 188, 189, 190, 16, 191, 148, 149, 15, 150, 151, 905, 906, 907, 908, 909, 910, 911, 912, 913, 914, 915, 927, 928, 929, 930] (by decide +kernel) (by decide +kernel)) (goodIn_sub (fun _ h => List.mem_append_right _ h) (by decide +kernel))
set_option maxRecDepth 20000 in
theorem gL_law_L_kept : GoodIn wsL_law (va_wsS RL 141 yL_kept wsL_kept) := goodIn_app (goodIn_of _ (by decide +kernel)) ggL_law_L_kept
set_option maxRecDepth 20000 in
theorem ggL_law_X5_kept : GoodIn wsL_law wsX5_kept := goodIn_r _ [565, 79, 406, 330, 331, 332, 78, 333, 334, 176, 177, 5, 178, 172, 173, 174, 175, 111, 112, 113, 114, 115, 116, 117, 118, 119, 120, 407, 408, 409, 410, 411, 412, 413, 414, 415, 416, 417, 418, 419, 420, 421, 422, 84, 916, 917, 918, 919, 920, 921, 922, 923, 924, 925, 926, 941, 942, 943] (by decide +kernel) (by decide +kernel)
set_option maxRecDepth 20000 in
theorem gL_law_X5_kept : GoodIn wsL_law (wsV RL 143 RX5 yX5_kept wsX5_kept) := goodIn_app (goodIn_of _ (by decide +kernel)) ggL_law_X5_kept
set_option maxRecDepth 20000 in
theorem ggL_law_L_many : GoodIn wsL_law wsL_many := goodIn_ca (goodIn_r _ [568, 129, 569, 570, 571, 2, 572, 152, 153, 154, 134, 135, 573, 574, 575, 576, 16, 106, 20, 204, 203, 321, 31, 27, 577, 578, 579, 580, 15, 581, 40, 430, 431, 432, 19, 433, 49, 214, 47, 278, 279, 280, 281, 48, 582, 583, 584, 585, 586, 206, 207, 208, 209, 245, 246, 247, 248, 151, 249, 250, 251, 252, 39, 253, 254, 255, 256, 257, 258, 259, 587, 588, 589, 30, 590, 60, 591, 592, 593, 594, 595, 596, 597, 26, 598, 55, 599, 600, 601, 602, 603, 163, 148, 149, 150, 457, 458, 459, 460, 54, 461, 462, 463, 464, 905, 906, 907, 908, 909, 910, 911, 912, 913, 914, 915, 927, 928, 929, 930, 934, 935, 936, 931, 932, 933, 937, 938, 939, 940] (by decide +kernel) (by decide +kernel)) (goodIn_sub (fun _ h => List.mem_append_left _ (List.mem_append_right _ h)) (by decide +kernel))
set_option maxRecDepth 20000 in
theorem gL_law_L_many : GoodIn wsL_law (va_wsS RL 144 yL_many wsL_many) := goodIn_app (goodIn_of _ (by decide +kernel)) ggL_law_L_many
set_option maxRecDepth 20000 in
theorem ggL_law_X5_many : GoodIn wsL_law wsX5_many := goodIn_r _ [607, 176, 177, 5, 178, 112, 113, 114, 115, 116, 117, 118, 119, 120, 608, 609, 610, 611, 75, 111, 72, 33, 221, 220, 73, 79, 469, 226, 227, 228, 229, 71, 530, 531, 532, 222, 223, 224, 225, 307, 308, 309, 290, 291, 292, 293, 294, 330, 331, 332, 78, 333, 334, 612, 613, 614, 615, 74, 470, 471, 472, 473, 916, 917, 918, 919, 920, 921, 922, 923, 924, 925, 926, 941, 942, 943] (by decide +kernel) (by decide +kernel)
set_option maxRecDepth 20000 in
theorem gL_law_X5_many : GoodIn wsL_law (wsV RL 146 RX5 yX5_many wsX5_many) := goodIn_app (goodIn_of _ (by decide +kernel)) ggL_law_X5_many
