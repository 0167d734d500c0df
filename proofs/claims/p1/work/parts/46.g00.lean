set_option maxRecDepth 20000 in
theorem ggL_law_X4_init : GoodIn wsL_law wsX4_init := goodIn_r _ [9, 10, 11, 12, 13, 14, 15, 16, 17, 18, 19, 20, 21, 22, 23, 24, 25, 26, 27, 28, 29, 30, 31, 32, 33, 34, 35, 36, 37, 38, 39, 40, 41, 6, 42, 43, 44, 45, 46, 47, 48, 49, 50, 51, 52, 53, 54, 55, 56, 57, 58, 59, 60, 61, 62, 63, 64, 65, 927, 928, 929, 930, 905, 906, 907, 908, 909, 910, 911, 912, 913, 914, 915, 931, 932, 933, 934, 935, 936, 937, 938, 939, 940] (by decide +kernel) (by decide +kernel)
set_option maxRecDepth 20000 in
theorem gL_law_X4_init : GoodIn wsL_law (wsX4_init) := ggL_law_X4_init
set_option maxRecDepth 20000 in
theorem ggL_law_X5_init : GoodIn wsL_law wsX5_init := goodIn_r _ [68, 69, 11, 12, 70, 33, 71, 72, 73, 74, 75, 76, 77, 78, 79, 80, 81, 82, 83, 84, 85, 86, 87, 88, 89, 90, 91, 92, 93, 94, 916, 917, 918, 919, 920, 921, 922, 923, 924, 925, 926, 941, 942, 943] (by decide +kernel) (by decide +kernel)
set_option maxRecDepth 20000 in
theorem gL_law_X5_init : GoodIn wsL_law (wsX5_init) := ggL_law_X5_init
set_option maxRecDepth 20000 in
theorem ggL_law_L_spot : GoodIn wsL_law wsL_spot := goodIn_ca (goodIn_r _ [98, 99, 100, 101, 102, 2, 103, 104, 105, 16, 106, 905, 906, 907, 908, 909, 910, 911, 912, 913, 914, 915, 927, 928, 929, 930] (by decide +kernel) (by decide +kernel)) (goodIn_sub (fun _ h => List.mem_append_left _ (List.mem_append_left _ (List.mem_append_right _ h))) (by decide +kernel))
set_option maxRecDepth 20000 in
theorem gL_law_L_spot : GoodIn wsL_law (va_wsS RL 88 yL_spot wsL_spot) := goodIn_app (goodIn_of _ (by decide +kernel)) ggL_law_L_spot
set_option maxRecDepth 20000 in
theorem ggL_law_X5_spot : GoodIn wsL_law wsX5_spot := goodIn_r _ [110, 111, 112, 113, 114, 5, 115, 116, 117, 118, 119, 120, 916, 917, 918, 919, 920, 921, 922, 923, 924, 925, 926] (by decide +kernel) (by decide +kernel)
set_option maxRecDepth 20000 in
theorem gL_law_X5_spot : GoodIn wsL_law (wsV RL 93 RX5 yX5_spot wsX5_spot) := goodIn_app (goodIn_of _ (by decide +kernel)) ggL_law_X5_spot
set_option maxRecDepth 20000 in
theorem ggL_law_X5_thrown : GoodIn wsL_law wsX5_thrown := goodIn_r _ [124, 116, 916, 917, 918, 919, 920, 921, 922, 923, 924, 925, 926] (by decide +kernel) (by decide +kernel)
set_option maxRecDepth 20000 in
theorem gL_law_X5_thrown : GoodIn wsL_law (wsV RL 94 RX5 yX5_thrown wsX5_thrown) := goodIn_app (goodIn_of _ (by decide +kernel)) ggL_law_X5_thrown
set_option maxRecDepth 20000 in
theorem ggL_law_L_edge : GoodIn wsL_law wsL_edge := goodIn_ca (goodIn_ca (goodIn_r _ [127, 128, 129, 130, 131, 132, 2, 133, 134, 135, 16, 136, 27, 137, 138, 139, 140, 141, 142, 143, 144, 145, 15, 146, 147, 148, 149, 150, 151, 152, 153, 154, 155, 156, 157, 158, 39, 40, 159, 160, 161, 26, 162, 55, 54, 163, 905, 906, 907, 908, 909, 910, 911, 912, 913, 914, 915, 927, 928, 929, 930, 934, 935, 936] (by decide +kernel) (by decide +kernel)) (goodIn_sub (fun _ h => List.mem_append_left _ (List.mem_append_right _ h)) (by decide +kernel))) (goodIn_sub (fun _ h => List.mem_append_right _ h) (by decide +kernel))
set_option maxRecDepth 20000 in
theorem gL_law_L_edge : GoodIn wsL_law (va_wsS RL 97 yL_edge wsL_edge) := goodIn_app (goodIn_of _ (by decide +kernel)) ggL_law_L_edge
set_option maxRecDepth 20000 in
theorem ggL_law_X5_edge : GoodIn wsL_law wsX5_edge := goodIn_r _ [167, 71, 74, 168, 169, 170, 5, 171, 172, 173, 174, 175, 111, 176, 177, 178, 112, 113, 114, 115, 116, 117, 118, 119, 120, 916, 917, 918, 919, 920, 921, 922, 923, 924, 925, 926] (by decide +kernel) (by decide +kernel)
set_option maxRecDepth 20000 in
theorem gL_law_X5_edge : GoodIn wsL_law (wsV RL 100 RX5 yX5_edge wsX5_edge) := goodIn_app (goodIn_of _ (by decide +kernel)) ggL_law_X5_edge
set_option maxRecDepth 20000 in
theorem ggL_law_L_drop : GoodIn wsL_law wsL_drop := goodIn_ca (goodIn_ca (goodIn_ca (goodIn_r _ [181, 128, 129, 99, 182, 183, 184, 2, 185, 104, 105, 20, 186, 187, 188, 189, 190, 141, 142, 16, 191, 148, 149, 15, 150, 151, 152, 153, 154, 134, 135, 905, 906, 907, 908, 909, 910, 911, 912, 913, 914, 915, 931, 932, 933, 927, 928, 929, 930] (by decide +kernel) (by decide +kernel)) (goodIn_sub (fun _ h => List.mem_append_left _ (List.mem_append_left _ (List.mem_append_right _ h))) (by decide +kernel))) (goodIn_sub (fun _ h => List.mem_append_right _ h) (by decide +kernel))) (goodIn_sub (fun _ h => List.mem_append_left _ (List.mem_append_right _ h)) (by decide +kernel))
set_option maxRecDepth 20000 in
theorem gL_law_L_drop : GoodIn wsL_law (va_wsS RL 101 yL_drop wsL_drop) := goodIn_app (goodIn_of _ (by decide +kernel)) ggL_law_L_drop
set_option maxRecDepth 20000 in
theorem ggL_law_X5_drop : GoodIn wsL_law wsX5_drop := goodIn_r _ [195, 72, 172, 173, 174, 5, 175, 111, 176, 177, 178, 112, 113, 114, 115, 116, 117, 118, 119, 120, 916, 917, 918, 919, 920, 921, 922, 923, 924, 925, 926] (by decide +kernel) (by decide +kernel)
set_option maxRecDepth 20000 in
theorem gL_law_X5_drop : GoodIn wsL_law (wsV RL 104 RX5 yX5_drop wsX5_drop) := goodIn_app (goodIn_of _ (by decide +kernel)) ggL_law_X5_drop
set_option maxRecDepth 20000 in
theorem ggL_law_L_topple : GoodIn wsL_law wsL_topple := goodIn_ca (goodIn_ca (goodIn_r _ [198, 128, 99, 199, 200, 201, 2, 202, 104, 105, 20, 203, 204, 16, 136, 187, 188, 189, 190, 141, 142, 191, 148, 149, 15, 150, 151, 205, 206, 207, 19, 208, 49, 209, 47, 210, 211, 212, 213, 214, 215, 905, 906, 907, 908, 909, 910, 911, 912, 913, 914, 915, 927, 928, 929, 930, 931, 932, 933] (by decide +kernel) (by decide +kernel)) (goodIn_sub (fun _ h => List.mem_append_left _ (List.mem_append_left _ (List.mem_append_right _ h))) (by decide +kernel))) (goodIn_sub (fun _ h => List.mem_append_right _ h) (by decide +kernel))
set_option maxRecDepth 20000 in
theorem gL_law_L_topple : GoodIn wsL_law (va_wsS RL 105 yL_topple wsL_topple) := goodIn_app (goodIn_of _ (by decide +kernel)) ggL_law_L_topple
set_option maxRecDepth 20000 in
theorem ggL_law_X5_topple : GoodIn wsL_law wsX5_topple := goodIn_r _ [219, 72, 220, 221, 71, 172, 173, 174, 5, 175, 111, 176, 177, 178, 112, 113, 114, 115, 116, 117, 118, 119, 120, 222, 223, 224, 225, 226, 227, 228, 229, 230, 231, 232, 233, 916, 917, 918, 919, 920, 921, 922, 923, 924, 925, 926] (by decide +kernel) (by decide +kernel)
set_option maxRecDepth 20000 in
theorem gL_law_X5_topple : GoodIn wsL_law (wsV RL 108 RX5 yX5_topple wsX5_topple) := goodIn_app (goodIn_of _ (by decide +kernel)) ggL_law_X5_topple
set_option maxRecDepth 20000 in
theorem ggL_law_L_settle : GoodIn wsL_law wsL_settle := goodIn_ca (goodIn_r _ [236, 99, 237, 238, 239, 2, 240, 241, 242, 243, 244, 104, 105, 16, 245, 246, 247, 15, 248, 151, 249, 250, 251, 252, 39, 253, 254, 255, 256, 257, 258, 259, 260, 261, 262, 263, 20, 203, 204, 264, 265, 266, 19, 267, 48, 268, 269, 270, 271, 272, 273, 274, 275, 276, 49, 214, 209, 47, 277, 211, 212, 213, 215, 278, 279, 280, 281, 282, 283, 284, 285, 905, 906, 907, 908, 909, 910, 911, 912, 913, 914, 915, 927, 928, 929, 930, 931, 932, 933] (by decide +kernel) (by decide +kernel)) (goodIn_sub (fun _ h => List.mem_append_left _ (List.mem_append_left _ (List.mem_append_right _ h))) (by decide +kernel))
set_option maxRecDepth 20000 in
theorem gL_law_L_settle : GoodIn wsL_law (va_wsS RL 109 yL_settle wsL_settle) := goodIn_app (goodIn_of _ (by decide +kernel)) ggL_law_L_settle
set_option maxRecDepth 20000 in
theorem ggL_law_X5_settle : GoodIn wsL_law wsX5_settle := goodIn_r _ [289, 72, 290, 291, 292, 5, 293, 294, 71, 111, 112, 113, 114, 115, 116, 117, 118, 119, 120, 295, 296, 297, 298, 33, 299, 300, 301, 302, 222, 223, 224, 225, 226, 227, 228, 229, 230, 231, 232, 233, 303, 304, 305, 306, 73, 220, 221, 307, 308, 309, 310, 311, 312, 313, 916, 917, 918, 919, 920, 921, 922, 923, 924, 925, 926] (by decide +kernel) (by decide +kernel)
set_option maxRecDepth 20000 in
theorem gL_law_X5_settle : GoodIn wsL_law (wsV RL 111 RX5 yX5_settle wsX5_settle) := goodIn_app (goodIn_of _ (by decide +kernel)) ggL_law_X5_settle
set_option maxRecDepth 20000 in
theorem ggL_law_L_keep : GoodIn wsL_law wsL_keep := goodIn_ca (goodIn_r _ [316, 99, 317, 318, 319, 2, 320, 104, 105, 321, 20, 186, 34, 322, 323, 324, 325, 905, 906, 907, 908, 909, 910, 911, 912, 913, 914, 915, 931, 932, 933] (by decide +kernel) (by decide +kernel)) (goodIn_sub (fun _ h => List.mem_append_left _ (List.mem_append_left _ (List.mem_append_right _ h))) (by decide +kernel))
set_option maxRecDepth 20000 in
theorem gL_law_L_keep : GoodIn wsL_law (va_wsS RL 112 yL_keep wsL_keep) := goodIn_app (goodIn_of _ (by decide +kernel)) ggL_law_L_keep
set_option maxRecDepth 20000 in
theorem ggL_law_X5_keep : GoodIn wsL_law wsX5_keep := goodIn_r _ [329, 79, 72, 330, 331, 332, 78, 333, 334, 112, 113, 114, 5, 115, 116, 117, 118, 119, 120, 335, 336, 337, 33, 338, 323, 324, 325, 339, 340, 341, 342, 343, 344, 84, 345, 346, 347, 348, 349, 350, 351, 352, 353, 354, 355, 356, 83, 357, 358, 359, 360, 361, 362, 363, 364, 365, 366, 367, 368, 369, 370, 371, 372, 271, 373, 374, 375, 376, 377, 378, 379, 380, 381, 382, 383, 384, 385, 386, 916, 917, 918, 919, 920, 921, 922, 923, 924, 925, 926, 941, 942, 943] (by decide +kernel) (by decide +kernel)
set_option maxRecDepth 20000 in
theorem gL_law_X5_keep : GoodIn wsL_law (wsV RL 114 RX5 yX5_keep wsX5_keep) := goodIn_app (goodIn_of _ (by decide +kernel)) ggL_law_X5_keep
set_option maxRecDepth 20000 in
theorem ggL_law_L_add : GoodIn wsL_law wsL_add := goodIn_ca (goodIn_ca (goodIn_r _ [389, 128, 99, 390, 391, 392, 2, 393, 104, 105, 16, 106, 20, 186, 34, 394, 395, 396, 397, 141, 142, 321, 241, 242, 243, 244, 245, 246, 247, 15, 248, 151, 249, 250, 251, 252, 39, 253, 254, 255, 256, 257, 258, 259, 398, 399, 400, 19, 401, 49, 214, 47, 260, 261, 262, 263, 203, 204, 264, 265, 266, 267, 48, 268, 269, 270, 271, 272, 273, 274, 275, 276, 209, 277, 211, 212, 213, 215, 278, 279, 280, 281, 282, 283, 284, 285, 905, 906, 907, 908, 909, 910, 911, 912, 913, 914, 915, 927, 928, 929, 930, 931, 932, 933] (by decide +kernel) (by decide +kernel)) (goodIn_sub (fun _ h => List.mem_append_left _ (List.mem_append_left _ (List.mem_append_right _ h))) (by decide +kernel))) (goodIn_sub (fun _ h => List.mem_append_right _ h) (by decide +kernel))
set_option maxRecDepth 20000 in
theorem gL_law_L_add : GoodIn wsL_law (va_wsS RL 115 yL_add wsL_add) := goodIn_app (goodIn_of _ (by decide +kernel)) ggL_law_L_add
set_option maxRecDepth 20000 in
theorem ggL_law_X5_add : GoodIn wsL_law wsX5_add := goodIn_r _ [405, 79, 72, 406, 330, 331, 332, 78, 333, 334, 176, 177, 5, 178, 112, 113, 114, 115, 116, 117, 118, 119, 120, 407, 408, 409, 410, 411, 412, 413, 414, 415, 416, 417, 418, 419, 420, 421, 422, 84, 423, 424, 425, 33, 290, 291, 292, 293, 294, 71, 111, 295, 296, 297, 298, 299, 300, 301, 302, 222, 223, 224, 225, 226, 227, 228, 229, 230, 231, 232, 233, 303, 304, 305, 306, 73, 220, 221, 307, 308, 309, 310, 311, 312, 313, 916, 917, 918, 919, 920, 921, 922, 923, 924, 925, 926, 941, 942, 943] (by decide +kernel) (by decide +kernel)
set_option maxRecDepth 20000 in
theorem gL_law_X5_add : GoodIn wsL_law (wsV RL 117 RX5 yX5_add wsX5_add) := goodIn_app (goodIn_of _ (by decide +kernel)) ggL_law_X5_add
set_option maxRecDepth 20000 in
theorem ggL_law_X4_sweep : GoodIn wsL_law wsX4_sweep := goodIn_r _ [429, 20, 186, 430, 431, 432, 19, 433, 49, 214, 47, 434, 270, 271, 272, 905, 906, 907, 908, 909, 910, 911, 912, 913, 914, 915, 931, 932, 933, 927, 928, 929, 930] (by decide +kernel) (by decide +kernel)
