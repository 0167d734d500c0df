theorem dJ9_max_7cf53_0 : decode cJ9_max_7cf53 0 = .ok (.iload_n 0, 1) := by decide +kernel
theorem dJ9_max_7cf53_1 : decode cJ9_max_7cf53 1 = .ok (.iload_n 1, 1) := by decide +kernel
theorem dJ9_max_7cf53_2 : decode cJ9_max_7cf53 2 = .ok (.if_icmp .lt 7, 3) := by decide +kernel
theorem dJ9_max_7cf53_5 : decode cJ9_max_7cf53 5 = .ok (.iload_n 0, 1) := by decide +kernel
theorem dJ9_max_7cf53_6 : decode cJ9_max_7cf53 6 = .ok (.goto 4, 3) := by decide +kernel
theorem dJ9_max_7cf53_9 : decode cJ9_max_7cf53 9 = .ok (.iload_n 1, 1) := by decide +kernel
theorem dJ9_max_7cf53_10 : decode cJ9_max_7cf53 10 = .ok (.ireturn, 1) := by decide +kernel
theorem dL_below_0 : decode cL_below 0 = .ok (.iload_n 0, 1) := by decide +kernel
theorem dL_below_1 : decode cL_below 1 = .ok (.ldc 7, 2) := by decide +kernel
theorem dL_below_3 : decode cL_below 3 = .ok (.iand, 1) := by decide +kernel
theorem dL_below_4 : decode cL_below 4 = .ok (.iload_n 1, 1) := by decide +kernel
theorem dL_below_5 : decode cL_below 5 = .ok (.irem, 1) := by decide +kernel
theorem dL_below_6 : decode cL_below 6 = .ok (.ireturn, 1) := by decide +kernel
theorem dL_cell_0 : decode cL_cell 0 = .ok (.iload_n 1, 1) := by decide +kernel
theorem dL_cell_1 : decode cL_cell 1 = .ok (.aload_n 0, 1) := by decide +kernel
theorem dL_cell_2 : decode cL_cell 2 = .ok (.arraylength, 1) := by decide +kernel
theorem dL_cell_3 : decode cL_cell 3 = .ok (.if_icmp .ge 9, 3) := by decide +kernel
theorem dL_cell_6 : decode cL_cell 6 = .ok (.aload_n 0, 1) := by decide +kernel
theorem dL_cell_7 : decode cL_cell 7 = .ok (.iload_n 1, 1) := by decide +kernel
theorem dL_cell_8 : decode cL_cell 8 = .ok (.iaload, 1) := by decide +kernel
theorem dL_cell_9 : decode cL_cell 9 = .ok (.goto 9, 3) := by decide +kernel
theorem dL_cell_12 : decode cL_cell 12 = .ok (.ldc 8, 2) := by decide +kernel
theorem dL_cell_14 : decode cL_cell 14 = .ok (.iload_n 1, 1) := by decide +kernel
theorem dL_cell_15 : decode cL_cell 15 = .ok (.iconst 3, 1) := by decide +kernel
theorem dL_cell_16 : decode cL_cell 16 = .ok (.iadd, 1) := by decide +kernel
theorem dL_cell_17 : decode cL_cell 17 = .ok (.imul, 1) := by decide +kernel
theorem dL_cell_18 : decode cL_cell 18 = .ok (.ireturn, 1) := by decide +kernel
set_option maxRecDepth 20000 in
theorem ggL_moor_X4_spot : GoodIn wsL_moor wsX4_spot := goodIn_ca (goodIn_r _ [11, 12, 13, 14, 15, 69, 70, 71, 72, 73, 74, 75, 76, 77, 78, 79, 80, 81, 82, 83] (by decide +kernel) (by decide +kernel)) (goodIn_sub (fun _ h => List.mem_cons_of_mem _ (List.mem_append_left _ (List.mem_append_left _ (List.mem_append_right _ h)))) (by decide +kernel))
set_option maxRecDepth 20000 in
theorem gL_moor_X4_spot : GoodIn wsL_moor (wsV RL 11 RX4 yX4_spot wsX4_spot) := goodIn_app (goodIn_of _ (by decide +kernel)) ggL_moor_X4_spot
set_option maxRecDepth 20000 in
theorem ggL_moor_L_cell : GoodIn wsL_moor wsL_cell := goodIn_r _ [19, 20] (by decide +kernel) (by decide +kernel)
set_option maxRecDepth 20000 in
theorem gL_moor_L_cell : GoodIn wsL_moor (va_wsS RL 17 yL_cell wsL_cell) := goodIn_app (goodIn_of _ (by decide +kernel)) ggL_moor_L_cell
set_option maxRecDepth 20000 in
theorem ggL_moor_L_below : GoodIn wsL_moor wsL_below := goodIn_r _ [23, 24] (by decide +kernel) (by decide +kernel)
set_option maxRecDepth 20000 in
theorem gL_moor_L_below : GoodIn wsL_moor (va_wsS RL 23 yL_below wsL_below) := goodIn_app (goodIn_of _ (by decide +kernel)) ggL_moor_L_below
set_option maxRecDepth 20000 in
theorem ggL_moor_L_lay : GoodIn wsL_moor wsL_lay := goodIn_ca (goodIn_ca (goodIn_r _ [27, 28, 29, 30, 10, 31, 32, 33, 14, 34, 35, 36, 37, 38, 39, 40, 41, 42, 43, 44, 45, 46, 47, 48, 49, 50, 51, 52, 53, 54, 55, 56, 57, 58, 59, 60, 61, 62, 63, 64, 65, 66, 67, 68, 69, 70, 71, 72, 73, 74, 75, 76, 77, 78, 79, 80, 81, 82, 83, 84, 85, 86] (by decide +kernel) (by decide +kernel)) (goodIn_sub (fun _ h => List.mem_cons_of_mem _ (List.mem_append_left _ (List.mem_append_right _ h))) (by decide +kernel))) (goodIn_sub (fun _ h => List.mem_cons_of_mem _ (List.mem_append_right _ h)) (by decide +kernel))
set_option maxRecDepth 20000 in
theorem gL_moor_L_lay : GoodIn wsL_moor (va_wsS RL 27 yL_lay wsL_lay) := goodIn_app (goodIn_of _ (by decide +kernel)) ggL_moor_L_lay
theorem dL_moor_0 : decode cL_moor 0 = .ok (.bipush 7, 2) := by decide +kernel
theorem dL_moor_2 : decode cL_moor 2 = .ok (.bipush 7, 2) := by decide +kernel
theorem dL_moor_4 : decode cL_moor 4 = .ok (.multianewarray 9 2, 4) := by decide +kernel
theorem dL_moor_8 : decode cL_moor 8 = .ok (.astore 4, 2) := by decide +kernel
theorem dL_moor_10 : decode cL_moor 10 = .ok (.iconst 0, 1) := by decide +kernel
theorem dL_moor_11 : decode cL_moor 11 = .ok (.istore 5, 2) := by decide +kernel
theorem dL_moor_13 : decode cL_moor 13 = .ok (.iload 5, 2) := by decide +kernel
theorem dL_moor_15 : decode cL_moor 15 = .ok (.iload_n 3, 1) := by decide +kernel
theorem dL_moor_16 : decode cL_moor 16 = .ok (.if_icmp .ge 14, 3) := by decide +kernel
theorem dL_moor_19 : decode cL_moor 19 = .ok (.aload_n 0, 1) := by decide +kernel
theorem dL_moor_20 : decode cL_moor 20 = .ok (.invokevirtual 11, 3) := by decide +kernel
theorem dL_moor_23 : decode cL_moor 23 = .ok (.pop, 1) := by decide +kernel
theorem dL_moor_24 : decode cL_moor 24 = .ok (.iinc 5 1, 3) := by decide +kernel
theorem dL_moor_27 : decode cL_moor 27 = .ok (.goto (-14), 3) := by decide +kernel
theorem dL_moor_30 : decode cL_moor 30 = .ok (.iconst 0, 1) := by decide +kernel
theorem dL_moor_31 : decode cL_moor 31 = .ok (.istore 5, 2) := by decide +kernel
theorem dL_moor_33 : decode cL_moor 33 = .ok (.iload 5, 2) := by decide +kernel
theorem dL_moor_35 : decode cL_moor 35 = .ok (.iload_n 3, 1) := by decide +kernel
theorem dL_moor_36 : decode cL_moor 36 = .ok (.if_icmp .ge 134, 3) := by decide +kernel
theorem dL_moor_39 : decode cL_moor 39 = .ok (.aload_n 1, 1) := by decide +kernel
theorem dL_moor_40 : decode cL_moor 40 = .ok (.iload_n 2, 1) := by decide +kernel
theorem dL_moor_41 : decode cL_moor 41 = .ok (.iload 5, 2) := by decide +kernel
theorem dL_moor_43 : decode cL_moor 43 = .ok (.iadd, 1) := by decide +kernel
theorem dL_moor_44 : decode cL_moor 44 = .ok (.invokestatic 17, 3) := by decide +kernel
theorem dL_moor_47 : decode cL_moor 47 = .ok (.iconst 5, 1) := by decide +kernel
theorem dL_moor_48 : decode cL_moor 48 = .ok (.iload 5, 2) := by decide +kernel
theorem dL_moor_50 : decode cL_moor 50 = .ok (.imul, 1) := by decide +kernel
theorem dL_moor_51 : decode cL_moor 51 = .ok (.iadd, 1) := by decide +kernel
theorem dL_moor_52 : decode cL_moor 52 = .ok (.istore 6, 2) := by decide +kernel
theorem dL_moor_54 : decode cL_moor 54 = .ok (.aload_n 0, 1) := by decide +kernel
theorem dL_moor_55 : decode cL_moor 55 = .ok (.aload 4, 2) := by decide +kernel
theorem dL_moor_57 : decode cL_moor 57 = .ok (.iload 5, 2) := by decide +kernel
theorem dL_moor_59 : decode cL_moor 59 = .ok (.iload 5, 2) := by decide +kernel
theorem dL_moor_61 : decode cL_moor 61 = .ok (.ifCond .eq 12, 3) := by decide +kernel
theorem dL_moor_64 : decode cL_moor 64 = .ok (.iload 6, 2) := by decide +kernel
theorem dL_moor_66 : decode cL_moor 66 = .ok (.iconst 3, 1) := by decide +kernel
theorem dL_moor_67 : decode cL_moor 67 = .ok (.invokestatic 23, 3) := by decide +kernel
theorem dL_moor_70 : decode cL_moor 70 = .ok (.ifCond .ne 8, 3) := by decide +kernel
theorem dL_moor_73 : decode cL_moor 73 = .ok (.bipush 6, 2) := by decide +kernel
theorem dL_moor_75 : decode cL_moor 75 = .ok (.goto 12, 3) := by decide +kernel
theorem dL_moor_78 : decode cL_moor 78 = .ok (.iload 6, 2) := by decide +kernel
theorem dL_moor_80 : decode cL_moor 80 = .ok (.iconst 2, 1) := by decide +kernel
theorem dL_moor_81 : decode cL_moor 81 = .ok (.ishr, 1) := by decide +kernel
theorem dL_moor_82 : decode cL_moor 82 = .ok (.iload 5, 2) := by decide +kernel
theorem dL_moor_84 : decode cL_moor 84 = .ok (.invokestatic 23, 3) := by decide +kernel
theorem dL_moor_87 : decode cL_moor 87 = .ok (.iconst 1, 1) := by decide +kernel
theorem dL_moor_88 : decode cL_moor 88 = .ok (.iload 6, 2) := by decide +kernel
theorem dL_moor_90 : decode cL_moor 90 = .ok (.iconst 4, 1) := by decide +kernel
theorem dL_moor_91 : decode cL_moor 91 = .ok (.ishr, 1) := by decide +kernel
theorem dL_moor_92 : decode cL_moor 92 = .ok (.iconst 3, 1) := by decide +kernel
theorem dL_moor_93 : decode cL_moor 93 = .ok (.invokestatic 23, 3) := by decide +kernel
theorem dL_moor_96 : decode cL_moor 96 = .ok (.iadd, 1) := by decide +kernel
theorem dL_moor_97 : decode cL_moor 97 = .ok (.invokestatic 27, 3) := by decide +kernel
theorem dL_moor_100 : decode cL_moor 100 = .ok (.iload 6, 2) := by decide +kernel
theorem dL_moor_102 : decode cL_moor 102 = .ok (.iconst 3, 1) := by decide +kernel
theorem dL_moor_103 : decode cL_moor 103 = .ok (.ishr, 1) := by decide +kernel
theorem dL_moor_104 : decode cL_moor 104 = .ok (.iload_n 3, 1) := by decide +kernel
theorem dL_moor_105 : decode cL_moor 105 = .ok (.iconst 1, 1) := by decide +kernel
theorem dL_moor_106 : decode cL_moor 106 = .ok (.iadd, 1) := by decide +kernel
theorem dL_moor_107 : decode cL_moor 107 = .ok (.invokestatic 23, 3) := by decide +kernel
theorem dL_moor_110 : decode cL_moor 110 = .ok (.istore 7, 2) := by decide +kernel
theorem dL_moor_112 : decode cL_moor 112 = .ok (.iload 7, 2) := by decide +kernel
theorem dL_moor_114 : decode cL_moor 114 = .ok (.iload 5, 2) := by decide +kernel
theorem dL_moor_116 : decode cL_moor 116 = .ok (.if_icmp .eq 48, 3) := by decide +kernel
theorem dL_moor_119 : decode cL_moor 119 = .ok (.iload 6, 2) := by decide +kernel
theorem dL_moor_121 : decode cL_moor 121 = .ok (.bipush 6, 2) := by decide +kernel
theorem dL_moor_123 : decode cL_moor 123 = .ok (.ishr, 1) := by decide +kernel
theorem dL_moor_124 : decode cL_moor 124 = .ok (.iconst 2, 1) := by decide +kernel
theorem dL_moor_125 : decode cL_moor 125 = .ok (.invokestatic 23, 3) := by decide +kernel
theorem dL_moor_128 : decode cL_moor 128 = .ok (.ifCond .ne 36, 3) := by decide +kernel
theorem dL_moor_131 : decode cL_moor 131 = .ok (.aload_n 0, 1) := by decide +kernel
theorem dL_moor_132 : decode cL_moor 132 = .ok (.aload 4, 2) := by decide +kernel
theorem dL_moor_134 : decode cL_moor 134 = .ok (.iload 5, 2) := by decide +kernel
theorem dL_moor_136 : decode cL_moor 136 = .ok (.iload 7, 2) := by decide +kernel
theorem dL_moor_138 : decode cL_moor 138 = .ok (.iload_n 3, 1) := by decide +kernel
theorem dL_moor_139 : decode cL_moor 139 = .ok (.if_icmp .ne 8, 3) := by decide +kernel
theorem dL_moor_142 : decode cL_moor 142 = .ok (.bipush 6, 2) := by decide +kernel
theorem dL_moor_144 : decode cL_moor 144 = .ok (.goto 5, 3) := by decide +kernel
theorem dL_moor_147 : decode cL_moor 147 = .ok (.iload 7, 2) := by decide +kernel
theorem dL_moor_149 : decode cL_moor 149 = .ok (.iconst 1, 1) := by decide +kernel
theorem dL_moor_150 : decode cL_moor 150 = .ok (.iload 6, 2) := by decide +kernel
theorem dL_moor_152 : decode cL_moor 152 = .ok (.iconst 5, 1) := by decide +kernel
theorem dL_moor_153 : decode cL_moor 153 = .ok (.ishr, 1) := by decide +kernel
theorem dL_moor_154 : decode cL_moor 154 = .ok (.iconst 4, 1) := by decide +kernel
theorem dL_moor_155 : decode cL_moor 155 = .ok (.invokestatic 23, 3) := by decide +kernel
theorem dL_moor_158 : decode cL_moor 158 = .ok (.invokestatic 31, 3) := by decide +kernel
theorem dL_moor_161 : decode cL_moor 161 = .ok (.invokestatic 27, 3) := by decide +kernel
theorem dL_moor_164 : decode cL_moor 164 = .ok (.iinc 5 1, 3) := by decide +kernel
theorem dL_moor_167 : decode cL_moor 167 = .ok (.goto (-134), 3) := by decide +kernel
theorem dL_moor_170 : decode cL_moor 170 = .ok (.aload 4, 2) := by decide +kernel
theorem dL_moor_172 : decode cL_moor 172 = .ok (.areturn, 1) := by decide +kernel
set_option maxRecDepth 20000 in
theorem ggL_lay_X4_edge : GoodIn wsL_lay wsX4_edge := goodIn_ca (goodIn_ca (goodIn_r _ [5, 6, 7, 8, 9, 10, 11, 12, 13, 4, 14, 15, 16, 17, 18, 19, 20, 21, 22, 23, 24, 25, 26, 27, 28, 29, 30, 31, 32, 33, 34, 35, 36, 37, 38, 39, 40, 41, 42, 43, 44, 45, 46, 47, 48, 49, 50, 51, 52, 53, 54, 55, 56, 57, 58, 59, 60, 61] (by decide +kernel) (by decide +kernel)) (goodIn_sub (fun _ h => List.mem_cons_of_mem _ (List.mem_append_left _ (List.mem_append_right _ h))) (by decide +kernel))) (goodIn_sub (fun _ h => List.mem_cons_of_mem _ (List.mem_append_right _ h)) (by decide +kernel))
set_option maxRecDepth 20000 in
theorem gL_lay_X4_edge : GoodIn wsL_lay (wsV RL 36 RX4 yX4_edge wsX4_edge) := goodIn_app (goodIn_of _ (by decide +kernel)) ggL_lay_X4_edge
theorem dL_lay_0 : decode cL_lay 0 = .ok (.aload_n 0, 1) := by decide +kernel
theorem dL_lay_1 : decode cL_lay 1 = .ok (.iload_n 2, 1) := by decide +kernel
theorem dL_lay_2 : decode cL_lay 2 = .ok (.iload_n 3, 1) := by decide +kernel
theorem dL_lay_3 : decode cL_lay 3 = .ok (.iload 4, 2) := by decide +kernel
theorem dL_lay_5 : decode cL_lay 5 = .ok (.invokevirtual 36, 3) := by decide +kernel
theorem dL_lay_8 : decode cL_lay 8 = .ok (.pop, 1) := by decide +kernel
theorem dL_lay_9 : decode cL_lay 9 = .ok (.aload_n 1, 1) := by decide +kernel
theorem dL_lay_10 : decode cL_lay 10 = .ok (.iload_n 2, 1) := by decide +kernel
theorem dL_lay_11 : decode cL_lay 11 = .ok (.aaload, 1) := by decide +kernel
theorem dL_lay_12 : decode cL_lay 12 = .ok (.iload_n 3, 1) := by decide +kernel
theorem dL_lay_13 : decode cL_lay 13 = .ok (.iload 4, 2) := by decide +kernel
theorem dL_lay_15 : decode cL_lay 15 = .ok (.iastore, 1) := by decide +kernel
theorem dL_lay_16 : decode cL_lay 16 = .ok (.aload_n 1, 1) := by decide +kernel
theorem dL_lay_17 : decode cL_lay 17 = .ok (.iload_n 3, 1) := by decide +kernel
theorem dL_lay_18 : decode cL_lay 18 = .ok (.aaload, 1) := by decide +kernel
theorem dL_lay_19 : decode cL_lay 19 = .ok (.iload_n 2, 1) := by decide +kernel
theorem dL_lay_20 : decode cL_lay 20 = .ok (.iload 4, 2) := by decide +kernel
theorem dL_lay_22 : decode cL_lay 22 = .ok (.iastore, 1) := by decide +kernel
theorem dL_lay_23 : decode cL_lay 23 = .ok (.return_, 1) := by decide +kernel
set_option maxRecDepth 20000 in
theorem ggL_law_X4_init : GoodIn wsL_law wsX4_init := goodIn_r _ [5, 6, 7, 8, 9, 10, 11, 12, 13, 14, 15, 16, 17, 18, 19, 20, 21, 22, 23, 24, 25, 26, 27, 28, 29, 30, 31, 32, 33, 34, 35, 36, 37, 38, 39, 40, 41, 42, 43, 44, 45, 46, 47, 48, 49, 50, 51, 52, 53, 54, 55, 56, 57, 58, 59, 60, 61, 62, 422, 423, 424, 425, 411, 412, 413, 414, 415, 416, 417, 418, 419, 420, 421, 426, 427, 428, 429, 430, 431, 432, 433, 434, 435] (by decide +kernel) (by decide +kernel)
set_option maxRecDepth 20000 in
theorem gL_law_X4_init : GoodIn wsL_law (wsX4_init) := ggL_law_X4_init
set_option maxRecDepth 20000 in
theorem ggL_law_L_cell : GoodIn wsL_law wsL_cell := goodIn_r _ [66, 67] (by decide +kernel) (by decide +kernel)
set_option maxRecDepth 20000 in
theorem gL_law_L_cell : GoodIn wsL_law (va_wsS RL 17 yL_cell wsL_cell) := goodIn_app (goodIn_of _ (by decide +kernel)) ggL_law_L_cell
set_option maxRecDepth 20000 in
theorem ggL_law_L_below : GoodIn wsL_law wsL_below := goodIn_r _ [70, 71] (by decide +kernel) (by decide +kernel)
set_option maxRecDepth 20000 in
theorem gL_law_L_below : GoodIn wsL_law (va_wsS RL 23 yL_below wsL_below) := goodIn_app (goodIn_of _ (by decide +kernel)) ggL_law_L_below
set_option maxRecDepth 20000 in
theorem ggL_law_L_moor : GoodIn wsL_law wsL_moor := goodIn_ca (goodIn_ca (goodIn_ca (goodIn_r _ [74, 75, 29, 76, 77, 78, 79, 80, 81, 82, 2, 83, 84, 85, 12, 86, 63, 64, 65, 66, 67, 68, 69, 70, 71, 87, 88, 89, 90, 91, 92, 93, 94, 95, 96, 23, 97, 98, 99, 100, 101, 102, 103, 104, 105, 11, 106, 107, 108, 109, 110, 111, 112, 113, 114, 115, 116, 117, 118, 35, 36, 119, 120, 121, 22, 122, 52, 51, 123, 411, 412, 413, 414, 415, 416, 417, 418, 419, 420, 421, 422, 423, 424, 425, 429, 430, 431] (by decide +kernel) (by decide +kernel)) (goodIn_sub (fun _ h => List.mem_append_left _ (List.mem_append_left _ (List.mem_append_right _ h))) (by decide +kernel))) (goodIn_sub (fun _ h => List.mem_append_left _ (List.mem_append_right _ h)) (by decide +kernel))) (goodIn_sub (fun _ h => List.mem_append_right _ h) (by decide +kernel))
set_option maxRecDepth 20000 in
theorem gL_law_L_moor : GoodIn wsL_law (va_wsS RL 41 yL_moor wsL_moor) := goodIn_app (goodIn_of _ (by decide +kernel)) ggL_law_L_moor
set_option maxRecDepth 20000 in
theorem ggL_law_X4_ofSpot : GoodIn wsL_law wsX4_ofSpot := goodIn_ca (goodIn_ca (goodIn_r _ [127, 128, 129, 130, 2, 131, 101, 102, 12, 132, 108, 109, 11, 110, 111, 112, 113, 114, 94, 95, 133, 134, 135, 136, 16, 137, 138, 96, 139, 23, 140, 141, 142, 143, 15, 144, 46, 145, 44, 146, 147, 148, 22, 149, 52, 51, 150, 151, 152, 153, 35, 411, 412, 413, 414, 415, 416, 417, 418, 419, 420, 421, 422, 423, 424, 425, 426, 427, 428, 429, 430, 431] (by decide +kernel) (by decide +kernel)) (goodIn_sub (fun _ h => List.mem_append_right _ h) (by decide +kernel))) (goodIn_sub (fun _ h => List.mem_append_left _ (List.mem_append_right _ h)) (by decide +kernel))
set_option maxRecDepth 20000 in
theorem gL_law_X4_ofSpot : GoodIn wsL_law (wsV RL 45 RX4 yX4_ofSpot wsX4_ofSpot) := goodIn_app (goodIn_of _ (by decide +kernel)) ggL_law_X4_ofSpot
set_option maxRecDepth 20000 in
theorem ggL_law_X4_drop : GoodIn wsL_law wsX4_drop := goodIn_ca (goodIn_ca (goodIn_ca (goodIn_r _ [157, 84, 85, 16, 137, 128, 129, 130, 2, 131, 101, 102, 12, 132, 108, 109, 11, 110, 111, 112, 113, 114, 94, 95, 411, 412, 413, 414, 415, 416, 417, 418, 419, 420, 421, 426, 427, 428, 422, 423, 424, 425] (by decide +kernel) (by decide +kernel)) (goodIn_sub (fun _ h => List.mem_append_left _ (List.mem_append_left _ (List.mem_append_right _ h))) (by decide +kernel))) (goodIn_sub (fun _ h => List.mem_append_right _ h) (by decide +kernel))) (goodIn_sub (fun _ h => List.mem_append_left _ (List.mem_append_right _ h)) (by decide +kernel))
set_option maxRecDepth 20000 in
theorem gL_law_X4_drop : GoodIn wsL_law (wsV RL 48 RX4 yX4_drop wsX4_drop) := goodIn_app (goodIn_of _ (by decide +kernel)) ggL_law_X4_drop
set_option maxRecDepth 20000 in
theorem ggL_law_X4_topple : GoodIn wsL_law wsX4_topple := goodIn_ca (goodIn_ca (goodIn_r _ [161, 84, 85, 16, 162, 163, 12, 96, 128, 129, 130, 2, 131, 101, 102, 132, 108, 109, 11, 110, 111, 141, 142, 143, 15, 144, 46, 145, 44, 164, 165, 166, 167, 168, 169, 411, 412, 413, 414, 415, 416, 417, 418, 419, 420, 421, 422, 423, 424, 425, 426, 427, 428] (by decide +kernel) (by decide +kernel)) (goodIn_sub (fun _ h => List.mem_append_left _ (List.mem_append_left _ (List.mem_append_right _ h))) (by decide +kernel))) (goodIn_sub (fun _ h => List.mem_append_right _ h) (by decide +kernel))
set_option maxRecDepth 20000 in
theorem gL_law_X4_topple : GoodIn wsL_law (wsV RL 51 RX4 yX4_topple wsX4_topple) := goodIn_app (goodIn_of _ (by decide +kernel)) ggL_law_X4_topple
set_option maxRecDepth 20000 in
theorem ggL_law_X4_pay : GoodIn wsL_law wsX4_pay := goodIn_ca (goodIn_ca (goodIn_r _ [173, 27, 174, 97, 98, 99, 2, 100, 101, 102, 12, 103, 104, 105, 11, 106, 107, 108, 109, 110, 111, 112, 113, 114, 94, 95, 411, 412, 413, 414, 415, 416, 417, 418, 419, 420, 421, 432, 433, 434, 435, 422, 423, 424, 425] (by decide +kernel) (by decide +kernel)) (goodIn_sub (fun _ h => List.mem_append_right _ h) (by decide +kernel))) (goodIn_sub (fun _ h => List.mem_append_left _ (List.mem_append_right _ h)) (by decide +kernel))
set_option maxRecDepth 20000 in
theorem gL_law_X4_pay : GoodIn wsL_law (wsV RL 55 RX4 yX4_pay wsX4_pay) := goodIn_app (goodIn_of _ (by decide +kernel)) ggL_law_X4_pay
set_option maxRecDepth 20000 in
theorem ggL_law_X4_lend : GoodIn wsL_law wsX4_lend := goodIn_ca (goodIn_r _ [178, 27, 174, 97, 98, 99, 2, 100, 101, 102, 12, 103, 104, 105, 11, 106, 107, 108, 109, 110, 111, 179, 180, 181, 26, 182, 57, 58, 183, 184, 411, 412, 413, 414, 415, 416, 417, 418, 419, 420, 421, 432, 433, 434, 435, 422, 423, 424, 425] (by decide +kernel) (by decide +kernel)) (goodIn_sub (fun _ h => List.mem_append_right _ h) (by decide +kernel))
set_option maxRecDepth 20000 in
theorem gL_law_X4_lend : GoodIn wsL_law (wsV RL 58 RX4 yX4_lend wsX4_lend) := goodIn_app (goodIn_of _ (by decide +kernel)) ggL_law_X4_lend
set_option maxRecDepth 20000 in
theorem ggL_law_X4_settle : GoodIn wsL_law wsX4_settle := goodIn_ca (goodIn_r _ [188, 189, 190, 191, 2, 192, 84, 85, 12, 193, 194, 195, 11, 196, 111, 197, 198, 199, 200, 35, 201, 202, 203, 204, 205, 206, 207, 208, 209, 210, 211, 16, 162, 163, 212, 213, 214, 15, 215, 45, 216, 217, 218, 219, 220, 221, 222, 223, 224, 46, 168, 145, 44, 225, 165, 166, 167, 169, 226, 227, 228, 229, 230, 231, 232, 233, 411, 412, 413, 414, 415, 416, 417, 418, 419, 420, 421, 422, 423, 424, 425, 426, 427, 428] (by decide +kernel) (by decide +kernel)) (goodIn_sub (fun _ h => List.mem_append_left _ (List.mem_append_left _ (List.mem_append_right _ h))) (by decide +kernel))
