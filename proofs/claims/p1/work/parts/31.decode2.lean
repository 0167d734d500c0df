set_option maxRecDepth 20000 in
theorem ggX5_init_Jx4a65c_init_da8c8 : GoodIn wsX5_init wsJx4a65c_init_da8c8 := goodIn_r _ [17, 18, 19, 20, 21, 22, 23, 24, 25, 26, 27, 28, 29, 2, 3, 41, 42, 43] (by decide +kernel) (by decide +kernel)
set_option maxRecDepth 20000 in
theorem gX5_init_Jx4a65c_init_da8c8 : GoodIn wsX5_init (wsJx4a65c_init_da8c8) := ggX5_init_Jx4a65c_init_da8c8
theorem dX5_init_0 : decode cX5_init 0 = .ok (.aload_n 0, 1) := by decide +kernel
theorem dX5_init_1 : decode cX5_init 1 = .ok (.invokespecial 1, 3) := by decide +kernel
theorem dX5_init_4 : decode cX5_init 4 = .ok (.aload_n 0, 1) := by decide +kernel
theorem dX5_init_5 : decode cX5_init 5 = .ok (.bipush 7, 2) := by decide +kernel
theorem dX5_init_7 : decode cX5_init 7 = .ok (.bipush 7, 2) := by decide +kernel
theorem dX5_init_9 : decode cX5_init 9 = .ok (.multianewarray 9 2, 4) := by decide +kernel
theorem dX5_init_13 : decode cX5_init 13 = .ok (.putfield 11, 3) := by decide +kernel
theorem dX5_init_16 : decode cX5_init 16 = .ok (.aload_n 0, 1) := by decide +kernel
theorem dX5_init_17 : decode cX5_init 17 = .ok (.bipush 6, 2) := by decide +kernel
theorem dX5_init_19 : decode cX5_init 19 = .ok (.newarray .int, 2) := by decide +kernel
theorem dX5_init_21 : decode cX5_init 21 = .ok (.putfield 14, 3) := by decide +kernel
theorem dX5_init_24 : decode cX5_init 24 = .ok (.aload_n 0, 1) := by decide +kernel
theorem dX5_init_25 : decode cX5_init 25 = .ok (.bipush 6, 2) := by decide +kernel
theorem dX5_init_27 : decode cX5_init 27 = .ok (.newarray .int, 2) := by decide +kernel
theorem dX5_init_29 : decode cX5_init 29 = .ok (.putfield 18, 3) := by decide +kernel
theorem dX5_init_32 : decode cX5_init 32 = .ok (.aload_n 0, 1) := by decide +kernel
theorem dX5_init_33 : decode cX5_init 33 = .ok (.bipush 6, 2) := by decide +kernel
theorem dX5_init_35 : decode cX5_init 35 = .ok (.newarray .int, 2) := by decide +kernel
theorem dX5_init_37 : decode cX5_init 37 = .ok (.putfield 21, 3) := by decide +kernel
theorem dX5_init_40 : decode cX5_init 40 = .ok (.aload_n 0, 1) := by decide +kernel
theorem dX5_init_41 : decode cX5_init 41 = .ok (.bipush 7, 2) := by decide +kernel
theorem dX5_init_43 : decode cX5_init 43 = .ok (.newarray .int, 2) := by decide +kernel
theorem dX5_init_45 : decode cX5_init 45 = .ok (.putfield 24, 3) := by decide +kernel
theorem dX5_init_48 : decode cX5_init 48 = .ok (.aload_n 0, 1) := by decide +kernel
theorem dX5_init_49 : decode cX5_init 49 = .ok (.new 27, 3) := by decide +kernel
theorem dX5_init_52 : decode cX5_init 52 = .ok (.dup, 1) := by decide +kernel
theorem dX5_init_53 : decode cX5_init 53 = .ok (.invokespecial 29, 3) := by decide +kernel
theorem dX5_init_56 : decode cX5_init 56 = .ok (.putfield 30, 3) := by decide +kernel
theorem dX5_init_59 : decode cX5_init 59 = .ok (.return_, 1) := by decide +kernel
theorem dX5_thrown_0 : decode cX5_thrown 0 = .ok (.aload_n 0, 1) := by decide +kernel
theorem dX5_thrown_1 : decode cX5_thrown 1 = .ok (.getfield 34, 3) := by decide +kernel
theorem dX5_thrown_4 : decode cX5_thrown 4 = .ok (.ireturn, 1) := by decide +kernel
theorem dX5_refuse_0 : decode cX5_refuse 0 = .ok (.iload_n 1, 1) := by decide +kernel
theorem dX5_refuse_1 : decode cX5_refuse 1 = .ok (.ifCond .eq 15, 3) := by decide +kernel
theorem dX5_refuse_4 : decode cX5_refuse 4 = .ok (.aload_n 0, 1) := by decide +kernel
theorem dX5_refuse_5 : decode cX5_refuse 5 = .ok (.getfield 34, 3) := by decide +kernel
theorem dX5_refuse_8 : decode cX5_refuse 8 = .ok (.ifCond .ne 8, 3) := by decide +kernel
theorem dX5_refuse_11 : decode cX5_refuse 11 = .ok (.aload_n 0, 1) := by decide +kernel
theorem dX5_refuse_12 : decode cX5_refuse 12 = .ok (.iload_n 2, 1) := by decide +kernel
theorem dX5_refuse_13 : decode cX5_refuse 13 = .ok (.putfield 34, 3) := by decide +kernel
theorem dX5_refuse_16 : decode cX5_refuse 16 = .ok (.aload_n 0, 1) := by decide +kernel
theorem dX5_refuse_17 : decode cX5_refuse 17 = .ok (.getfield 34, 3) := by decide +kernel
theorem dX5_refuse_20 : decode cX5_refuse 20 = .ok (.ifCond .le 7, 3) := by decide +kernel
theorem dX5_refuse_23 : decode cX5_refuse 23 = .ok (.iconst 1, 1) := by decide +kernel
theorem dX5_refuse_24 : decode cX5_refuse 24 = .ok (.goto 4, 3) := by decide +kernel
theorem dX5_refuse_27 : decode cX5_refuse 27 = .ok (.iconst 0, 1) := by decide +kernel
theorem dX5_refuse_28 : decode cX5_refuse 28 = .ok (.ireturn, 1) := by decide +kernel
set_option maxRecDepth 20000 in
theorem ggX5_start_X5_refuse : GoodIn wsX5_start wsX5_refuse := goodIn_r _ [6, 1, 7, 8, 9, 10, 11, 12, 13, 14, 15, 16, 17] (by decide +kernel) (by decide +kernel)
set_option maxRecDepth 20000 in
theorem gX5_start_X5_refuse : GoodIn wsX5_start (wsV RX5 38 RX5 yX5_refuse wsX5_refuse) := goodIn_app (goodIn_of _ (by decide +kernel)) ggX5_start_X5_refuse
theorem dX5_start_0 : decode cX5_start 0 = .ok (.aload_n 0, 1) := by decide +kernel
theorem dX5_start_1 : decode cX5_start 1 = .ok (.iconst 0, 1) := by decide +kernel
theorem dX5_start_2 : decode cX5_start 2 = .ok (.putfield 34, 3) := by decide +kernel
theorem dX5_start_5 : decode cX5_start 5 = .ok (.aload_n 0, 1) := by decide +kernel
theorem dX5_start_6 : decode cX5_start 6 = .ok (.iload_n 1, 1) := by decide +kernel
theorem dX5_start_7 : decode cX5_start 7 = .ok (.iload_n 2, 1) := by decide +kernel
theorem dX5_start_8 : decode cX5_start 8 = .ok (.invokevirtual 38, 3) := by decide +kernel
theorem dX5_start_11 : decode cX5_start 11 = .ok (.ireturn, 1) := by decide +kernel
theorem dX5_isIn_0 : decode cX5_isIn 0 = .ok (.iload_n 0, 1) := by decide +kernel
theorem dX5_isIn_1 : decode cX5_isIn 1 = .ok (.iload_n 1, 1) := by decide +kernel
theorem dX5_isIn_2 : decode cX5_isIn 2 = .ok (.if_icmp .lt 12, 3) := by decide +kernel
theorem dX5_isIn_5 : decode cX5_isIn 5 = .ok (.iload_n 0, 1) := by decide +kernel
theorem dX5_isIn_6 : decode cX5_isIn 6 = .ok (.iload_n 2, 1) := by decide +kernel
theorem dX5_isIn_7 : decode cX5_isIn 7 = .ok (.if_icmp .gt 7, 3) := by decide +kernel
theorem dX5_isIn_10 : decode cX5_isIn 10 = .ok (.iconst 1, 1) := by decide +kernel
theorem dX5_isIn_11 : decode cX5_isIn 11 = .ok (.goto 4, 3) := by decide +kernel
theorem dX5_isIn_14 : decode cX5_isIn 14 = .ok (.iconst 0, 1) := by decide +kernel
theorem dX5_isIn_15 : decode cX5_isIn 15 = .ok (.ireturn, 1) := by decide +kernel
theorem dX5_one_0 : decode cX5_one 0 = .ok (.iload_n 0, 1) := by decide +kernel
theorem dX5_one_1 : decode cX5_one 1 = .ok (.ifCond .eq 7, 3) := by decide +kernel
theorem dX5_one_4 : decode cX5_one 4 = .ok (.iconst 1, 1) := by decide +kernel
theorem dX5_one_5 : decode cX5_one 5 = .ok (.goto 4, 3) := by decide +kernel
theorem dX5_one_8 : decode cX5_one 8 = .ok (.iconst 0, 1) := by decide +kernel
theorem dX5_one_9 : decode cX5_one 9 = .ok (.ireturn, 1) := by decide +kernel
set_option maxRecDepth 20000 in
theorem ggX5_isNoSpot_X5_isIn : GoodIn wsX5_isNoSpot wsX5_isIn := goodIn_r _ [5] (by decide +kernel) (by decide +kernel)
set_option maxRecDepth 20000 in
theorem gX5_isNoSpot_X5_isIn : GoodIn wsX5_isNoSpot (va_wsS RX5 45 yX5_isIn wsX5_isIn) := goodIn_app (goodIn_of _ (by decide +kernel)) ggX5_isNoSpot_X5_isIn
theorem dX5_isNoSpot_0 : decode cX5_isNoSpot 0 = .ok (.iload_n 1, 1) := by decide +kernel
theorem dX5_isNoSpot_1 : decode cX5_isNoSpot 1 = .ok (.iconst 0, 1) := by decide +kernel
theorem dX5_isNoSpot_2 : decode cX5_isNoSpot 2 = .ok (.aload_n 0, 1) := by decide +kernel
theorem dX5_isNoSpot_3 : decode cX5_isNoSpot 3 = .ok (.getfield 42, 3) := by decide +kernel
theorem dX5_isNoSpot_6 : decode cX5_isNoSpot 6 = .ok (.iconst 1, 1) := by decide +kernel
theorem dX5_isNoSpot_7 : decode cX5_isNoSpot 7 = .ok (.isub, 1) := by decide +kernel
theorem dX5_isNoSpot_8 : decode cX5_isNoSpot 8 = .ok (.invokestatic 45, 3) := by decide +kernel
theorem dX5_isNoSpot_11 : decode cX5_isNoSpot 11 = .ok (.ifCond .ne 7, 3) := by decide +kernel
theorem dX5_isNoSpot_14 : decode cX5_isNoSpot 14 = .ok (.iconst 1, 1) := by decide +kernel
theorem dX5_isNoSpot_15 : decode cX5_isNoSpot 15 = .ok (.goto 4, 3) := by decide +kernel
theorem dX5_isNoSpot_18 : decode cX5_isNoSpot 18 = .ok (.iconst 0, 1) := by decide +kernel
theorem dX5_isNoSpot_19 : decode cX5_isNoSpot 19 = .ok (.ireturn, 1) := by decide +kernel
set_option maxRecDepth 20000 in
theorem ggX5_isNoNode_X5_isNoSpot : GoodIn wsX5_isNoNode wsX5_isNoSpot := goodIn_r _ [5, 6, 7, 8, 4, 9, 10, 11, 12, 13, 14, 15, 16, 17, 18, 19, 20] (by decide +kernel) (by decide +kernel)
set_option maxRecDepth 20000 in
theorem gX5_isNoNode_X5_isNoSpot : GoodIn wsX5_isNoNode (wsV RX5 49 RX5 yX5_isNoSpot wsX5_isNoSpot) := goodIn_app (goodIn_of _ (by decide +kernel)) ggX5_isNoNode_X5_isNoSpot
theorem dX5_isNoNode_0 : decode cX5_isNoNode 0 = .ok (.iload_n 1, 1) := by decide +kernel
theorem dX5_isNoNode_1 : decode cX5_isNoNode 1 = .ok (.bipush 6, 2) := by decide +kernel
theorem dX5_isNoNode_3 : decode cX5_isNoNode 3 = .ok (.if_icmp .eq 15, 3) := by decide +kernel
theorem dX5_isNoNode_6 : decode cX5_isNoNode 6 = .ok (.aload_n 0, 1) := by decide +kernel
theorem dX5_isNoNode_7 : decode cX5_isNoNode 7 = .ok (.iload_n 1, 1) := by decide +kernel
theorem dX5_isNoNode_8 : decode cX5_isNoNode 8 = .ok (.invokevirtual 49, 3) := by decide +kernel
theorem dX5_isNoNode_11 : decode cX5_isNoNode 11 = .ok (.ifCond .eq 7, 3) := by decide +kernel
theorem dX5_isNoNode_14 : decode cX5_isNoNode 14 = .ok (.iconst 1, 1) := by decide +kernel
theorem dX5_isNoNode_15 : decode cX5_isNoNode 15 = .ok (.goto 4, 3) := by decide +kernel
theorem dX5_isNoNode_18 : decode cX5_isNoNode 18 = .ok (.iconst 0, 1) := by decide +kernel
theorem dX5_isNoNode_19 : decode cX5_isNoNode 19 = .ok (.ireturn, 1) := by decide +kernel
theorem dX5_degree_0 : decode cX5_degree 0 = .ok (.iconst 0, 1) := by decide +kernel
theorem dX5_degree_1 : decode cX5_degree 1 = .ok (.istore_n 2, 1) := by decide +kernel
theorem dX5_degree_2 : decode cX5_degree 2 = .ok (.aload_n 0, 1) := by decide +kernel
theorem dX5_degree_3 : decode cX5_degree 3 = .ok (.getfield 11, 3) := by decide +kernel
theorem dX5_degree_6 : decode cX5_degree 6 = .ok (.iload_n 1, 1) := by decide +kernel
theorem dX5_degree_7 : decode cX5_degree 7 = .ok (.aaload, 1) := by decide +kernel
theorem dX5_degree_8 : decode cX5_degree 8 = .ok (.astore_n 3, 1) := by decide +kernel
theorem dX5_degree_9 : decode cX5_degree 9 = .ok (.aload_n 3, 1) := by decide +kernel
theorem dX5_degree_10 : decode cX5_degree 10 = .ok (.arraylength, 1) := by decide +kernel
theorem dX5_degree_11 : decode cX5_degree 11 = .ok (.istore 4, 2) := by decide +kernel
theorem dX5_degree_13 : decode cX5_degree 13 = .ok (.iconst 0, 1) := by decide +kernel
theorem dX5_degree_14 : decode cX5_degree 14 = .ok (.istore 5, 2) := by decide +kernel
theorem dX5_degree_16 : decode cX5_degree 16 = .ok (.iload 5, 2) := by decide +kernel
theorem dX5_degree_18 : decode cX5_degree 18 = .ok (.iload 4, 2) := by decide +kernel
theorem dX5_degree_20 : decode cX5_degree 20 = .ok (.if_icmp .ge 20, 3) := by decide +kernel
theorem dX5_degree_23 : decode cX5_degree 23 = .ok (.aload_n 3, 1) := by decide +kernel
theorem dX5_degree_24 : decode cX5_degree 24 = .ok (.iload 5, 2) := by decide +kernel
theorem dX5_degree_26 : decode cX5_degree 26 = .ok (.iaload, 1) := by decide +kernel
theorem dX5_degree_27 : decode cX5_degree 27 = .ok (.istore 6, 2) := by decide +kernel
theorem dX5_degree_29 : decode cX5_degree 29 = .ok (.iload_n 2, 1) := by decide +kernel
theorem dX5_degree_30 : decode cX5_degree 30 = .ok (.iload 6, 2) := by decide +kernel
theorem dX5_degree_32 : decode cX5_degree 32 = .ok (.iadd, 1) := by decide +kernel
theorem dX5_degree_33 : decode cX5_degree 33 = .ok (.istore_n 2, 1) := by decide +kernel
theorem dX5_degree_34 : decode cX5_degree 34 = .ok (.iinc 5 1, 3) := by decide +kernel
theorem dX5_degree_37 : decode cX5_degree 37 = .ok (.goto (-21), 3) := by decide +kernel
theorem dX5_degree_40 : decode cX5_degree 40 = .ok (.iload_n 2, 1) := by decide +kernel
theorem dX5_degree_41 : decode cX5_degree 41 = .ok (.ireturn, 1) := by decide +kernel
theorem dX5_isFast_0 : decode cX5_isFast 0 = .ok (.bipush 7, 2) := by decide +kernel
theorem dX5_isFast_2 : decode cX5_isFast 2 = .ok (.newarray .boolean, 2) := by decide +kernel
theorem dX5_isFast_4 : decode cX5_isFast 4 = .ok (.astore_n 1, 1) := by decide +kernel
theorem dX5_isFast_5 : decode cX5_isFast 5 = .ok (.aload_n 1, 1) := by decide +kernel
theorem dX5_isFast_6 : decode cX5_isFast 6 = .ok (.bipush 6, 2) := by decide +kernel
theorem dX5_isFast_8 : decode cX5_isFast 8 = .ok (.iconst 1, 1) := by decide +kernel
theorem dX5_isFast_9 : decode cX5_isFast 9 = .ok (.bastore, 1) := by decide +kernel
theorem dX5_isFast_10 : decode cX5_isFast 10 = .ok (.iconst 0, 1) := by decide +kernel
theorem dX5_isFast_11 : decode cX5_isFast 11 = .ok (.istore_n 2, 1) := by decide +kernel
theorem dX5_isFast_12 : decode cX5_isFast 12 = .ok (.iload_n 2, 1) := by decide +kernel
theorem dX5_isFast_13 : decode cX5_isFast 13 = .ok (.bipush 7, 2) := by decide +kernel
theorem dX5_isFast_15 : decode cX5_isFast 15 = .ok (.if_icmp .ge 69, 3) := by decide +kernel
theorem dX5_isFast_18 : decode cX5_isFast 18 = .ok (.iconst 0, 1) := by decide +kernel
theorem dX5_isFast_19 : decode cX5_isFast 19 = .ok (.istore_n 3, 1) := by decide +kernel
theorem dX5_isFast_20 : decode cX5_isFast 20 = .ok (.iload_n 3, 1) := by decide +kernel
theorem dX5_isFast_21 : decode cX5_isFast 21 = .ok (.bipush 7, 2) := by decide +kernel
theorem dX5_isFast_23 : decode cX5_isFast 23 = .ok (.if_icmp .ge 55, 3) := by decide +kernel
theorem dX5_isFast_26 : decode cX5_isFast 26 = .ok (.iconst 0, 1) := by decide +kernel
theorem dX5_isFast_27 : decode cX5_isFast 27 = .ok (.istore 4, 2) := by decide +kernel
theorem dX5_isFast_29 : decode cX5_isFast 29 = .ok (.iload 4, 2) := by decide +kernel
theorem dX5_isFast_31 : decode cX5_isFast 31 = .ok (.bipush 7, 2) := by decide +kernel
theorem dX5_isFast_33 : decode cX5_isFast 33 = .ok (.if_icmp .ge 39, 3) := by decide +kernel
theorem dX5_isFast_36 : decode cX5_isFast 36 = .ok (.aload_n 1, 1) := by decide +kernel
theorem dX5_isFast_37 : decode cX5_isFast 37 = .ok (.iload_n 3, 1) := by decide +kernel
theorem dX5_isFast_38 : decode cX5_isFast 38 = .ok (.dup2, 1) := by decide +kernel
theorem dX5_isFast_39 : decode cX5_isFast 39 = .ok (.baload, 1) := by decide +kernel
theorem dX5_isFast_40 : decode cX5_isFast 40 = .ok (.aload_n 1, 1) := by decide +kernel
theorem dX5_isFast_41 : decode cX5_isFast 41 = .ok (.iload 4, 2) := by decide +kernel
theorem dX5_isFast_43 : decode cX5_isFast 43 = .ok (.baload, 1) := by decide +kernel
theorem dX5_isFast_44 : decode cX5_isFast 44 = .ok (.ifCond .eq 19, 3) := by decide +kernel
theorem dX5_isFast_47 : decode cX5_isFast 47 = .ok (.aload_n 0, 1) := by decide +kernel
theorem dX5_isFast_48 : decode cX5_isFast 48 = .ok (.getfield 11, 3) := by decide +kernel
theorem dX5_isFast_51 : decode cX5_isFast 51 = .ok (.iload_n 3, 1) := by decide +kernel
theorem dX5_isFast_52 : decode cX5_isFast 52 = .ok (.aaload, 1) := by decide +kernel
theorem dX5_isFast_53 : decode cX5_isFast 53 = .ok (.iload 4, 2) := by decide +kernel
theorem dX5_isFast_55 : decode cX5_isFast 55 = .ok (.iaload, 1) := by decide +kernel
theorem dX5_isFast_56 : decode cX5_isFast 56 = .ok (.ifCond .le 7, 3) := by decide +kernel
theorem dX5_isFast_59 : decode cX5_isFast 59 = .ok (.iconst 1, 1) := by decide +kernel
theorem dX5_isFast_60 : decode cX5_isFast 60 = .ok (.goto 4, 3) := by decide +kernel
theorem dX5_isFast_63 : decode cX5_isFast 63 = .ok (.iconst 0, 1) := by decide +kernel
theorem dX5_isFast_64 : decode cX5_isFast 64 = .ok (.ior, 1) := by decide +kernel
theorem dX5_isFast_65 : decode cX5_isFast 65 = .ok (.bastore, 1) := by decide +kernel
theorem dX5_isFast_66 : decode cX5_isFast 66 = .ok (.iinc 4 1, 3) := by decide +kernel
theorem dX5_isFast_69 : decode cX5_isFast 69 = .ok (.goto (-40), 3) := by decide +kernel
theorem dX5_isFast_72 : decode cX5_isFast 72 = .ok (.iinc 3 1, 3) := by decide +kernel
theorem dX5_isFast_75 : decode cX5_isFast 75 = .ok (.goto (-55), 3) := by decide +kernel
theorem dX5_isFast_78 : decode cX5_isFast 78 = .ok (.iinc 2 1, 3) := by decide +kernel
theorem dX5_isFast_81 : decode cX5_isFast 81 = .ok (.goto (-69), 3) := by decide +kernel
theorem dX5_isFast_84 : decode cX5_isFast 84 = .ok (.iconst 0, 1) := by decide +kernel
theorem dX5_isFast_85 : decode cX5_isFast 85 = .ok (.istore_n 2, 1) := by decide +kernel
theorem dX5_isFast_86 : decode cX5_isFast 86 = .ok (.iload_n 2, 1) := by decide +kernel
theorem dX5_isFast_87 : decode cX5_isFast 87 = .ok (.aload_n 0, 1) := by decide +kernel
theorem dX5_isFast_88 : decode cX5_isFast 88 = .ok (.getfield 42, 3) := by decide +kernel
theorem dX5_isFast_91 : decode cX5_isFast 91 = .ok (.if_icmp .ge 17, 3) := by decide +kernel
theorem dX5_isFast_94 : decode cX5_isFast 94 = .ok (.aload_n 1, 1) := by decide +kernel
theorem dX5_isFast_95 : decode cX5_isFast 95 = .ok (.iload_n 2, 1) := by decide +kernel
theorem dX5_isFast_96 : decode cX5_isFast 96 = .ok (.baload, 1) := by decide +kernel
theorem dX5_isFast_97 : decode cX5_isFast 97 = .ok (.ifCond .ne 5, 3) := by decide +kernel
theorem dX5_isFast_100 : decode cX5_isFast 100 = .ok (.iconst 0, 1) := by decide +kernel
theorem dX5_isFast_101 : decode cX5_isFast 101 = .ok (.ireturn, 1) := by decide +kernel
theorem dX5_isFast_102 : decode cX5_isFast 102 = .ok (.iinc 2 1, 3) := by decide +kernel
theorem dX5_isFast_105 : decode cX5_isFast 105 = .ok (.goto (-19), 3) := by decide +kernel
theorem dX5_isFast_108 : decode cX5_isFast 108 = .ok (.aload_n 0, 1) := by decide +kernel
theorem dX5_isFast_109 : decode cX5_isFast 109 = .ok (.getfield 42, 3) := by decide +kernel
theorem dX5_isFast_112 : decode cX5_isFast 112 = .ok (.ifCond .le 7, 3) := by decide +kernel
theorem dX5_isFast_115 : decode cX5_isFast 115 = .ok (.iconst 1, 1) := by decide +kernel
theorem dX5_isFast_116 : decode cX5_isFast 116 = .ok (.goto 4, 3) := by decide +kernel
theorem dX5_isFast_119 : decode cX5_isFast 119 = .ok (.iconst 0, 1) := by decide +kernel
theorem dX5_isFast_120 : decode cX5_isFast 120 = .ok (.ireturn, 1) := by decide +kernel
set_option maxRecDepth 20000 in
theorem ggX5_spot_X5_start : GoodIn wsX5_spot wsX5_start := goodIn_r _ [6, 7, 8, 9, 10, 5, 11, 12, 13, 14, 15, 16, 17, 18, 19, 20, 21, 22] (by decide +kernel) (by decide +kernel)
set_option maxRecDepth 20000 in
theorem gX5_spot_X5_start : GoodIn wsX5_spot (wsV RX5 53 RX5 yX5_start wsX5_start) := goodIn_app (goodIn_of _ (by decide +kernel)) ggX5_spot_X5_start
theorem dX5_spot_0 : decode cX5_spot 0 = .ok (.aload_n 0, 1) := by decide +kernel
theorem dX5_spot_1 : decode cX5_spot 1 = .ok (.aload_n 0, 1) := by decide +kernel
theorem dX5_spot_2 : decode cX5_spot 2 = .ok (.getfield 42, 3) := by decide +kernel
theorem dX5_spot_5 : decode cX5_spot 5 = .ok (.bipush 6, 2) := by decide +kernel
theorem dX5_spot_7 : decode cX5_spot 7 = .ok (.if_icmp .ne 7, 3) := by decide +kernel
theorem dX5_spot_10 : decode cX5_spot 10 = .ok (.iconst 1, 1) := by decide +kernel
theorem dX5_spot_11 : decode cX5_spot 11 = .ok (.goto 4, 3) := by decide +kernel
theorem dX5_spot_14 : decode cX5_spot 14 = .ok (.iconst 0, 1) := by decide +kernel
theorem dX5_spot_15 : decode cX5_spot 15 = .ok (.iconst 1, 1) := by decide +kernel
theorem dX5_spot_16 : decode cX5_spot 16 = .ok (.invokevirtual 53, 3) := by decide +kernel
theorem dX5_spot_19 : decode cX5_spot 19 = .ok (.ifCond .eq 5, 3) := by decide +kernel
theorem dX5_spot_22 : decode cX5_spot 22 = .ok (.iconst 0, 1) := by decide +kernel
theorem dX5_spot_23 : decode cX5_spot 23 = .ok (.ireturn, 1) := by decide +kernel
theorem dX5_spot_24 : decode cX5_spot 24 = .ok (.aload_n 0, 1) := by decide +kernel
theorem dX5_spot_25 : decode cX5_spot 25 = .ok (.dup, 1) := by decide +kernel
theorem dX5_spot_26 : decode cX5_spot 26 = .ok (.getfield 42, 3) := by decide +kernel
theorem dX5_spot_29 : decode cX5_spot 29 = .ok (.iconst 1, 1) := by decide +kernel
theorem dX5_spot_30 : decode cX5_spot 30 = .ok (.iadd, 1) := by decide +kernel
theorem dX5_spot_31 : decode cX5_spot 31 = .ok (.putfield 42, 3) := by decide +kernel
theorem dX5_spot_34 : decode cX5_spot 34 = .ok (.aload_n 0, 1) := by decide +kernel
theorem dX5_spot_35 : decode cX5_spot 35 = .ok (.getfield 42, 3) := by decide +kernel
theorem dX5_spot_38 : decode cX5_spot 38 = .ok (.iconst 1, 1) := by decide +kernel
theorem dX5_spot_39 : decode cX5_spot 39 = .ok (.isub, 1) := by decide +kernel
theorem dX5_spot_40 : decode cX5_spot 40 = .ok (.ireturn, 1) := by decide +kernel
set_option maxRecDepth 20000 in
theorem ggX5_edge_X5_isNoNode : GoodIn wsX5_edge wsX5_isNoNode := goodIn_r _ [7, 8, 9, 10, 6, 11, 12, 13, 14, 15, 25, 26, 27, 28, 29, 30, 31, 32, 33, 34, 35] (by decide +kernel) (by decide +kernel)
set_option maxRecDepth 20000 in
theorem gX5_edge_X5_isNoNode : GoodIn wsX5_edge (wsV RX5 56 RX5 yX5_isNoNode wsX5_isNoNode) := goodIn_app (goodIn_of _ (by decide +kernel)) ggX5_edge_X5_isNoNode
set_option maxRecDepth 20000 in
theorem ggX5_edge_X5_start : GoodIn wsX5_edge wsX5_start := goodIn_r _ [19, 20, 21, 22, 23, 6, 24, 25, 26, 27, 28, 29, 30, 31, 32, 33, 34, 35] (by decide +kernel) (by decide +kernel)
set_option maxRecDepth 20000 in
theorem gX5_edge_X5_start : GoodIn wsX5_edge (wsV RX5 53 RX5 yX5_start wsX5_start) := goodIn_app (goodIn_of _ (by decide +kernel)) ggX5_edge_X5_start
set_option maxRecDepth 20000 in
theorem ggX5_edge_X5_isIn : GoodIn wsX5_edge wsX5_isIn := goodIn_r _ [15] (by decide +kernel) (by decide +kernel)
set_option maxRecDepth 20000 in
theorem gX5_edge_X5_isIn : GoodIn wsX5_edge (va_wsS RX5 45 yX5_isIn wsX5_isIn) := goodIn_app (goodIn_of _ (by decide +kernel)) ggX5_edge_X5_isIn
set_option maxRecDepth 20000 in
theorem ggX5_edge_X5_refuse : GoodIn wsX5_edge wsX5_refuse := goodIn_r _ [24, 20, 25, 26, 27, 28, 29, 30, 31, 32, 33, 34, 35] (by decide +kernel) (by decide +kernel)
set_option maxRecDepth 20000 in
theorem gX5_edge_X5_refuse : GoodIn wsX5_edge (wsV RX5 38 RX5 yX5_refuse wsX5_refuse) := goodIn_app (goodIn_of _ (by decide +kernel)) ggX5_edge_X5_refuse
theorem dX5_edge_0 : decode cX5_edge 0 = .ok (.aload_n 0, 1) := by decide +kernel
theorem dX5_edge_1 : decode cX5_edge 1 = .ok (.aload_n 0, 1) := by decide +kernel
theorem dX5_edge_2 : decode cX5_edge 2 = .ok (.iload_n 1, 1) := by decide +kernel
theorem dX5_edge_3 : decode cX5_edge 3 = .ok (.invokevirtual 56, 3) := by decide +kernel
theorem dX5_edge_6 : decode cX5_edge 6 = .ok (.ifCond .ne 11, 3) := by decide +kernel
theorem dX5_edge_9 : decode cX5_edge 9 = .ok (.aload_n 0, 1) := by decide +kernel
theorem dX5_edge_10 : decode cX5_edge 10 = .ok (.iload_n 2, 1) := by decide +kernel
theorem dX5_edge_11 : decode cX5_edge 11 = .ok (.invokevirtual 56, 3) := by decide +kernel
theorem dX5_edge_14 : decode cX5_edge 14 = .ok (.ifCond .eq 7, 3) := by decide +kernel
theorem dX5_edge_17 : decode cX5_edge 17 = .ok (.iconst 1, 1) := by decide +kernel
theorem dX5_edge_18 : decode cX5_edge 18 = .ok (.goto 4, 3) := by decide +kernel
theorem dX5_edge_21 : decode cX5_edge 21 = .ok (.iconst 0, 1) := by decide +kernel
theorem dX5_edge_22 : decode cX5_edge 22 = .ok (.iconst 1, 1) := by decide +kernel
theorem dX5_edge_23 : decode cX5_edge 23 = .ok (.invokevirtual 53, 3) := by decide +kernel
theorem dX5_edge_26 : decode cX5_edge 26 = .ok (.ifCond .ne 30, 3) := by decide +kernel
theorem dX5_edge_29 : decode cX5_edge 29 = .ok (.aload_n 0, 1) := by decide +kernel
theorem dX5_edge_30 : decode cX5_edge 30 = .ok (.iload_n 1, 1) := by decide +kernel
theorem dX5_edge_31 : decode cX5_edge 31 = .ok (.iload_n 2, 1) := by decide +kernel
theorem dX5_edge_32 : decode cX5_edge 32 = .ok (.if_icmp .eq 12, 3) := by decide +kernel
theorem dX5_edge_35 : decode cX5_edge 35 = .ok (.iload_n 3, 1) := by decide +kernel
theorem dX5_edge_36 : decode cX5_edge 36 = .ok (.iconst 0, 1) := by decide +kernel
theorem dX5_edge_37 : decode cX5_edge 37 = .ok (.iconst 3, 1) := by decide +kernel
theorem dX5_edge_38 : decode cX5_edge 38 = .ok (.invokestatic 45, 3) := by decide +kernel
theorem dX5_edge_41 : decode cX5_edge 41 = .ok (.ifCond .ne 7, 3) := by decide +kernel
theorem dX5_edge_44 : decode cX5_edge 44 = .ok (.iconst 1, 1) := by decide +kernel
theorem dX5_edge_45 : decode cX5_edge 45 = .ok (.goto 4, 3) := by decide +kernel
theorem dX5_edge_48 : decode cX5_edge 48 = .ok (.iconst 0, 1) := by decide +kernel
theorem dX5_edge_49 : decode cX5_edge 49 = .ok (.iconst 2, 1) := by decide +kernel
theorem dX5_edge_50 : decode cX5_edge 50 = .ok (.invokevirtual 38, 3) := by decide +kernel
theorem dX5_edge_53 : decode cX5_edge 53 = .ok (.ifCond .eq 5, 3) := by decide +kernel
theorem dX5_edge_56 : decode cX5_edge 56 = .ok (.iconst 0, 1) := by decide +kernel
theorem dX5_edge_57 : decode cX5_edge 57 = .ok (.ireturn, 1) := by decide +kernel
theorem dX5_edge_58 : decode cX5_edge 58 = .ok (.aload_n 0, 1) := by decide +kernel
theorem dX5_edge_59 : decode cX5_edge 59 = .ok (.getfield 11, 3) := by decide +kernel
theorem dX5_edge_62 : decode cX5_edge 62 = .ok (.iload_n 1, 1) := by decide +kernel
theorem dX5_edge_63 : decode cX5_edge 63 = .ok (.aaload, 1) := by decide +kernel
theorem dX5_edge_64 : decode cX5_edge 64 = .ok (.iload_n 2, 1) := by decide +kernel
theorem dX5_edge_65 : decode cX5_edge 65 = .ok (.iaload, 1) := by decide +kernel
theorem dX5_edge_66 : decode cX5_edge 66 = .ok (.istore 4, 2) := by decide +kernel
theorem dX5_edge_68 : decode cX5_edge 68 = .ok (.aload_n 0, 1) := by decide +kernel
theorem dX5_edge_69 : decode cX5_edge 69 = .ok (.getfield 11, 3) := by decide +kernel
theorem dX5_edge_72 : decode cX5_edge 72 = .ok (.iload_n 1, 1) := by decide +kernel
theorem dX5_edge_73 : decode cX5_edge 73 = .ok (.aaload, 1) := by decide +kernel
theorem dX5_edge_74 : decode cX5_edge 74 = .ok (.iload_n 2, 1) := by decide +kernel
theorem dX5_edge_75 : decode cX5_edge 75 = .ok (.iload_n 3, 1) := by decide +kernel
theorem dX5_edge_76 : decode cX5_edge 76 = .ok (.iastore, 1) := by decide +kernel
theorem dX5_edge_77 : decode cX5_edge 77 = .ok (.aload_n 0, 1) := by decide +kernel
theorem dX5_edge_78 : decode cX5_edge 78 = .ok (.getfield 11, 3) := by decide +kernel
theorem dX5_edge_81 : decode cX5_edge 81 = .ok (.iload_n 2, 1) := by decide +kernel
theorem dX5_edge_82 : decode cX5_edge 82 = .ok (.aaload, 1) := by decide +kernel
theorem dX5_edge_83 : decode cX5_edge 83 = .ok (.iload_n 1, 1) := by decide +kernel
theorem dX5_edge_84 : decode cX5_edge 84 = .ok (.iload_n 3, 1) := by decide +kernel
theorem dX5_edge_85 : decode cX5_edge 85 = .ok (.iastore, 1) := by decide +kernel
theorem dX5_edge_86 : decode cX5_edge 86 = .ok (.iload_n 1, 1) := by decide +kernel
theorem dX5_edge_87 : decode cX5_edge 87 = .ok (.bipush 6, 2) := by decide +kernel
theorem dX5_edge_89 : decode cX5_edge 89 = .ok (.if_icmp .eq 10, 3) := by decide +kernel
theorem dX5_edge_92 : decode cX5_edge 92 = .ok (.aload_n 0, 1) := by decide +kernel
theorem dX5_edge_93 : decode cX5_edge 93 = .ok (.getfield 21, 3) := by decide +kernel
theorem dX5_edge_96 : decode cX5_edge 96 = .ok (.iload_n 1, 1) := by decide +kernel
theorem dX5_edge_97 : decode cX5_edge 97 = .ok (.iconst 0, 1) := by decide +kernel
theorem dX5_edge_98 : decode cX5_edge 98 = .ok (.iastore, 1) := by decide +kernel
theorem dX5_edge_99 : decode cX5_edge 99 = .ok (.iload_n 2, 1) := by decide +kernel
theorem dX5_edge_100 : decode cX5_edge 100 = .ok (.bipush 6, 2) := by decide +kernel
theorem dX5_edge_102 : decode cX5_edge 102 = .ok (.if_icmp .eq 10, 3) := by decide +kernel
theorem dX5_edge_105 : decode cX5_edge 105 = .ok (.aload_n 0, 1) := by decide +kernel
theorem dX5_edge_106 : decode cX5_edge 106 = .ok (.getfield 21, 3) := by decide +kernel
theorem dX5_edge_109 : decode cX5_edge 109 = .ok (.iload_n 2, 1) := by decide +kernel
theorem dX5_edge_110 : decode cX5_edge 110 = .ok (.iconst 0, 1) := by decide +kernel
theorem dX5_edge_111 : decode cX5_edge 111 = .ok (.iastore, 1) := by decide +kernel
theorem dX5_edge_112 : decode cX5_edge 112 = .ok (.iload 4, 2) := by decide +kernel
theorem dX5_edge_114 : decode cX5_edge 114 = .ok (.ireturn, 1) := by decide +kernel
theorem dX5_sum_0 : decode cX5_sum 0 = .ok (.iconst 0, 1) := by decide +kernel
theorem dX5_sum_1 : decode cX5_sum 1 = .ok (.istore_n 1, 1) := by decide +kernel
theorem dX5_sum_2 : decode cX5_sum 2 = .ok (.aload_n 0, 1) := by decide +kernel
theorem dX5_sum_3 : decode cX5_sum 3 = .ok (.astore_n 2, 1) := by decide +kernel
theorem dX5_sum_4 : decode cX5_sum 4 = .ok (.aload_n 2, 1) := by decide +kernel
theorem dX5_sum_5 : decode cX5_sum 5 = .ok (.arraylength, 1) := by decide +kernel
theorem dX5_sum_6 : decode cX5_sum 6 = .ok (.istore_n 3, 1) := by decide +kernel
theorem dX5_sum_7 : decode cX5_sum 7 = .ok (.iconst 0, 1) := by decide +kernel
theorem dX5_sum_8 : decode cX5_sum 8 = .ok (.istore 4, 2) := by decide +kernel
theorem dX5_sum_10 : decode cX5_sum 10 = .ok (.iload 4, 2) := by decide +kernel
theorem dX5_sum_12 : decode cX5_sum 12 = .ok (.iload_n 3, 1) := by decide +kernel
theorem dX5_sum_13 : decode cX5_sum 13 = .ok (.if_icmp .ge 20, 3) := by decide +kernel
theorem dX5_sum_16 : decode cX5_sum 16 = .ok (.aload_n 2, 1) := by decide +kernel
theorem dX5_sum_17 : decode cX5_sum 17 = .ok (.iload 4, 2) := by decide +kernel
theorem dX5_sum_19 : decode cX5_sum 19 = .ok (.iaload, 1) := by decide +kernel
theorem dX5_sum_20 : decode cX5_sum 20 = .ok (.istore 5, 2) := by decide +kernel
theorem dX5_sum_22 : decode cX5_sum 22 = .ok (.iload_n 1, 1) := by decide +kernel
theorem dX5_sum_23 : decode cX5_sum 23 = .ok (.iload 5, 2) := by decide +kernel
theorem dX5_sum_25 : decode cX5_sum 25 = .ok (.iadd, 1) := by decide +kernel
theorem dX5_sum_26 : decode cX5_sum 26 = .ok (.istore_n 1, 1) := by decide +kernel
theorem dX5_sum_27 : decode cX5_sum 27 = .ok (.iinc 4 1, 3) := by decide +kernel
theorem dX5_sum_30 : decode cX5_sum 30 = .ok (.goto (-20), 3) := by decide +kernel
theorem dX5_sum_33 : decode cX5_sum 33 = .ok (.iload_n 1, 1) := by decide +kernel
theorem dX5_sum_34 : decode cX5_sum 34 = .ok (.ireturn, 1) := by decide +kernel
set_option maxRecDepth 20000 in
theorem ggX5_isSteep_X5_degree : GoodIn wsX5_isSteep wsX5_degree := goodIn_r _ [5, 6, 7, 8, 9, 10, 11, 12, 13, 14, 15, 16, 17] (by decide +kernel) (by decide +kernel)
set_option maxRecDepth 20000 in
theorem gX5_isSteep_X5_degree : GoodIn wsX5_isSteep (wsV RX5 59 RX5 yX5_degree wsX5_degree) := goodIn_app (goodIn_of _ (by decide +kernel)) ggX5_isSteep_X5_degree
theorem dX5_isSteep_0 : decode cX5_isSteep 0 = .ok (.aload_n 0, 1) := by decide +kernel
theorem dX5_isSteep_1 : decode cX5_isSteep 1 = .ok (.iload_n 2, 1) := by decide +kernel
theorem dX5_isSteep_2 : decode cX5_isSteep 2 = .ok (.invokevirtual 59, 3) := by decide +kernel
theorem dX5_isSteep_5 : decode cX5_isSteep 5 = .ok (.ifCond .le 18, 3) := by decide +kernel
theorem dX5_isSteep_8 : decode cX5_isSteep 8 = .ok (.aload_n 1, 1) := by decide +kernel
theorem dX5_isSteep_9 : decode cX5_isSteep 9 = .ok (.iload_n 2, 1) := by decide +kernel
theorem dX5_isSteep_10 : decode cX5_isSteep 10 = .ok (.iaload, 1) := by decide +kernel
theorem dX5_isSteep_11 : decode cX5_isSteep 11 = .ok (.aload_n 0, 1) := by decide +kernel
theorem dX5_isSteep_12 : decode cX5_isSteep 12 = .ok (.iload_n 2, 1) := by decide +kernel
theorem dX5_isSteep_13 : decode cX5_isSteep 13 = .ok (.invokevirtual 59, 3) := by decide +kernel
theorem dX5_isSteep_16 : decode cX5_isSteep 16 = .ok (.if_icmp .lt 7, 3) := by decide +kernel
theorem dX5_isSteep_19 : decode cX5_isSteep 19 = .ok (.iconst 1, 1) := by decide +kernel
theorem dX5_isSteep_20 : decode cX5_isSteep 20 = .ok (.goto 4, 3) := by decide +kernel
theorem dX5_isSteep_23 : decode cX5_isSteep 23 = .ok (.iconst 0, 1) := by decide +kernel
theorem dX5_isSteep_24 : decode cX5_isSteep 24 = .ok (.ireturn, 1) := by decide +kernel
set_option maxRecDepth 20000 in
theorem ggX5_steepest_X5_isSteep : GoodIn wsX5_steepest wsX5_isSteep := goodIn_r _ [6, 7, 8, 9, 5, 10, 11, 12, 13, 14, 15, 16, 17, 18, 19, 20, 21, 22] (by decide +kernel) (by decide +kernel)
set_option maxRecDepth 20000 in
theorem gX5_steepest_X5_isSteep : GoodIn wsX5_steepest (wsV RX5 63 RX5 yX5_isSteep wsX5_isSteep) := goodIn_app (goodIn_of _ (by decide +kernel)) ggX5_steepest_X5_isSteep
theorem dX5_steepest_0 : decode cX5_steepest 0 = .ok (.iconst 0, 1) := by decide +kernel
theorem dX5_steepest_1 : decode cX5_steepest 1 = .ok (.istore_n 2, 1) := by decide +kernel
theorem dX5_steepest_2 : decode cX5_steepest 2 = .ok (.iload_n 2, 1) := by decide +kernel
theorem dX5_steepest_3 : decode cX5_steepest 3 = .ok (.aload_n 0, 1) := by decide +kernel
theorem dX5_steepest_4 : decode cX5_steepest 4 = .ok (.getfield 42, 3) := by decide +kernel
theorem dX5_steepest_7 : decode cX5_steepest 7 = .ok (.if_icmp .ge 20, 3) := by decide +kernel
theorem dX5_steepest_10 : decode cX5_steepest 10 = .ok (.aload_n 0, 1) := by decide +kernel
theorem dX5_steepest_11 : decode cX5_steepest 11 = .ok (.aload_n 1, 1) := by decide +kernel
theorem dX5_steepest_12 : decode cX5_steepest 12 = .ok (.iload_n 2, 1) := by decide +kernel
theorem dX5_steepest_13 : decode cX5_steepest 13 = .ok (.invokevirtual 63, 3) := by decide +kernel
theorem dX5_steepest_16 : decode cX5_steepest 16 = .ok (.ifCond .eq 5, 3) := by decide +kernel
theorem dX5_steepest_19 : decode cX5_steepest 19 = .ok (.iload_n 2, 1) := by decide +kernel
theorem dX5_steepest_20 : decode cX5_steepest 20 = .ok (.ireturn, 1) := by decide +kernel
theorem dX5_steepest_21 : decode cX5_steepest 21 = .ok (.iinc 2 1, 3) := by decide +kernel
theorem dX5_steepest_24 : decode cX5_steepest 24 = .ok (.goto (-22), 3) := by decide +kernel
theorem dX5_steepest_27 : decode cX5_steepest 27 = .ok (.iconst (-1), 1) := by decide +kernel
theorem dX5_steepest_28 : decode cX5_steepest 28 = .ok (.ireturn, 1) := by decide +kernel
set_option maxRecDepth 20000 in
theorem ggX5_fall_X5_degree : GoodIn wsX5_fall wsX5_degree := goodIn_r _ [7, 2, 8, 9, 10, 11, 12, 13, 14, 15, 16, 17, 18] (by decide +kernel) (by decide +kernel)
set_option maxRecDepth 20000 in
theorem gX5_fall_X5_degree : GoodIn wsX5_fall (wsV RX5 59 RX5 yX5_degree wsX5_degree) := goodIn_app (goodIn_of _ (by decide +kernel)) ggX5_fall_X5_degree
theorem dX5_fall_0 : decode cX5_fall 0 = .ok (.aload_n 1, 1) := by decide +kernel
theorem dX5_fall_1 : decode cX5_fall 1 = .ok (.iload_n 2, 1) := by decide +kernel
theorem dX5_fall_2 : decode cX5_fall 2 = .ok (.dup2, 1) := by decide +kernel
theorem dX5_fall_3 : decode cX5_fall 3 = .ok (.iaload, 1) := by decide +kernel
theorem dX5_fall_4 : decode cX5_fall 4 = .ok (.aload_n 0, 1) := by decide +kernel
theorem dX5_fall_5 : decode cX5_fall 5 = .ok (.iload_n 2, 1) := by decide +kernel
theorem dX5_fall_6 : decode cX5_fall 6 = .ok (.invokevirtual 59, 3) := by decide +kernel
theorem dX5_fall_9 : decode cX5_fall 9 = .ok (.isub, 1) := by decide +kernel
theorem dX5_fall_10 : decode cX5_fall 10 = .ok (.iastore, 1) := by decide +kernel
theorem dX5_fall_11 : decode cX5_fall 11 = .ok (.iconst 0, 1) := by decide +kernel
theorem dX5_fall_12 : decode cX5_fall 12 = .ok (.istore_n 3, 1) := by decide +kernel
theorem dX5_fall_13 : decode cX5_fall 13 = .ok (.iload_n 3, 1) := by decide +kernel
theorem dX5_fall_14 : decode cX5_fall 14 = .ok (.aload_n 0, 1) := by decide +kernel
theorem dX5_fall_15 : decode cX5_fall 15 = .ok (.getfield 42, 3) := by decide +kernel
theorem dX5_fall_18 : decode cX5_fall 18 = .ok (.if_icmp .ge 23, 3) := by decide +kernel
theorem dX5_fall_21 : decode cX5_fall 21 = .ok (.aload_n 1, 1) := by decide +kernel
theorem dX5_fall_22 : decode cX5_fall 22 = .ok (.iload_n 3, 1) := by decide +kernel
theorem dX5_fall_23 : decode cX5_fall 23 = .ok (.dup2, 1) := by decide +kernel
theorem dX5_fall_24 : decode cX5_fall 24 = .ok (.iaload, 1) := by decide +kernel
theorem dX5_fall_25 : decode cX5_fall 25 = .ok (.aload_n 0, 1) := by decide +kernel
theorem dX5_fall_26 : decode cX5_fall 26 = .ok (.getfield 11, 3) := by decide +kernel
theorem dX5_fall_29 : decode cX5_fall 29 = .ok (.iload_n 2, 1) := by decide +kernel
theorem dX5_fall_30 : decode cX5_fall 30 = .ok (.aaload, 1) := by decide +kernel
theorem dX5_fall_31 : decode cX5_fall 31 = .ok (.iload_n 3, 1) := by decide +kernel
theorem dX5_fall_32 : decode cX5_fall 32 = .ok (.iaload, 1) := by decide +kernel
theorem dX5_fall_33 : decode cX5_fall 33 = .ok (.iadd, 1) := by decide +kernel
theorem dX5_fall_34 : decode cX5_fall 34 = .ok (.iastore, 1) := by decide +kernel
theorem dX5_fall_35 : decode cX5_fall 35 = .ok (.iinc 3 1, 3) := by decide +kernel
theorem dX5_fall_38 : decode cX5_fall 38 = .ok (.goto (-25), 3) := by decide +kernel
theorem dX5_fall_41 : decode cX5_fall 41 = .ok (.return_, 1) := by decide +kernel
set_option maxRecDepth 20000 in
theorem ggX5_settled_X5_steepest : GoodIn wsX5_settled wsX5_steepest := goodIn_r _ [6, 7, 8, 9, 10, 5, 11, 12, 13, 14, 15, 16, 21, 22, 23, 24, 25, 26, 27, 28, 29, 30, 31] (by decide +kernel) (by decide +kernel)
set_option maxRecDepth 20000 in
theorem gX5_settled_X5_steepest : GoodIn wsX5_settled (wsV RX5 67 RX5 yX5_steepest wsX5_steepest) := goodIn_app (goodIn_of _ (by decide +kernel)) ggX5_settled_X5_steepest
set_option maxRecDepth 20000 in
theorem ggX5_settled_X5_fall : GoodIn wsX5_settled wsX5_fall := goodIn_r _ [20, 7, 16, 12, 13, 14, 5, 15, 21, 22, 23, 24, 25, 26, 27, 28, 29, 30, 31] (by decide +kernel) (by decide +kernel)
set_option maxRecDepth 20000 in
theorem gX5_settled_X5_fall : GoodIn wsX5_settled (wsV RX5 71 RX5 yX5_fall wsX5_fall) := goodIn_app (goodIn_of _ (by decide +kernel)) ggX5_settled_X5_fall
theorem dX5_settled_0 : decode cX5_settled 0 = .ok (.bipush 6, 2) := by decide +kernel
theorem dX5_settled_2 : decode cX5_settled 2 = .ok (.newarray .int, 2) := by decide +kernel
theorem dX5_settled_4 : decode cX5_settled 4 = .ok (.astore_n 2, 1) := by decide +kernel
theorem dX5_settled_5 : decode cX5_settled 5 = .ok (.aload_n 0, 1) := by decide +kernel
theorem dX5_settled_6 : decode cX5_settled 6 = .ok (.aload_n 1, 1) := by decide +kernel
theorem dX5_settled_7 : decode cX5_settled 7 = .ok (.invokevirtual 67, 3) := by decide +kernel
theorem dX5_settled_10 : decode cX5_settled 10 = .ok (.istore_n 3, 1) := by decide +kernel
theorem dX5_settled_11 : decode cX5_settled 11 = .ok (.iload_n 3, 1) := by decide +kernel
theorem dX5_settled_12 : decode cX5_settled 12 = .ok (.iconst (-1), 1) := by decide +kernel
theorem dX5_settled_13 : decode cX5_settled 13 = .ok (.if_icmp .eq 25, 3) := by decide +kernel
theorem dX5_settled_16 : decode cX5_settled 16 = .ok (.aload_n 0, 1) := by decide +kernel
theorem dX5_settled_17 : decode cX5_settled 17 = .ok (.aload_n 1, 1) := by decide +kernel
theorem dX5_settled_18 : decode cX5_settled 18 = .ok (.iload_n 3, 1) := by decide +kernel
theorem dX5_settled_19 : decode cX5_settled 19 = .ok (.invokevirtual 71, 3) := by decide +kernel
theorem dX5_settled_22 : decode cX5_settled 22 = .ok (.aload_n 2, 1) := by decide +kernel
theorem dX5_settled_23 : decode cX5_settled 23 = .ok (.iload_n 3, 1) := by decide +kernel
theorem dX5_settled_24 : decode cX5_settled 24 = .ok (.dup2, 1) := by decide +kernel
theorem dX5_settled_25 : decode cX5_settled 25 = .ok (.iaload, 1) := by decide +kernel
theorem dX5_settled_26 : decode cX5_settled 26 = .ok (.iconst 1, 1) := by decide +kernel
theorem dX5_settled_27 : decode cX5_settled 27 = .ok (.iadd, 1) := by decide +kernel
theorem dX5_settled_28 : decode cX5_settled 28 = .ok (.iastore, 1) := by decide +kernel
theorem dX5_settled_29 : decode cX5_settled 29 = .ok (.aload_n 0, 1) := by decide +kernel
theorem dX5_settled_30 : decode cX5_settled 30 = .ok (.aload_n 1, 1) := by decide +kernel
theorem dX5_settled_31 : decode cX5_settled 31 = .ok (.invokevirtual 67, 3) := by decide +kernel
theorem dX5_settled_34 : decode cX5_settled 34 = .ok (.istore_n 3, 1) := by decide +kernel
theorem dX5_settled_35 : decode cX5_settled 35 = .ok (.goto (-24), 3) := by decide +kernel
theorem dX5_settled_38 : decode cX5_settled 38 = .ok (.aload_n 2, 1) := by decide +kernel
theorem dX5_settled_39 : decode cX5_settled 39 = .ok (.areturn, 1) := by decide +kernel
theorem dX5_swallowedBy_0 : decode cX5_swallowedBy 0 = .ok (.iconst 0, 1) := by decide +kernel
theorem dX5_swallowedBy_1 : decode cX5_swallowedBy 1 = .ok (.istore_n 2, 1) := by decide +kernel
theorem dX5_swallowedBy_2 : decode cX5_swallowedBy 2 = .ok (.iconst 0, 1) := by decide +kernel
theorem dX5_swallowedBy_3 : decode cX5_swallowedBy 3 = .ok (.istore_n 3, 1) := by decide +kernel
theorem dX5_swallowedBy_4 : decode cX5_swallowedBy 4 = .ok (.iload_n 3, 1) := by decide +kernel
theorem dX5_swallowedBy_5 : decode cX5_swallowedBy 5 = .ok (.aload_n 0, 1) := by decide +kernel
theorem dX5_swallowedBy_6 : decode cX5_swallowedBy 6 = .ok (.getfield 42, 3) := by decide +kernel
theorem dX5_swallowedBy_9 : decode cX5_swallowedBy 9 = .ok (.if_icmp .ge 25, 3) := by decide +kernel
theorem dX5_swallowedBy_12 : decode cX5_swallowedBy 12 = .ok (.iload_n 2, 1) := by decide +kernel
theorem dX5_swallowedBy_13 : decode cX5_swallowedBy 13 = .ok (.aload_n 1, 1) := by decide +kernel
theorem dX5_swallowedBy_14 : decode cX5_swallowedBy 14 = .ok (.iload_n 3, 1) := by decide +kernel
theorem dX5_swallowedBy_15 : decode cX5_swallowedBy 15 = .ok (.iaload, 1) := by decide +kernel
theorem dX5_swallowedBy_16 : decode cX5_swallowedBy 16 = .ok (.aload_n 0, 1) := by decide +kernel
theorem dX5_swallowedBy_17 : decode cX5_swallowedBy 17 = .ok (.getfield 11, 3) := by decide +kernel
theorem dX5_swallowedBy_20 : decode cX5_swallowedBy 20 = .ok (.iload_n 3, 1) := by decide +kernel
theorem dX5_swallowedBy_21 : decode cX5_swallowedBy 21 = .ok (.aaload, 1) := by decide +kernel
theorem dX5_swallowedBy_22 : decode cX5_swallowedBy 22 = .ok (.bipush 6, 2) := by decide +kernel
theorem dX5_swallowedBy_24 : decode cX5_swallowedBy 24 = .ok (.iaload, 1) := by decide +kernel
theorem dX5_swallowedBy_25 : decode cX5_swallowedBy 25 = .ok (.imul, 1) := by decide +kernel
theorem dX5_swallowedBy_26 : decode cX5_swallowedBy 26 = .ok (.iadd, 1) := by decide +kernel
theorem dX5_swallowedBy_27 : decode cX5_swallowedBy 27 = .ok (.istore_n 2, 1) := by decide +kernel
theorem dX5_swallowedBy_28 : decode cX5_swallowedBy 28 = .ok (.iinc 3 1, 3) := by decide +kernel
theorem dX5_swallowedBy_31 : decode cX5_swallowedBy 31 = .ok (.goto (-27), 3) := by decide +kernel
theorem dX5_swallowedBy_34 : decode cX5_swallowedBy 34 = .ok (.iload_n 2, 1) := by decide +kernel
theorem dX5_swallowedBy_35 : decode cX5_swallowedBy 35 = .ok (.ireturn, 1) := by decide +kernel
set_option maxRecDepth 20000 in
theorem ggX5_land_X5_sum : GoodIn wsX5_land wsX5_sum := goodIn_r _ [7] (by decide +kernel) (by decide +kernel)
set_option maxRecDepth 20000 in
theorem gX5_land_X5_sum : GoodIn wsX5_land (va_wsS RX5 78 yX5_sum wsX5_sum) := goodIn_app (goodIn_of _ (by decide +kernel)) ggX5_land_X5_sum
set_option maxRecDepth 20000 in
theorem ggX5_land_X5_swallowedBy : GoodIn wsX5_land wsX5_swallowedBy := goodIn_r _ [11, 12, 13, 14, 15, 16, 17, 18, 19, 20, 21, 22, 23, 24] (by decide +kernel) (by decide +kernel)
set_option maxRecDepth 20000 in
theorem gX5_land_X5_swallowedBy : GoodIn wsX5_land (wsV RX5 84 RX5 yX5_swallowedBy wsX5_swallowedBy) := goodIn_app (goodIn_of _ (by decide +kernel)) ggX5_land_X5_swallowedBy
theorem dX5_land_0 : decode cX5_land 0 = .ok (.aload_n 0, 1) := by decide +kernel
theorem dX5_land_1 : decode cX5_land 1 = .ok (.aload_n 1, 1) := by decide +kernel
theorem dX5_land_2 : decode cX5_land 2 = .ok (.putfield 18, 3) := by decide +kernel
theorem dX5_land_5 : decode cX5_land 5 = .ok (.aload_n 0, 1) := by decide +kernel
theorem dX5_land_6 : decode cX5_land 6 = .ok (.dup, 1) := by decide +kernel
theorem dX5_land_7 : decode cX5_land 7 = .ok (.getfield 75, 3) := by decide +kernel
theorem dX5_land_10 : decode cX5_land 10 = .ok (.aload_n 1, 1) := by decide +kernel
theorem dX5_land_11 : decode cX5_land 11 = .ok (.invokestatic 78, 3) := by decide +kernel
theorem dX5_land_14 : decode cX5_land 14 = .ok (.iadd, 1) := by decide +kernel
theorem dX5_land_15 : decode cX5_land 15 = .ok (.putfield 75, 3) := by decide +kernel
theorem dX5_land_18 : decode cX5_land 18 = .ok (.aload_n 0, 1) := by decide +kernel
theorem dX5_land_19 : decode cX5_land 19 = .ok (.dup, 1) := by decide +kernel
theorem dX5_land_20 : decode cX5_land 20 = .ok (.getfield 81, 3) := by decide +kernel
theorem dX5_land_23 : decode cX5_land 23 = .ok (.aload_n 0, 1) := by decide +kernel
theorem dX5_land_24 : decode cX5_land 24 = .ok (.aload_n 1, 1) := by decide +kernel
theorem dX5_land_25 : decode cX5_land 25 = .ok (.invokevirtual 84, 3) := by decide +kernel
theorem dX5_land_28 : decode cX5_land 28 = .ok (.iadd, 1) := by decide +kernel
theorem dX5_land_29 : decode cX5_land 29 = .ok (.putfield 81, 3) := by decide +kernel
theorem dX5_land_32 : decode cX5_land 32 = .ok (.aload_n 1, 1) := by decide +kernel
theorem dX5_land_33 : decode cX5_land 33 = .ok (.invokestatic 78, 3) := by decide +kernel
theorem dX5_land_36 : decode cX5_land 36 = .ok (.ireturn, 1) := by decide +kernel
set_option maxRecDepth 20000 in
theorem ggX5_drop_X5_isNoSpot : GoodIn wsX5_drop wsX5_isNoSpot := goodIn_r _ [6, 7, 8, 9, 5, 10, 20, 21, 22, 23, 24, 25, 26, 27, 28, 29, 30] (by decide +kernel) (by decide +kernel)
set_option maxRecDepth 20000 in
theorem gX5_drop_X5_isNoSpot : GoodIn wsX5_drop (wsV RX5 49 RX5 yX5_isNoSpot wsX5_isNoSpot) := goodIn_app (goodIn_of _ (by decide +kernel)) ggX5_drop_X5_isNoSpot
set_option maxRecDepth 20000 in
theorem ggX5_drop_X5_start : GoodIn wsX5_drop wsX5_start := goodIn_r _ [14, 15, 16, 17, 18, 5, 19, 20, 21, 22, 23, 24, 25, 26, 27, 28, 29, 30] (by decide +kernel) (by decide +kernel)
set_option maxRecDepth 20000 in
theorem gX5_drop_X5_start : GoodIn wsX5_drop (wsV RX5 53 RX5 yX5_start wsX5_start) := goodIn_app (goodIn_of _ (by decide +kernel)) ggX5_drop_X5_start
set_option maxRecDepth 20000 in
theorem ggX5_drop_X5_isIn : GoodIn wsX5_drop wsX5_isIn := goodIn_r _ [10] (by decide +kernel) (by decide +kernel)
set_option maxRecDepth 20000 in
theorem gX5_drop_X5_isIn : GoodIn wsX5_drop (va_wsS RX5 45 yX5_isIn wsX5_isIn) := goodIn_app (goodIn_of _ (by decide +kernel)) ggX5_drop_X5_isIn
set_option maxRecDepth 20000 in
theorem ggX5_drop_X5_refuse : GoodIn wsX5_drop wsX5_refuse := goodIn_r _ [19, 15, 20, 21, 22, 23, 24, 25, 26, 27, 28, 29, 30] (by decide +kernel) (by decide +kernel)
set_option maxRecDepth 20000 in
theorem gX5_drop_X5_refuse : GoodIn wsX5_drop (wsV RX5 38 RX5 yX5_refuse wsX5_refuse) := goodIn_app (goodIn_of _ (by decide +kernel)) ggX5_drop_X5_refuse
theorem dX5_drop_0 : decode cX5_drop 0 = .ok (.aload_n 0, 1) := by decide +kernel
theorem dX5_drop_1 : decode cX5_drop 1 = .ok (.aload_n 0, 1) := by decide +kernel
theorem dX5_drop_2 : decode cX5_drop 2 = .ok (.iload_n 1, 1) := by decide +kernel
theorem dX5_drop_3 : decode cX5_drop 3 = .ok (.invokevirtual 49, 3) := by decide +kernel
theorem dX5_drop_6 : decode cX5_drop 6 = .ok (.iconst 1, 1) := by decide +kernel
theorem dX5_drop_7 : decode cX5_drop 7 = .ok (.invokevirtual 53, 3) := by decide +kernel
theorem dX5_drop_10 : decode cX5_drop 10 = .ok (.ifCond .ne 52, 3) := by decide +kernel
theorem dX5_drop_13 : decode cX5_drop 13 = .ok (.aload_n 0, 1) := by decide +kernel
theorem dX5_drop_14 : decode cX5_drop 14 = .ok (.iload_n 2, 1) := by decide +kernel
theorem dX5_drop_15 : decode cX5_drop 15 = .ok (.iconst 1, 1) := by decide +kernel
theorem dX5_drop_16 : decode cX5_drop 16 = .ok (.bipush 40, 2) := by decide +kernel
theorem dX5_drop_18 : decode cX5_drop 18 = .ok (.invokestatic 45, 3) := by decide +kernel
theorem dX5_drop_21 : decode cX5_drop 21 = .ok (.ifCond .ne 7, 3) := by decide +kernel
theorem dX5_drop_24 : decode cX5_drop 24 = .ok (.iconst 1, 1) := by decide +kernel
theorem dX5_drop_25 : decode cX5_drop 25 = .ok (.goto 4, 3) := by decide +kernel
theorem dX5_drop_28 : decode cX5_drop 28 = .ok (.iconst 0, 1) := by decide +kernel
theorem dX5_drop_29 : decode cX5_drop 29 = .ok (.iconst 2, 1) := by decide +kernel
theorem dX5_drop_30 : decode cX5_drop 30 = .ok (.invokevirtual 38, 3) := by decide +kernel
theorem dX5_drop_33 : decode cX5_drop 33 = .ok (.ifCond .ne 29, 3) := by decide +kernel
theorem dX5_drop_36 : decode cX5_drop 36 = .ok (.aload_n 0, 1) := by decide +kernel
theorem dX5_drop_37 : decode cX5_drop 37 = .ok (.aload_n 0, 1) := by decide +kernel
theorem dX5_drop_38 : decode cX5_drop 38 = .ok (.getfield 14, 3) := by decide +kernel
theorem dX5_drop_41 : decode cX5_drop 41 = .ok (.iload_n 1, 1) := by decide +kernel
theorem dX5_drop_42 : decode cX5_drop 42 = .ok (.iaload, 1) := by decide +kernel
theorem dX5_drop_43 : decode cX5_drop 43 = .ok (.iload_n 2, 1) := by decide +kernel
theorem dX5_drop_44 : decode cX5_drop 44 = .ok (.iadd, 1) := by decide +kernel
theorem dX5_drop_45 : decode cX5_drop 45 = .ok (.bipush 99, 2) := by decide +kernel
theorem dX5_drop_47 : decode cX5_drop 47 = .ok (.if_icmp .le 7, 3) := by decide +kernel
theorem dX5_drop_50 : decode cX5_drop 50 = .ok (.iconst 1, 1) := by decide +kernel
theorem dX5_drop_51 : decode cX5_drop 51 = .ok (.goto 4, 3) := by decide +kernel
theorem dX5_drop_54 : decode cX5_drop 54 = .ok (.iconst 0, 1) := by decide +kernel
theorem dX5_drop_55 : decode cX5_drop 55 = .ok (.iconst 3, 1) := by decide +kernel
theorem dX5_drop_56 : decode cX5_drop 56 = .ok (.invokevirtual 38, 3) := by decide +kernel
theorem dX5_drop_59 : decode cX5_drop 59 = .ok (.ifCond .eq 5, 3) := by decide +kernel
theorem dX5_drop_62 : decode cX5_drop 62 = .ok (.iconst 0, 1) := by decide +kernel
theorem dX5_drop_63 : decode cX5_drop 63 = .ok (.ireturn, 1) := by decide +kernel
theorem dX5_drop_64 : decode cX5_drop 64 = .ok (.aload_n 0, 1) := by decide +kernel
theorem dX5_drop_65 : decode cX5_drop 65 = .ok (.getfield 14, 3) := by decide +kernel
theorem dX5_drop_68 : decode cX5_drop 68 = .ok (.iload_n 1, 1) := by decide +kernel
theorem dX5_drop_69 : decode cX5_drop 69 = .ok (.dup2, 1) := by decide +kernel
theorem dX5_drop_70 : decode cX5_drop 70 = .ok (.iaload, 1) := by decide +kernel
theorem dX5_drop_71 : decode cX5_drop 71 = .ok (.iload_n 2, 1) := by decide +kernel
theorem dX5_drop_72 : decode cX5_drop 72 = .ok (.iadd, 1) := by decide +kernel
theorem dX5_drop_73 : decode cX5_drop 73 = .ok (.iastore, 1) := by decide +kernel
theorem dX5_drop_74 : decode cX5_drop 74 = .ok (.aload_n 0, 1) := by decide +kernel
theorem dX5_drop_75 : decode cX5_drop 75 = .ok (.getfield 14, 3) := by decide +kernel
theorem dX5_drop_78 : decode cX5_drop 78 = .ok (.iload_n 1, 1) := by decide +kernel
theorem dX5_drop_79 : decode cX5_drop 79 = .ok (.iaload, 1) := by decide +kernel
theorem dX5_drop_80 : decode cX5_drop 80 = .ok (.ireturn, 1) := by decide +kernel
set_option maxRecDepth 20000 in
theorem ggX5_topple_X5_isNoSpot : GoodIn wsX5_topple wsX5_isNoSpot := goodIn_r _ [9, 10, 11, 12, 8, 13, 35, 36, 37, 38, 39, 40, 41, 42, 43, 44, 45] (by decide +kernel) (by decide +kernel)
set_option maxRecDepth 20000 in
theorem gX5_topple_X5_isNoSpot : GoodIn wsX5_topple (wsV RX5 49 RX5 yX5_isNoSpot wsX5_isNoSpot) := goodIn_app (goodIn_of _ (by decide +kernel)) ggX5_topple_X5_isNoSpot
set_option maxRecDepth 20000 in
theorem ggX5_topple_X5_start : GoodIn wsX5_topple wsX5_start := goodIn_r _ [17, 18, 19, 20, 21, 8, 22, 35, 36, 37, 38, 39, 40, 41, 42, 43, 44, 45] (by decide +kernel) (by decide +kernel)
set_option maxRecDepth 20000 in
theorem gX5_topple_X5_start : GoodIn wsX5_topple (wsV RX5 53 RX5 yX5_start wsX5_start) := goodIn_app (goodIn_of _ (by decide +kernel)) ggX5_topple_X5_start
set_option maxRecDepth 20000 in
theorem ggX5_topple_X5_isSteep : GoodIn wsX5_topple wsX5_isSteep := goodIn_r _ [26, 27, 28, 29, 8, 30, 4, 35, 36, 37, 38, 39, 40, 41, 42, 43, 44, 45] (by decide +kernel) (by decide +kernel)
set_option maxRecDepth 20000 in
theorem gX5_topple_X5_isSteep : GoodIn wsX5_topple (wsV RX5 63 RX5 yX5_isSteep wsX5_isSteep) := goodIn_app (goodIn_of _ (by decide +kernel)) ggX5_topple_X5_isSteep
set_option maxRecDepth 20000 in
theorem ggX5_topple_X5_refuse : GoodIn wsX5_topple wsX5_refuse := goodIn_r _ [22, 18, 35, 36, 37, 38, 39, 40, 41, 42, 43, 44, 45] (by decide +kernel) (by decide +kernel)
set_option maxRecDepth 20000 in
theorem gX5_topple_X5_refuse : GoodIn wsX5_topple (wsV RX5 38 RX5 yX5_refuse wsX5_refuse) := goodIn_app (goodIn_of _ (by decide +kernel)) ggX5_topple_X5_refuse
set_option maxRecDepth 20000 in
theorem ggX5_topple_X5_fall : GoodIn wsX5_topple wsX5_fall := goodIn_r _ [34, 10, 4, 27, 28, 29, 8, 30, 35, 36, 37, 38, 39, 40, 41, 42, 43, 44, 45] (by decide +kernel) (by decide +kernel)
set_option maxRecDepth 20000 in
theorem gX5_topple_X5_fall : GoodIn wsX5_topple (wsV RX5 71 RX5 yX5_fall wsX5_fall) := goodIn_app (goodIn_of _ (by decide +kernel)) ggX5_topple_X5_fall
theorem dX5_topple_0 : decode cX5_topple 0 = .ok (.aload_n 0, 1) := by decide +kernel
theorem dX5_topple_1 : decode cX5_topple 1 = .ok (.aload_n 0, 1) := by decide +kernel
theorem dX5_topple_2 : decode cX5_topple 2 = .ok (.iload_n 1, 1) := by decide +kernel
theorem dX5_topple_3 : decode cX5_topple 3 = .ok (.invokevirtual 49, 3) := by decide +kernel
theorem dX5_topple_6 : decode cX5_topple 6 = .ok (.iconst 1, 1) := by decide +kernel
theorem dX5_topple_7 : decode cX5_topple 7 = .ok (.invokevirtual 53, 3) := by decide +kernel
theorem dX5_topple_10 : decode cX5_topple 10 = .ok (.ifCond .ne 28, 3) := by decide +kernel
theorem dX5_topple_13 : decode cX5_topple 13 = .ok (.aload_n 0, 1) := by decide +kernel
theorem dX5_topple_14 : decode cX5_topple 14 = .ok (.aload_n 0, 1) := by decide +kernel
theorem dX5_topple_15 : decode cX5_topple 15 = .ok (.aload_n 0, 1) := by decide +kernel
theorem dX5_topple_16 : decode cX5_topple 16 = .ok (.getfield 14, 3) := by decide +kernel
theorem dX5_topple_19 : decode cX5_topple 19 = .ok (.iload_n 1, 1) := by decide +kernel
theorem dX5_topple_20 : decode cX5_topple 20 = .ok (.invokevirtual 63, 3) := by decide +kernel
theorem dX5_topple_23 : decode cX5_topple 23 = .ok (.ifCond .ne 7, 3) := by decide +kernel
theorem dX5_topple_26 : decode cX5_topple 26 = .ok (.iconst 1, 1) := by decide +kernel
theorem dX5_topple_27 : decode cX5_topple 27 = .ok (.goto 4, 3) := by decide +kernel
theorem dX5_topple_30 : decode cX5_topple 30 = .ok (.iconst 0, 1) := by decide +kernel
theorem dX5_topple_31 : decode cX5_topple 31 = .ok (.iconst 2, 1) := by decide +kernel
theorem dX5_topple_32 : decode cX5_topple 32 = .ok (.invokevirtual 38, 3) := by decide +kernel
theorem dX5_topple_35 : decode cX5_topple 35 = .ok (.ifCond .eq 5, 3) := by decide +kernel
theorem dX5_topple_38 : decode cX5_topple 38 = .ok (.iconst 0, 1) := by decide +kernel
theorem dX5_topple_39 : decode cX5_topple 39 = .ok (.ireturn, 1) := by decide +kernel
theorem dX5_topple_40 : decode cX5_topple 40 = .ok (.aload_n 0, 1) := by decide +kernel
theorem dX5_topple_41 : decode cX5_topple 41 = .ok (.aload_n 0, 1) := by decide +kernel
theorem dX5_topple_42 : decode cX5_topple 42 = .ok (.getfield 14, 3) := by decide +kernel
theorem dX5_topple_45 : decode cX5_topple 45 = .ok (.iload_n 1, 1) := by decide +kernel
theorem dX5_topple_46 : decode cX5_topple 46 = .ok (.invokevirtual 71, 3) := by decide +kernel
theorem dX5_topple_49 : decode cX5_topple 49 = .ok (.aload_n 0, 1) := by decide +kernel
theorem dX5_topple_50 : decode cX5_topple 50 = .ok (.dup, 1) := by decide +kernel
theorem dX5_topple_51 : decode cX5_topple 51 = .ok (.getfield 75, 3) := by decide +kernel
theorem dX5_topple_54 : decode cX5_topple 54 = .ok (.iconst 1, 1) := by decide +kernel
theorem dX5_topple_55 : decode cX5_topple 55 = .ok (.iadd, 1) := by decide +kernel
theorem dX5_topple_56 : decode cX5_topple 56 = .ok (.putfield 75, 3) := by decide +kernel
theorem dX5_topple_59 : decode cX5_topple 59 = .ok (.aload_n 0, 1) := by decide +kernel
theorem dX5_topple_60 : decode cX5_topple 60 = .ok (.dup, 1) := by decide +kernel
theorem dX5_topple_61 : decode cX5_topple 61 = .ok (.getfield 81, 3) := by decide +kernel
theorem dX5_topple_64 : decode cX5_topple 64 = .ok (.aload_n 0, 1) := by decide +kernel
theorem dX5_topple_65 : decode cX5_topple 65 = .ok (.getfield 11, 3) := by decide +kernel
theorem dX5_topple_68 : decode cX5_topple 68 = .ok (.iload_n 1, 1) := by decide +kernel
theorem dX5_topple_69 : decode cX5_topple 69 = .ok (.aaload, 1) := by decide +kernel
theorem dX5_topple_70 : decode cX5_topple 70 = .ok (.bipush 6, 2) := by decide +kernel
theorem dX5_topple_72 : decode cX5_topple 72 = .ok (.iaload, 1) := by decide +kernel
theorem dX5_topple_73 : decode cX5_topple 73 = .ok (.iadd, 1) := by decide +kernel
theorem dX5_topple_74 : decode cX5_topple 74 = .ok (.putfield 81, 3) := by decide +kernel
theorem dX5_topple_77 : decode cX5_topple 77 = .ok (.aload_n 0, 1) := by decide +kernel
theorem dX5_topple_78 : decode cX5_topple 78 = .ok (.getfield 11, 3) := by decide +kernel
theorem dX5_topple_81 : decode cX5_topple 81 = .ok (.iload_n 1, 1) := by decide +kernel
theorem dX5_topple_82 : decode cX5_topple 82 = .ok (.aaload, 1) := by decide +kernel
theorem dX5_topple_83 : decode cX5_topple 83 = .ok (.bipush 6, 2) := by decide +kernel
theorem dX5_topple_85 : decode cX5_topple 85 = .ok (.iaload, 1) := by decide +kernel
theorem dX5_topple_86 : decode cX5_topple 86 = .ok (.ireturn, 1) := by decide +kernel
set_option maxRecDepth 20000 in
theorem ggX5_settle_X5_isFast : GoodIn wsX5_settle wsX5_isFast := goodIn_r _ [6, 7, 8, 9, 54, 55, 56, 57, 58, 59, 60, 61, 62, 63, 64] (by decide +kernel) (by decide +kernel)
set_option maxRecDepth 20000 in
theorem gX5_settle_X5_isFast : GoodIn wsX5_settle (wsV RX5 87 RX5 yX5_isFast wsX5_isFast) := goodIn_app (goodIn_of _ (by decide +kernel)) ggX5_settle_X5_isFast
set_option maxRecDepth 20000 in
theorem ggX5_settle_X5_start : GoodIn wsX5_settle wsX5_start := goodIn_r _ [13, 14, 15, 16, 17, 5, 18, 54, 55, 56, 57, 58, 59, 60, 61, 62, 63, 64] (by decide +kernel) (by decide +kernel)
set_option maxRecDepth 20000 in
theorem gX5_settle_X5_start : GoodIn wsX5_settle (wsV RX5 53 RX5 yX5_start wsX5_start) := goodIn_app (goodIn_of _ (by decide +kernel)) ggX5_settle_X5_start
set_option maxRecDepth 20000 in
theorem ggX5_settle_X5_settled : GoodIn wsX5_settle wsX5_settled := goodIn_r _ [22, 23, 24, 25, 26, 5, 27, 9, 28, 29, 30, 31, 32, 33, 34, 35, 8, 36, 37, 38, 39, 54, 55, 56, 57, 58, 59, 60, 61, 62, 63, 64] (by decide +kernel) (by decide +kernel)
set_option maxRecDepth 20000 in
theorem gX5_settle_X5_settled : GoodIn wsX5_settle (wsV RX5 91 RX5 yX5_settled wsX5_settled) := goodIn_app (goodIn_of _ (by decide +kernel)) ggX5_settle_X5_settled
set_option maxRecDepth 20000 in
theorem ggX5_settle_X5_land : GoodIn wsX5_settle wsX5_land := goodIn_r _ [43, 44, 45, 46, 47, 48, 5, 49, 50, 51, 52, 53, 9, 8, 54, 55, 56, 57, 58, 59, 60, 61, 62, 63, 64] (by decide +kernel) (by decide +kernel)
set_option maxRecDepth 20000 in
theorem gX5_settle_X5_land : GoodIn wsX5_settle (wsV RX5 95 RX5 yX5_land wsX5_land) := goodIn_app (goodIn_of _ (by decide +kernel)) ggX5_settle_X5_land
theorem dX5_settle_0 : decode cX5_settle 0 = .ok (.aload_n 0, 1) := by decide +kernel
theorem dX5_settle_1 : decode cX5_settle 1 = .ok (.aload_n 0, 1) := by decide +kernel
theorem dX5_settle_2 : decode cX5_settle 2 = .ok (.invokevirtual 87, 3) := by decide +kernel
theorem dX5_settle_5 : decode cX5_settle 5 = .ok (.ifCond .ne 7, 3) := by decide +kernel
theorem dX5_settle_8 : decode cX5_settle 8 = .ok (.iconst 1, 1) := by decide +kernel
theorem dX5_settle_9 : decode cX5_settle 9 = .ok (.goto 4, 3) := by decide +kernel
theorem dX5_settle_12 : decode cX5_settle 12 = .ok (.iconst 0, 1) := by decide +kernel
theorem dX5_settle_13 : decode cX5_settle 13 = .ok (.iconst 1, 1) := by decide +kernel
theorem dX5_settle_14 : decode cX5_settle 14 = .ok (.invokevirtual 53, 3) := by decide +kernel
theorem dX5_settle_17 : decode cX5_settle 17 = .ok (.ifCond .eq 7, 3) := by decide +kernel
theorem dX5_settle_20 : decode cX5_settle 20 = .ok (.iconst 0, 1) := by decide +kernel
theorem dX5_settle_21 : decode cX5_settle 21 = .ok (.goto 15, 3) := by decide +kernel
theorem dX5_settle_24 : decode cX5_settle 24 = .ok (.aload_n 0, 1) := by decide +kernel
theorem dX5_settle_25 : decode cX5_settle 25 = .ok (.aload_n 0, 1) := by decide +kernel
theorem dX5_settle_26 : decode cX5_settle 26 = .ok (.aload_n 0, 1) := by decide +kernel
theorem dX5_settle_27 : decode cX5_settle 27 = .ok (.getfield 14, 3) := by decide +kernel
theorem dX5_settle_30 : decode cX5_settle 30 = .ok (.invokevirtual 91, 3) := by decide +kernel
theorem dX5_settle_33 : decode cX5_settle 33 = .ok (.invokevirtual 95, 3) := by decide +kernel
theorem dX5_settle_36 : decode cX5_settle 36 = .ok (.ireturn, 1) := by decide +kernel
theorem dX5_copy_0 : decode cX5_copy 0 = .ok (.aload_n 0, 1) := by decide +kernel
theorem dX5_copy_1 : decode cX5_copy 1 = .ok (.arraylength, 1) := by decide +kernel
theorem dX5_copy_2 : decode cX5_copy 2 = .ok (.newarray .int, 2) := by decide +kernel
theorem dX5_copy_4 : decode cX5_copy 4 = .ok (.astore_n 1, 1) := by decide +kernel
theorem dX5_copy_5 : decode cX5_copy 5 = .ok (.aload_n 0, 1) := by decide +kernel
theorem dX5_copy_6 : decode cX5_copy 6 = .ok (.iconst 0, 1) := by decide +kernel
theorem dX5_copy_7 : decode cX5_copy 7 = .ok (.aload_n 1, 1) := by decide +kernel
theorem dX5_copy_8 : decode cX5_copy 8 = .ok (.iconst 0, 1) := by decide +kernel
theorem dX5_copy_9 : decode cX5_copy 9 = .ok (.aload_n 0, 1) := by decide +kernel
theorem dX5_copy_10 : decode cX5_copy 10 = .ok (.arraylength, 1) := by decide +kernel
theorem dX5_copy_11 : decode cX5_copy 11 = .ok (.invokestatic 98, 3) := by decide +kernel
theorem dX5_copy_14 : decode cX5_copy 14 = .ok (.aload_n 1, 1) := by decide +kernel
theorem dX5_copy_15 : decode cX5_copy 15 = .ok (.areturn, 1) := by decide +kernel
set_option maxRecDepth 20000 in
theorem ggX5_keep_Jx4a65c_size_8abf5 : GoodIn wsX5_keep wsJx4a65c_size_8abf5 := goodIn_r _ [7, 8, 89, 90, 91] (by decide +kernel) (by decide +kernel)
set_option maxRecDepth 20000 in
theorem gX5_keep_Jx4a65c_size_8abf5 : GoodIn wsX5_keep (wsV RX5 104 RJx4a65c yJx4a65c_size_8abf5 wsJx4a65c_size_8abf5) := goodIn_app (goodIn_of _ (by decide +kernel)) ggX5_keep_Jx4a65c_size_8abf5
set_option maxRecDepth 20000 in
theorem ggX5_keep_X5_start : GoodIn wsX5_keep wsX5_start := goodIn_r _ [13, 14, 15, 16, 17, 12, 18, 78, 79, 80, 81, 82, 83, 84, 85, 86, 87, 88] (by decide +kernel) (by decide +kernel)
set_option maxRecDepth 20000 in
theorem gX5_keep_X5_start : GoodIn wsX5_keep (wsV RX5 53 RX5 yX5_start wsX5_start) := goodIn_app (goodIn_of _ (by decide +kernel)) ggX5_keep_X5_start
set_option maxRecDepth 20000 in
theorem ggX5_keep_X5_copy : GoodIn wsX5_keep wsX5_copy := goodIn_r _ [21, 22, 23, 24, 25, 26] (by decide +kernel) (by decide +kernel)
set_option maxRecDepth 20000 in
theorem gX5_keep_X5_copy : GoodIn wsX5_keep (va_wsS RX5 108 yX5_copy wsX5_copy) := goodIn_app (goodIn_of _ (by decide +kernel)) ggX5_keep_X5_copy
set_option maxRecDepth 20000 in
theorem ggX5_keep_Jx4a65c_add_9ea2d : GoodIn wsX5_keep wsJx4a65c_add_9ea2d := goodIn_r _ [30, 31, 32, 33, 8, 34, 35, 36, 6, 37, 38, 39, 40, 41, 42, 43, 44, 45, 46, 47, 48, 49, 50, 51, 52, 53, 54, 55, 56, 57, 58, 59, 60, 61, 62, 63, 64, 65, 66, 67, 68, 69, 70, 71, 72, 73, 74, 75, 76, 77, 24, 25, 26, 89, 90, 91] (by decide +kernel) (by decide +kernel)
set_option maxRecDepth 20000 in
theorem gX5_keep_Jx4a65c_add_9ea2d : GoodIn wsX5_keep (wsV RX5 111 RJx4a65c yJx4a65c_add_9ea2d wsJx4a65c_add_9ea2d) := goodIn_app (goodIn_of _ (by decide +kernel)) ggX5_keep_Jx4a65c_add_9ea2d
theorem dX5_keep_0 : decode cX5_keep 0 = .ok (.aload_n 0, 1) := by decide +kernel
theorem dX5_keep_1 : decode cX5_keep 1 = .ok (.aload_n 0, 1) := by decide +kernel
theorem dX5_keep_2 : decode cX5_keep 2 = .ok (.getfield 30, 3) := by decide +kernel
theorem dX5_keep_5 : decode cX5_keep 5 = .ok (.invokevirtual 104, 3) := by decide +kernel
theorem dX5_keep_8 : decode cX5_keep 8 = .ok (.iconst 4, 1) := by decide +kernel
theorem dX5_keep_9 : decode cX5_keep 9 = .ok (.if_icmp .ne 7, 3) := by decide +kernel
theorem dX5_keep_12 : decode cX5_keep 12 = .ok (.iconst 1, 1) := by decide +kernel
theorem dX5_keep_13 : decode cX5_keep 13 = .ok (.goto 4, 3) := by decide +kernel
theorem dX5_keep_16 : decode cX5_keep 16 = .ok (.iconst 0, 1) := by decide +kernel
theorem dX5_keep_17 : decode cX5_keep 17 = .ok (.iconst 1, 1) := by decide +kernel
theorem dX5_keep_18 : decode cX5_keep 18 = .ok (.invokevirtual 53, 3) := by decide +kernel
theorem dX5_keep_21 : decode cX5_keep 21 = .ok (.ifCond .eq 5, 3) := by decide +kernel
theorem dX5_keep_24 : decode cX5_keep 24 = .ok (.iconst 0, 1) := by decide +kernel
theorem dX5_keep_25 : decode cX5_keep 25 = .ok (.ireturn, 1) := by decide +kernel
theorem dX5_keep_26 : decode cX5_keep 26 = .ok (.aload_n 0, 1) := by decide +kernel
theorem dX5_keep_27 : decode cX5_keep 27 = .ok (.getfield 30, 3) := by decide +kernel
theorem dX5_keep_30 : decode cX5_keep 30 = .ok (.aload_n 0, 1) := by decide +kernel
theorem dX5_keep_31 : decode cX5_keep 31 = .ok (.getfield 14, 3) := by decide +kernel
theorem dX5_keep_34 : decode cX5_keep 34 = .ok (.invokestatic 108, 3) := by decide +kernel
theorem dX5_keep_37 : decode cX5_keep 37 = .ok (.invokevirtual 111, 3) := by decide +kernel
theorem dX5_keep_40 : decode cX5_keep 40 = .ok (.pop, 1) := by decide +kernel
theorem dX5_keep_41 : decode cX5_keep 41 = .ok (.aload_n 0, 1) := by decide +kernel
theorem dX5_keep_42 : decode cX5_keep 42 = .ok (.getfield 30, 3) := by decide +kernel
theorem dX5_keep_45 : decode cX5_keep 45 = .ok (.invokevirtual 104, 3) := by decide +kernel
theorem dX5_keep_48 : decode cX5_keep 48 = .ok (.iconst 1, 1) := by decide +kernel
theorem dX5_keep_49 : decode cX5_keep 49 = .ok (.isub, 1) := by decide +kernel
theorem dX5_keep_50 : decode cX5_keep 50 = .ok (.ireturn, 1) := by decide +kernel
theorem dX5_plus_0 : decode cX5_plus 0 = .ok (.bipush 6, 2) := by decide +kernel
theorem dX5_plus_2 : decode cX5_plus 2 = .ok (.newarray .int, 2) := by decide +kernel
theorem dX5_plus_4 : decode cX5_plus 4 = .ok (.astore_n 2, 1) := by decide +kernel
theorem dX5_plus_5 : decode cX5_plus 5 = .ok (.iconst 0, 1) := by decide +kernel
theorem dX5_plus_6 : decode cX5_plus 6 = .ok (.istore_n 3, 1) := by decide +kernel
theorem dX5_plus_7 : decode cX5_plus 7 = .ok (.iload_n 3, 1) := by decide +kernel
theorem dX5_plus_8 : decode cX5_plus 8 = .ok (.bipush 6, 2) := by decide +kernel
theorem dX5_plus_10 : decode cX5_plus 10 = .ok (.if_icmp .ge 19, 3) := by decide +kernel
theorem dX5_plus_13 : decode cX5_plus 13 = .ok (.aload_n 2, 1) := by decide +kernel
theorem dX5_plus_14 : decode cX5_plus 14 = .ok (.iload_n 3, 1) := by decide +kernel
theorem dX5_plus_15 : decode cX5_plus 15 = .ok (.aload_n 0, 1) := by decide +kernel
theorem dX5_plus_16 : decode cX5_plus 16 = .ok (.iload_n 3, 1) := by decide +kernel
theorem dX5_plus_17 : decode cX5_plus 17 = .ok (.iaload, 1) := by decide +kernel
theorem dX5_plus_18 : decode cX5_plus 18 = .ok (.aload_n 1, 1) := by decide +kernel
theorem dX5_plus_19 : decode cX5_plus 19 = .ok (.iload_n 3, 1) := by decide +kernel
theorem dX5_plus_20 : decode cX5_plus 20 = .ok (.iaload, 1) := by decide +kernel
theorem dX5_plus_21 : decode cX5_plus 21 = .ok (.iadd, 1) := by decide +kernel
theorem dX5_plus_22 : decode cX5_plus 22 = .ok (.iastore, 1) := by decide +kernel
theorem dX5_plus_23 : decode cX5_plus 23 = .ok (.iinc 3 1, 3) := by decide +kernel
theorem dX5_plus_26 : decode cX5_plus 26 = .ok (.goto (-19), 3) := by decide +kernel
theorem dX5_plus_29 : decode cX5_plus 29 = .ok (.aload_n 2, 1) := by decide +kernel
theorem dX5_plus_30 : decode cX5_plus 30 = .ok (.areturn, 1) := by decide +kernel
set_option maxRecDepth 20000 in
theorem ggX5_add_Jx4a65c_size_8abf5 : GoodIn wsX5_add wsJx4a65c_size_8abf5 := goodIn_r _ [8, 9, 96, 97, 98] (by decide +kernel) (by decide +kernel)
set_option maxRecDepth 20000 in
theorem gX5_add_Jx4a65c_size_8abf5 : GoodIn wsX5_add (wsV RX5 104 RJx4a65c yJx4a65c_size_8abf5 wsJx4a65c_size_8abf5) := goodIn_app (goodIn_of _ (by decide +kernel)) ggX5_add_Jx4a65c_size_8abf5
set_option maxRecDepth 20000 in
theorem ggX5_add_X5_isIn : GoodIn wsX5_add wsX5_isIn := goodIn_r _ [13] (by decide +kernel) (by decide +kernel)
set_option maxRecDepth 20000 in
theorem gX5_add_X5_isIn : GoodIn wsX5_add (va_wsS RX5 45 yX5_isIn wsX5_isIn) := goodIn_app (goodIn_of _ (by decide +kernel)) ggX5_add_X5_isIn
set_option maxRecDepth 20000 in
theorem ggX5_add_X5_start : GoodIn wsX5_add wsX5_start := goodIn_r _ [17, 18, 19, 20, 21, 12, 22, 85, 86, 87, 88, 89, 90, 91, 92, 93, 94, 95] (by decide +kernel) (by decide +kernel)
set_option maxRecDepth 20000 in
theorem gX5_add_X5_start : GoodIn wsX5_add (wsV RX5 53 RX5 yX5_start wsX5_start) := goodIn_app (goodIn_of _ (by decide +kernel)) ggX5_add_X5_start
set_option maxRecDepth 20000 in
theorem ggX5_add_Jx4a65c_get_915e3 : GoodIn wsX5_add wsJx4a65c_get_915e3 := goodIn_r _ [26, 9, 27, 28, 29, 30, 31, 32, 33, 34, 35, 36, 37, 7, 38, 39, 96, 97, 98] (by decide +kernel) (by decide +kernel)
set_option maxRecDepth 20000 in
theorem gX5_add_Jx4a65c_get_915e3 : GoodIn wsX5_add (wsV RX5 115 RJx4a65c yJx4a65c_get_915e3 wsJx4a65c_get_915e3) := goodIn_app (goodIn_of _ (by decide +kernel)) ggX5_add_Jx4a65c_get_915e3
set_option maxRecDepth 20000 in
theorem ggX5_add_X5_plus : GoodIn wsX5_add wsX5_plus := goodIn_r _ [42, 43] (by decide +kernel) (by decide +kernel)
set_option maxRecDepth 20000 in
theorem gX5_add_X5_plus : GoodIn wsX5_add (va_wsS RX5 120 yX5_plus wsX5_plus) := goodIn_app (goodIn_of _ (by decide +kernel)) ggX5_add_X5_plus
set_option maxRecDepth 20000 in
theorem ggX5_add_X5_isFast : GoodIn wsX5_add wsX5_isFast := goodIn_r _ [47, 48, 49, 50, 85, 86, 87, 88, 89, 90, 91, 92, 93, 94, 95] (by decide +kernel) (by decide +kernel)
set_option maxRecDepth 20000 in
theorem gX5_add_X5_isFast : GoodIn wsX5_add (wsV RX5 87 RX5 yX5_isFast wsX5_isFast) := goodIn_app (goodIn_of _ (by decide +kernel)) ggX5_add_X5_isFast
set_option maxRecDepth 20000 in
theorem ggX5_add_X5_refuse : GoodIn wsX5_add wsX5_refuse := goodIn_r _ [22, 18, 85, 86, 87, 88, 89, 90, 91, 92, 93, 94, 95] (by decide +kernel) (by decide +kernel)
set_option maxRecDepth 20000 in
theorem gX5_add_X5_refuse : GoodIn wsX5_add (wsV RX5 38 RX5 yX5_refuse wsX5_refuse) := goodIn_app (goodIn_of _ (by decide +kernel)) ggX5_add_X5_refuse
set_option maxRecDepth 20000 in
theorem ggX5_add_X5_settled : GoodIn wsX5_add wsX5_settled := goodIn_r _ [54, 43, 55, 56, 57, 12, 58, 50, 59, 60, 61, 62, 63, 64, 65, 66, 49, 67, 68, 69, 70, 85, 86, 87, 88, 89, 90, 91, 92, 93, 94, 95] (by decide +kernel) (by decide +kernel)
set_option maxRecDepth 20000 in
theorem gX5_add_X5_settled : GoodIn wsX5_add (wsV RX5 91 RX5 yX5_settled wsX5_settled) := goodIn_app (goodIn_of _ (by decide +kernel)) ggX5_add_X5_settled
set_option maxRecDepth 20000 in
theorem ggX5_add_X5_land : GoodIn wsX5_add wsX5_land := goodIn_r _ [74, 75, 76, 77, 78, 79, 12, 80, 81, 82, 83, 84, 50, 49, 85, 86, 87, 88, 89, 90, 91, 92, 93, 94, 95] (by decide +kernel) (by decide +kernel)
set_option maxRecDepth 20000 in
theorem gX5_add_X5_land : GoodIn wsX5_add (wsV RX5 95 RX5 yX5_land wsX5_land) := goodIn_app (goodIn_of _ (by decide +kernel)) ggX5_add_X5_land
theorem dX5_add_0 : decode cX5_add 0 = .ok (.aload_n 0, 1) := by decide +kernel
theorem dX5_add_1 : decode cX5_add 1 = .ok (.iload_n 1, 1) := by decide +kernel
theorem dX5_add_2 : decode cX5_add 2 = .ok (.iconst 0, 1) := by decide +kernel
theorem dX5_add_3 : decode cX5_add 3 = .ok (.aload_n 0, 1) := by decide +kernel
theorem dX5_add_4 : decode cX5_add 4 = .ok (.getfield 30, 3) := by decide +kernel
theorem dX5_add_7 : decode cX5_add 7 = .ok (.invokevirtual 104, 3) := by decide +kernel
theorem dX5_add_10 : decode cX5_add 10 = .ok (.iconst 1, 1) := by decide +kernel
theorem dX5_add_11 : decode cX5_add 11 = .ok (.isub, 1) := by decide +kernel
theorem dX5_add_12 : decode cX5_add 12 = .ok (.invokestatic 45, 3) := by decide +kernel
theorem dX5_add_15 : decode cX5_add 15 = .ok (.ifCond .ne 7, 3) := by decide +kernel
theorem dX5_add_18 : decode cX5_add 18 = .ok (.iconst 1, 1) := by decide +kernel
theorem dX5_add_19 : decode cX5_add 19 = .ok (.goto 4, 3) := by decide +kernel
theorem dX5_add_22 : decode cX5_add 22 = .ok (.iconst 0, 1) := by decide +kernel
theorem dX5_add_23 : decode cX5_add 23 = .ok (.iconst 1, 1) := by decide +kernel
theorem dX5_add_24 : decode cX5_add 24 = .ok (.invokevirtual 53, 3) := by decide +kernel
theorem dX5_add_27 : decode cX5_add 27 = .ok (.ifCond .eq 5, 3) := by decide +kernel
theorem dX5_add_30 : decode cX5_add 30 = .ok (.iconst 0, 1) := by decide +kernel
theorem dX5_add_31 : decode cX5_add 31 = .ok (.ireturn, 1) := by decide +kernel
theorem dX5_add_32 : decode cX5_add 32 = .ok (.aload_n 0, 1) := by decide +kernel
theorem dX5_add_33 : decode cX5_add 33 = .ok (.getfield 14, 3) := by decide +kernel
theorem dX5_add_36 : decode cX5_add 36 = .ok (.aload_n 0, 1) := by decide +kernel
theorem dX5_add_37 : decode cX5_add 37 = .ok (.getfield 30, 3) := by decide +kernel
theorem dX5_add_40 : decode cX5_add 40 = .ok (.iload_n 1, 1) := by decide +kernel
theorem dX5_add_41 : decode cX5_add 41 = .ok (.invokevirtual 115, 3) := by decide +kernel
theorem dX5_add_44 : decode cX5_add 44 = .ok (.checkcast 119, 3) := by decide +kernel
theorem dX5_add_47 : decode cX5_add 47 = .ok (.invokestatic 120, 3) := by decide +kernel
theorem dX5_add_50 : decode cX5_add 50 = .ok (.astore_n 2, 1) := by decide +kernel
theorem dX5_add_51 : decode cX5_add 51 = .ok (.aload_n 0, 1) := by decide +kernel
theorem dX5_add_52 : decode cX5_add 52 = .ok (.invokevirtual 87, 3) := by decide +kernel
theorem dX5_add_55 : decode cX5_add 55 = .ok (.ifCond .ne 7, 3) := by decide +kernel
theorem dX5_add_58 : decode cX5_add 58 = .ok (.iconst 1, 1) := by decide +kernel
theorem dX5_add_59 : decode cX5_add 59 = .ok (.goto 4, 3) := by decide +kernel
theorem dX5_add_62 : decode cX5_add 62 = .ok (.iconst 0, 1) := by decide +kernel
theorem dX5_add_63 : decode cX5_add 63 = .ok (.istore_n 3, 1) := by decide +kernel
theorem dX5_add_64 : decode cX5_add 64 = .ok (.aload_n 2, 1) := by decide +kernel
theorem dX5_add_65 : decode cX5_add 65 = .ok (.astore 4, 2) := by decide +kernel
theorem dX5_add_67 : decode cX5_add 67 = .ok (.aload 4, 2) := by decide +kernel
theorem dX5_add_69 : decode cX5_add 69 = .ok (.arraylength, 1) := by decide +kernel
theorem dX5_add_70 : decode cX5_add 70 = .ok (.istore 5, 2) := by decide +kernel
theorem dX5_add_72 : decode cX5_add 72 = .ok (.iconst 0, 1) := by decide +kernel
theorem dX5_add_73 : decode cX5_add 73 = .ok (.istore 6, 2) := by decide +kernel
theorem dX5_add_75 : decode cX5_add 75 = .ok (.iload 6, 2) := by decide +kernel
theorem dX5_add_77 : decode cX5_add 77 = .ok (.iload 5, 2) := by decide +kernel
theorem dX5_add_79 : decode cX5_add 79 = .ok (.if_icmp .ge 31, 3) := by decide +kernel
theorem dX5_add_82 : decode cX5_add 82 = .ok (.aload 4, 2) := by decide +kernel
theorem dX5_add_84 : decode cX5_add 84 = .ok (.iload 6, 2) := by decide +kernel
theorem dX5_add_86 : decode cX5_add 86 = .ok (.iaload, 1) := by decide +kernel
theorem dX5_add_87 : decode cX5_add 87 = .ok (.istore 7, 2) := by decide +kernel
theorem dX5_add_89 : decode cX5_add 89 = .ok (.iload_n 3, 1) := by decide +kernel
theorem dX5_add_90 : decode cX5_add 90 = .ok (.iload 7, 2) := by decide +kernel
theorem dX5_add_92 : decode cX5_add 92 = .ok (.bipush 99, 2) := by decide +kernel
theorem dX5_add_94 : decode cX5_add 94 = .ok (.if_icmp .le 7, 3) := by decide +kernel
theorem dX5_add_97 : decode cX5_add 97 = .ok (.iconst 1, 1) := by decide +kernel
theorem dX5_add_98 : decode cX5_add 98 = .ok (.goto 4, 3) := by decide +kernel
theorem dX5_add_101 : decode cX5_add 101 = .ok (.iconst 0, 1) := by decide +kernel
theorem dX5_add_102 : decode cX5_add 102 = .ok (.ior, 1) := by decide +kernel
theorem dX5_add_103 : decode cX5_add 103 = .ok (.istore_n 3, 1) := by decide +kernel
theorem dX5_add_104 : decode cX5_add 104 = .ok (.iinc 6 1, 3) := by decide +kernel
theorem dX5_add_107 : decode cX5_add 107 = .ok (.goto (-32), 3) := by decide +kernel
theorem dX5_add_110 : decode cX5_add 110 = .ok (.aload_n 0, 1) := by decide +kernel
theorem dX5_add_111 : decode cX5_add 111 = .ok (.iload_n 3, 1) := by decide +kernel
theorem dX5_add_112 : decode cX5_add 112 = .ok (.iconst 2, 1) := by decide +kernel
theorem dX5_add_113 : decode cX5_add 113 = .ok (.invokevirtual 38, 3) := by decide +kernel
theorem dX5_add_116 : decode cX5_add 116 = .ok (.ifCond .eq 5, 3) := by decide +kernel
theorem dX5_add_119 : decode cX5_add 119 = .ok (.iconst 0, 1) := by decide +kernel
theorem dX5_add_120 : decode cX5_add 120 = .ok (.ireturn, 1) := by decide +kernel
theorem dX5_add_121 : decode cX5_add 121 = .ok (.aload_n 0, 1) := by decide +kernel
theorem dX5_add_122 : decode cX5_add 122 = .ok (.aload_n 2, 1) := by decide +kernel
theorem dX5_add_123 : decode cX5_add 123 = .ok (.putfield 14, 3) := by decide +kernel
theorem dX5_add_126 : decode cX5_add 126 = .ok (.aload_n 0, 1) := by decide +kernel
theorem dX5_add_127 : decode cX5_add 127 = .ok (.aload_n 0, 1) := by decide +kernel
theorem dX5_add_128 : decode cX5_add 128 = .ok (.aload_n 0, 1) := by decide +kernel
theorem dX5_add_129 : decode cX5_add 129 = .ok (.getfield 14, 3) := by decide +kernel
theorem dX5_add_132 : decode cX5_add 132 = .ok (.invokevirtual 91, 3) := by decide +kernel
theorem dX5_add_135 : decode cX5_add 135 = .ok (.invokevirtual 95, 3) := by decide +kernel
theorem dX5_add_138 : decode cX5_add 138 = .ok (.ireturn, 1) := by decide +kernel
set_option maxRecDepth 20000 in
theorem ggX5_sweep_X5_sum : GoodIn wsX5_sweep wsX5_sum := goodIn_r _ [7] (by decide +kernel) (by decide +kernel)
set_option maxRecDepth 20000 in
theorem gX5_sweep_X5_sum : GoodIn wsX5_sweep (va_wsS RX5 78 yX5_sum wsX5_sum) := goodIn_app (goodIn_of _ (by decide +kernel)) ggX5_sweep_X5_sum
theorem dX5_sweep_0 : decode cX5_sweep 0 = .ok (.aload_n 0, 1) := by decide +kernel
theorem dX5_sweep_1 : decode cX5_sweep 1 = .ok (.iconst 0, 1) := by decide +kernel
theorem dX5_sweep_2 : decode cX5_sweep 2 = .ok (.putfield 34, 3) := by decide +kernel
theorem dX5_sweep_5 : decode cX5_sweep 5 = .ok (.aload_n 0, 1) := by decide +kernel
theorem dX5_sweep_6 : decode cX5_sweep 6 = .ok (.getfield 14, 3) := by decide +kernel
theorem dX5_sweep_9 : decode cX5_sweep 9 = .ok (.invokestatic 78, 3) := by decide +kernel
theorem dX5_sweep_12 : decode cX5_sweep 12 = .ok (.istore_n 1, 1) := by decide +kernel
theorem dX5_sweep_13 : decode cX5_sweep 13 = .ok (.aload_n 0, 1) := by decide +kernel
theorem dX5_sweep_14 : decode cX5_sweep 14 = .ok (.bipush 6, 2) := by decide +kernel
theorem dX5_sweep_16 : decode cX5_sweep 16 = .ok (.newarray .int, 2) := by decide +kernel
theorem dX5_sweep_18 : decode cX5_sweep 18 = .ok (.putfield 14, 3) := by decide +kernel
theorem dX5_sweep_21 : decode cX5_sweep 21 = .ok (.iload_n 1, 1) := by decide +kernel
theorem dX5_sweep_22 : decode cX5_sweep 22 = .ok (.ireturn, 1) := by decide +kernel
theorem dX5_pointed_0 : decode cX5_pointed 0 = .ok (.iload_n 2, 1) := by decide +kernel
theorem dX5_pointed_1 : decode cX5_pointed 1 = .ok (.istore_n 3, 1) := by decide +kernel
theorem dX5_pointed_2 : decode cX5_pointed 2 = .ok (.iconst 0, 1) := by decide +kernel
theorem dX5_pointed_3 : decode cX5_pointed 3 = .ok (.istore 4, 2) := by decide +kernel
theorem dX5_pointed_5 : decode cX5_pointed 5 = .ok (.iload 4, 2) := by decide +kernel
theorem dX5_pointed_7 : decode cX5_pointed 7 = .ok (.bipush 7, 2) := by decide +kernel
theorem dX5_pointed_9 : decode cX5_pointed 9 = .ok (.if_icmp .ge 28, 3) := by decide +kernel
theorem dX5_pointed_12 : decode cX5_pointed 12 = .ok (.iload_n 3, 1) := by decide +kernel
theorem dX5_pointed_13 : decode cX5_pointed 13 = .ok (.aload_n 0, 1) := by decide +kernel
theorem dX5_pointed_14 : decode cX5_pointed 14 = .ok (.getfield 11, 3) := by decide +kernel
theorem dX5_pointed_17 : decode cX5_pointed 17 = .ok (.iload_n 1, 1) := by decide +kernel
theorem dX5_pointed_18 : decode cX5_pointed 18 = .ok (.aaload, 1) := by decide +kernel
theorem dX5_pointed_19 : decode cX5_pointed 19 = .ok (.iload 4, 2) := by decide +kernel
theorem dX5_pointed_21 : decode cX5_pointed 21 = .ok (.iaload, 1) := by decide +kernel
theorem dX5_pointed_22 : decode cX5_pointed 22 = .ok (.isub, 1) := by decide +kernel
theorem dX5_pointed_23 : decode cX5_pointed 23 = .ok (.istore_n 3, 1) := by decide +kernel
theorem dX5_pointed_24 : decode cX5_pointed 24 = .ok (.iload_n 3, 1) := by decide +kernel
theorem dX5_pointed_25 : decode cX5_pointed 25 = .ok (.ifCond .ge 6, 3) := by decide +kernel
theorem dX5_pointed_28 : decode cX5_pointed 28 = .ok (.iload 4, 2) := by decide +kernel
theorem dX5_pointed_30 : decode cX5_pointed 30 = .ok (.ireturn, 1) := by decide +kernel
theorem dX5_pointed_31 : decode cX5_pointed 31 = .ok (.iinc 4 1, 3) := by decide +kernel
theorem dX5_pointed_34 : decode cX5_pointed 34 = .ok (.goto (-29), 3) := by decide +kernel
theorem dX5_pointed_37 : decode cX5_pointed 37 = .ok (.iconst (-1), 1) := by decide +kernel
theorem dX5_pointed_38 : decode cX5_pointed 38 = .ok (.ireturn, 1) := by decide +kernel
set_option maxRecDepth 20000 in
theorem ggX5_walk_X5_isNoSpot : GoodIn wsX5_walk wsX5_isNoSpot := goodIn_r _ [7, 8, 9, 10, 6, 11, 35, 36, 37, 38, 39, 40, 41, 42, 43, 44, 45] (by decide +kernel) (by decide +kernel)
set_option maxRecDepth 20000 in
theorem gX5_walk_X5_isNoSpot : GoodIn wsX5_walk (wsV RX5 49 RX5 yX5_isNoSpot wsX5_isNoSpot) := goodIn_app (goodIn_of _ (by decide +kernel)) ggX5_walk_X5_isNoSpot
set_option maxRecDepth 20000 in
theorem ggX5_walk_X5_start : GoodIn wsX5_walk wsX5_start := goodIn_r _ [15, 16, 17, 18, 19, 6, 20, 35, 36, 37, 38, 39, 40, 41, 42, 43, 44, 45] (by decide +kernel) (by decide +kernel)
set_option maxRecDepth 20000 in
theorem gX5_walk_X5_start : GoodIn wsX5_walk (wsV RX5 53 RX5 yX5_start wsX5_start) := goodIn_app (goodIn_of _ (by decide +kernel)) ggX5_walk_X5_start
set_option maxRecDepth 20000 in
theorem ggX5_walk_X5_isFast : GoodIn wsX5_walk wsX5_isFast := goodIn_r _ [24, 25, 26, 8, 35, 36, 37, 38, 39, 40, 41, 42, 43, 44, 45] (by decide +kernel) (by decide +kernel)
set_option maxRecDepth 20000 in
theorem gX5_walk_X5_isFast : GoodIn wsX5_walk (wsV RX5 87 RX5 yX5_isFast wsX5_isFast) := goodIn_app (goodIn_of _ (by decide +kernel)) ggX5_walk_X5_isFast
set_option maxRecDepth 20000 in
theorem ggX5_walk_X5_refuse : GoodIn wsX5_walk wsX5_refuse := goodIn_r _ [20, 16, 35, 36, 37, 38, 39, 40, 41, 42, 43, 44, 45] (by decide +kernel) (by decide +kernel)
set_option maxRecDepth 20000 in
theorem gX5_walk_X5_refuse : GoodIn wsX5_walk (wsV RX5 38 RX5 yX5_refuse wsX5_refuse) := goodIn_app (goodIn_of _ (by decide +kernel)) ggX5_walk_X5_refuse
set_option maxRecDepth 20000 in
theorem ggX5_walk_X5_degree : GoodIn wsX5_walk wsX5_degree := goodIn_r _ [30, 26, 35, 36, 37, 38, 39, 40, 41, 42, 43, 44, 45] (by decide +kernel) (by decide +kernel)
set_option maxRecDepth 20000 in
theorem gX5_walk_X5_degree : GoodIn wsX5_walk (wsV RX5 59 RX5 yX5_degree wsX5_degree) := goodIn_app (goodIn_of _ (by decide +kernel)) ggX5_walk_X5_degree
set_option maxRecDepth 20000 in
theorem ggX5_walk_X5_pointed : GoodIn wsX5_walk wsX5_pointed := goodIn_r _ [34, 26, 35, 36, 37, 38, 39, 40, 41, 42, 43, 44, 45] (by decide +kernel) (by decide +kernel)
set_option maxRecDepth 20000 in
theorem gX5_walk_X5_pointed : GoodIn wsX5_walk (wsV RX5 124 RX5 yX5_pointed wsX5_pointed) := goodIn_app (goodIn_of _ (by decide +kernel)) ggX5_walk_X5_pointed
theorem dX5_walk_0 : decode cX5_walk 0 = .ok (.aload_n 0, 1) := by decide +kernel
theorem dX5_walk_1 : decode cX5_walk 1 = .ok (.aload_n 0, 1) := by decide +kernel
theorem dX5_walk_2 : decode cX5_walk 2 = .ok (.iload_n 1, 1) := by decide +kernel
theorem dX5_walk_3 : decode cX5_walk 3 = .ok (.invokevirtual 49, 3) := by decide +kernel
theorem dX5_walk_6 : decode cX5_walk 6 = .ok (.iconst 1, 1) := by decide +kernel
theorem dX5_walk_7 : decode cX5_walk 7 = .ok (.invokevirtual 53, 3) := by decide +kernel
theorem dX5_walk_10 : decode cX5_walk 10 = .ok (.ifCond .ne 23, 3) := by decide +kernel
theorem dX5_walk_13 : decode cX5_walk 13 = .ok (.aload_n 0, 1) := by decide +kernel
theorem dX5_walk_14 : decode cX5_walk 14 = .ok (.aload_n 0, 1) := by decide +kernel
theorem dX5_walk_15 : decode cX5_walk 15 = .ok (.invokevirtual 87, 3) := by decide +kernel
theorem dX5_walk_18 : decode cX5_walk 18 = .ok (.ifCond .ne 7, 3) := by decide +kernel
theorem dX5_walk_21 : decode cX5_walk 21 = .ok (.iconst 1, 1) := by decide +kernel
theorem dX5_walk_22 : decode cX5_walk 22 = .ok (.goto 4, 3) := by decide +kernel
theorem dX5_walk_25 : decode cX5_walk 25 = .ok (.iconst 0, 1) := by decide +kernel
theorem dX5_walk_26 : decode cX5_walk 26 = .ok (.iconst 2, 1) := by decide +kernel
theorem dX5_walk_27 : decode cX5_walk 27 = .ok (.invokevirtual 38, 3) := by decide +kernel
theorem dX5_walk_30 : decode cX5_walk 30 = .ok (.ifCond .eq 5, 3) := by decide +kernel
theorem dX5_walk_33 : decode cX5_walk 33 = .ok (.iconst 0, 1) := by decide +kernel
theorem dX5_walk_34 : decode cX5_walk 34 = .ok (.ireturn, 1) := by decide +kernel
theorem dX5_walk_35 : decode cX5_walk 35 = .ok (.iconst 0, 1) := by decide +kernel
theorem dX5_walk_36 : decode cX5_walk 36 = .ok (.istore_n 2, 1) := by decide +kernel
theorem dX5_walk_37 : decode cX5_walk 37 = .ok (.iload_n 1, 1) := by decide +kernel
theorem dX5_walk_38 : decode cX5_walk 38 = .ok (.istore_n 3, 1) := by decide +kernel
theorem dX5_walk_39 : decode cX5_walk 39 = .ok (.iload_n 3, 1) := by decide +kernel
theorem dX5_walk_40 : decode cX5_walk 40 = .ok (.bipush 6, 2) := by decide +kernel
theorem dX5_walk_42 : decode cX5_walk 42 = .ok (.if_icmp .eq 41, 3) := by decide +kernel
theorem dX5_walk_45 : decode cX5_walk 45 = .ok (.aload_n 0, 1) := by decide +kernel
theorem dX5_walk_46 : decode cX5_walk 46 = .ok (.getfield 21, 3) := by decide +kernel
theorem dX5_walk_49 : decode cX5_walk 49 = .ok (.iload_n 3, 1) := by decide +kernel
theorem dX5_walk_50 : decode cX5_walk 50 = .ok (.aload_n 0, 1) := by decide +kernel
theorem dX5_walk_51 : decode cX5_walk 51 = .ok (.getfield 21, 3) := by decide +kernel
theorem dX5_walk_54 : decode cX5_walk 54 = .ok (.iload_n 3, 1) := by decide +kernel
theorem dX5_walk_55 : decode cX5_walk 55 = .ok (.iaload, 1) := by decide +kernel
theorem dX5_walk_56 : decode cX5_walk 56 = .ok (.iconst 1, 1) := by decide +kernel
theorem dX5_walk_57 : decode cX5_walk 57 = .ok (.iadd, 1) := by decide +kernel
theorem dX5_walk_58 : decode cX5_walk 58 = .ok (.aload_n 0, 1) := by decide +kernel
theorem dX5_walk_59 : decode cX5_walk 59 = .ok (.iload_n 3, 1) := by decide +kernel
theorem dX5_walk_60 : decode cX5_walk 60 = .ok (.invokevirtual 59, 3) := by decide +kernel
theorem dX5_walk_63 : decode cX5_walk 63 = .ok (.irem, 1) := by decide +kernel
theorem dX5_walk_64 : decode cX5_walk 64 = .ok (.iastore, 1) := by decide +kernel
theorem dX5_walk_65 : decode cX5_walk 65 = .ok (.iinc 2 1, 3) := by decide +kernel
theorem dX5_walk_68 : decode cX5_walk 68 = .ok (.aload_n 0, 1) := by decide +kernel
theorem dX5_walk_69 : decode cX5_walk 69 = .ok (.iload_n 3, 1) := by decide +kernel
theorem dX5_walk_70 : decode cX5_walk 70 = .ok (.aload_n 0, 1) := by decide +kernel
theorem dX5_walk_71 : decode cX5_walk 71 = .ok (.getfield 21, 3) := by decide +kernel
theorem dX5_walk_74 : decode cX5_walk 74 = .ok (.iload_n 3, 1) := by decide +kernel
theorem dX5_walk_75 : decode cX5_walk 75 = .ok (.iaload, 1) := by decide +kernel
theorem dX5_walk_76 : decode cX5_walk 76 = .ok (.invokevirtual 124, 3) := by decide +kernel
theorem dX5_walk_79 : decode cX5_walk 79 = .ok (.istore_n 3, 1) := by decide +kernel
theorem dX5_walk_80 : decode cX5_walk 80 = .ok (.goto (-41), 3) := by decide +kernel
theorem dX5_walk_83 : decode cX5_walk 83 = .ok (.aload_n 0, 1) := by decide +kernel
theorem dX5_walk_84 : decode cX5_walk 84 = .ok (.dup, 1) := by decide +kernel
theorem dX5_walk_85 : decode cX5_walk 85 = .ok (.getfield 128, 3) := by decide +kernel
theorem dX5_walk_88 : decode cX5_walk 88 = .ok (.iload_n 2, 1) := by decide +kernel
theorem dX5_walk_89 : decode cX5_walk 89 = .ok (.iadd, 1) := by decide +kernel
theorem dX5_walk_90 : decode cX5_walk 90 = .ok (.putfield 128, 3) := by decide +kernel
theorem dX5_walk_93 : decode cX5_walk 93 = .ok (.iload_n 2, 1) := by decide +kernel
theorem dX5_walk_94 : decode cX5_walk 94 = .ok (.ireturn, 1) := by decide +kernel
set_option maxRecDepth 20000 in
theorem ggX5_isTree_X5_pointed : GoodIn wsX5_isTree wsX5_pointed := goodIn_r _ [7, 8, 9, 10, 11, 12, 13, 14, 15, 16, 17, 18, 19] (by decide +kernel) (by decide +kernel)
set_option maxRecDepth 20000 in
theorem gX5_isTree_X5_pointed : GoodIn wsX5_isTree (wsV RX5 124 RX5 yX5_pointed wsX5_pointed) := goodIn_app (goodIn_of _ (by decide +kernel)) ggX5_isTree_X5_pointed
theorem dX5_isTree_0 : decode cX5_isTree 0 = .ok (.iconst 0, 1) := by decide +kernel
theorem dX5_isTree_1 : decode cX5_isTree 1 = .ok (.istore_n 1, 1) := by decide +kernel
theorem dX5_isTree_2 : decode cX5_isTree 2 = .ok (.iload_n 1, 1) := by decide +kernel
theorem dX5_isTree_3 : decode cX5_isTree 3 = .ok (.aload_n 0, 1) := by decide +kernel
theorem dX5_isTree_4 : decode cX5_isTree 4 = .ok (.getfield 42, 3) := by decide +kernel
theorem dX5_isTree_7 : decode cX5_isTree 7 = .ok (.if_icmp .ge 56, 3) := by decide +kernel
theorem dX5_isTree_10 : decode cX5_isTree 10 = .ok (.iload_n 1, 1) := by decide +kernel
theorem dX5_isTree_11 : decode cX5_isTree 11 = .ok (.istore_n 2, 1) := by decide +kernel
theorem dX5_isTree_12 : decode cX5_isTree 12 = .ok (.iconst 0, 1) := by decide +kernel
theorem dX5_isTree_13 : decode cX5_isTree 13 = .ok (.istore_n 3, 1) := by decide +kernel
theorem dX5_isTree_14 : decode cX5_isTree 14 = .ok (.iload_n 3, 1) := by decide +kernel
theorem dX5_isTree_15 : decode cX5_isTree 15 = .ok (.bipush 7, 2) := by decide +kernel
theorem dX5_isTree_17 : decode cX5_isTree 17 = .ok (.if_icmp .ge 32, 3) := by decide +kernel
theorem dX5_isTree_20 : decode cX5_isTree 20 = .ok (.iload_n 2, 1) := by decide +kernel
theorem dX5_isTree_21 : decode cX5_isTree 21 = .ok (.bipush 6, 2) := by decide +kernel
theorem dX5_isTree_23 : decode cX5_isTree 23 = .ok (.if_icmp .eq 26, 3) := by decide +kernel
theorem dX5_isTree_26 : decode cX5_isTree 26 = .ok (.iload_n 2, 1) := by decide +kernel
theorem dX5_isTree_27 : decode cX5_isTree 27 = .ok (.iconst (-1), 1) := by decide +kernel
theorem dX5_isTree_28 : decode cX5_isTree 28 = .ok (.if_icmp .eq 21, 3) := by decide +kernel
theorem dX5_isTree_31 : decode cX5_isTree 31 = .ok (.aload_n 0, 1) := by decide +kernel
theorem dX5_isTree_32 : decode cX5_isTree 32 = .ok (.iload_n 2, 1) := by decide +kernel
theorem dX5_isTree_33 : decode cX5_isTree 33 = .ok (.aload_n 0, 1) := by decide +kernel
theorem dX5_isTree_34 : decode cX5_isTree 34 = .ok (.getfield 21, 3) := by decide +kernel
theorem dX5_isTree_37 : decode cX5_isTree 37 = .ok (.iload_n 2, 1) := by decide +kernel
theorem dX5_isTree_38 : decode cX5_isTree 38 = .ok (.iaload, 1) := by decide +kernel
theorem dX5_isTree_39 : decode cX5_isTree 39 = .ok (.invokevirtual 124, 3) := by decide +kernel
theorem dX5_isTree_42 : decode cX5_isTree 42 = .ok (.istore_n 2, 1) := by decide +kernel
theorem dX5_isTree_43 : decode cX5_isTree 43 = .ok (.iinc 3 1, 3) := by decide +kernel
theorem dX5_isTree_46 : decode cX5_isTree 46 = .ok (.goto (-32), 3) := by decide +kernel
theorem dX5_isTree_49 : decode cX5_isTree 49 = .ok (.iload_n 2, 1) := by decide +kernel
theorem dX5_isTree_50 : decode cX5_isTree 50 = .ok (.bipush 6, 2) := by decide +kernel
theorem dX5_isTree_52 : decode cX5_isTree 52 = .ok (.if_icmp .eq 5, 3) := by decide +kernel
theorem dX5_isTree_55 : decode cX5_isTree 55 = .ok (.iconst 0, 1) := by decide +kernel
theorem dX5_isTree_56 : decode cX5_isTree 56 = .ok (.ireturn, 1) := by decide +kernel
theorem dX5_isTree_57 : decode cX5_isTree 57 = .ok (.iinc 1 1, 3) := by decide +kernel
theorem dX5_isTree_60 : decode cX5_isTree 60 = .ok (.goto (-58), 3) := by decide +kernel
theorem dX5_isTree_63 : decode cX5_isTree 63 = .ok (.iconst 1, 1) := by decide +kernel
theorem dX5_isTree_64 : decode cX5_isTree 64 = .ok (.ireturn, 1) := by decide +kernel
set_option maxRecDepth 20000 in
theorem ggX5_pay_X5_isNoNode : GoodIn wsX5_pay wsX5_isNoNode := goodIn_r _ [6, 7, 8, 9, 5, 10, 11, 12, 13, 14, 24, 25, 26, 27, 28, 29, 30, 31, 32, 33, 34] (by decide +kernel) (by decide +kernel)
set_option maxRecDepth 20000 in
theorem gX5_pay_X5_isNoNode : GoodIn wsX5_pay (wsV RX5 56 RX5 yX5_isNoNode wsX5_isNoNode) := goodIn_app (goodIn_of _ (by decide +kernel)) ggX5_pay_X5_isNoNode
set_option maxRecDepth 20000 in
theorem ggX5_pay_X5_start : GoodIn wsX5_pay wsX5_start := goodIn_r _ [18, 19, 20, 21, 22, 5, 23, 24, 25, 26, 27, 28, 29, 30, 31, 32, 33, 34] (by decide +kernel) (by decide +kernel)
set_option maxRecDepth 20000 in
theorem gX5_pay_X5_start : GoodIn wsX5_pay (wsV RX5 53 RX5 yX5_start wsX5_start) := goodIn_app (goodIn_of _ (by decide +kernel)) ggX5_pay_X5_start
set_option maxRecDepth 20000 in
theorem ggX5_pay_X5_isIn : GoodIn wsX5_pay wsX5_isIn := goodIn_r _ [14] (by decide +kernel) (by decide +kernel)
set_option maxRecDepth 20000 in
theorem gX5_pay_X5_isIn : GoodIn wsX5_pay (va_wsS RX5 45 yX5_isIn wsX5_isIn) := goodIn_app (goodIn_of _ (by decide +kernel)) ggX5_pay_X5_isIn
set_option maxRecDepth 20000 in
theorem ggX5_pay_X5_refuse : GoodIn wsX5_pay wsX5_refuse := goodIn_r _ [23, 19, 24, 25, 26, 27, 28, 29, 30, 31, 32, 33, 34] (by decide +kernel) (by decide +kernel)
set_option maxRecDepth 20000 in
theorem gX5_pay_X5_refuse : GoodIn wsX5_pay (wsV RX5 38 RX5 yX5_refuse wsX5_refuse) := goodIn_app (goodIn_of _ (by decide +kernel)) ggX5_pay_X5_refuse
theorem dX5_pay_0 : decode cX5_pay 0 = .ok (.aload_n 0, 1) := by decide +kernel
theorem dX5_pay_1 : decode cX5_pay 1 = .ok (.aload_n 0, 1) := by decide +kernel
theorem dX5_pay_2 : decode cX5_pay 2 = .ok (.iload_n 1, 1) := by decide +kernel
theorem dX5_pay_3 : decode cX5_pay 3 = .ok (.invokevirtual 56, 3) := by decide +kernel
theorem dX5_pay_6 : decode cX5_pay 6 = .ok (.iconst 1, 1) := by decide +kernel
theorem dX5_pay_7 : decode cX5_pay 7 = .ok (.invokevirtual 53, 3) := by decide +kernel
theorem dX5_pay_10 : decode cX5_pay 10 = .ok (.ifCond .ne 27, 3) := by decide +kernel
theorem dX5_pay_13 : decode cX5_pay 13 = .ok (.aload_n 0, 1) := by decide +kernel
theorem dX5_pay_14 : decode cX5_pay 14 = .ok (.iload_n 2, 1) := by decide +kernel
theorem dX5_pay_15 : decode cX5_pay 15 = .ok (.bipush (-9), 2) := by decide +kernel
theorem dX5_pay_17 : decode cX5_pay 17 = .ok (.bipush 9, 2) := by decide +kernel
theorem dX5_pay_19 : decode cX5_pay 19 = .ok (.invokestatic 45, 3) := by decide +kernel
theorem dX5_pay_22 : decode cX5_pay 22 = .ok (.ifCond .ne 7, 3) := by decide +kernel
theorem dX5_pay_25 : decode cX5_pay 25 = .ok (.iconst 1, 1) := by decide +kernel
theorem dX5_pay_26 : decode cX5_pay 26 = .ok (.goto 4, 3) := by decide +kernel
theorem dX5_pay_29 : decode cX5_pay 29 = .ok (.iconst 0, 1) := by decide +kernel
theorem dX5_pay_30 : decode cX5_pay 30 = .ok (.iconst 2, 1) := by decide +kernel
theorem dX5_pay_31 : decode cX5_pay 31 = .ok (.invokevirtual 38, 3) := by decide +kernel
theorem dX5_pay_34 : decode cX5_pay 34 = .ok (.ifCond .eq 5, 3) := by decide +kernel
theorem dX5_pay_37 : decode cX5_pay 37 = .ok (.iconst 0, 1) := by decide +kernel
theorem dX5_pay_38 : decode cX5_pay 38 = .ok (.ireturn, 1) := by decide +kernel
theorem dX5_pay_39 : decode cX5_pay 39 = .ok (.aload_n 0, 1) := by decide +kernel
theorem dX5_pay_40 : decode cX5_pay 40 = .ok (.getfield 24, 3) := by decide +kernel
theorem dX5_pay_43 : decode cX5_pay 43 = .ok (.iload_n 1, 1) := by decide +kernel
theorem dX5_pay_44 : decode cX5_pay 44 = .ok (.dup2, 1) := by decide +kernel
theorem dX5_pay_45 : decode cX5_pay 45 = .ok (.iaload, 1) := by decide +kernel
theorem dX5_pay_46 : decode cX5_pay 46 = .ok (.iload_n 2, 1) := by decide +kernel
theorem dX5_pay_47 : decode cX5_pay 47 = .ok (.iadd, 1) := by decide +kernel
theorem dX5_pay_48 : decode cX5_pay 48 = .ok (.iastore, 1) := by decide +kernel
theorem dX5_pay_49 : decode cX5_pay 49 = .ok (.aload_n 0, 1) := by decide +kernel
theorem dX5_pay_50 : decode cX5_pay 50 = .ok (.getfield 24, 3) := by decide +kernel
theorem dX5_pay_53 : decode cX5_pay 53 = .ok (.iload_n 1, 1) := by decide +kernel
theorem dX5_pay_54 : decode cX5_pay 54 = .ok (.iaload, 1) := by decide +kernel
theorem dX5_pay_55 : decode cX5_pay 55 = .ok (.ireturn, 1) := by decide +kernel
set_option maxRecDepth 20000 in
theorem ggX5_give_X5_degree : GoodIn wsX5_give wsX5_degree := goodIn_r _ [6, 1, 7, 8, 9, 10, 11, 12, 13, 14, 15, 16, 17] (by decide +kernel) (by decide +kernel)
set_option maxRecDepth 20000 in
theorem gX5_give_X5_degree : GoodIn wsX5_give (wsV RX5 59 RX5 yX5_degree wsX5_degree) := goodIn_app (goodIn_of _ (by decide +kernel)) ggX5_give_X5_degree
theorem dX5_give_0 : decode cX5_give 0 = .ok (.aload_n 1, 1) := by decide +kernel
theorem dX5_give_1 : decode cX5_give 1 = .ok (.iload_n 2, 1) := by decide +kernel
theorem dX5_give_2 : decode cX5_give 2 = .ok (.dup2, 1) := by decide +kernel
theorem dX5_give_3 : decode cX5_give 3 = .ok (.iaload, 1) := by decide +kernel
theorem dX5_give_4 : decode cX5_give 4 = .ok (.iload_n 3, 1) := by decide +kernel
theorem dX5_give_5 : decode cX5_give 5 = .ok (.aload_n 0, 1) := by decide +kernel
theorem dX5_give_6 : decode cX5_give 6 = .ok (.iload_n 2, 1) := by decide +kernel
theorem dX5_give_7 : decode cX5_give 7 = .ok (.invokevirtual 59, 3) := by decide +kernel
theorem dX5_give_10 : decode cX5_give 10 = .ok (.imul, 1) := by decide +kernel
theorem dX5_give_11 : decode cX5_give 11 = .ok (.isub, 1) := by decide +kernel
theorem dX5_give_12 : decode cX5_give 12 = .ok (.iastore, 1) := by decide +kernel
theorem dX5_give_13 : decode cX5_give 13 = .ok (.iconst 0, 1) := by decide +kernel
theorem dX5_give_14 : decode cX5_give 14 = .ok (.istore 4, 2) := by decide +kernel
theorem dX5_give_16 : decode cX5_give 16 = .ok (.iload 4, 2) := by decide +kernel
theorem dX5_give_18 : decode cX5_give 18 = .ok (.bipush 7, 2) := by decide +kernel
theorem dX5_give_20 : decode cX5_give 20 = .ok (.if_icmp .ge 27, 3) := by decide +kernel
theorem dX5_give_23 : decode cX5_give 23 = .ok (.aload_n 1, 1) := by decide +kernel
theorem dX5_give_24 : decode cX5_give 24 = .ok (.iload 4, 2) := by decide +kernel
theorem dX5_give_26 : decode cX5_give 26 = .ok (.dup2, 1) := by decide +kernel
theorem dX5_give_27 : decode cX5_give 27 = .ok (.iaload, 1) := by decide +kernel
theorem dX5_give_28 : decode cX5_give 28 = .ok (.iload_n 3, 1) := by decide +kernel
theorem dX5_give_29 : decode cX5_give 29 = .ok (.aload_n 0, 1) := by decide +kernel
theorem dX5_give_30 : decode cX5_give 30 = .ok (.getfield 11, 3) := by decide +kernel
theorem dX5_give_33 : decode cX5_give 33 = .ok (.iload_n 2, 1) := by decide +kernel
theorem dX5_give_34 : decode cX5_give 34 = .ok (.aaload, 1) := by decide +kernel
theorem dX5_give_35 : decode cX5_give 35 = .ok (.iload 4, 2) := by decide +kernel
theorem dX5_give_37 : decode cX5_give 37 = .ok (.iaload, 1) := by decide +kernel
theorem dX5_give_38 : decode cX5_give 38 = .ok (.imul, 1) := by decide +kernel
theorem dX5_give_39 : decode cX5_give 39 = .ok (.iadd, 1) := by decide +kernel
theorem dX5_give_40 : decode cX5_give 40 = .ok (.iastore, 1) := by decide +kernel
theorem dX5_give_41 : decode cX5_give 41 = .ok (.iinc 4 1, 3) := by decide +kernel
theorem dX5_give_44 : decode cX5_give 44 = .ok (.goto (-28), 3) := by decide +kernel
theorem dX5_give_47 : decode cX5_give 47 = .ok (.return_, 1) := by decide +kernel
set_option maxRecDepth 20000 in
theorem ggX5_lend_X5_isNoNode : GoodIn wsX5_lend wsX5_isNoNode := goodIn_r _ [6, 7, 8, 9, 5, 10, 11, 12, 13, 14, 33, 34, 35, 36, 37, 38, 39, 40, 41, 42, 43] (by decide +kernel) (by decide +kernel)
set_option maxRecDepth 20000 in
theorem gX5_lend_X5_isNoNode : GoodIn wsX5_lend (wsV RX5 56 RX5 yX5_isNoNode wsX5_isNoNode) := goodIn_app (goodIn_of _ (by decide +kernel)) ggX5_lend_X5_isNoNode
set_option maxRecDepth 20000 in
theorem ggX5_lend_X5_start : GoodIn wsX5_lend wsX5_start := goodIn_r _ [18, 19, 20, 21, 22, 5, 23, 33, 34, 35, 36, 37, 38, 39, 40, 41, 42, 43] (by decide +kernel) (by decide +kernel)
set_option maxRecDepth 20000 in
theorem gX5_lend_X5_start : GoodIn wsX5_lend (wsV RX5 53 RX5 yX5_start wsX5_start) := goodIn_app (goodIn_of _ (by decide +kernel)) ggX5_lend_X5_start
set_option maxRecDepth 20000 in
theorem ggX5_lend_X5_give : GoodIn wsX5_lend wsX5_give := goodIn_r _ [27, 28, 29, 30, 31, 5, 32, 33, 34, 35, 36, 37, 38, 39, 40, 41, 42, 43] (by decide +kernel) (by decide +kernel)
set_option maxRecDepth 20000 in
theorem gX5_lend_X5_give : GoodIn wsX5_lend (wsV RX5 131 RX5 yX5_give wsX5_give) := goodIn_app (goodIn_of _ (by decide +kernel)) ggX5_lend_X5_give
theorem dX5_lend_0 : decode cX5_lend 0 = .ok (.aload_n 0, 1) := by decide +kernel
theorem dX5_lend_1 : decode cX5_lend 1 = .ok (.aload_n 0, 1) := by decide +kernel
theorem dX5_lend_2 : decode cX5_lend 2 = .ok (.iload_n 1, 1) := by decide +kernel
theorem dX5_lend_3 : decode cX5_lend 3 = .ok (.invokevirtual 56, 3) := by decide +kernel
theorem dX5_lend_6 : decode cX5_lend 6 = .ok (.iconst 1, 1) := by decide +kernel
theorem dX5_lend_7 : decode cX5_lend 7 = .ok (.invokevirtual 53, 3) := by decide +kernel
theorem dX5_lend_10 : decode cX5_lend 10 = .ok (.ifCond .eq 5, 3) := by decide +kernel
theorem dX5_lend_13 : decode cX5_lend 13 = .ok (.iconst 0, 1) := by decide +kernel
theorem dX5_lend_14 : decode cX5_lend 14 = .ok (.ireturn, 1) := by decide +kernel
theorem dX5_lend_15 : decode cX5_lend 15 = .ok (.aload_n 0, 1) := by decide +kernel
theorem dX5_lend_16 : decode cX5_lend 16 = .ok (.aload_n 0, 1) := by decide +kernel
theorem dX5_lend_17 : decode cX5_lend 17 = .ok (.getfield 24, 3) := by decide +kernel
theorem dX5_lend_20 : decode cX5_lend 20 = .ok (.iload_n 1, 1) := by decide +kernel
theorem dX5_lend_21 : decode cX5_lend 21 = .ok (.iload_n 2, 1) := by decide +kernel
theorem dX5_lend_22 : decode cX5_lend 22 = .ok (.ifCond .eq 7, 3) := by decide +kernel
theorem dX5_lend_25 : decode cX5_lend 25 = .ok (.iconst (-1), 1) := by decide +kernel
theorem dX5_lend_26 : decode cX5_lend 26 = .ok (.goto 4, 3) := by decide +kernel
theorem dX5_lend_29 : decode cX5_lend 29 = .ok (.iconst 1, 1) := by decide +kernel
theorem dX5_lend_30 : decode cX5_lend 30 = .ok (.invokevirtual 131, 3) := by decide +kernel
theorem dX5_lend_33 : decode cX5_lend 33 = .ok (.aload_n 0, 1) := by decide +kernel
theorem dX5_lend_34 : decode cX5_lend 34 = .ok (.getfield 24, 3) := by decide +kernel
theorem dX5_lend_37 : decode cX5_lend 37 = .ok (.iload_n 1, 1) := by decide +kernel
theorem dX5_lend_38 : decode cX5_lend 38 = .ok (.iaload, 1) := by decide +kernel
theorem dX5_lend_39 : decode cX5_lend 39 = .ok (.ireturn, 1) := by decide +kernel
set_option maxRecDepth 20000 in
theorem ggX5_isPaid_X5_copy : GoodIn wsX5_isPaid wsX5_copy := goodIn_r _ [7, 8, 9, 10, 11, 12] (by decide +kernel) (by decide +kernel)
set_option maxRecDepth 20000 in
theorem gX5_isPaid_X5_copy : GoodIn wsX5_isPaid (va_wsS RX5 108 yX5_copy wsX5_copy) := goodIn_app (goodIn_of _ (by decide +kernel)) ggX5_isPaid_X5_copy
set_option maxRecDepth 20000 in
theorem ggX5_isPaid_X5_give : GoodIn wsX5_isPaid wsX5_give := goodIn_r _ [16, 3, 17, 18, 19, 6, 20, 21, 22, 23, 24, 25, 26, 27, 28, 29, 30, 31] (by decide +kernel) (by decide +kernel)
set_option maxRecDepth 20000 in
theorem gX5_isPaid_X5_give : GoodIn wsX5_isPaid (wsV RX5 131 RX5 yX5_give wsX5_give) := goodIn_app (goodIn_of _ (by decide +kernel)) ggX5_isPaid_X5_give
theorem dX5_isPaid_0 : decode cX5_isPaid 0 = .ok (.aload_n 1, 1) := by decide +kernel
theorem dX5_isPaid_1 : decode cX5_isPaid 1 = .ok (.invokestatic 108, 3) := by decide +kernel
theorem dX5_isPaid_4 : decode cX5_isPaid 4 = .ok (.astore_n 2, 1) := by decide +kernel
theorem dX5_isPaid_5 : decode cX5_isPaid 5 = .ok (.iconst 0, 1) := by decide +kernel
theorem dX5_isPaid_6 : decode cX5_isPaid 6 = .ok (.istore_n 3, 1) := by decide +kernel
theorem dX5_isPaid_7 : decode cX5_isPaid 7 = .ok (.iload_n 3, 1) := by decide +kernel
theorem dX5_isPaid_8 : decode cX5_isPaid 8 = .ok (.aload_n 0, 1) := by decide +kernel
theorem dX5_isPaid_9 : decode cX5_isPaid 9 = .ok (.getfield 42, 3) := by decide +kernel
theorem dX5_isPaid_12 : decode cX5_isPaid 12 = .ok (.if_icmp .ge 24, 3) := by decide +kernel
theorem dX5_isPaid_15 : decode cX5_isPaid 15 = .ok (.aload_n 2, 1) := by decide +kernel
theorem dX5_isPaid_16 : decode cX5_isPaid 16 = .ok (.iload_n 3, 1) := by decide +kernel
theorem dX5_isPaid_17 : decode cX5_isPaid 17 = .ok (.iaload, 1) := by decide +kernel
theorem dX5_isPaid_18 : decode cX5_isPaid 18 = .ok (.ifCond .ge 12, 3) := by decide +kernel
theorem dX5_isPaid_21 : decode cX5_isPaid 21 = .ok (.aload_n 0, 1) := by decide +kernel
theorem dX5_isPaid_22 : decode cX5_isPaid 22 = .ok (.aload_n 2, 1) := by decide +kernel
theorem dX5_isPaid_23 : decode cX5_isPaid 23 = .ok (.iload_n 3, 1) := by decide +kernel
theorem dX5_isPaid_24 : decode cX5_isPaid 24 = .ok (.iconst (-1), 1) := by decide +kernel
theorem dX5_isPaid_25 : decode cX5_isPaid 25 = .ok (.invokevirtual 131, 3) := by decide +kernel
theorem dX5_isPaid_28 : decode cX5_isPaid 28 = .ok (.iconst (-1), 1) := by decide +kernel
theorem dX5_isPaid_29 : decode cX5_isPaid 29 = .ok (.istore_n 3, 1) := by decide +kernel
theorem dX5_isPaid_30 : decode cX5_isPaid 30 = .ok (.iinc 3 1, 3) := by decide +kernel
theorem dX5_isPaid_33 : decode cX5_isPaid 33 = .ok (.goto (-26), 3) := by decide +kernel
theorem dX5_isPaid_36 : decode cX5_isPaid 36 = .ok (.bipush 7, 2) := by decide +kernel
theorem dX5_isPaid_38 : decode cX5_isPaid 38 = .ok (.newarray .boolean, 2) := by decide +kernel
theorem dX5_isPaid_40 : decode cX5_isPaid 40 = .ok (.astore_n 3, 1) := by decide +kernel
theorem dX5_isPaid_41 : decode cX5_isPaid 41 = .ok (.aload_n 3, 1) := by decide +kernel
theorem dX5_isPaid_42 : decode cX5_isPaid 42 = .ok (.bipush 6, 2) := by decide +kernel
theorem dX5_isPaid_44 : decode cX5_isPaid 44 = .ok (.iconst 1, 1) := by decide +kernel
theorem dX5_isPaid_45 : decode cX5_isPaid 45 = .ok (.bastore, 1) := by decide +kernel
theorem dX5_isPaid_46 : decode cX5_isPaid 46 = .ok (.iconst 1, 1) := by decide +kernel
theorem dX5_isPaid_47 : decode cX5_isPaid 47 = .ok (.istore 4, 2) := by decide +kernel
theorem dX5_isPaid_49 : decode cX5_isPaid 49 = .ok (.iconst 0, 1) := by decide +kernel
theorem dX5_isPaid_50 : decode cX5_isPaid 50 = .ok (.istore 5, 2) := by decide +kernel
theorem dX5_isPaid_52 : decode cX5_isPaid 52 = .ok (.iload 4, 2) := by decide +kernel
theorem dX5_isPaid_54 : decode cX5_isPaid 54 = .ok (.ifCond .eq 102, 3) := by decide +kernel
theorem dX5_isPaid_57 : decode cX5_isPaid 57 = .ok (.iconst 0, 1) := by decide +kernel
theorem dX5_isPaid_58 : decode cX5_isPaid 58 = .ok (.istore 4, 2) := by decide +kernel
theorem dX5_isPaid_60 : decode cX5_isPaid 60 = .ok (.iconst 0, 1) := by decide +kernel
theorem dX5_isPaid_61 : decode cX5_isPaid 61 = .ok (.istore 6, 2) := by decide +kernel
theorem dX5_isPaid_63 : decode cX5_isPaid 63 = .ok (.iload 6, 2) := by decide +kernel
theorem dX5_isPaid_65 : decode cX5_isPaid 65 = .ok (.aload_n 0, 1) := by decide +kernel
theorem dX5_isPaid_66 : decode cX5_isPaid 66 = .ok (.getfield 42, 3) := by decide +kernel
theorem dX5_isPaid_69 : decode cX5_isPaid 69 = .ok (.if_icmp .ge 84, 3) := by decide +kernel
theorem dX5_isPaid_72 : decode cX5_isPaid 72 = .ok (.iconst 0, 1) := by decide +kernel
theorem dX5_isPaid_73 : decode cX5_isPaid 73 = .ok (.istore 7, 2) := by decide +kernel
theorem dX5_isPaid_75 : decode cX5_isPaid 75 = .ok (.iconst 0, 1) := by decide +kernel
theorem dX5_isPaid_76 : decode cX5_isPaid 76 = .ok (.istore 8, 2) := by decide +kernel
theorem dX5_isPaid_78 : decode cX5_isPaid 78 = .ok (.iload 8, 2) := by decide +kernel
theorem dX5_isPaid_80 : decode cX5_isPaid 80 = .ok (.bipush 7, 2) := by decide +kernel
theorem dX5_isPaid_82 : decode cX5_isPaid 82 = .ok (.if_icmp .ge 35, 3) := by decide +kernel
theorem dX5_isPaid_85 : decode cX5_isPaid 85 = .ok (.iload 7, 2) := by decide +kernel
theorem dX5_isPaid_87 : decode cX5_isPaid 87 = .ok (.aload_n 3, 1) := by decide +kernel
theorem dX5_isPaid_88 : decode cX5_isPaid 88 = .ok (.iload 8, 2) := by decide +kernel
theorem dX5_isPaid_90 : decode cX5_isPaid 90 = .ok (.baload, 1) := by decide +kernel
theorem dX5_isPaid_91 : decode cX5_isPaid 91 = .ok (.ifCond .eq 16, 3) := by decide +kernel
theorem dX5_isPaid_94 : decode cX5_isPaid 94 = .ok (.aload_n 0, 1) := by decide +kernel
theorem dX5_isPaid_95 : decode cX5_isPaid 95 = .ok (.getfield 11, 3) := by decide +kernel
theorem dX5_isPaid_98 : decode cX5_isPaid 98 = .ok (.iload 6, 2) := by decide +kernel
theorem dX5_isPaid_100 : decode cX5_isPaid 100 = .ok (.aaload, 1) := by decide +kernel
theorem dX5_isPaid_101 : decode cX5_isPaid 101 = .ok (.iload 8, 2) := by decide +kernel
theorem dX5_isPaid_103 : decode cX5_isPaid 103 = .ok (.iaload, 1) := by decide +kernel
theorem dX5_isPaid_104 : decode cX5_isPaid 104 = .ok (.goto 4, 3) := by decide +kernel
theorem dX5_isPaid_107 : decode cX5_isPaid 107 = .ok (.iconst 0, 1) := by decide +kernel
theorem dX5_isPaid_108 : decode cX5_isPaid 108 = .ok (.iadd, 1) := by decide +kernel
theorem dX5_isPaid_109 : decode cX5_isPaid 109 = .ok (.istore 7, 2) := by decide +kernel
theorem dX5_isPaid_111 : decode cX5_isPaid 111 = .ok (.iinc 8 1, 3) := by decide +kernel
theorem dX5_isPaid_114 : decode cX5_isPaid 114 = .ok (.goto (-36), 3) := by decide +kernel
theorem dX5_isPaid_117 : decode cX5_isPaid 117 = .ok (.aload_n 3, 1) := by decide +kernel
theorem dX5_isPaid_118 : decode cX5_isPaid 118 = .ok (.iload 6, 2) := by decide +kernel
theorem dX5_isPaid_120 : decode cX5_isPaid 120 = .ok (.baload, 1) := by decide +kernel
theorem dX5_isPaid_121 : decode cX5_isPaid 121 = .ok (.ifCond .ne 26, 3) := by decide +kernel
theorem dX5_isPaid_124 : decode cX5_isPaid 124 = .ok (.iload 7, 2) := by decide +kernel
theorem dX5_isPaid_126 : decode cX5_isPaid 126 = .ok (.aload_n 2, 1) := by decide +kernel
theorem dX5_isPaid_127 : decode cX5_isPaid 127 = .ok (.iload 6, 2) := by decide +kernel
theorem dX5_isPaid_129 : decode cX5_isPaid 129 = .ok (.iaload, 1) := by decide +kernel
theorem dX5_isPaid_130 : decode cX5_isPaid 130 = .ok (.if_icmp .gt 6, 3) := by decide +kernel
theorem dX5_isPaid_133 : decode cX5_isPaid 133 = .ok (.goto 14, 3) := by decide +kernel
theorem dX5_isPaid_136 : decode cX5_isPaid 136 = .ok (.aload_n 3, 1) := by decide +kernel
theorem dX5_isPaid_137 : decode cX5_isPaid 137 = .ok (.iload 6, 2) := by decide +kernel
theorem dX5_isPaid_139 : decode cX5_isPaid 139 = .ok (.iconst 1, 1) := by decide +kernel
theorem dX5_isPaid_140 : decode cX5_isPaid 140 = .ok (.bastore, 1) := by decide +kernel
theorem dX5_isPaid_141 : decode cX5_isPaid 141 = .ok (.iconst 1, 1) := by decide +kernel
theorem dX5_isPaid_142 : decode cX5_isPaid 142 = .ok (.istore 4, 2) := by decide +kernel
theorem dX5_isPaid_144 : decode cX5_isPaid 144 = .ok (.iinc 5 1, 3) := by decide +kernel
theorem dX5_isPaid_147 : decode cX5_isPaid 147 = .ok (.iinc 6 1, 3) := by decide +kernel
theorem dX5_isPaid_150 : decode cX5_isPaid 150 = .ok (.goto (-87), 3) := by decide +kernel
theorem dX5_isPaid_153 : decode cX5_isPaid 153 = .ok (.goto (-101), 3) := by decide +kernel
theorem dX5_isPaid_156 : decode cX5_isPaid 156 = .ok (.iload 5, 2) := by decide +kernel
theorem dX5_isPaid_158 : decode cX5_isPaid 158 = .ok (.aload_n 0, 1) := by decide +kernel
theorem dX5_isPaid_159 : decode cX5_isPaid 159 = .ok (.getfield 42, 3) := by decide +kernel
theorem dX5_isPaid_162 : decode cX5_isPaid 162 = .ok (.if_icmp .ne 16, 3) := by decide +kernel
theorem dX5_isPaid_165 : decode cX5_isPaid 165 = .ok (.aload_n 2, 1) := by decide +kernel
theorem dX5_isPaid_166 : decode cX5_isPaid 166 = .ok (.bipush 6, 2) := by decide +kernel
theorem dX5_isPaid_168 : decode cX5_isPaid 168 = .ok (.iaload, 1) := by decide +kernel
theorem dX5_isPaid_169 : decode cX5_isPaid 169 = .ok (.ifCond .lt 7, 3) := by decide +kernel
theorem dX5_isPaid_172 : decode cX5_isPaid 172 = .ok (.iconst 1, 1) := by decide +kernel
theorem dX5_isPaid_173 : decode cX5_isPaid 173 = .ok (.goto 4, 3) := by decide +kernel
theorem dX5_isPaid_176 : decode cX5_isPaid 176 = .ok (.iconst 0, 1) := by decide +kernel
theorem dX5_isPaid_177 : decode cX5_isPaid 177 = .ok (.ireturn, 1) := by decide +kernel
theorem dX5_isPaid_178 : decode cX5_isPaid 178 = .ok (.iconst 0, 1) := by decide +kernel
theorem dX5_isPaid_179 : decode cX5_isPaid 179 = .ok (.istore 6, 2) := by decide +kernel
theorem dX5_isPaid_181 : decode cX5_isPaid 181 = .ok (.iload 6, 2) := by decide +kernel
theorem dX5_isPaid_183 : decode cX5_isPaid 183 = .ok (.aload_n 0, 1) := by decide +kernel
theorem dX5_isPaid_184 : decode cX5_isPaid 184 = .ok (.getfield 42, 3) := by decide +kernel
theorem dX5_isPaid_187 : decode cX5_isPaid 187 = .ok (.if_icmp .ge 24, 3) := by decide +kernel
theorem dX5_isPaid_190 : decode cX5_isPaid 190 = .ok (.aload_n 3, 1) := by decide +kernel
theorem dX5_isPaid_191 : decode cX5_isPaid 191 = .ok (.iload 6, 2) := by decide +kernel
theorem dX5_isPaid_193 : decode cX5_isPaid 193 = .ok (.baload, 1) := by decide +kernel
theorem dX5_isPaid_194 : decode cX5_isPaid 194 = .ok (.ifCond .ne 11, 3) := by decide +kernel
theorem dX5_isPaid_197 : decode cX5_isPaid 197 = .ok (.aload_n 0, 1) := by decide +kernel
theorem dX5_isPaid_198 : decode cX5_isPaid 198 = .ok (.aload_n 2, 1) := by decide +kernel
theorem dX5_isPaid_199 : decode cX5_isPaid 199 = .ok (.iload 6, 2) := by decide +kernel
theorem dX5_isPaid_201 : decode cX5_isPaid 201 = .ok (.iconst 1, 1) := by decide +kernel
theorem dX5_isPaid_202 : decode cX5_isPaid 202 = .ok (.invokevirtual 131, 3) := by decide +kernel
theorem dX5_isPaid_205 : decode cX5_isPaid 205 = .ok (.iinc 6 1, 3) := by decide +kernel
theorem dX5_isPaid_208 : decode cX5_isPaid 208 = .ok (.goto (-27), 3) := by decide +kernel
theorem dX5_isPaid_211 : decode cX5_isPaid 211 = .ok (.goto (-175), 3) := by decide +kernel
set_option maxRecDepth 20000 in
theorem ggX5_toldOfSpot_X5_degree : GoodIn wsX5_toldOfSpot wsX5_degree := goodIn_r _ [10, 3, 22, 23, 24, 25, 26, 27, 28, 29, 30, 31, 32] (by decide +kernel) (by decide +kernel)
set_option maxRecDepth 20000 in
theorem gX5_toldOfSpot_X5_degree : GoodIn wsX5_toldOfSpot (wsV RX5 59 RX5 yX5_degree wsX5_degree) := goodIn_app (goodIn_of _ (by decide +kernel)) ggX5_toldOfSpot_X5_degree
set_option maxRecDepth 20000 in
theorem ggX5_toldOfSpot_X5_isSteep : GoodIn wsX5_toldOfSpot wsX5_isSteep := goodIn_r _ [14, 6, 7, 8, 9, 10, 3, 22, 23, 24, 25, 26, 27, 28, 29, 30, 31, 32] (by decide +kernel) (by decide +kernel)
set_option maxRecDepth 20000 in
theorem gX5_toldOfSpot_X5_isSteep : GoodIn wsX5_toldOfSpot (wsV RX5 63 RX5 yX5_isSteep wsX5_isSteep) := goodIn_app (goodIn_of _ (by decide +kernel)) ggX5_toldOfSpot_X5_isSteep
set_option maxRecDepth 20000 in
theorem ggX5_toldOfSpot_X5_one : GoodIn wsX5_toldOfSpot wsX5_one := goodIn_r _ [17] (by decide +kernel) (by decide +kernel)
set_option maxRecDepth 20000 in
theorem gX5_toldOfSpot_X5_one : GoodIn wsX5_toldOfSpot (va_wsS RX5 135 yX5_one wsX5_one) := goodIn_app (goodIn_of _ (by decide +kernel)) ggX5_toldOfSpot_X5_one
set_option maxRecDepth 20000 in
theorem ggX5_toldOfSpot_X5_pointed : GoodIn wsX5_toldOfSpot wsX5_pointed := goodIn_r _ [21, 3, 22, 23, 24, 25, 26, 27, 28, 29, 30, 31, 32] (by decide +kernel) (by decide +kernel)
set_option maxRecDepth 20000 in
theorem gX5_toldOfSpot_X5_pointed : GoodIn wsX5_toldOfSpot (wsV RX5 124 RX5 yX5_pointed wsX5_pointed) := goodIn_app (goodIn_of _ (by decide +kernel)) ggX5_toldOfSpot_X5_pointed
theorem dX5_toldOfSpot_0 : decode cX5_toldOfSpot 0 = .ok (.bipush 7, 2) := by decide +kernel
theorem dX5_toldOfSpot_2 : decode cX5_toldOfSpot 2 = .ok (.newarray .int, 2) := by decide +kernel
theorem dX5_toldOfSpot_4 : decode cX5_toldOfSpot 4 = .ok (.dup, 1) := by decide +kernel
theorem dX5_toldOfSpot_5 : decode cX5_toldOfSpot 5 = .ok (.iconst 0, 1) := by decide +kernel
theorem dX5_toldOfSpot_6 : decode cX5_toldOfSpot 6 = .ok (.aload_n 0, 1) := by decide +kernel
theorem dX5_toldOfSpot_7 : decode cX5_toldOfSpot 7 = .ok (.getfield 14, 3) := by decide +kernel
theorem dX5_toldOfSpot_10 : decode cX5_toldOfSpot 10 = .ok (.iload_n 1, 1) := by decide +kernel
theorem dX5_toldOfSpot_11 : decode cX5_toldOfSpot 11 = .ok (.iaload, 1) := by decide +kernel
theorem dX5_toldOfSpot_12 : decode cX5_toldOfSpot 12 = .ok (.iastore, 1) := by decide +kernel
theorem dX5_toldOfSpot_13 : decode cX5_toldOfSpot 13 = .ok (.dup, 1) := by decide +kernel
theorem dX5_toldOfSpot_14 : decode cX5_toldOfSpot 14 = .ok (.iconst 1, 1) := by decide +kernel
theorem dX5_toldOfSpot_15 : decode cX5_toldOfSpot 15 = .ok (.aload_n 0, 1) := by decide +kernel
theorem dX5_toldOfSpot_16 : decode cX5_toldOfSpot 16 = .ok (.iload_n 1, 1) := by decide +kernel
theorem dX5_toldOfSpot_17 : decode cX5_toldOfSpot 17 = .ok (.invokevirtual 59, 3) := by decide +kernel
theorem dX5_toldOfSpot_20 : decode cX5_toldOfSpot 20 = .ok (.iastore, 1) := by decide +kernel
theorem dX5_toldOfSpot_21 : decode cX5_toldOfSpot 21 = .ok (.dup, 1) := by decide +kernel
theorem dX5_toldOfSpot_22 : decode cX5_toldOfSpot 22 = .ok (.iconst 2, 1) := by decide +kernel
theorem dX5_toldOfSpot_23 : decode cX5_toldOfSpot 23 = .ok (.aload_n 0, 1) := by decide +kernel
theorem dX5_toldOfSpot_24 : decode cX5_toldOfSpot 24 = .ok (.getfield 11, 3) := by decide +kernel
theorem dX5_toldOfSpot_27 : decode cX5_toldOfSpot 27 = .ok (.iload_n 1, 1) := by decide +kernel
theorem dX5_toldOfSpot_28 : decode cX5_toldOfSpot 28 = .ok (.aaload, 1) := by decide +kernel
theorem dX5_toldOfSpot_29 : decode cX5_toldOfSpot 29 = .ok (.bipush 6, 2) := by decide +kernel
theorem dX5_toldOfSpot_31 : decode cX5_toldOfSpot 31 = .ok (.iaload, 1) := by decide +kernel
theorem dX5_toldOfSpot_32 : decode cX5_toldOfSpot 32 = .ok (.iastore, 1) := by decide +kernel
theorem dX5_toldOfSpot_33 : decode cX5_toldOfSpot 33 = .ok (.dup, 1) := by decide +kernel
theorem dX5_toldOfSpot_34 : decode cX5_toldOfSpot 34 = .ok (.iconst 3, 1) := by decide +kernel
theorem dX5_toldOfSpot_35 : decode cX5_toldOfSpot 35 = .ok (.aload_n 0, 1) := by decide +kernel
theorem dX5_toldOfSpot_36 : decode cX5_toldOfSpot 36 = .ok (.getfield 18, 3) := by decide +kernel
theorem dX5_toldOfSpot_39 : decode cX5_toldOfSpot 39 = .ok (.iload_n 1, 1) := by decide +kernel
theorem dX5_toldOfSpot_40 : decode cX5_toldOfSpot 40 = .ok (.iaload, 1) := by decide +kernel
theorem dX5_toldOfSpot_41 : decode cX5_toldOfSpot 41 = .ok (.iastore, 1) := by decide +kernel
theorem dX5_toldOfSpot_42 : decode cX5_toldOfSpot 42 = .ok (.dup, 1) := by decide +kernel
theorem dX5_toldOfSpot_43 : decode cX5_toldOfSpot 43 = .ok (.iconst 4, 1) := by decide +kernel
theorem dX5_toldOfSpot_44 : decode cX5_toldOfSpot 44 = .ok (.aload_n 0, 1) := by decide +kernel
theorem dX5_toldOfSpot_45 : decode cX5_toldOfSpot 45 = .ok (.aload_n 0, 1) := by decide +kernel
theorem dX5_toldOfSpot_46 : decode cX5_toldOfSpot 46 = .ok (.getfield 14, 3) := by decide +kernel
theorem dX5_toldOfSpot_49 : decode cX5_toldOfSpot 49 = .ok (.iload_n 1, 1) := by decide +kernel
theorem dX5_toldOfSpot_50 : decode cX5_toldOfSpot 50 = .ok (.invokevirtual 63, 3) := by decide +kernel
theorem dX5_toldOfSpot_53 : decode cX5_toldOfSpot 53 = .ok (.invokestatic 135, 3) := by decide +kernel
theorem dX5_toldOfSpot_56 : decode cX5_toldOfSpot 56 = .ok (.iastore, 1) := by decide +kernel
theorem dX5_toldOfSpot_57 : decode cX5_toldOfSpot 57 = .ok (.dup, 1) := by decide +kernel
theorem dX5_toldOfSpot_58 : decode cX5_toldOfSpot 58 = .ok (.iconst 5, 1) := by decide +kernel
theorem dX5_toldOfSpot_59 : decode cX5_toldOfSpot 59 = .ok (.aload_n 0, 1) := by decide +kernel
theorem dX5_toldOfSpot_60 : decode cX5_toldOfSpot 60 = .ok (.getfield 21, 3) := by decide +kernel
theorem dX5_toldOfSpot_63 : decode cX5_toldOfSpot 63 = .ok (.iload_n 1, 1) := by decide +kernel
theorem dX5_toldOfSpot_64 : decode cX5_toldOfSpot 64 = .ok (.iaload, 1) := by decide +kernel
theorem dX5_toldOfSpot_65 : decode cX5_toldOfSpot 65 = .ok (.iastore, 1) := by decide +kernel
theorem dX5_toldOfSpot_66 : decode cX5_toldOfSpot 66 = .ok (.dup, 1) := by decide +kernel
theorem dX5_toldOfSpot_67 : decode cX5_toldOfSpot 67 = .ok (.bipush 6, 2) := by decide +kernel
theorem dX5_toldOfSpot_69 : decode cX5_toldOfSpot 69 = .ok (.aload_n 0, 1) := by decide +kernel
theorem dX5_toldOfSpot_70 : decode cX5_toldOfSpot 70 = .ok (.iload_n 1, 1) := by decide +kernel
theorem dX5_toldOfSpot_71 : decode cX5_toldOfSpot 71 = .ok (.aload_n 0, 1) := by decide +kernel
theorem dX5_toldOfSpot_72 : decode cX5_toldOfSpot 72 = .ok (.getfield 21, 3) := by decide +kernel
theorem dX5_toldOfSpot_75 : decode cX5_toldOfSpot 75 = .ok (.iload_n 1, 1) := by decide +kernel
theorem dX5_toldOfSpot_76 : decode cX5_toldOfSpot 76 = .ok (.iaload, 1) := by decide +kernel
theorem dX5_toldOfSpot_77 : decode cX5_toldOfSpot 77 = .ok (.invokevirtual 124, 3) := by decide +kernel
theorem dX5_toldOfSpot_80 : decode cX5_toldOfSpot 80 = .ok (.iastore, 1) := by decide +kernel
theorem dX5_toldOfSpot_81 : decode cX5_toldOfSpot 81 = .ok (.astore_n 3, 1) := by decide +kernel
theorem dX5_toldOfSpot_82 : decode cX5_toldOfSpot 82 = .ok (.aload_n 3, 1) := by decide +kernel
theorem dX5_toldOfSpot_83 : decode cX5_toldOfSpot 83 = .ok (.iload_n 2, 1) := by decide +kernel
theorem dX5_toldOfSpot_84 : decode cX5_toldOfSpot 84 = .ok (.iaload, 1) := by decide +kernel
theorem dX5_toldOfSpot_85 : decode cX5_toldOfSpot 85 = .ok (.ireturn, 1) := by decide +kernel
set_option maxRecDepth 20000 in
theorem ggX5_ofSpot_X5_isNoSpot : GoodIn wsX5_ofSpot wsX5_isNoSpot := goodIn_r _ [5, 6, 7, 8, 4, 9, 43, 44, 45, 46, 47, 48, 49, 50, 51, 52, 53] (by decide +kernel) (by decide +kernel)
set_option maxRecDepth 20000 in
theorem gX5_ofSpot_X5_isNoSpot : GoodIn wsX5_ofSpot (wsV RX5 49 RX5 yX5_isNoSpot wsX5_isNoSpot) := goodIn_app (goodIn_of _ (by decide +kernel)) ggX5_ofSpot_X5_isNoSpot
set_option maxRecDepth 20000 in
theorem ggX5_ofSpot_X5_start : GoodIn wsX5_ofSpot wsX5_start := goodIn_r _ [13, 14, 15, 16, 17, 4, 18, 43, 44, 45, 46, 47, 48, 49, 50, 51, 52, 53] (by decide +kernel) (by decide +kernel)
set_option maxRecDepth 20000 in
theorem gX5_ofSpot_X5_start : GoodIn wsX5_ofSpot (wsV RX5 53 RX5 yX5_start wsX5_start) := goodIn_app (goodIn_of _ (by decide +kernel)) ggX5_ofSpot_X5_start
set_option maxRecDepth 20000 in
theorem ggX5_ofSpot_X5_isIn : GoodIn wsX5_ofSpot wsX5_isIn := goodIn_r _ [9] (by decide +kernel) (by decide +kernel)
set_option maxRecDepth 20000 in
theorem gX5_ofSpot_X5_isIn : GoodIn wsX5_ofSpot (va_wsS RX5 45 yX5_isIn wsX5_isIn) := goodIn_app (goodIn_of _ (by decide +kernel)) ggX5_ofSpot_X5_isIn
set_option maxRecDepth 20000 in
theorem ggX5_ofSpot_X5_refuse : GoodIn wsX5_ofSpot wsX5_refuse := goodIn_r _ [18, 14, 43, 44, 45, 46, 47, 48, 49, 50, 51, 52, 53] (by decide +kernel) (by decide +kernel)
set_option maxRecDepth 20000 in
theorem gX5_ofSpot_X5_refuse : GoodIn wsX5_ofSpot (wsV RX5 38 RX5 yX5_refuse wsX5_refuse) := goodIn_app (goodIn_of _ (by decide +kernel)) ggX5_ofSpot_X5_refuse
set_option maxRecDepth 20000 in
theorem ggX5_ofSpot_X5_toldOfSpot : GoodIn wsX5_ofSpot wsX5_toldOfSpot := goodIn_r _ [22, 23, 24, 25, 26, 27, 28, 29, 30, 4, 31, 32, 33, 34, 35, 36, 37, 38, 39, 40, 41, 42, 43, 44, 45, 46, 47, 48, 49, 50, 51, 52, 53] (by decide +kernel) (by decide +kernel)
set_option maxRecDepth 20000 in
theorem gX5_ofSpot_X5_toldOfSpot : GoodIn wsX5_ofSpot (wsV RX5 139 RX5 yX5_toldOfSpot wsX5_toldOfSpot) := goodIn_app (goodIn_of _ (by decide +kernel)) ggX5_ofSpot_X5_toldOfSpot
theorem dX5_ofSpot_0 : decode cX5_ofSpot 0 = .ok (.aload_n 0, 1) := by decide +kernel
theorem dX5_ofSpot_1 : decode cX5_ofSpot 1 = .ok (.aload_n 0, 1) := by decide +kernel
theorem dX5_ofSpot_2 : decode cX5_ofSpot 2 = .ok (.iload_n 1, 1) := by decide +kernel
theorem dX5_ofSpot_3 : decode cX5_ofSpot 3 = .ok (.invokevirtual 49, 3) := by decide +kernel
theorem dX5_ofSpot_6 : decode cX5_ofSpot 6 = .ok (.iconst 1, 1) := by decide +kernel
theorem dX5_ofSpot_7 : decode cX5_ofSpot 7 = .ok (.invokevirtual 53, 3) := by decide +kernel
theorem dX5_ofSpot_10 : decode cX5_ofSpot 10 = .ok (.ifCond .ne 26, 3) := by decide +kernel
theorem dX5_ofSpot_13 : decode cX5_ofSpot 13 = .ok (.aload_n 0, 1) := by decide +kernel
theorem dX5_ofSpot_14 : decode cX5_ofSpot 14 = .ok (.iload_n 2, 1) := by decide +kernel
theorem dX5_ofSpot_15 : decode cX5_ofSpot 15 = .ok (.iconst 0, 1) := by decide +kernel
theorem dX5_ofSpot_16 : decode cX5_ofSpot 16 = .ok (.bipush 6, 2) := by decide +kernel
theorem dX5_ofSpot_18 : decode cX5_ofSpot 18 = .ok (.invokestatic 45, 3) := by decide +kernel
theorem dX5_ofSpot_21 : decode cX5_ofSpot 21 = .ok (.ifCond .ne 7, 3) := by decide +kernel
theorem dX5_ofSpot_24 : decode cX5_ofSpot 24 = .ok (.iconst 1, 1) := by decide +kernel
theorem dX5_ofSpot_25 : decode cX5_ofSpot 25 = .ok (.goto 4, 3) := by decide +kernel
theorem dX5_ofSpot_28 : decode cX5_ofSpot 28 = .ok (.iconst 0, 1) := by decide +kernel
theorem dX5_ofSpot_29 : decode cX5_ofSpot 29 = .ok (.iconst 2, 1) := by decide +kernel
theorem dX5_ofSpot_30 : decode cX5_ofSpot 30 = .ok (.invokevirtual 38, 3) := by decide +kernel
theorem dX5_ofSpot_33 : decode cX5_ofSpot 33 = .ok (.ifCond .eq 7, 3) := by decide +kernel
theorem dX5_ofSpot_36 : decode cX5_ofSpot 36 = .ok (.iconst 0, 1) := by decide +kernel
theorem dX5_ofSpot_37 : decode cX5_ofSpot 37 = .ok (.goto 9, 3) := by decide +kernel
theorem dX5_ofSpot_40 : decode cX5_ofSpot 40 = .ok (.aload_n 0, 1) := by decide +kernel
theorem dX5_ofSpot_41 : decode cX5_ofSpot 41 = .ok (.iload_n 1, 1) := by decide +kernel
theorem dX5_ofSpot_42 : decode cX5_ofSpot 42 = .ok (.iload_n 2, 1) := by decide +kernel
theorem dX5_ofSpot_43 : decode cX5_ofSpot 43 = .ok (.invokevirtual 139, 3) := by decide +kernel
theorem dX5_ofSpot_46 : decode cX5_ofSpot 46 = .ok (.ireturn, 1) := by decide +kernel
set_option maxRecDepth 20000 in
theorem ggX5_between_X5_isNoNode : GoodIn wsX5_between wsX5_isNoNode := goodIn_r _ [6, 7, 8, 9, 5, 10, 11, 12, 13, 14, 24, 25, 26, 27, 28, 29, 30, 31, 32, 33, 34] (by decide +kernel) (by decide +kernel)
set_option maxRecDepth 20000 in
theorem gX5_between_X5_isNoNode : GoodIn wsX5_between (wsV RX5 56 RX5 yX5_isNoNode wsX5_isNoNode) := goodIn_app (goodIn_of _ (by decide +kernel)) ggX5_between_X5_isNoNode
set_option maxRecDepth 20000 in
theorem ggX5_between_X5_start : GoodIn wsX5_between wsX5_start := goodIn_r _ [18, 19, 20, 21, 22, 5, 23, 24, 25, 26, 27, 28, 29, 30, 31, 32, 33, 34] (by decide +kernel) (by decide +kernel)
set_option maxRecDepth 20000 in
theorem gX5_between_X5_start : GoodIn wsX5_between (wsV RX5 53 RX5 yX5_start wsX5_start) := goodIn_app (goodIn_of _ (by decide +kernel)) ggX5_between_X5_start
theorem dX5_between_0 : decode cX5_between 0 = .ok (.aload_n 0, 1) := by decide +kernel
theorem dX5_between_1 : decode cX5_between 1 = .ok (.aload_n 0, 1) := by decide +kernel
theorem dX5_between_2 : decode cX5_between 2 = .ok (.iload_n 1, 1) := by decide +kernel
theorem dX5_between_3 : decode cX5_between 3 = .ok (.invokevirtual 56, 3) := by decide +kernel
theorem dX5_between_6 : decode cX5_between 6 = .ok (.ifCond .ne 11, 3) := by decide +kernel
theorem dX5_between_9 : decode cX5_between 9 = .ok (.aload_n 0, 1) := by decide +kernel
theorem dX5_between_10 : decode cX5_between 10 = .ok (.iload_n 2, 1) := by decide +kernel
theorem dX5_between_11 : decode cX5_between 11 = .ok (.invokevirtual 56, 3) := by decide +kernel
theorem dX5_between_14 : decode cX5_between 14 = .ok (.ifCond .eq 7, 3) := by decide +kernel
theorem dX5_between_17 : decode cX5_between 17 = .ok (.iconst 1, 1) := by decide +kernel
theorem dX5_between_18 : decode cX5_between 18 = .ok (.goto 4, 3) := by decide +kernel
theorem dX5_between_21 : decode cX5_between 21 = .ok (.iconst 0, 1) := by decide +kernel
theorem dX5_between_22 : decode cX5_between 22 = .ok (.iconst 1, 1) := by decide +kernel
theorem dX5_between_23 : decode cX5_between 23 = .ok (.invokevirtual 53, 3) := by decide +kernel
theorem dX5_between_26 : decode cX5_between 26 = .ok (.ifCond .eq 7, 3) := by decide +kernel
theorem dX5_between_29 : decode cX5_between 29 = .ok (.iconst 0, 1) := by decide +kernel
theorem dX5_between_30 : decode cX5_between 30 = .ok (.goto 11, 3) := by decide +kernel
theorem dX5_between_33 : decode cX5_between 33 = .ok (.aload_n 0, 1) := by decide +kernel
theorem dX5_between_34 : decode cX5_between 34 = .ok (.getfield 11, 3) := by decide +kernel
theorem dX5_between_37 : decode cX5_between 37 = .ok (.iload_n 1, 1) := by decide +kernel
theorem dX5_between_38 : decode cX5_between 38 = .ok (.aaload, 1) := by decide +kernel
theorem dX5_between_39 : decode cX5_between 39 = .ok (.iload_n 2, 1) := by decide +kernel
theorem dX5_between_40 : decode cX5_between 40 = .ok (.iaload, 1) := by decide +kernel
theorem dX5_between_41 : decode cX5_between 41 = .ok (.ireturn, 1) := by decide +kernel
set_option maxRecDepth 20000 in
theorem ggX5_coins_X5_isNoNode : GoodIn wsX5_coins wsX5_isNoNode := goodIn_r _ [6, 7, 8, 9, 5, 10, 11, 12, 13, 14, 24, 25, 26, 27, 28, 29, 30, 31, 32, 33, 34] (by decide +kernel) (by decide +kernel)
set_option maxRecDepth 20000 in
theorem gX5_coins_X5_isNoNode : GoodIn wsX5_coins (wsV RX5 56 RX5 yX5_isNoNode wsX5_isNoNode) := goodIn_app (goodIn_of _ (by decide +kernel)) ggX5_coins_X5_isNoNode
set_option maxRecDepth 20000 in
theorem ggX5_coins_X5_start : GoodIn wsX5_coins wsX5_start := goodIn_r _ [18, 19, 20, 21, 22, 5, 23, 24, 25, 26, 27, 28, 29, 30, 31, 32, 33, 34] (by decide +kernel) (by decide +kernel)
set_option maxRecDepth 20000 in
theorem gX5_coins_X5_start : GoodIn wsX5_coins (wsV RX5 53 RX5 yX5_start wsX5_start) := goodIn_app (goodIn_of _ (by decide +kernel)) ggX5_coins_X5_start
theorem dX5_coins_0 : decode cX5_coins 0 = .ok (.aload_n 0, 1) := by decide +kernel
theorem dX5_coins_1 : decode cX5_coins 1 = .ok (.aload_n 0, 1) := by decide +kernel
theorem dX5_coins_2 : decode cX5_coins 2 = .ok (.iload_n 1, 1) := by decide +kernel
theorem dX5_coins_3 : decode cX5_coins 3 = .ok (.invokevirtual 56, 3) := by decide +kernel
theorem dX5_coins_6 : decode cX5_coins 6 = .ok (.iconst 1, 1) := by decide +kernel
theorem dX5_coins_7 : decode cX5_coins 7 = .ok (.invokevirtual 53, 3) := by decide +kernel
theorem dX5_coins_10 : decode cX5_coins 10 = .ok (.ifCond .eq 7, 3) := by decide +kernel
theorem dX5_coins_13 : decode cX5_coins 13 = .ok (.iconst 0, 1) := by decide +kernel
theorem dX5_coins_14 : decode cX5_coins 14 = .ok (.goto 9, 3) := by decide +kernel
theorem dX5_coins_17 : decode cX5_coins 17 = .ok (.aload_n 0, 1) := by decide +kernel
theorem dX5_coins_18 : decode cX5_coins 18 = .ok (.getfield 24, 3) := by decide +kernel
theorem dX5_coins_21 : decode cX5_coins 21 = .ok (.iload_n 1, 1) := by decide +kernel
theorem dX5_coins_22 : decode cX5_coins 22 = .ok (.iaload, 1) := by decide +kernel
theorem dX5_coins_23 : decode cX5_coins 23 = .ok (.ireturn, 1) := by decide +kernel
set_option maxRecDepth 20000 in
theorem ggX5_kept_Jx4a65c_size_8abf5 : GoodIn wsX5_kept wsJx4a65c_size_8abf5 := goodIn_r _ [7, 8, 55, 56, 57] (by decide +kernel) (by decide +kernel)
set_option maxRecDepth 20000 in
theorem gX5_kept_Jx4a65c_size_8abf5 : GoodIn wsX5_kept (wsV RX5 104 RJx4a65c yJx4a65c_size_8abf5 wsJx4a65c_size_8abf5) := goodIn_app (goodIn_of _ (by decide +kernel)) ggX5_kept_Jx4a65c_size_8abf5
set_option maxRecDepth 20000 in
theorem ggX5_kept_X5_isIn : GoodIn wsX5_kept wsX5_isIn := goodIn_r _ [12] (by decide +kernel) (by decide +kernel)
set_option maxRecDepth 20000 in
theorem gX5_kept_X5_isIn : GoodIn wsX5_kept (va_wsS RX5 45 yX5_isIn wsX5_isIn) := goodIn_app (goodIn_of _ (by decide +kernel)) ggX5_kept_X5_isIn
set_option maxRecDepth 20000 in
theorem ggX5_kept_X5_isNoSpot : GoodIn wsX5_kept wsX5_isNoSpot := goodIn_r _ [16, 17, 9, 10, 11, 12, 44, 45, 46, 47, 48, 49, 50, 51, 52, 53, 54] (by decide +kernel) (by decide +kernel)
set_option maxRecDepth 20000 in
theorem gX5_kept_X5_isNoSpot : GoodIn wsX5_kept (wsV RX5 49 RX5 yX5_isNoSpot wsX5_isNoSpot) := goodIn_app (goodIn_of _ (by decide +kernel)) ggX5_kept_X5_isNoSpot
set_option maxRecDepth 20000 in
theorem ggX5_kept_X5_start : GoodIn wsX5_kept wsX5_start := goodIn_r _ [21, 22, 23, 24, 25, 11, 26, 44, 45, 46, 47, 48, 49, 50, 51, 52, 53, 54] (by decide +kernel) (by decide +kernel)
set_option maxRecDepth 20000 in
theorem gX5_kept_X5_start : GoodIn wsX5_kept (wsV RX5 53 RX5 yX5_start wsX5_start) := goodIn_app (goodIn_of _ (by decide +kernel)) ggX5_kept_X5_start
set_option maxRecDepth 20000 in
theorem ggX5_kept_Jx4a65c_get_915e3 : GoodIn wsX5_kept wsJx4a65c_get_915e3 := goodIn_r _ [30, 8, 31, 32, 33, 34, 35, 36, 37, 38, 39, 40, 41, 6, 42, 43, 55, 56, 57] (by decide +kernel) (by decide +kernel)
set_option maxRecDepth 20000 in
theorem gX5_kept_Jx4a65c_get_915e3 : GoodIn wsX5_kept (wsV RX5 115 RJx4a65c yJx4a65c_get_915e3 wsJx4a65c_get_915e3) := goodIn_app (goodIn_of _ (by decide +kernel)) ggX5_kept_Jx4a65c_get_915e3
theorem dX5_kept_0 : decode cX5_kept 0 = .ok (.aload_n 0, 1) := by decide +kernel
theorem dX5_kept_1 : decode cX5_kept 1 = .ok (.iload_n 1, 1) := by decide +kernel
theorem dX5_kept_2 : decode cX5_kept 2 = .ok (.iconst 0, 1) := by decide +kernel
theorem dX5_kept_3 : decode cX5_kept 3 = .ok (.aload_n 0, 1) := by decide +kernel
theorem dX5_kept_4 : decode cX5_kept 4 = .ok (.getfield 30, 3) := by decide +kernel
theorem dX5_kept_7 : decode cX5_kept 7 = .ok (.invokevirtual 104, 3) := by decide +kernel
theorem dX5_kept_10 : decode cX5_kept 10 = .ok (.iconst 1, 1) := by decide +kernel
theorem dX5_kept_11 : decode cX5_kept 11 = .ok (.isub, 1) := by decide +kernel
theorem dX5_kept_12 : decode cX5_kept 12 = .ok (.invokestatic 45, 3) := by decide +kernel
theorem dX5_kept_15 : decode cX5_kept 15 = .ok (.ifCond .eq 11, 3) := by decide +kernel
theorem dX5_kept_18 : decode cX5_kept 18 = .ok (.aload_n 0, 1) := by decide +kernel
theorem dX5_kept_19 : decode cX5_kept 19 = .ok (.iload_n 2, 1) := by decide +kernel
theorem dX5_kept_20 : decode cX5_kept 20 = .ok (.invokevirtual 49, 3) := by decide +kernel
theorem dX5_kept_23 : decode cX5_kept 23 = .ok (.ifCond .eq 7, 3) := by decide +kernel
theorem dX5_kept_26 : decode cX5_kept 26 = .ok (.iconst 1, 1) := by decide +kernel
theorem dX5_kept_27 : decode cX5_kept 27 = .ok (.goto 4, 3) := by decide +kernel
theorem dX5_kept_30 : decode cX5_kept 30 = .ok (.iconst 0, 1) := by decide +kernel
theorem dX5_kept_31 : decode cX5_kept 31 = .ok (.iconst 1, 1) := by decide +kernel
theorem dX5_kept_32 : decode cX5_kept 32 = .ok (.invokevirtual 53, 3) := by decide +kernel
theorem dX5_kept_35 : decode cX5_kept 35 = .ok (.ifCond .eq 7, 3) := by decide +kernel
theorem dX5_kept_38 : decode cX5_kept 38 = .ok (.iconst 0, 1) := by decide +kernel
theorem dX5_kept_39 : decode cX5_kept 39 = .ok (.goto 16, 3) := by decide +kernel
theorem dX5_kept_42 : decode cX5_kept 42 = .ok (.aload_n 0, 1) := by decide +kernel
theorem dX5_kept_43 : decode cX5_kept 43 = .ok (.getfield 30, 3) := by decide +kernel
theorem dX5_kept_46 : decode cX5_kept 46 = .ok (.iload_n 1, 1) := by decide +kernel
theorem dX5_kept_47 : decode cX5_kept 47 = .ok (.invokevirtual 115, 3) := by decide +kernel
theorem dX5_kept_50 : decode cX5_kept 50 = .ok (.checkcast 119, 3) := by decide +kernel
theorem dX5_kept_53 : decode cX5_kept 53 = .ok (.iload_n 2, 1) := by decide +kernel
theorem dX5_kept_54 : decode cX5_kept 54 = .ok (.iaload, 1) := by decide +kernel
theorem dX5_kept_55 : decode cX5_kept 55 = .ok (.ireturn, 1) := by decide +kernel
set_option maxRecDepth 20000 in
theorem ggX5_told_X5_degree : GoodIn wsX5_told wsX5_degree := goodIn_r _ [14, 15, 46, 47, 48, 49, 50, 51, 52, 53, 54, 55, 56] (by decide +kernel) (by decide +kernel)
set_option maxRecDepth 20000 in
theorem gX5_told_X5_degree : GoodIn wsX5_told (wsV RX5 59 RX5 yX5_degree wsX5_degree) := goodIn_app (goodIn_of _ (by decide +kernel)) ggX5_told_X5_degree
set_option maxRecDepth 20000 in
theorem ggX5_told_X5_one : GoodIn wsX5_told wsX5_one := goodIn_r _ [18] (by decide +kernel) (by decide +kernel)
set_option maxRecDepth 20000 in
theorem gX5_told_X5_one : GoodIn wsX5_told (va_wsS RX5 135 yX5_one wsX5_one) := goodIn_app (goodIn_of _ (by decide +kernel)) ggX5_told_X5_one
set_option maxRecDepth 20000 in
theorem ggX5_told_X5_isSteep : GoodIn wsX5_told wsX5_isSteep := goodIn_r _ [22, 10, 11, 12, 13, 14, 15, 46, 47, 48, 49, 50, 51, 52, 53, 54, 55, 56] (by decide +kernel) (by decide +kernel)
