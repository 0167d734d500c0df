theorem dX3_reset_1 : decode cX3_reset 1 = .ok (.getfield 15, 3) := by decide +kernel
theorem dX3_reset_4 : decode cX3_reset 4 = .ok (.iload_n 1, 1) := by decide +kernel
theorem dX3_reset_5 : decode cX3_reset 5 = .ok (.invokevirtual 19, 3) := by decide +kernel
theorem dX3_reset_8 : decode cX3_reset 8 = .ok (.ifCond .eq 10, 3) := by decide +kernel
theorem dX3_reset_11 : decode cX3_reset 11 = .ok (.aload_n 0, 1) := by decide +kernel
theorem dX3_reset_12 : decode cX3_reset 12 = .ok (.getfield 9, 3) := by decide +kernel
theorem dX3_reset_15 : decode cX3_reset 15 = .ok (.iload_n 1, 1) := by decide +kernel
theorem dX3_reset_16 : decode cX3_reset 16 = .ok (.iconst 0, 1) := by decide +kernel
theorem dX3_reset_17 : decode cX3_reset 17 = .ok (.iastore, 1) := by decide +kernel
theorem dX3_reset_18 : decode cX3_reset 18 = .ok (.return_, 1) := by decide +kernel
set_option maxRecDepth 20000 in
theorem ggX3_pointedFrom_X2_neighbourAt : GoodIn wsX3_pointedFrom wsX2_neighbourAt := goodIn_r _ [7, 8, 12, 13, 14, 15] (by decide +kernel) (by decide +kernel)
set_option maxRecDepth 20000 in
theorem gX3_pointedFrom_X2_neighbourAt : GoodIn wsX3_pointedFrom (wsV RX3 25 RX2 yX2_neighbourAt wsX2_neighbourAt) := goodIn_app (goodIn_of _ (by decide +kernel)) ggX3_pointedFrom_X2_neighbourAt
theorem dX3_pointedFrom_0 : decode cX3_pointedFrom 0 = .ok (.aload_n 0, 1) := by decide +kernel
theorem dX3_pointedFrom_1 : decode cX3_pointedFrom 1 = .ok (.getfield 15, 3) := by decide +kernel
theorem dX3_pointedFrom_4 : decode cX3_pointedFrom 4 = .ok (.iload_n 1, 1) := by decide +kernel
theorem dX3_pointedFrom_5 : decode cX3_pointedFrom 5 = .ok (.aload_n 0, 1) := by decide +kernel
theorem dX3_pointedFrom_6 : decode cX3_pointedFrom 6 = .ok (.getfield 9, 3) := by decide +kernel
theorem dX3_pointedFrom_9 : decode cX3_pointedFrom 9 = .ok (.iload_n 1, 1) := by decide +kernel
theorem dX3_pointedFrom_10 : decode cX3_pointedFrom 10 = .ok (.iaload, 1) := by decide +kernel
theorem dX3_pointedFrom_11 : decode cX3_pointedFrom 11 = .ok (.invokevirtual 25, 3) := by decide +kernel
theorem dX3_pointedFrom_14 : decode cX3_pointedFrom 14 = .ok (.ireturn, 1) := by decide +kernel
set_option maxRecDepth 20000 in
theorem ggX3_areTree_X3_leadsToSink : GoodIn wsX3_areTree wsX3_leadsToSink := goodIn_r _ [7, 1, 2, 8, 9, 10, 11, 12, 13, 14, 15, 16, 6, 17, 18, 19, 20, 21, 22, 23, 24, 25, 26, 27, 28, 29, 30] (by decide +kernel) (by decide +kernel)
set_option maxRecDepth 20000 in
theorem gX3_areTree_X3_leadsToSink : GoodIn wsX3_areTree (wsV RX3 48 RX3 yX3_leadsToSink wsX3_leadsToSink) := goodIn_app (goodIn_of _ (by decide +kernel)) ggX3_areTree_X3_leadsToSink
theorem dX3_areTree_0 : decode cX3_areTree 0 = .ok (.iconst 0, 1) := by decide +kernel
theorem dX3_areTree_1 : decode cX3_areTree 1 = .ok (.istore_n 1, 1) := by decide +kernel
theorem dX3_areTree_2 : decode cX3_areTree 2 = .ok (.iload_n 1, 1) := by decide +kernel
theorem dX3_areTree_3 : decode cX3_areTree 3 = .ok (.aload_n 0, 1) := by decide +kernel
theorem dX3_areTree_4 : decode cX3_areTree 4 = .ok (.getfield 15, 3) := by decide +kernel
theorem dX3_areTree_7 : decode cX3_areTree 7 = .ok (.getfield 45, 3) := by decide +kernel
theorem dX3_areTree_10 : decode cX3_areTree 10 = .ok (.if_icmp .ge 19, 3) := by decide +kernel
theorem dX3_areTree_13 : decode cX3_areTree 13 = .ok (.aload_n 0, 1) := by decide +kernel
theorem dX3_areTree_14 : decode cX3_areTree 14 = .ok (.iload_n 1, 1) := by decide +kernel
theorem dX3_areTree_15 : decode cX3_areTree 15 = .ok (.invokevirtual 48, 3) := by decide +kernel
theorem dX3_areTree_18 : decode cX3_areTree 18 = .ok (.ifCond .ne 5, 3) := by decide +kernel
theorem dX3_areTree_21 : decode cX3_areTree 21 = .ok (.iconst 0, 1) := by decide +kernel
theorem dX3_areTree_22 : decode cX3_areTree 22 = .ok (.ireturn, 1) := by decide +kernel
theorem dX3_areTree_23 : decode cX3_areTree 23 = .ok (.iinc 1 1, 3) := by decide +kernel
theorem dX3_areTree_26 : decode cX3_areTree 26 = .ok (.goto (-24), 3) := by decide +kernel
theorem dX3_areTree_29 : decode cX3_areTree 29 = .ok (.iconst 1, 1) := by decide +kernel
theorem dX3_areTree_30 : decode cX3_areTree 30 = .ok (.ireturn, 1) := by decide +kernel
set_option maxRecDepth 20000 in
theorem ggX3_leadsToSink_X2_isSpot : GoodIn wsX3_leadsToSink wsX2_isSpot := goodIn_r _ [7, 8, 23, 24, 25, 26] (by decide +kernel) (by decide +kernel)
set_option maxRecDepth 20000 in
theorem gX3_leadsToSink_X2_isSpot : GoodIn wsX3_leadsToSink (wsV RX3 19 RX2 yX2_isSpot wsX2_isSpot) := goodIn_app (goodIn_of _ (by decide +kernel)) ggX3_leadsToSink_X2_isSpot
set_option maxRecDepth 20000 in
theorem ggX3_leadsToSink_X3_pointedFrom : GoodIn wsX3_leadsToSink wsX3_pointedFrom := goodIn_r _ [13, 1, 14, 15, 16, 17, 6, 18, 19, 20, 21, 22, 23, 24, 25, 26] (by decide +kernel) (by decide +kernel)
set_option maxRecDepth 20000 in
theorem gX3_leadsToSink_X3_pointedFrom : GoodIn wsX3_leadsToSink (wsV RX3 34 RX3 yX3_pointedFrom wsX3_pointedFrom) := goodIn_app (goodIn_of _ (by decide +kernel)) ggX3_leadsToSink_X3_pointedFrom
theorem dX3_leadsToSink_0 : decode cX3_leadsToSink 0 = .ok (.iload_n 1, 1) := by decide +kernel
theorem dX3_leadsToSink_1 : decode cX3_leadsToSink 1 = .ok (.istore_n 2, 1) := by decide +kernel
theorem dX3_leadsToSink_2 : decode cX3_leadsToSink 2 = .ok (.iconst 0, 1) := by decide +kernel
theorem dX3_leadsToSink_3 : decode cX3_leadsToSink 3 = .ok (.istore_n 3, 1) := by decide +kernel
theorem dX3_leadsToSink_4 : decode cX3_leadsToSink 4 = .ok (.iload_n 3, 1) := by decide +kernel
theorem dX3_leadsToSink_5 : decode cX3_leadsToSink 5 = .ok (.aload_n 0, 1) := by decide +kernel
theorem dX3_leadsToSink_6 : decode cX3_leadsToSink 6 = .ok (.getfield 15, 3) := by decide +kernel
theorem dX3_leadsToSink_9 : decode cX3_leadsToSink 9 = .ok (.getfield 45, 3) := by decide +kernel
theorem dX3_leadsToSink_12 : decode cX3_leadsToSink 12 = .ok (.if_icmp .ge 26, 3) := by decide +kernel
theorem dX3_leadsToSink_15 : decode cX3_leadsToSink 15 = .ok (.aload_n 0, 1) := by decide +kernel
theorem dX3_leadsToSink_16 : decode cX3_leadsToSink 16 = .ok (.getfield 15, 3) := by decide +kernel
theorem dX3_leadsToSink_19 : decode cX3_leadsToSink 19 = .ok (.iload_n 2, 1) := by decide +kernel
theorem dX3_leadsToSink_20 : decode cX3_leadsToSink 20 = .ok (.invokevirtual 19, 3) := by decide +kernel
theorem dX3_leadsToSink_23 : decode cX3_leadsToSink 23 = .ok (.ifCond .eq 15, 3) := by decide +kernel
theorem dX3_leadsToSink_26 : decode cX3_leadsToSink 26 = .ok (.aload_n 0, 1) := by decide +kernel
theorem dX3_leadsToSink_27 : decode cX3_leadsToSink 27 = .ok (.iload_n 2, 1) := by decide +kernel
theorem dX3_leadsToSink_28 : decode cX3_leadsToSink 28 = .ok (.invokevirtual 34, 3) := by decide +kernel
theorem dX3_leadsToSink_31 : decode cX3_leadsToSink 31 = .ok (.istore_n 2, 1) := by decide +kernel
theorem dX3_leadsToSink_32 : decode cX3_leadsToSink 32 = .ok (.iinc 3 1, 3) := by decide +kernel
theorem dX3_leadsToSink_35 : decode cX3_leadsToSink 35 = .ok (.goto (-31), 3) := by decide +kernel
theorem dX3_leadsToSink_38 : decode cX3_leadsToSink 38 = .ok (.iload_n 2, 1) := by decide +kernel
theorem dX3_leadsToSink_39 : decode cX3_leadsToSink 39 = .ok (.bipush 6, 2) := by decide +kernel
theorem dX3_leadsToSink_41 : decode cX3_leadsToSink 41 = .ok (.if_icmp .ne 7, 3) := by decide +kernel
theorem dX3_leadsToSink_44 : decode cX3_leadsToSink 44 = .ok (.iconst 1, 1) := by decide +kernel
theorem dX3_leadsToSink_45 : decode cX3_leadsToSink 45 = .ok (.goto 4, 3) := by decide +kernel
theorem dX3_leadsToSink_48 : decode cX3_leadsToSink 48 = .ok (.iconst 0, 1) := by decide +kernel
theorem dX3_leadsToSink_49 : decode cX3_leadsToSink 49 = .ok (.ireturn, 1) := by decide +kernel
set_option maxRecDepth 20000 in
theorem ggX4_init_X2_init : GoodIn wsX4_init wsX2_init := goodIn_r _ [27, 28, 2, 3, 29, 24, 30, 31, 32, 33, 34, 58, 59, 60, 61] (by decide +kernel) (by decide +kernel)
set_option maxRecDepth 20000 in
theorem gX4_init_X2_init_n9 : GoodIn wsX4_init (wsX2_init) := ggX4_init_X2_init
set_option maxRecDepth 20000 in
theorem ggX4_init_X0_init : GoodIn wsX4_init wsX0_init := goodIn_r _ [37, 38, 2, 3, 24, 39, 40, 41, 73, 74, 75] (by decide +kernel) (by decide +kernel)
set_option maxRecDepth 20000 in
theorem gX4_init_X0_init : GoodIn wsX4_init (wsX0_init) := ggX4_init_X0_init
set_option maxRecDepth 20000 in
theorem ggX4_init_X3_init : GoodIn wsX4_init wsX3_init := goodIn_r _ [44, 45, 2, 3, 24, 46, 47, 76, 77, 78] (by decide +kernel) (by decide +kernel)
set_option maxRecDepth 20000 in
theorem gX4_init_X3_init : GoodIn wsX4_init (wsX3_init) := ggX4_init_X3_init
set_option maxRecDepth 20000 in
theorem ggX4_init_X1_init : GoodIn wsX4_init wsX1_init := goodIn_r _ [50, 51, 2, 3, 24, 52, 53, 54, 9, 10, 55, 56, 57, 36, 37, 38, 39, 40, 41, 79, 80, 81, 82, 73, 74, 75] (by decide +kernel) (by decide +kernel)
set_option maxRecDepth 20000 in
theorem gX4_init_X1_init : GoodIn wsX4_init (wsX1_init) := ggX4_init_X1_init
theorem dX4_init_0 : decode cX4_init 0 = .ok (.aload_n 0, 1) := by decide +kernel
theorem dX4_init_1 : decode cX4_init 1 = .ok (.invokespecial 1, 3) := by decide +kernel
theorem dX4_init_4 : decode cX4_init 4 = .ok (.aload_n 0, 1) := by decide +kernel
theorem dX4_init_5 : decode cX4_init 5 = .ok (.new 7, 3) := by decide +kernel
theorem dX4_init_8 : decode cX4_init 8 = .ok (.dup, 1) := by decide +kernel
theorem dX4_init_9 : decode cX4_init 9 = .ok (.invokespecial 9, 3) := by decide +kernel
theorem dX4_init_12 : decode cX4_init 12 = .ok (.putfield 10, 3) := by decide +kernel
theorem dX4_init_15 : decode cX4_init 15 = .ok (.aload_n 0, 1) := by decide +kernel
theorem dX4_init_16 : decode cX4_init 16 = .ok (.new 16, 3) := by decide +kernel
theorem dX4_init_19 : decode cX4_init 19 = .ok (.dup, 1) := by decide +kernel
theorem dX4_init_20 : decode cX4_init 20 = .ok (.aload_n 0, 1) := by decide +kernel
theorem dX4_init_21 : decode cX4_init 21 = .ok (.getfield 10, 3) := by decide +kernel
theorem dX4_init_24 : decode cX4_init 24 = .ok (.invokespecial 18, 3) := by decide +kernel
theorem dX4_init_27 : decode cX4_init 27 = .ok (.putfield 21, 3) := by decide +kernel
theorem dX4_init_30 : decode cX4_init 30 = .ok (.aload_n 0, 1) := by decide +kernel
theorem dX4_init_31 : decode cX4_init 31 = .ok (.new 16, 3) := by decide +kernel
theorem dX4_init_34 : decode cX4_init 34 = .ok (.dup, 1) := by decide +kernel
theorem dX4_init_35 : decode cX4_init 35 = .ok (.aload_n 0, 1) := by decide +kernel
theorem dX4_init_36 : decode cX4_init 36 = .ok (.getfield 10, 3) := by decide +kernel
theorem dX4_init_39 : decode cX4_init 39 = .ok (.invokespecial 18, 3) := by decide +kernel
theorem dX4_init_42 : decode cX4_init 42 = .ok (.putfield 25, 3) := by decide +kernel
theorem dX4_init_45 : decode cX4_init 45 = .ok (.aload_n 0, 1) := by decide +kernel
theorem dX4_init_46 : decode cX4_init 46 = .ok (.new 16, 3) := by decide +kernel
theorem dX4_init_49 : decode cX4_init 49 = .ok (.dup, 1) := by decide +kernel
theorem dX4_init_50 : decode cX4_init 50 = .ok (.aload_n 0, 1) := by decide +kernel
theorem dX4_init_51 : decode cX4_init 51 = .ok (.getfield 10, 3) := by decide +kernel
theorem dX4_init_54 : decode cX4_init 54 = .ok (.invokespecial 18, 3) := by decide +kernel
theorem dX4_init_57 : decode cX4_init 57 = .ok (.putfield 28, 3) := by decide +kernel
theorem dX4_init_60 : decode cX4_init 60 = .ok (.aload_n 0, 1) := by decide +kernel
theorem dX4_init_61 : decode cX4_init 61 = .ok (.new 16, 3) := by decide +kernel
theorem dX4_init_64 : decode cX4_init 64 = .ok (.dup, 1) := by decide +kernel
theorem dX4_init_65 : decode cX4_init 65 = .ok (.aload_n 0, 1) := by decide +kernel
theorem dX4_init_66 : decode cX4_init 66 = .ok (.getfield 10, 3) := by decide +kernel
theorem dX4_init_69 : decode cX4_init 69 = .ok (.invokespecial 18, 3) := by decide +kernel
theorem dX4_init_72 : decode cX4_init 72 = .ok (.putfield 31, 3) := by decide +kernel
theorem dX4_init_75 : decode cX4_init 75 = .ok (.aload_n 0, 1) := by decide +kernel
theorem dX4_init_76 : decode cX4_init 76 = .ok (.new 34, 3) := by decide +kernel
theorem dX4_init_79 : decode cX4_init 79 = .ok (.dup, 1) := by decide +kernel
theorem dX4_init_80 : decode cX4_init 80 = .ok (.aload_n 0, 1) := by decide +kernel
theorem dX4_init_81 : decode cX4_init 81 = .ok (.getfield 10, 3) := by decide +kernel
theorem dX4_init_84 : decode cX4_init 84 = .ok (.invokespecial 36, 3) := by decide +kernel
theorem dX4_init_87 : decode cX4_init 87 = .ok (.putfield 37, 3) := by decide +kernel
theorem dX4_init_90 : decode cX4_init 90 = .ok (.aload_n 0, 1) := by decide +kernel
theorem dX4_init_91 : decode cX4_init 91 = .ok (.new 41, 3) := by decide +kernel
theorem dX4_init_94 : decode cX4_init 94 = .ok (.dup, 1) := by decide +kernel
theorem dX4_init_95 : decode cX4_init 95 = .ok (.aload_n 0, 1) := by decide +kernel
theorem dX4_init_96 : decode cX4_init 96 = .ok (.getfield 10, 3) := by decide +kernel
theorem dX4_init_99 : decode cX4_init 99 = .ok (.invokespecial 43, 3) := by decide +kernel
theorem dX4_init_102 : decode cX4_init 102 = .ok (.putfield 44, 3) := by decide +kernel
theorem dX4_init_105 : decode cX4_init 105 = .ok (.aload_n 0, 1) := by decide +kernel
theorem dX4_init_106 : decode cX4_init 106 = .ok (.iconst 4, 1) := by decide +kernel
theorem dX4_init_107 : decode cX4_init 107 = .ok (.bipush 6, 2) := by decide +kernel
theorem dX4_init_109 : decode cX4_init 109 = .ok (.multianewarray 48 2, 4) := by decide +kernel
theorem dX4_init_113 : decode cX4_init 113 = .ok (.putfield 50, 3) := by decide +kernel
theorem dX4_init_116 : decode cX4_init 116 = .ok (.return_, 1) := by decide +kernel
theorem dX4_spot_0 : decode cX4_spot 0 = .ok (.aload_n 0, 1) := by decide +kernel
theorem dX4_spot_1 : decode cX4_spot 1 = .ok (.getfield 10, 3) := by decide +kernel
theorem dX4_spot_4 : decode cX4_spot 4 = .ok (.getfield 53, 3) := by decide +kernel
theorem dX4_spot_7 : decode cX4_spot 7 = .ok (.bipush 6, 2) := by decide +kernel
theorem dX4_spot_9 : decode cX4_spot 9 = .ok (.if_icmp .lt 13, 3) := by decide +kernel
theorem dX4_spot_12 : decode cX4_spot 12 = .ok (.new 57, 3) := by decide +kernel
theorem dX4_spot_15 : decode cX4_spot 15 = .ok (.dup, 1) := by decide +kernel
theorem dX4_spot_16 : decode cX4_spot 16 = .ok (.ldc 59, 2) := by decide +kernel
theorem dX4_spot_18 : decode cX4_spot 18 = .ok (.invokespecial 61, 3) := by decide +kernel
theorem dX4_spot_21 : decode cX4_spot 21 = .ok (.athrow, 1) := by decide +kernel
theorem dX4_spot_22 : decode cX4_spot 22 = .ok (.aload_n 0, 1) := by decide +kernel
theorem dX4_spot_23 : decode cX4_spot 23 = .ok (.getfield 10, 3) := by decide +kernel
theorem dX4_spot_26 : decode cX4_spot 26 = .ok (.dup, 1) := by decide +kernel
theorem dX4_spot_27 : decode cX4_spot 27 = .ok (.getfield 53, 3) := by decide +kernel
theorem dX4_spot_30 : decode cX4_spot 30 = .ok (.iconst 1, 1) := by decide +kernel
theorem dX4_spot_31 : decode cX4_spot 31 = .ok (.iadd, 1) := by decide +kernel
theorem dX4_spot_32 : decode cX4_spot 32 = .ok (.putfield 53, 3) := by decide +kernel
theorem dX4_spot_35 : decode cX4_spot 35 = .ok (.aload_n 0, 1) := by decide +kernel
theorem dX4_spot_36 : decode cX4_spot 36 = .ok (.getfield 10, 3) := by decide +kernel
theorem dX4_spot_39 : decode cX4_spot 39 = .ok (.getfield 53, 3) := by decide +kernel
theorem dX4_spot_42 : decode cX4_spot 42 = .ok (.iconst 1, 1) := by decide +kernel
theorem dX4_spot_43 : decode cX4_spot 43 = .ok (.isub, 1) := by decide +kernel
theorem dX4_spot_44 : decode cX4_spot 44 = .ok (.ireturn, 1) := by decide +kernel
set_option maxRecDepth 20000 in
theorem ggX4_edge_X4_requireNode : GoodIn wsX4_edge wsX4_requireNode := goodIn_ca (goodIn_r _ [10, 11, 12, 3, 13, 14, 15, 16, 17, 18, 19, 20, 21, 22, 40, 41, 42, 43, 44, 45, 46, 47, 48, 49, 50, 51, 52, 53, 54] (by decide +kernel) (by decide +kernel)) (goodIn_sub (fun _ h => List.mem_cons_of_mem _ (List.mem_append_right _ h)) (by decide +kernel))
set_option maxRecDepth 20000 in
theorem gX4_edge_X4_requireNode : GoodIn wsX4_edge (wsV RX4 64 RX4 yX4_requireNode wsX4_requireNode) := goodIn_app (goodIn_of _ (by decide +kernel)) ggX4_edge_X4_requireNode
set_option maxRecDepth 20000 in
theorem ggX4_edge_X4_requireWithin : GoodIn wsX4_edge wsX4_requireWithin := goodIn_ca (goodIn_r _ [25, 1, 2] (by decide +kernel) (by decide +kernel)) (goodIn_sub (fun _ h => List.mem_cons_of_mem _ (List.mem_append_left _ (List.mem_append_right _ h))) (by decide +kernel))
set_option maxRecDepth 20000 in
theorem gX4_edge_X4_requireWithin : GoodIn wsX4_edge (va_wsS RX4 73 yX4_requireWithin wsX4_requireWithin) := goodIn_app (goodIn_of _ (by decide +kernel)) ggX4_edge_X4_requireWithin
set_option maxRecDepth 20000 in
theorem ggX4_edge_X2_lay : GoodIn wsX4_edge wsX2_lay := goodIn_r _ [29, 30, 31, 51, 52, 53, 54] (by decide +kernel) (by decide +kernel)
set_option maxRecDepth 20000 in
theorem gX4_edge_X2_lay : GoodIn wsX4_edge (wsV RX4 80 RX2 yX2_lay wsX2_lay) := goodIn_app (goodIn_of _ (by decide +kernel)) ggX4_edge_X2_lay
set_option maxRecDepth 20000 in
theorem ggX4_edge_X3_reset : GoodIn wsX4_edge wsX3_reset := goodIn_r _ [36, 37, 38, 39, 19, 20, 16, 21, 22, 55, 56, 57, 51, 52, 53, 54] (by decide +kernel) (by decide +kernel)
set_option maxRecDepth 20000 in
theorem gX4_edge_X3_reset : GoodIn wsX4_edge (wsV RX4 83 RX3 yX3_reset wsX3_reset) := goodIn_app (goodIn_of _ (by decide +kernel)) ggX4_edge_X3_reset
theorem dX4_edge_0 : decode cX4_edge 0 = .ok (.aload_n 0, 1) := by decide +kernel
theorem dX4_edge_1 : decode cX4_edge 1 = .ok (.iload_n 1, 1) := by decide +kernel
theorem dX4_edge_2 : decode cX4_edge 2 = .ok (.invokevirtual 64, 3) := by decide +kernel
theorem dX4_edge_5 : decode cX4_edge 5 = .ok (.aload_n 0, 1) := by decide +kernel
theorem dX4_edge_6 : decode cX4_edge 6 = .ok (.iload_n 2, 1) := by decide +kernel
theorem dX4_edge_7 : decode cX4_edge 7 = .ok (.invokevirtual 64, 3) := by decide +kernel
theorem dX4_edge_10 : decode cX4_edge 10 = .ok (.iload_n 1, 1) := by decide +kernel
theorem dX4_edge_11 : decode cX4_edge 11 = .ok (.iload_n 2, 1) := by decide +kernel
theorem dX4_edge_12 : decode cX4_edge 12 = .ok (.if_icmp .ne 13, 3) := by decide +kernel
theorem dX4_edge_15 : decode cX4_edge 15 = .ok (.new 68, 3) := by decide +kernel
theorem dX4_edge_18 : decode cX4_edge 18 = .ok (.dup, 1) := by decide +kernel
theorem dX4_edge_19 : decode cX4_edge 19 = .ok (.ldc 70, 2) := by decide +kernel
theorem dX4_edge_21 : decode cX4_edge 21 = .ok (.invokespecial 72, 3) := by decide +kernel
theorem dX4_edge_24 : decode cX4_edge 24 = .ok (.athrow, 1) := by decide +kernel
theorem dX4_edge_25 : decode cX4_edge 25 = .ok (.iload_n 3, 1) := by decide +kernel
theorem dX4_edge_26 : decode cX4_edge 26 = .ok (.iconst 0, 1) := by decide +kernel
theorem dX4_edge_27 : decode cX4_edge 27 = .ok (.iconst 3, 1) := by decide +kernel
theorem dX4_edge_28 : decode cX4_edge 28 = .ok (.invokestatic 73, 3) := by decide +kernel
theorem dX4_edge_31 : decode cX4_edge 31 = .ok (.aload_n 0, 1) := by decide +kernel
theorem dX4_edge_32 : decode cX4_edge 32 = .ok (.getfield 10, 3) := by decide +kernel
theorem dX4_edge_35 : decode cX4_edge 35 = .ok (.getfield 77, 3) := by decide +kernel
theorem dX4_edge_38 : decode cX4_edge 38 = .ok (.iload_n 1, 1) := by decide +kernel
theorem dX4_edge_39 : decode cX4_edge 39 = .ok (.aaload, 1) := by decide +kernel
theorem dX4_edge_40 : decode cX4_edge 40 = .ok (.iload_n 2, 1) := by decide +kernel
theorem dX4_edge_41 : decode cX4_edge 41 = .ok (.iaload, 1) := by decide +kernel
theorem dX4_edge_42 : decode cX4_edge 42 = .ok (.istore 4, 2) := by decide +kernel
theorem dX4_edge_44 : decode cX4_edge 44 = .ok (.aload_n 0, 1) := by decide +kernel
theorem dX4_edge_45 : decode cX4_edge 45 = .ok (.getfield 10, 3) := by decide +kernel
theorem dX4_edge_48 : decode cX4_edge 48 = .ok (.iload_n 1, 1) := by decide +kernel
theorem dX4_edge_49 : decode cX4_edge 49 = .ok (.iload_n 2, 1) := by decide +kernel
theorem dX4_edge_50 : decode cX4_edge 50 = .ok (.iload_n 3, 1) := by decide +kernel
theorem dX4_edge_51 : decode cX4_edge 51 = .ok (.invokevirtual 80, 3) := by decide +kernel
theorem dX4_edge_54 : decode cX4_edge 54 = .ok (.aload_n 0, 1) := by decide +kernel
theorem dX4_edge_55 : decode cX4_edge 55 = .ok (.getfield 37, 3) := by decide +kernel
theorem dX4_edge_58 : decode cX4_edge 58 = .ok (.iload_n 1, 1) := by decide +kernel
theorem dX4_edge_59 : decode cX4_edge 59 = .ok (.invokevirtual 83, 3) := by decide +kernel
theorem dX4_edge_62 : decode cX4_edge 62 = .ok (.aload_n 0, 1) := by decide +kernel
theorem dX4_edge_63 : decode cX4_edge 63 = .ok (.getfield 37, 3) := by decide +kernel
theorem dX4_edge_66 : decode cX4_edge 66 = .ok (.iload_n 2, 1) := by decide +kernel
theorem dX4_edge_67 : decode cX4_edge 67 = .ok (.invokevirtual 83, 3) := by decide +kernel
theorem dX4_edge_70 : decode cX4_edge 70 = .ok (.iload 4, 2) := by decide +kernel
theorem dX4_edge_72 : decode cX4_edge 72 = .ok (.ireturn, 1) := by decide +kernel
set_option maxRecDepth 20000 in
theorem ggX4_drop_X4_requireSpot : GoodIn wsX4_drop wsX4_requireSpot := goodIn_ca (goodIn_r _ [9, 10, 11, 12, 13, 14, 15, 16, 17, 18, 24, 25, 26, 27, 28, 29, 30, 31, 32, 33, 34, 38, 39, 40, 41] (by decide +kernel) (by decide +kernel)) (goodIn_sub (fun _ h => List.mem_cons_of_mem _ (List.mem_append_left _ (List.mem_append_right _ h))) (by decide +kernel))
set_option maxRecDepth 20000 in
theorem gX4_drop_X4_requireSpot : GoodIn wsX4_drop (wsV RX4 86 RX4 yX4_requireSpot wsX4_requireSpot) := goodIn_app (goodIn_of _ (by decide +kernel)) ggX4_drop_X4_requireSpot
set_option maxRecDepth 20000 in
theorem ggX4_drop_X4_requireWithin : GoodIn wsX4_drop wsX4_requireWithin := goodIn_ca (goodIn_r _ [21, 22, 23] (by decide +kernel) (by decide +kernel)) (goodIn_sub (fun _ h => List.mem_cons_of_mem _ (List.mem_append_right _ h)) (by decide +kernel))
set_option maxRecDepth 20000 in
theorem gX4_drop_X4_requireWithin : GoodIn wsX4_drop (va_wsS RX4 73 yX4_requireWithin wsX4_requireWithin) := goodIn_app (goodIn_of _ (by decide +kernel)) ggX4_drop_X4_requireWithin
theorem dX4_drop_0 : decode cX4_drop 0 = .ok (.aload_n 0, 1) := by decide +kernel
theorem dX4_drop_1 : decode cX4_drop 1 = .ok (.iload_n 1, 1) := by decide +kernel
theorem dX4_drop_2 : decode cX4_drop 2 = .ok (.invokevirtual 86, 3) := by decide +kernel
theorem dX4_drop_5 : decode cX4_drop 5 = .ok (.iload_n 2, 1) := by decide +kernel
theorem dX4_drop_6 : decode cX4_drop 6 = .ok (.iconst 1, 1) := by decide +kernel
theorem dX4_drop_7 : decode cX4_drop 7 = .ok (.bipush 40, 2) := by decide +kernel
theorem dX4_drop_9 : decode cX4_drop 9 = .ok (.invokestatic 73, 3) := by decide +kernel
theorem dX4_drop_12 : decode cX4_drop 12 = .ok (.aload_n 0, 1) := by decide +kernel
theorem dX4_drop_13 : decode cX4_drop 13 = .ok (.getfield 21, 3) := by decide +kernel
theorem dX4_drop_16 : decode cX4_drop 16 = .ok (.getfield 89, 3) := by decide +kernel
theorem dX4_drop_19 : decode cX4_drop 19 = .ok (.iload_n 1, 1) := by decide +kernel
theorem dX4_drop_20 : decode cX4_drop 20 = .ok (.iaload, 1) := by decide +kernel
theorem dX4_drop_21 : decode cX4_drop 21 = .ok (.iload_n 2, 1) := by decide +kernel
theorem dX4_drop_22 : decode cX4_drop 22 = .ok (.iadd, 1) := by decide +kernel
theorem dX4_drop_23 : decode cX4_drop 23 = .ok (.bipush 99, 2) := by decide +kernel
theorem dX4_drop_25 : decode cX4_drop 25 = .ok (.if_icmp .le 13, 3) := by decide +kernel
theorem dX4_drop_28 : decode cX4_drop 28 = .ok (.new 57, 3) := by decide +kernel
theorem dX4_drop_31 : decode cX4_drop 31 = .ok (.dup, 1) := by decide +kernel
theorem dX4_drop_32 : decode cX4_drop 32 = .ok (.ldc 93, 2) := by decide +kernel
theorem dX4_drop_34 : decode cX4_drop 34 = .ok (.invokespecial 61, 3) := by decide +kernel
theorem dX4_drop_37 : decode cX4_drop 37 = .ok (.athrow, 1) := by decide +kernel
theorem dX4_drop_38 : decode cX4_drop 38 = .ok (.aload_n 0, 1) := by decide +kernel
theorem dX4_drop_39 : decode cX4_drop 39 = .ok (.getfield 21, 3) := by decide +kernel
theorem dX4_drop_42 : decode cX4_drop 42 = .ok (.getfield 89, 3) := by decide +kernel
theorem dX4_drop_45 : decode cX4_drop 45 = .ok (.iload_n 1, 1) := by decide +kernel
theorem dX4_drop_46 : decode cX4_drop 46 = .ok (.dup2, 1) := by decide +kernel
theorem dX4_drop_47 : decode cX4_drop 47 = .ok (.iaload, 1) := by decide +kernel
theorem dX4_drop_48 : decode cX4_drop 48 = .ok (.iload_n 2, 1) := by decide +kernel
theorem dX4_drop_49 : decode cX4_drop 49 = .ok (.iadd, 1) := by decide +kernel
theorem dX4_drop_50 : decode cX4_drop 50 = .ok (.iastore, 1) := by decide +kernel
theorem dX4_drop_51 : decode cX4_drop 51 = .ok (.aload_n 0, 1) := by decide +kernel
theorem dX4_drop_52 : decode cX4_drop 52 = .ok (.getfield 21, 3) := by decide +kernel
theorem dX4_drop_55 : decode cX4_drop 55 = .ok (.getfield 89, 3) := by decide +kernel
theorem dX4_drop_58 : decode cX4_drop 58 = .ok (.iload_n 1, 1) := by decide +kernel
theorem dX4_drop_59 : decode cX4_drop 59 = .ok (.iaload, 1) := by decide +kernel
theorem dX4_drop_60 : decode cX4_drop 60 = .ok (.ireturn, 1) := by decide +kernel
set_option maxRecDepth 20000 in
theorem ggX4_topple_X4_requireSpot : GoodIn wsX4_topple wsX4_requireSpot := goodIn_ca (goodIn_r _ [12, 13, 14, 6, 15, 16, 17, 18, 19, 20, 35, 36, 37, 38, 39, 40, 41, 42, 43, 44, 45, 46, 47, 48, 49] (by decide +kernel) (by decide +kernel)) (goodIn_sub (fun _ h => List.mem_cons_of_mem _ (List.mem_append_right _ h)) (by decide +kernel))
set_option maxRecDepth 20000 in
theorem gX4_topple_X4_requireSpot : GoodIn wsX4_topple (wsV RX4 86 RX4 yX4_requireSpot wsX4_requireSpot) := goodIn_app (goodIn_of _ (by decide +kernel)) ggX4_topple_X4_requireSpot
set_option maxRecDepth 20000 in
theorem ggX4_topple_X0_isSteep : GoodIn wsX4_topple wsX0_isSteep := goodIn_r _ [25, 26, 27, 28, 50, 51, 52, 46, 47, 48, 49] (by decide +kernel) (by decide +kernel)
set_option maxRecDepth 20000 in
theorem gX4_topple_X0_isSteep : GoodIn wsX4_topple (wsV RX4 95 RX0 yX0_isSteep wsX0_isSteep) := goodIn_app (goodIn_of _ (by decide +kernel)) ggX4_topple_X0_isSteep
set_option maxRecDepth 20000 in
theorem ggX4_topple_X0_tip : GoodIn wsX4_topple wsX0_tip := goodIn_r _ [32, 28, 26, 27, 33, 34, 50, 51, 52, 46, 47, 48, 49] (by decide +kernel) (by decide +kernel)
set_option maxRecDepth 20000 in
theorem gX4_topple_X0_tip : GoodIn wsX4_topple (wsV RX4 101 RX0 yX0_tip wsX0_tip) := goodIn_app (goodIn_of _ (by decide +kernel)) ggX4_topple_X0_tip
theorem dX4_topple_0 : decode cX4_topple 0 = .ok (.aload_n 0, 1) := by decide +kernel
theorem dX4_topple_1 : decode cX4_topple 1 = .ok (.iload_n 1, 1) := by decide +kernel
theorem dX4_topple_2 : decode cX4_topple 2 = .ok (.invokevirtual 86, 3) := by decide +kernel
theorem dX4_topple_5 : decode cX4_topple 5 = .ok (.aload_n 0, 1) := by decide +kernel
theorem dX4_topple_6 : decode cX4_topple 6 = .ok (.getfield 21, 3) := by decide +kernel
theorem dX4_topple_9 : decode cX4_topple 9 = .ok (.iload_n 1, 1) := by decide +kernel
theorem dX4_topple_10 : decode cX4_topple 10 = .ok (.invokevirtual 95, 3) := by decide +kernel
theorem dX4_topple_13 : decode cX4_topple 13 = .ok (.ifCond .ne 13, 3) := by decide +kernel
theorem dX4_topple_16 : decode cX4_topple 16 = .ok (.new 57, 3) := by decide +kernel
theorem dX4_topple_19 : decode cX4_topple 19 = .ok (.dup, 1) := by decide +kernel
theorem dX4_topple_20 : decode cX4_topple 20 = .ok (.ldc 99, 2) := by decide +kernel
theorem dX4_topple_22 : decode cX4_topple 22 = .ok (.invokespecial 61, 3) := by decide +kernel
theorem dX4_topple_25 : decode cX4_topple 25 = .ok (.athrow, 1) := by decide +kernel
theorem dX4_topple_26 : decode cX4_topple 26 = .ok (.aload_n 0, 1) := by decide +kernel
theorem dX4_topple_27 : decode cX4_topple 27 = .ok (.getfield 21, 3) := by decide +kernel
theorem dX4_topple_30 : decode cX4_topple 30 = .ok (.iload_n 1, 1) := by decide +kernel
theorem dX4_topple_31 : decode cX4_topple 31 = .ok (.iconst 1, 1) := by decide +kernel
theorem dX4_topple_32 : decode cX4_topple 32 = .ok (.invokevirtual 101, 3) := by decide +kernel
theorem dX4_topple_35 : decode cX4_topple 35 = .ok (.aload_n 0, 1) := by decide +kernel
theorem dX4_topple_36 : decode cX4_topple 36 = .ok (.dup, 1) := by decide +kernel
theorem dX4_topple_37 : decode cX4_topple 37 = .ok (.getfield 105, 3) := by decide +kernel
theorem dX4_topple_40 : decode cX4_topple 40 = .ok (.iconst 1, 1) := by decide +kernel
theorem dX4_topple_41 : decode cX4_topple 41 = .ok (.iadd, 1) := by decide +kernel
theorem dX4_topple_42 : decode cX4_topple 42 = .ok (.putfield 105, 3) := by decide +kernel
theorem dX4_topple_45 : decode cX4_topple 45 = .ok (.aload_n 0, 1) := by decide +kernel
theorem dX4_topple_46 : decode cX4_topple 46 = .ok (.dup, 1) := by decide +kernel
theorem dX4_topple_47 : decode cX4_topple 47 = .ok (.getfield 108, 3) := by decide +kernel
theorem dX4_topple_50 : decode cX4_topple 50 = .ok (.aload_n 0, 1) := by decide +kernel
theorem dX4_topple_51 : decode cX4_topple 51 = .ok (.getfield 10, 3) := by decide +kernel
theorem dX4_topple_54 : decode cX4_topple 54 = .ok (.getfield 77, 3) := by decide +kernel
theorem dX4_topple_57 : decode cX4_topple 57 = .ok (.iload_n 1, 1) := by decide +kernel
theorem dX4_topple_58 : decode cX4_topple 58 = .ok (.aaload, 1) := by decide +kernel
theorem dX4_topple_59 : decode cX4_topple 59 = .ok (.bipush 6, 2) := by decide +kernel
theorem dX4_topple_61 : decode cX4_topple 61 = .ok (.iaload, 1) := by decide +kernel
theorem dX4_topple_62 : decode cX4_topple 62 = .ok (.iadd, 1) := by decide +kernel
theorem dX4_topple_63 : decode cX4_topple 63 = .ok (.putfield 108, 3) := by decide +kernel
theorem dX4_topple_66 : decode cX4_topple 66 = .ok (.aload_n 0, 1) := by decide +kernel
theorem dX4_topple_67 : decode cX4_topple 67 = .ok (.getfield 10, 3) := by decide +kernel
theorem dX4_topple_70 : decode cX4_topple 70 = .ok (.getfield 77, 3) := by decide +kernel
theorem dX4_topple_73 : decode cX4_topple 73 = .ok (.iload_n 1, 1) := by decide +kernel
theorem dX4_topple_74 : decode cX4_topple 74 = .ok (.aaload, 1) := by decide +kernel
theorem dX4_topple_75 : decode cX4_topple 75 = .ok (.bipush 6, 2) := by decide +kernel
theorem dX4_topple_77 : decode cX4_topple 77 = .ok (.iaload, 1) := by decide +kernel
theorem dX4_topple_78 : decode cX4_topple 78 = .ok (.ireturn, 1) := by decide +kernel
set_option maxRecDepth 20000 in
theorem ggX4_settle_X4_requireFast : GoodIn wsX4_settle wsX4_requireFast := goodIn_ca (goodIn_r _ [5, 6, 7, 8, 9, 10, 11, 12, 13, 14, 15, 16, 17, 18, 19, 20, 21, 22, 23, 24, 25, 26, 66, 67, 68, 69, 70, 71, 72, 73, 74, 75, 76, 77, 78, 79, 80] (by decide +kernel) (by decide +kernel)) (goodIn_sub (fun _ h => List.mem_cons_of_mem _ (List.mem_append_right _ h)) (by decide +kernel))
set_option maxRecDepth 20000 in
theorem gX4_settle_X4_requireFast : GoodIn wsX4_settle (wsV RX4 111 RX4 yX4_requireFast wsX4_requireFast) := goodIn_app (goodIn_of _ (by decide +kernel)) ggX4_settle_X4_requireFast
set_option maxRecDepth 20000 in
theorem ggX4_settle_X4_settleLying : GoodIn wsX4_settle wsX4_settleLying := goodIn_r _ [30, 31, 32, 33, 34, 35, 36, 37, 38, 39, 40, 41, 42, 43, 44, 45, 46, 47, 48, 49, 50, 51, 52, 53, 54, 55, 56, 57, 58, 59, 60, 61, 62, 63, 64, 65, 66, 67, 68, 69, 70, 71, 72, 73, 74, 75, 76, 81, 82, 83, 77, 78, 79, 80] (by decide +kernel) (by decide +kernel)
set_option maxRecDepth 20000 in
theorem gX4_settle_X4_settleLying : GoodIn wsX4_settle (wsV RX4 114 RX4 yX4_settleLying wsX4_settleLying) := goodIn_app (goodIn_of _ (by decide +kernel)) ggX4_settle_X4_settleLying
theorem dX4_settle_0 : decode cX4_settle 0 = .ok (.aload_n 0, 1) := by decide +kernel
theorem dX4_settle_1 : decode cX4_settle 1 = .ok (.invokevirtual 111, 3) := by decide +kernel
theorem dX4_settle_4 : decode cX4_settle 4 = .ok (.aload_n 0, 1) := by decide +kernel
theorem dX4_settle_5 : decode cX4_settle 5 = .ok (.invokevirtual 114, 3) := by decide +kernel
theorem dX4_settle_8 : decode cX4_settle 8 = .ok (.ireturn, 1) := by decide +kernel
set_option maxRecDepth 20000 in
theorem ggX4_sweep_X0_allGrains : GoodIn wsX4_sweep wsX0_allGrains := goodIn_r _ [7, 8, 9, 10, 26, 27, 28, 29, 30, 31, 32] (by decide +kernel) (by decide +kernel)
set_option maxRecDepth 20000 in
theorem gX4_sweep_X0_allGrains : GoodIn wsX4_sweep (wsV RX4 136 RX0 yX0_allGrains wsX0_allGrains) := goodIn_app (goodIn_of _ (by decide +kernel)) ggX4_sweep_X0_allGrains
set_option maxRecDepth 20000 in
theorem ggX4_sweep_J7_fill_53178 : GoodIn wsX4_sweep wsJ7_fill_53178 := goodIn_r _ [14] (by decide +kernel) (by decide +kernel)
set_option maxRecDepth 20000 in
theorem gX4_sweep_J7_fill_53178 : GoodIn wsX4_sweep (va_wsS RX4 139 yJ7_fill_53178 wsJ7_fill_53178) := goodIn_app (goodIn_of _ (by decide +kernel)) ggX4_sweep_J7_fill_53178
theorem dX4_sweep_0 : decode cX4_sweep 0 = .ok (.aload_n 0, 1) := by decide +kernel
theorem dX4_sweep_1 : decode cX4_sweep 1 = .ok (.getfield 21, 3) := by decide +kernel
theorem dX4_sweep_4 : decode cX4_sweep 4 = .ok (.invokevirtual 136, 3) := by decide +kernel
theorem dX4_sweep_7 : decode cX4_sweep 7 = .ok (.istore_n 1, 1) := by decide +kernel
theorem dX4_sweep_8 : decode cX4_sweep 8 = .ok (.aload_n 0, 1) := by decide +kernel
theorem dX4_sweep_9 : decode cX4_sweep 9 = .ok (.getfield 21, 3) := by decide +kernel
theorem dX4_sweep_12 : decode cX4_sweep 12 = .ok (.getfield 89, 3) := by decide +kernel
theorem dX4_sweep_15 : decode cX4_sweep 15 = .ok (.iconst 0, 1) := by decide +kernel
theorem dX4_sweep_16 : decode cX4_sweep 16 = .ok (.invokestatic 139, 3) := by decide +kernel
theorem dX4_sweep_19 : decode cX4_sweep 19 = .ok (.iload_n 1, 1) := by decide +kernel
theorem dX4_sweep_20 : decode cX4_sweep 20 = .ok (.ireturn, 1) := by decide +kernel
set_option maxRecDepth 20000 in
theorem ggX4_pay_X4_requireNode : GoodIn wsX4_pay wsX4_requireNode := goodIn_ca (goodIn_r _ [7, 8, 9, 10, 11, 12, 13, 14, 15, 16, 17, 18, 19, 20, 26, 27, 28, 29, 30, 31, 32, 33, 34, 35, 36, 41, 42, 43, 44] (by decide +kernel) (by decide +kernel)) (goodIn_sub (fun _ h => List.mem_cons_of_mem _ (List.mem_append_left _ (List.mem_append_right _ h))) (by decide +kernel))
set_option maxRecDepth 20000 in
theorem gX4_pay_X4_requireNode : GoodIn wsX4_pay (wsV RX4 64 RX4 yX4_requireNode wsX4_requireNode) := goodIn_app (goodIn_of _ (by decide +kernel)) ggX4_pay_X4_requireNode
set_option maxRecDepth 20000 in
theorem ggX4_pay_X4_requireWithin : GoodIn wsX4_pay wsX4_requireWithin := goodIn_ca (goodIn_r _ [23, 24, 25] (by decide +kernel) (by decide +kernel)) (goodIn_sub (fun _ h => List.mem_cons_of_mem _ (List.mem_append_right _ h)) (by decide +kernel))
set_option maxRecDepth 20000 in
theorem gX4_pay_X4_requireWithin : GoodIn wsX4_pay (va_wsS RX4 73 yX4_requireWithin wsX4_requireWithin) := goodIn_app (goodIn_of _ (by decide +kernel)) ggX4_pay_X4_requireWithin
theorem dX4_pay_0 : decode cX4_pay 0 = .ok (.aload_n 0, 1) := by decide +kernel
theorem dX4_pay_1 : decode cX4_pay 1 = .ok (.iload_n 1, 1) := by decide +kernel
theorem dX4_pay_2 : decode cX4_pay 2 = .ok (.invokevirtual 64, 3) := by decide +kernel
theorem dX4_pay_5 : decode cX4_pay 5 = .ok (.iload_n 2, 1) := by decide +kernel
theorem dX4_pay_6 : decode cX4_pay 6 = .ok (.bipush (-9), 2) := by decide +kernel
theorem dX4_pay_8 : decode cX4_pay 8 = .ok (.bipush 9, 2) := by decide +kernel
theorem dX4_pay_10 : decode cX4_pay 10 = .ok (.invokestatic 73, 3) := by decide +kernel
theorem dX4_pay_13 : decode cX4_pay 13 = .ok (.aload_n 0, 1) := by decide +kernel
theorem dX4_pay_14 : decode cX4_pay 14 = .ok (.getfield 44, 3) := by decide +kernel
theorem dX4_pay_17 : decode cX4_pay 17 = .ok (.getfield 149, 3) := by decide +kernel
theorem dX4_pay_20 : decode cX4_pay 20 = .ok (.iload_n 1, 1) := by decide +kernel
theorem dX4_pay_21 : decode cX4_pay 21 = .ok (.dup2, 1) := by decide +kernel
theorem dX4_pay_22 : decode cX4_pay 22 = .ok (.iaload, 1) := by decide +kernel
theorem dX4_pay_23 : decode cX4_pay 23 = .ok (.iload_n 2, 1) := by decide +kernel
theorem dX4_pay_24 : decode cX4_pay 24 = .ok (.iadd, 1) := by decide +kernel
theorem dX4_pay_25 : decode cX4_pay 25 = .ok (.iastore, 1) := by decide +kernel
theorem dX4_pay_26 : decode cX4_pay 26 = .ok (.aload_n 0, 1) := by decide +kernel
theorem dX4_pay_27 : decode cX4_pay 27 = .ok (.getfield 44, 3) := by decide +kernel
theorem dX4_pay_30 : decode cX4_pay 30 = .ok (.getfield 149, 3) := by decide +kernel
theorem dX4_pay_33 : decode cX4_pay 33 = .ok (.iload_n 1, 1) := by decide +kernel
theorem dX4_pay_34 : decode cX4_pay 34 = .ok (.iaload, 1) := by decide +kernel
theorem dX4_pay_35 : decode cX4_pay 35 = .ok (.ireturn, 1) := by decide +kernel
set_option maxRecDepth 20000 in
theorem ggX4_lend_X4_requireNode : GoodIn wsX4_lend wsX4_requireNode := goodIn_ca (goodIn_r _ [7, 8, 9, 10, 11, 12, 13, 14, 15, 16, 17, 18, 19, 20, 30, 31, 32, 33, 34, 35, 36, 37, 38, 39, 40, 45, 46, 47, 48] (by decide +kernel) (by decide +kernel)) (goodIn_sub (fun _ h => List.mem_cons_of_mem _ (List.mem_append_right _ h)) (by decide +kernel))
set_option maxRecDepth 20000 in
theorem gX4_lend_X4_requireNode : GoodIn wsX4_lend (wsV RX4 64 RX4 yX4_requireNode wsX4_requireNode) := goodIn_app (goodIn_of _ (by decide +kernel)) ggX4_lend_X4_requireNode
set_option maxRecDepth 20000 in
theorem ggX4_lend_X1_give : GoodIn wsX4_lend wsX1_give := goodIn_r _ [25, 26, 27, 28, 29, 41, 42, 43, 44, 45, 46, 47, 48] (by decide +kernel) (by decide +kernel)
set_option maxRecDepth 20000 in
theorem gX4_lend_X1_give : GoodIn wsX4_lend (wsV RX4 152 RX1 yX1_give wsX1_give) := goodIn_app (goodIn_of _ (by decide +kernel)) ggX4_lend_X1_give
theorem dX4_lend_0 : decode cX4_lend 0 = .ok (.aload_n 0, 1) := by decide +kernel
theorem dX4_lend_1 : decode cX4_lend 1 = .ok (.iload_n 1, 1) := by decide +kernel
theorem dX4_lend_2 : decode cX4_lend 2 = .ok (.invokevirtual 64, 3) := by decide +kernel
theorem dX4_lend_5 : decode cX4_lend 5 = .ok (.aload_n 0, 1) := by decide +kernel
theorem dX4_lend_6 : decode cX4_lend 6 = .ok (.getfield 44, 3) := by decide +kernel
theorem dX4_lend_9 : decode cX4_lend 9 = .ok (.iload_n 1, 1) := by decide +kernel
theorem dX4_lend_10 : decode cX4_lend 10 = .ok (.iload_n 2, 1) := by decide +kernel
theorem dX4_lend_11 : decode cX4_lend 11 = .ok (.ifCond .eq 7, 3) := by decide +kernel
theorem dX4_lend_14 : decode cX4_lend 14 = .ok (.iconst (-1), 1) := by decide +kernel
theorem dX4_lend_15 : decode cX4_lend 15 = .ok (.goto 4, 3) := by decide +kernel
theorem dX4_lend_18 : decode cX4_lend 18 = .ok (.iconst 1, 1) := by decide +kernel
theorem dX4_lend_19 : decode cX4_lend 19 = .ok (.invokevirtual 152, 3) := by decide +kernel
theorem dX4_lend_22 : decode cX4_lend 22 = .ok (.aload_n 0, 1) := by decide +kernel
theorem dX4_lend_23 : decode cX4_lend 23 = .ok (.getfield 44, 3) := by decide +kernel
theorem dX4_lend_26 : decode cX4_lend 26 = .ok (.getfield 149, 3) := by decide +kernel
theorem dX4_lend_29 : decode cX4_lend 29 = .ok (.iload_n 1, 1) := by decide +kernel
theorem dX4_lend_30 : decode cX4_lend 30 = .ok (.iaload, 1) := by decide +kernel
theorem dX4_lend_31 : decode cX4_lend 31 = .ok (.ireturn, 1) := by decide +kernel
set_option maxRecDepth 20000 in
theorem ggX4_ofSpot_X4_requireSpot : GoodIn wsX4_ofSpot wsX4_requireSpot := goodIn_ca (goodIn_r _ [5, 6, 7, 8, 9, 10, 11, 12, 13, 14, 51, 52, 53, 54, 55, 56, 57, 58, 59, 60, 61, 62, 63, 64, 65] (by decide +kernel) (by decide +kernel)) (goodIn_sub (fun _ h => List.mem_cons_of_mem _ (List.mem_append_left _ (List.mem_append_right _ h))) (by decide +kernel))
set_option maxRecDepth 20000 in
theorem gX4_ofSpot_X4_requireSpot : GoodIn wsX4_ofSpot (wsV RX4 86 RX4 yX4_requireSpot wsX4_requireSpot) := goodIn_app (goodIn_of _ (by decide +kernel)) ggX4_ofSpot_X4_requireSpot
set_option maxRecDepth 20000 in
theorem ggX4_ofSpot_X4_requireWithin : GoodIn wsX4_ofSpot wsX4_requireWithin := goodIn_ca (goodIn_r _ [17, 18, 19] (by decide +kernel) (by decide +kernel)) (goodIn_sub (fun _ h => List.mem_cons_of_mem _ (List.mem_append_right _ h)) (by decide +kernel))
set_option maxRecDepth 20000 in
theorem gX4_ofSpot_X4_requireWithin : GoodIn wsX4_ofSpot (va_wsS RX4 73 yX4_requireWithin wsX4_requireWithin) := goodIn_app (goodIn_of _ (by decide +kernel)) ggX4_ofSpot_X4_requireWithin
set_option maxRecDepth 20000 in
theorem ggX4_ofSpot_X4_spotValue : GoodIn wsX4_ofSpot wsX4_spotValue := goodIn_r _ [23, 24, 25, 8, 26, 27, 28, 29, 30, 31, 32, 33, 34, 35, 36, 37, 38, 39, 40, 41, 42, 43, 44, 45, 46, 47, 48, 12, 49, 50, 51, 52, 53, 54, 55, 56, 57, 58, 59, 60, 61, 66, 67, 68, 62, 63, 64, 65, 69, 70, 71] (by decide +kernel) (by decide +kernel)
set_option maxRecDepth 20000 in
theorem gX4_ofSpot_X4_spotValue : GoodIn wsX4_ofSpot (wsV RX4 155 RX4 yX4_spotValue wsX4_spotValue) := goodIn_app (goodIn_of _ (by decide +kernel)) ggX4_ofSpot_X4_spotValue
theorem dX4_ofSpot_0 : decode cX4_ofSpot 0 = .ok (.aload_n 0, 1) := by decide +kernel
theorem dX4_ofSpot_1 : decode cX4_ofSpot 1 = .ok (.iload_n 1, 1) := by decide +kernel
theorem dX4_ofSpot_2 : decode cX4_ofSpot 2 = .ok (.invokevirtual 86, 3) := by decide +kernel
theorem dX4_ofSpot_5 : decode cX4_ofSpot 5 = .ok (.iload_n 2, 1) := by decide +kernel
theorem dX4_ofSpot_6 : decode cX4_ofSpot 6 = .ok (.iconst 0, 1) := by decide +kernel
theorem dX4_ofSpot_7 : decode cX4_ofSpot 7 = .ok (.bipush 6, 2) := by decide +kernel
theorem dX4_ofSpot_9 : decode cX4_ofSpot 9 = .ok (.invokestatic 73, 3) := by decide +kernel
theorem dX4_ofSpot_12 : decode cX4_ofSpot 12 = .ok (.aload_n 0, 1) := by decide +kernel
theorem dX4_ofSpot_13 : decode cX4_ofSpot 13 = .ok (.iload_n 1, 1) := by decide +kernel
theorem dX4_ofSpot_14 : decode cX4_ofSpot 14 = .ok (.iload_n 2, 1) := by decide +kernel
theorem dX4_ofSpot_15 : decode cX4_ofSpot 15 = .ok (.invokevirtual 155, 3) := by decide +kernel
theorem dX4_ofSpot_18 : decode cX4_ofSpot 18 = .ok (.ireturn, 1) := by decide +kernel
set_option maxRecDepth 20000 in
theorem ggX4_many_X4_requireWithin : GoodIn wsX4_many wsX4_requireWithin := goodIn_ca (goodIn_r _ [4, 5, 6] (by decide +kernel) (by decide +kernel)) (goodIn_sub (fun _ h => List.mem_cons_of_mem _ (List.mem_append_right _ h)) (by decide +kernel))
set_option maxRecDepth 20000 in
theorem gX4_many_X4_requireWithin : GoodIn wsX4_many (va_wsS RX4 73 yX4_requireWithin wsX4_requireWithin) := goodIn_app (goodIn_of _ (by decide +kernel)) ggX4_many_X4_requireWithin
set_option maxRecDepth 20000 in
theorem ggX4_many_X4_manyValue : GoodIn wsX4_many wsX4_manyValue := goodIn_r _ [10, 11, 12, 13, 14, 15, 16, 17, 18, 19, 20, 21, 22, 23, 24, 25, 26, 27, 28, 29, 30, 31, 32, 33, 34, 35, 36, 37, 38, 39, 40, 41, 42, 43, 44, 45, 46, 47, 48, 49, 50, 51, 52, 53, 54, 55, 56, 57, 58, 59, 60, 61, 62, 63, 64, 65, 66, 67, 68, 69, 70, 71, 72, 73, 74, 75, 76, 77, 78, 79, 80, 81, 82, 83, 84, 85, 86, 87, 88, 89, 90, 91, 92, 93, 94, 95, 96, 97, 98, 99, 100, 101, 102, 103, 104, 105, 106, 107, 108, 109, 110, 111, 112, 113, 114, 115, 116, 117, 118, 119, 120, 121, 122, 123] (by decide +kernel) (by decide +kernel)
set_option maxRecDepth 20000 in
theorem gX4_many_X4_manyValue : GoodIn wsX4_many (wsV RX4 159 RX4 yX4_manyValue wsX4_manyValue) := goodIn_app (goodIn_of _ (by decide +kernel)) ggX4_many_X4_manyValue
theorem dX4_many_0 : decode cX4_many 0 = .ok (.iload_n 1, 1) := by decide +kernel
theorem dX4_many_1 : decode cX4_many 1 = .ok (.iconst 0, 1) := by decide +kernel
theorem dX4_many_2 : decode cX4_many 2 = .ok (.bipush 13, 2) := by decide +kernel
theorem dX4_many_4 : decode cX4_many 4 = .ok (.invokestatic 73, 3) := by decide +kernel
theorem dX4_many_7 : decode cX4_many 7 = .ok (.aload_n 0, 1) := by decide +kernel
theorem dX4_many_8 : decode cX4_many 8 = .ok (.iload_n 1, 1) := by decide +kernel
theorem dX4_many_9 : decode cX4_many 9 = .ok (.invokevirtual 159, 3) := by decide +kernel
theorem dX4_many_12 : decode cX4_many 12 = .ok (.ireturn, 1) := by decide +kernel
set_option maxRecDepth 20000 in
theorem ggX4_count_X2_trees : GoodIn wsX4_count wsX2_trees := goodIn_r _ [6, 7, 8, 9, 10, 11, 5, 12, 13, 14, 15, 16, 17, 18, 30, 31, 32, 33] (by decide +kernel) (by decide +kernel)
set_option maxRecDepth 20000 in
theorem gX4_count_X2_trees : GoodIn wsX4_count (wsV RX4 162 RX2 yX2_trees wsX2_trees) := goodIn_app (goodIn_of _ (by decide +kernel)) ggX4_count_X2_trees
theorem dX4_count_0 : decode cX4_count 0 = .ok (.aload_n 0, 1) := by decide +kernel
theorem dX4_count_1 : decode cX4_count 1 = .ok (.getfield 10, 3) := by decide +kernel
theorem dX4_count_4 : decode cX4_count 4 = .ok (.invokevirtual 162, 3) := by decide +kernel
theorem dX4_count_7 : decode cX4_count 7 = .ok (.lreturn, 1) := by decide +kernel
set_option maxRecDepth 20000 in
theorem ggX4_isLasting_X4_requireFast : GoodIn wsX4_isLasting wsX4_requireFast := goodIn_ca (goodIn_r _ [5, 6, 7, 8, 9, 10, 11, 12, 13, 14, 15, 16, 17, 18, 19, 20, 21, 22, 23, 24, 25, 26, 82, 83, 84, 85, 86, 87, 88, 89, 90, 91, 92, 93, 94, 95, 96] (by decide +kernel) (by decide +kernel)) (goodIn_sub (fun _ h => List.mem_cons_of_mem _ (List.mem_append_right _ h)) (by decide +kernel))
set_option maxRecDepth 20000 in
theorem gX4_isLasting_X4_requireFast : GoodIn wsX4_isLasting (wsV RX4 111 RX4 yX4_requireFast wsX4_requireFast) := goodIn_app (goodIn_of _ (by decide +kernel)) ggX4_isLasting_X4_requireFast
set_option maxRecDepth 20000 in
theorem ggX4_isLasting_X4_liesLasting : GoodIn wsX4_isLasting wsX4_liesLasting := goodIn_r _ [30, 31, 32, 33, 34, 35, 36, 37, 38, 39, 40, 41, 42, 43, 44, 45, 46, 47, 48, 49, 50, 51, 52, 53, 54, 55, 56, 57, 58, 59, 60, 61, 62, 63, 64, 65, 66, 67, 68, 69, 70, 71, 72, 73, 74, 75, 76, 77, 78, 79, 80, 81, 82, 83, 84, 85, 86, 87, 88, 89, 90, 91, 92, 97, 98, 99, 93, 94, 95, 96] (by decide +kernel) (by decide +kernel)
set_option maxRecDepth 20000 in
theorem gX4_isLasting_X4_liesLasting : GoodIn wsX4_isLasting (wsV RX4 180 RX4 yX4_liesLasting wsX4_liesLasting) := goodIn_app (goodIn_of _ (by decide +kernel)) ggX4_isLasting_X4_liesLasting
theorem dX4_isLasting_0 : decode cX4_isLasting 0 = .ok (.aload_n 0, 1) := by decide +kernel
theorem dX4_isLasting_1 : decode cX4_isLasting 1 = .ok (.invokevirtual 111, 3) := by decide +kernel
theorem dX4_isLasting_4 : decode cX4_isLasting 4 = .ok (.aload_n 0, 1) := by decide +kernel
theorem dX4_isLasting_5 : decode cX4_isLasting 5 = .ok (.invokevirtual 180, 3) := by decide +kernel
theorem dX4_isLasting_8 : decode cX4_isLasting 8 = .ok (.ireturn, 1) := by decide +kernel
set_option maxRecDepth 20000 in
theorem ggX4_neutral_X4_requireSpot : GoodIn wsX4_neutral wsX4_requireSpot := goodIn_ca (goodIn_r _ [7, 8, 9, 10, 11, 12, 13, 14, 15, 16, 67, 68, 69, 70, 71, 72, 73, 74, 75, 76, 77, 81, 82, 83, 84] (by decide +kernel) (by decide +kernel)) (goodIn_sub (fun _ h => List.mem_cons_of_mem _ (List.mem_append_left _ (List.mem_append_right _ h))) (by decide +kernel))
set_option maxRecDepth 20000 in
theorem gX4_neutral_X4_requireSpot : GoodIn wsX4_neutral (wsV RX4 86 RX4 yX4_requireSpot wsX4_requireSpot) := goodIn_app (goodIn_of _ (by decide +kernel)) ggX4_neutral_X4_requireSpot
set_option maxRecDepth 20000 in
theorem ggX4_neutral_X4_requireFast : GoodIn wsX4_neutral wsX4_requireFast := goodIn_ca (goodIn_r _ [20, 21, 22, 10, 23, 24, 25, 14, 26, 16, 27, 28, 29, 30, 31, 32, 33, 34, 35, 36, 37, 38, 67, 68, 69, 70, 71, 72, 73, 74, 75, 76, 77, 81, 82, 83, 84] (by decide +kernel) (by decide +kernel)) (goodIn_sub (fun _ h => List.mem_cons_of_mem _ (List.mem_append_right _ h)) (by decide +kernel))
set_option maxRecDepth 20000 in
theorem gX4_neutral_X4_requireFast : GoodIn wsX4_neutral (wsV RX4 111 RX4 yX4_requireFast wsX4_requireFast) := goodIn_app (goodIn_of _ (by decide +kernel)) ggX4_neutral_X4_requireFast
set_option maxRecDepth 20000 in
theorem ggX4_neutral_X0_becomeNeutral : GoodIn wsX4_neutral wsX0_becomeNeutral := goodIn_r _ [43, 44, 45, 46, 47, 48, 49, 50, 42, 51, 52, 53, 54, 55, 56, 57, 58, 59, 60, 61, 62, 63, 64, 65, 66, 78, 79, 80, 81, 82, 83, 84] (by decide +kernel) (by decide +kernel)
set_option maxRecDepth 20000 in
theorem gX4_neutral_X0_becomeNeutral : GoodIn wsX4_neutral (wsV RX4 184 RX0 yX0_becomeNeutral wsX0_becomeNeutral) := goodIn_app (goodIn_of _ (by decide +kernel)) ggX4_neutral_X0_becomeNeutral
theorem dX4_neutral_0 : decode cX4_neutral 0 = .ok (.aload_n 0, 1) := by decide +kernel
theorem dX4_neutral_1 : decode cX4_neutral 1 = .ok (.iload_n 1, 1) := by decide +kernel
theorem dX4_neutral_2 : decode cX4_neutral 2 = .ok (.invokevirtual 86, 3) := by decide +kernel
theorem dX4_neutral_5 : decode cX4_neutral 5 = .ok (.aload_n 0, 1) := by decide +kernel
theorem dX4_neutral_6 : decode cX4_neutral 6 = .ok (.invokevirtual 111, 3) := by decide +kernel
theorem dX4_neutral_9 : decode cX4_neutral 9 = .ok (.aload_n 0, 1) := by decide +kernel
theorem dX4_neutral_10 : decode cX4_neutral 10 = .ok (.getfield 28, 3) := by decide +kernel
theorem dX4_neutral_13 : decode cX4_neutral 13 = .ok (.invokevirtual 184, 3) := by decide +kernel
theorem dX4_neutral_16 : decode cX4_neutral 16 = .ok (.aload_n 0, 1) := by decide +kernel
theorem dX4_neutral_17 : decode cX4_neutral 17 = .ok (.getfield 28, 3) := by decide +kernel
theorem dX4_neutral_20 : decode cX4_neutral 20 = .ok (.getfield 89, 3) := by decide +kernel
theorem dX4_neutral_23 : decode cX4_neutral 23 = .ok (.iload_n 1, 1) := by decide +kernel
theorem dX4_neutral_24 : decode cX4_neutral 24 = .ok (.iaload, 1) := by decide +kernel
theorem dX4_neutral_25 : decode cX4_neutral 25 = .ok (.ireturn, 1) := by decide +kernel
set_option maxRecDepth 20000 in
theorem ggX4_order_X4_requireFast : GoodIn wsX4_order wsX4_requireFast := goodIn_ca (goodIn_r _ [10, 11, 12, 13, 14, 15, 16, 17, 18, 19, 20, 21, 22, 23, 24, 25, 26, 27, 28, 29, 30, 31, 77, 78, 79, 80, 81, 82, 83, 84, 85, 86, 87, 91, 92, 93, 94] (by decide +kernel) (by decide +kernel)) (goodIn_sub (fun _ h => List.mem_cons_of_mem _ (List.mem_append_right _ h)) (by decide +kernel))
set_option maxRecDepth 20000 in
theorem gX4_order_X4_requireFast : GoodIn wsX4_order (wsV RX4 111 RX4 yX4_requireFast wsX4_requireFast) := goodIn_app (goodIn_of _ (by decide +kernel)) ggX4_order_X4_requireFast
set_option maxRecDepth 20000 in
theorem ggX4_order_X0_copyRow : GoodIn wsX4_order wsX0_copyRow := goodIn_r _ [36, 37, 38, 39, 40, 41, 88, 89, 90] (by decide +kernel) (by decide +kernel)
set_option maxRecDepth 20000 in
theorem gX4_order_X0_copyRow : GoodIn wsX4_order (wsV RX4 190 RX0 yX0_copyRow wsX0_copyRow) := goodIn_app (goodIn_of _ (by decide +kernel)) ggX4_order_X0_copyRow
set_option maxRecDepth 20000 in
theorem ggX4_order_X0_roll : GoodIn wsX4_order wsX0_roll := goodIn_r _ [45, 46, 47, 48, 49, 50, 51, 52, 53, 54, 35, 55, 56, 57, 58, 37, 59, 60, 61, 62, 63, 88, 89, 90, 91, 92, 93, 94] (by decide +kernel) (by decide +kernel)
set_option maxRecDepth 20000 in
theorem gX4_order_X0_roll : GoodIn wsX4_order (wsV RX4 193 RX0 yX0_roll wsX0_roll) := goodIn_app (goodIn_of _ (by decide +kernel)) ggX4_order_X0_roll
set_option maxRecDepth 20000 in
theorem ggX4_order_X0_becomeNeutral : GoodIn wsX4_order wsX0_becomeNeutral := goodIn_r _ [67, 56, 57, 37, 58, 68, 43, 44, 35, 45, 46, 47, 48, 49, 50, 51, 52, 53, 54, 55, 59, 60, 61, 62, 63, 88, 89, 90, 91, 92, 93, 94] (by decide +kernel) (by decide +kernel)
set_option maxRecDepth 20000 in
theorem gX4_order_X0_becomeNeutral : GoodIn wsX4_order (wsV RX4 184 RX0 yX0_becomeNeutral wsX0_becomeNeutral) := goodIn_app (goodIn_of _ (by decide +kernel)) ggX4_order_X0_becomeNeutral
set_option maxRecDepth 20000 in
theorem ggX4_order_X0_addRow : GoodIn wsX4_order wsX0_addRow := goodIn_r _ [72, 56, 57, 37, 88, 89, 90, 91, 92, 93, 94] (by decide +kernel) (by decide +kernel)
set_option maxRecDepth 20000 in
theorem gX4_order_X0_addRow : GoodIn wsX4_order (wsV RX4 132 RX0 yX0_addRow wsX0_addRow) := goodIn_app (goodIn_of _ (by decide +kernel)) ggX4_order_X0_addRow
set_option maxRecDepth 20000 in
theorem ggX4_order_X0_isLike : GoodIn wsX4_order wsX0_isLike := goodIn_r _ [76, 56, 57, 37, 88, 89, 90, 91, 92, 93, 94] (by decide +kernel) (by decide +kernel)
set_option maxRecDepth 20000 in
theorem gX4_order_X0_isLike : GoodIn wsX4_order (wsV RX4 196 RX0 yX0_isLike wsX0_isLike) := goodIn_app (goodIn_of _ (by decide +kernel)) ggX4_order_X0_isLike
theorem dX4_order_0 : decode cX4_order 0 = .ok (.aload_n 0, 1) := by decide +kernel
theorem dX4_order_1 : decode cX4_order 1 = .ok (.invokevirtual 111, 3) := by decide +kernel
theorem dX4_order_4 : decode cX4_order 4 = .ok (.aload_n 0, 1) := by decide +kernel
theorem dX4_order_5 : decode cX4_order 5 = .ok (.getfield 25, 3) := by decide +kernel
theorem dX4_order_8 : decode cX4_order 8 = .ok (.aload_n 0, 1) := by decide +kernel
theorem dX4_order_9 : decode cX4_order 9 = .ok (.getfield 21, 3) := by decide +kernel
theorem dX4_order_12 : decode cX4_order 12 = .ok (.getfield 89, 3) := by decide +kernel
theorem dX4_order_15 : decode cX4_order 15 = .ok (.invokevirtual 190, 3) := by decide +kernel
theorem dX4_order_18 : decode cX4_order 18 = .ok (.aload_n 0, 1) := by decide +kernel
theorem dX4_order_19 : decode cX4_order 19 = .ok (.getfield 25, 3) := by decide +kernel
theorem dX4_order_22 : decode cX4_order 22 = .ok (.invokevirtual 193, 3) := by decide +kernel
theorem dX4_order_25 : decode cX4_order 25 = .ok (.aload_n 0, 1) := by decide +kernel
theorem dX4_order_26 : decode cX4_order 26 = .ok (.getfield 28, 3) := by decide +kernel
theorem dX4_order_29 : decode cX4_order 29 = .ok (.invokevirtual 184, 3) := by decide +kernel
theorem dX4_order_32 : decode cX4_order 32 = .ok (.aload_n 0, 1) := by decide +kernel
theorem dX4_order_33 : decode cX4_order 33 = .ok (.getfield 31, 3) := by decide +kernel
theorem dX4_order_36 : decode cX4_order 36 = .ok (.aload_n 0, 1) := by decide +kernel
theorem dX4_order_37 : decode cX4_order 37 = .ok (.getfield 28, 3) := by decide +kernel
theorem dX4_order_40 : decode cX4_order 40 = .ok (.getfield 89, 3) := by decide +kernel
theorem dX4_order_43 : decode cX4_order 43 = .ok (.invokevirtual 190, 3) := by decide +kernel
theorem dX4_order_46 : decode cX4_order 46 = .ok (.iconst 1, 1) := by decide +kernel
theorem dX4_order_47 : decode cX4_order 47 = .ok (.istore_n 1, 1) := by decide +kernel
theorem dX4_order_48 : decode cX4_order 48 = .ok (.iload_n 1, 1) := by decide +kernel
theorem dX4_order_49 : decode cX4_order 49 = .ok (.bipush 100, 2) := by decide +kernel
theorem dX4_order_51 : decode cX4_order 51 = .ok (.if_icmp .gt 49, 3) := by decide +kernel
theorem dX4_order_54 : decode cX4_order 54 = .ok (.aload_n 0, 1) := by decide +kernel
theorem dX4_order_55 : decode cX4_order 55 = .ok (.getfield 31, 3) := by decide +kernel
theorem dX4_order_58 : decode cX4_order 58 = .ok (.aload_n 0, 1) := by decide +kernel
theorem dX4_order_59 : decode cX4_order 59 = .ok (.getfield 25, 3) := by decide +kernel
theorem dX4_order_62 : decode cX4_order 62 = .ok (.getfield 89, 3) := by decide +kernel
theorem dX4_order_65 : decode cX4_order 65 = .ok (.invokevirtual 132, 3) := by decide +kernel
theorem dX4_order_68 : decode cX4_order 68 = .ok (.aload_n 0, 1) := by decide +kernel
theorem dX4_order_69 : decode cX4_order 69 = .ok (.getfield 31, 3) := by decide +kernel
theorem dX4_order_72 : decode cX4_order 72 = .ok (.invokevirtual 193, 3) := by decide +kernel
theorem dX4_order_75 : decode cX4_order 75 = .ok (.aload_n 0, 1) := by decide +kernel
theorem dX4_order_76 : decode cX4_order 76 = .ok (.getfield 31, 3) := by decide +kernel
theorem dX4_order_79 : decode cX4_order 79 = .ok (.aload_n 0, 1) := by decide +kernel
theorem dX4_order_80 : decode cX4_order 80 = .ok (.getfield 28, 3) := by decide +kernel
theorem dX4_order_83 : decode cX4_order 83 = .ok (.getfield 89, 3) := by decide +kernel
theorem dX4_order_86 : decode cX4_order 86 = .ok (.invokevirtual 196, 3) := by decide +kernel
theorem dX4_order_89 : decode cX4_order 89 = .ok (.ifCond .eq 5, 3) := by decide +kernel
theorem dX4_order_92 : decode cX4_order 92 = .ok (.iload_n 1, 1) := by decide +kernel
theorem dX4_order_93 : decode cX4_order 93 = .ok (.ireturn, 1) := by decide +kernel
theorem dX4_order_94 : decode cX4_order 94 = .ok (.iinc 1 1, 3) := by decide +kernel
theorem dX4_order_97 : decode cX4_order 97 = .ok (.goto (-49), 3) := by decide +kernel
theorem dX4_order_100 : decode cX4_order 100 = .ok (.iconst (-1), 1) := by decide +kernel
theorem dX4_order_101 : decode cX4_order 101 = .ok (.ireturn, 1) := by decide +kernel
set_option maxRecDepth 20000 in
theorem ggX4_canPay_X4_requireFast : GoodIn wsX4_canPay wsX4_requireFast := goodIn_ca (goodIn_r _ [6, 7, 8, 9, 10, 11, 12, 13, 14, 15, 16, 17, 18, 19, 20, 21, 22, 23, 24, 25, 26, 27, 88, 89, 90, 91, 92, 93, 94, 95, 96, 97, 98, 99, 100, 101, 102] (by decide +kernel) (by decide +kernel)) (goodIn_sub (fun _ h => List.mem_cons_of_mem _ (List.mem_append_right _ h)) (by decide +kernel))
set_option maxRecDepth 20000 in
theorem gX4_canPay_X4_requireFast : GoodIn wsX4_canPay (wsV RX4 111 RX4 yX4_requireFast wsX4_requireFast) := goodIn_app (goodIn_of _ (by decide +kernel)) ggX4_canPay_X4_requireFast
set_option maxRecDepth 20000 in
theorem ggX4_canPay_X1_isPayable : GoodIn wsX4_canPay wsX1_isPayable := goodIn_r _ [32, 33, 34, 35, 36, 31, 37, 38, 39, 40, 41, 42, 43, 44, 45, 46, 47, 48, 49, 50, 51, 52, 53, 54, 55, 56, 57, 58, 59, 60, 61, 62, 63, 64, 65, 66, 67, 68, 69, 70, 71, 72, 73, 74, 75, 76, 77, 78, 79, 80, 81, 82, 83, 84, 85, 86, 87, 103, 104, 105, 106, 99, 100, 101, 102, 107, 108, 109] (by decide +kernel) (by decide +kernel)
set_option maxRecDepth 20000 in
theorem gX4_canPay_X1_isPayable : GoodIn wsX4_canPay (wsV RX4 200 RX1 yX1_isPayable wsX1_isPayable) := goodIn_app (goodIn_of _ (by decide +kernel)) ggX4_canPay_X1_isPayable
theorem dX4_canPay_0 : decode cX4_canPay 0 = .ok (.aload_n 0, 1) := by decide +kernel
theorem dX4_canPay_1 : decode cX4_canPay 1 = .ok (.invokevirtual 111, 3) := by decide +kernel
theorem dX4_canPay_4 : decode cX4_canPay 4 = .ok (.aload_n 0, 1) := by decide +kernel
theorem dX4_canPay_5 : decode cX4_canPay 5 = .ok (.getfield 44, 3) := by decide +kernel
theorem dX4_canPay_8 : decode cX4_canPay 8 = .ok (.invokevirtual 200, 3) := by decide +kernel
theorem dX4_canPay_11 : decode cX4_canPay 11 = .ok (.ireturn, 1) := by decide +kernel
set_option maxRecDepth 20000 in
theorem ggX4_weakest_X4_requireFast : GoodIn wsX4_weakest wsX4_requireFast := goodIn_ca (goodIn_r _ [6, 7, 8, 9, 10, 11, 12, 13, 14, 15, 16, 17, 18, 19, 20, 21, 22, 23, 24, 25, 26, 27, 97, 98, 99, 100, 101, 102, 103, 104, 105, 106, 107, 108, 109, 110, 111] (by decide +kernel) (by decide +kernel)) (goodIn_sub (fun _ h => List.mem_cons_of_mem _ (List.mem_append_right _ h)) (by decide +kernel))
set_option maxRecDepth 20000 in
theorem gX4_weakest_X4_requireFast : GoodIn wsX4_weakest (wsV RX4 111 RX4 yX4_requireFast wsX4_requireFast) := goodIn_app (goodIn_of _ (by decide +kernel)) ggX4_weakest_X4_requireFast
set_option maxRecDepth 20000 in
theorem ggX4_weakest_X1_weakestNode : GoodIn wsX4_weakest wsX1_weakestNode := goodIn_r _ [32, 33, 34, 35, 36, 37, 38, 39, 40, 31, 41, 42, 43, 44, 45, 46, 47, 48, 49, 50, 51, 52, 53, 54, 55, 56, 57, 58, 59, 60, 61, 62, 63, 64, 65, 66, 67, 68, 69, 70, 71, 72, 73, 74, 75, 76, 77, 78, 79, 80, 81, 82, 83, 84, 85, 86, 87, 88, 89, 90, 91, 92, 93, 94, 95, 96, 112, 113, 114, 115, 108, 109, 110, 111, 116, 117, 118] (by decide +kernel) (by decide +kernel)
set_option maxRecDepth 20000 in
theorem gX4_weakest_X1_weakestNode : GoodIn wsX4_weakest (wsV RX4 203 RX1 yX1_weakestNode wsX1_weakestNode) := goodIn_app (goodIn_of _ (by decide +kernel)) ggX4_weakest_X1_weakestNode
theorem dX4_weakest_0 : decode cX4_weakest 0 = .ok (.aload_n 0, 1) := by decide +kernel
theorem dX4_weakest_1 : decode cX4_weakest 1 = .ok (.invokevirtual 111, 3) := by decide +kernel
theorem dX4_weakest_4 : decode cX4_weakest 4 = .ok (.aload_n 0, 1) := by decide +kernel
theorem dX4_weakest_5 : decode cX4_weakest 5 = .ok (.getfield 44, 3) := by decide +kernel
theorem dX4_weakest_8 : decode cX4_weakest 8 = .ok (.invokevirtual 203, 3) := by decide +kernel
theorem dX4_weakest_11 : decode cX4_weakest 11 = .ok (.ireturn, 1) := by decide +kernel
set_option maxRecDepth 20000 in
theorem ggX4_digest_X4_manyValue : GoodIn wsX4_digest wsX4_manyValue := goodIn_r _ [10, 3, 4, 5, 11, 12, 13, 14, 15, 16, 17, 18, 19, 20, 21, 22, 23, 24, 25, 26, 27, 28, 29, 30, 31, 32, 33, 34, 35, 36, 37, 38, 39, 40, 41, 42, 43, 44, 45, 46, 47, 48, 49, 50, 51, 52, 53, 54, 55, 56, 57, 58, 59, 60, 61, 62, 63, 64, 65, 66, 67, 68, 69, 70, 71, 72, 73, 74, 75, 76, 77, 78, 79, 80, 81, 82, 83, 84, 85, 86, 87, 88, 89, 90, 91, 92, 93, 94, 95, 224, 225, 226, 227, 228, 229, 230, 231, 232, 233, 234, 235, 236, 237, 238, 239, 240, 241, 242, 243, 244, 245, 246, 247, 248] (by decide +kernel) (by decide +kernel)
set_option maxRecDepth 20000 in
theorem gX4_digest_X4_manyValue : GoodIn wsX4_digest (wsV RX4 159 RX4 yX4_manyValue wsX4_manyValue) := goodIn_app (goodIn_of _ (by decide +kernel)) ggX4_digest_X4_manyValue
set_option maxRecDepth 20000 in
theorem ggX4_digest_X4_spotValue : GoodIn wsX4_digest wsX4_spotValue := goodIn_r _ [99, 5, 100, 3, 101, 102, 103, 15, 104, 105, 41, 42, 26, 43, 28, 44, 30, 106, 88, 89, 75, 90, 77, 91, 92, 93, 94, 20, 95, 54, 224, 225, 226, 227, 228, 229, 230, 231, 232, 233, 234, 242, 243, 244, 235, 236, 237, 238, 239, 240, 241] (by decide +kernel) (by decide +kernel)
set_option maxRecDepth 20000 in
theorem gX4_digest_X4_spotValue : GoodIn wsX4_digest (wsV RX4 155 RX4 yX4_spotValue wsX4_spotValue) := goodIn_app (goodIn_of _ (by decide +kernel)) ggX4_digest_X4_spotValue
set_option maxRecDepth 20000 in
theorem ggX4_digest_X4_digestNode : GoodIn wsX4_digest wsX4_digestNode := goodIn_r _ [110, 2, 14, 111, 3, 4, 102, 224, 225, 226, 227, 228, 229, 230, 231, 232, 233, 234, 245, 246, 247, 248, 235, 236, 237, 238] (by decide +kernel) (by decide +kernel)
set_option maxRecDepth 20000 in
theorem gX4_digest_X4_digestNode : GoodIn wsX4_digest (wsV RX4 210 RX4 yX4_digestNode wsX4_digestNode) := goodIn_app (goodIn_of _ (by decide +kernel)) ggX4_digest_X4_digestNode
set_option maxRecDepth 20000 in
theorem ggX4_digest_X4_digestKept : GoodIn wsX4_digest wsX4_digestKept := goodIn_r _ [115, 13, 3, 4, 2, 116, 224, 225, 226, 227, 228, 229, 230, 231, 232, 233, 234, 235, 236, 237, 238] (by decide +kernel) (by decide +kernel)
set_option maxRecDepth 20000 in
theorem gX4_digest_X4_digestKept : GoodIn wsX4_digest (wsV RX4 214 RX4 yX4_digestKept wsX4_digestKept) := goodIn_app (goodIn_of _ (by decide +kernel)) ggX4_digest_X4_digestKept
set_option maxRecDepth 20000 in
theorem ggX4_digest_X2_trees : GoodIn wsX4_digest wsX2_trees := goodIn_r _ [120, 49, 121, 122, 123, 124, 20, 125, 22, 54, 126, 127, 128, 129, 235, 236, 237, 238] (by decide +kernel) (by decide +kernel)
set_option maxRecDepth 20000 in
theorem gX4_digest_X2_trees : GoodIn wsX4_digest (wsV RX4 162 RX2 yX2_trees wsX2_trees) := goodIn_app (goodIn_of _ (by decide +kernel)) ggX4_digest_X2_trees
set_option maxRecDepth 20000 in
theorem ggX4_digest_X0_burningOrder : GoodIn wsX4_digest wsX0_burningOrder := goodIn_r _ [133, 28, 29, 134, 135, 136, 26, 137, 30, 138, 51, 52, 20, 53, 54, 242, 243, 244, 235, 236, 237, 238] (by decide +kernel) (by decide +kernel)
set_option maxRecDepth 20000 in
theorem gX4_digest_X0_burningOrder : GoodIn wsX4_digest (wsV RX4 187 RX0 yX0_burningOrder wsX0_burningOrder) := goodIn_app (goodIn_of _ (by decide +kernel)) ggX4_digest_X0_burningOrder
set_option maxRecDepth 20000 in
theorem ggX4_digest_X2_isFast : GoodIn wsX4_digest wsX2_isFast := goodIn_r _ [48, 49, 50, 51, 52, 20, 53, 54, 55, 56, 57, 58, 59, 60, 61, 235, 236, 237, 238] (by decide +kernel) (by decide +kernel)
set_option maxRecDepth 20000 in
theorem gX4_digest_X2_isFast : GoodIn wsX4_digest (wsV RX4 218 RX2 yX2_isFast wsX2_isFast) := goodIn_app (goodIn_of _ (by decide +kernel)) ggX4_digest_X2_isFast
set_option maxRecDepth 20000 in
theorem ggX4_digest_X4_digestFast : GoodIn wsX4_digest wsX4_digestFast := goodIn_r _ [142, 2, 143, 3, 4, 100, 144, 14, 145, 146, 147, 9, 148, 5, 36, 37, 38, 26, 39, 28, 29, 40, 41, 42, 43, 44, 30, 149, 150, 151, 152, 153, 154, 155, 156, 157, 158, 159, 160, 161, 162, 163, 164, 165, 35, 166, 167, 168, 169, 170, 171, 172, 173, 174, 175, 176, 177, 178, 179, 180, 181, 182, 183, 184, 185, 186, 187, 188, 189, 190, 191, 31, 32, 33, 34, 192, 193, 194, 65, 195, 196, 197, 198, 199, 200, 201, 202, 203, 67, 204, 205, 206, 207, 208, 209, 210, 211, 212, 213, 63, 64, 66, 214, 215, 216, 217, 218, 219, 220, 221, 222, 223, 224, 225, 226, 227, 228, 229, 230, 231, 232, 233, 234, 235, 236, 237, 238, 242, 243, 244, 245, 246, 247, 248] (by decide +kernel) (by decide +kernel)
set_option maxRecDepth 20000 in
theorem gX4_digest_X4_digestFast : GoodIn wsX4_digest (wsV RX4 221 RX4 yX4_digestFast wsX4_digestFast) := goodIn_app (goodIn_of _ (by decide +kernel)) ggX4_digest_X4_digestFast
theorem dX4_digest_0 : decode cX4_digest 0 = .ok (.ldc2_w 206, 3) := by decide +kernel
theorem dX4_digest_3 : decode cX4_digest 3 = .ok (.lstore_n 1, 1) := by decide +kernel
theorem dX4_digest_4 : decode cX4_digest 4 = .ok (.iconst 0, 1) := by decide +kernel
theorem dX4_digest_5 : decode cX4_digest 5 = .ok (.istore_n 3, 1) := by decide +kernel
theorem dX4_digest_6 : decode cX4_digest 6 = .ok (.iload_n 3, 1) := by decide +kernel
theorem dX4_digest_7 : decode cX4_digest 7 = .ok (.bipush 14, 2) := by decide +kernel
theorem dX4_digest_9 : decode cX4_digest 9 = .ok (.if_icmp .ge 22, 3) := by decide +kernel
theorem dX4_digest_12 : decode cX4_digest 12 = .ok (.lload_n 1, 1) := by decide +kernel
theorem dX4_digest_13 : decode cX4_digest 13 = .ok (.ldc2_w 208, 3) := by decide +kernel
theorem dX4_digest_16 : decode cX4_digest 16 = .ok (.lmul, 1) := by decide +kernel
theorem dX4_digest_17 : decode cX4_digest 17 = .ok (.aload_n 0, 1) := by decide +kernel
theorem dX4_digest_18 : decode cX4_digest 18 = .ok (.iload_n 3, 1) := by decide +kernel
theorem dX4_digest_19 : decode cX4_digest 19 = .ok (.invokevirtual 159, 3) := by decide +kernel
theorem dX4_digest_22 : decode cX4_digest 22 = .ok (.i2l, 1) := by decide +kernel
theorem dX4_digest_23 : decode cX4_digest 23 = .ok (.ladd, 1) := by decide +kernel
theorem dX4_digest_24 : decode cX4_digest 24 = .ok (.lstore_n 1, 1) := by decide +kernel
theorem dX4_digest_25 : decode cX4_digest 25 = .ok (.iinc 3 1, 3) := by decide +kernel
theorem dX4_digest_28 : decode cX4_digest 28 = .ok (.goto (-22), 3) := by decide +kernel
theorem dX4_digest_31 : decode cX4_digest 31 = .ok (.iconst 0, 1) := by decide +kernel
theorem dX4_digest_32 : decode cX4_digest 32 = .ok (.istore_n 3, 1) := by decide +kernel
theorem dX4_digest_33 : decode cX4_digest 33 = .ok (.iload_n 3, 1) := by decide +kernel
theorem dX4_digest_34 : decode cX4_digest 34 = .ok (.aload_n 0, 1) := by decide +kernel
theorem dX4_digest_35 : decode cX4_digest 35 = .ok (.getfield 10, 3) := by decide +kernel
theorem dX4_digest_38 : decode cX4_digest 38 = .ok (.getfield 53, 3) := by decide +kernel
theorem dX4_digest_41 : decode cX4_digest 41 = .ok (.if_icmp .ge 40, 3) := by decide +kernel
theorem dX4_digest_44 : decode cX4_digest 44 = .ok (.iconst 0, 1) := by decide +kernel
theorem dX4_digest_45 : decode cX4_digest 45 = .ok (.istore 4, 2) := by decide +kernel
theorem dX4_digest_47 : decode cX4_digest 47 = .ok (.iload 4, 2) := by decide +kernel
theorem dX4_digest_49 : decode cX4_digest 49 = .ok (.bipush 7, 2) := by decide +kernel
theorem dX4_digest_51 : decode cX4_digest 51 = .ok (.if_icmp .ge 24, 3) := by decide +kernel
theorem dX4_digest_54 : decode cX4_digest 54 = .ok (.lload_n 1, 1) := by decide +kernel
theorem dX4_digest_55 : decode cX4_digest 55 = .ok (.ldc2_w 208, 3) := by decide +kernel
theorem dX4_digest_58 : decode cX4_digest 58 = .ok (.lmul, 1) := by decide +kernel
theorem dX4_digest_59 : decode cX4_digest 59 = .ok (.aload_n 0, 1) := by decide +kernel
theorem dX4_digest_60 : decode cX4_digest 60 = .ok (.iload_n 3, 1) := by decide +kernel
theorem dX4_digest_61 : decode cX4_digest 61 = .ok (.iload 4, 2) := by decide +kernel
theorem dX4_digest_63 : decode cX4_digest 63 = .ok (.invokevirtual 155, 3) := by decide +kernel
theorem dX4_digest_66 : decode cX4_digest 66 = .ok (.i2l, 1) := by decide +kernel
theorem dX4_digest_67 : decode cX4_digest 67 = .ok (.ladd, 1) := by decide +kernel
theorem dX4_digest_68 : decode cX4_digest 68 = .ok (.lstore_n 1, 1) := by decide +kernel
theorem dX4_digest_69 : decode cX4_digest 69 = .ok (.iinc 4 1, 3) := by decide +kernel
theorem dX4_digest_72 : decode cX4_digest 72 = .ok (.goto (-25), 3) := by decide +kernel
theorem dX4_digest_75 : decode cX4_digest 75 = .ok (.iinc 3 1, 3) := by decide +kernel
theorem dX4_digest_78 : decode cX4_digest 78 = .ok (.goto (-45), 3) := by decide +kernel
theorem dX4_digest_81 : decode cX4_digest 81 = .ok (.iconst 0, 1) := by decide +kernel
theorem dX4_digest_82 : decode cX4_digest 82 = .ok (.istore_n 3, 1) := by decide +kernel
theorem dX4_digest_83 : decode cX4_digest 83 = .ok (.iload_n 3, 1) := by decide +kernel
theorem dX4_digest_84 : decode cX4_digest 84 = .ok (.aload_n 0, 1) := by decide +kernel
theorem dX4_digest_85 : decode cX4_digest 85 = .ok (.getfield 10, 3) := by decide +kernel
theorem dX4_digest_88 : decode cX4_digest 88 = .ok (.getfield 53, 3) := by decide +kernel
theorem dX4_digest_91 : decode cX4_digest 91 = .ok (.if_icmp .ge 16, 3) := by decide +kernel
theorem dX4_digest_94 : decode cX4_digest 94 = .ok (.aload_n 0, 1) := by decide +kernel
theorem dX4_digest_95 : decode cX4_digest 95 = .ok (.lload_n 1, 1) := by decide +kernel
theorem dX4_digest_96 : decode cX4_digest 96 = .ok (.iload_n 3, 1) := by decide +kernel
theorem dX4_digest_97 : decode cX4_digest 97 = .ok (.invokevirtual 210, 3) := by decide +kernel
theorem dX4_digest_100 : decode cX4_digest 100 = .ok (.lstore_n 1, 1) := by decide +kernel
theorem dX4_digest_101 : decode cX4_digest 101 = .ok (.iinc 3 1, 3) := by decide +kernel
theorem dX4_digest_104 : decode cX4_digest 104 = .ok (.goto (-21), 3) := by decide +kernel
theorem dX4_digest_107 : decode cX4_digest 107 = .ok (.aload_n 0, 1) := by decide +kernel
theorem dX4_digest_108 : decode cX4_digest 108 = .ok (.lload_n 1, 1) := by decide +kernel
theorem dX4_digest_109 : decode cX4_digest 109 = .ok (.bipush 6, 2) := by decide +kernel
theorem dX4_digest_111 : decode cX4_digest 111 = .ok (.invokevirtual 210, 3) := by decide +kernel
theorem dX4_digest_114 : decode cX4_digest 114 = .ok (.lstore_n 1, 1) := by decide +kernel
theorem dX4_digest_115 : decode cX4_digest 115 = .ok (.aload_n 0, 1) := by decide +kernel
theorem dX4_digest_116 : decode cX4_digest 116 = .ok (.lload_n 1, 1) := by decide +kernel
theorem dX4_digest_117 : decode cX4_digest 117 = .ok (.invokevirtual 214, 3) := by decide +kernel
theorem dX4_digest_120 : decode cX4_digest 120 = .ok (.lstore_n 1, 1) := by decide +kernel
theorem dX4_digest_121 : decode cX4_digest 121 = .ok (.lload_n 1, 1) := by decide +kernel
theorem dX4_digest_122 : decode cX4_digest 122 = .ok (.ldc2_w 208, 3) := by decide +kernel
theorem dX4_digest_125 : decode cX4_digest 125 = .ok (.lmul, 1) := by decide +kernel
theorem dX4_digest_126 : decode cX4_digest 126 = .ok (.aload_n 0, 1) := by decide +kernel
theorem dX4_digest_127 : decode cX4_digest 127 = .ok (.getfield 10, 3) := by decide +kernel
theorem dX4_digest_130 : decode cX4_digest 130 = .ok (.invokevirtual 162, 3) := by decide +kernel
theorem dX4_digest_133 : decode cX4_digest 133 = .ok (.ladd, 1) := by decide +kernel
theorem dX4_digest_134 : decode cX4_digest 134 = .ok (.lstore_n 1, 1) := by decide +kernel
theorem dX4_digest_135 : decode cX4_digest 135 = .ok (.lload_n 1, 1) := by decide +kernel
theorem dX4_digest_136 : decode cX4_digest 136 = .ok (.ldc2_w 208, 3) := by decide +kernel
theorem dX4_digest_139 : decode cX4_digest 139 = .ok (.lmul, 1) := by decide +kernel
theorem dX4_digest_140 : decode cX4_digest 140 = .ok (.aload_n 0, 1) := by decide +kernel
theorem dX4_digest_141 : decode cX4_digest 141 = .ok (.getfield 21, 3) := by decide +kernel
theorem dX4_digest_144 : decode cX4_digest 144 = .ok (.invokevirtual 187, 3) := by decide +kernel
theorem dX4_digest_147 : decode cX4_digest 147 = .ok (.i2l, 1) := by decide +kernel
theorem dX4_digest_148 : decode cX4_digest 148 = .ok (.ladd, 1) := by decide +kernel
theorem dX4_digest_149 : decode cX4_digest 149 = .ok (.lstore_n 1, 1) := by decide +kernel
theorem dX4_digest_150 : decode cX4_digest 150 = .ok (.aload_n 0, 1) := by decide +kernel
theorem dX4_digest_151 : decode cX4_digest 151 = .ok (.getfield 10, 3) := by decide +kernel
theorem dX4_digest_154 : decode cX4_digest 154 = .ok (.invokevirtual 218, 3) := by decide +kernel
theorem dX4_digest_157 : decode cX4_digest 157 = .ok (.ifCond .eq 11, 3) := by decide +kernel
theorem dX4_digest_160 : decode cX4_digest 160 = .ok (.aload_n 0, 1) := by decide +kernel
theorem dX4_digest_161 : decode cX4_digest 161 = .ok (.lload_n 1, 1) := by decide +kernel
theorem dX4_digest_162 : decode cX4_digest 162 = .ok (.invokevirtual 221, 3) := by decide +kernel
theorem dX4_digest_165 : decode cX4_digest 165 = .ok (.goto 4, 3) := by decide +kernel
theorem dX4_digest_168 : decode cX4_digest 168 = .ok (.lload_n 1, 1) := by decide +kernel
theorem dX4_digest_169 : decode cX4_digest 169 = .ok (.lreturn, 1) := by decide +kernel
set_option maxRecDepth 20000 in
theorem ggX4_requireSpot_X2_isSpot : GoodIn wsX4_requireSpot wsX2_isSpot := goodIn_r _ [8, 9, 21, 22, 23, 24] (by decide +kernel) (by decide +kernel)
set_option maxRecDepth 20000 in
theorem gX4_requireSpot_X2_isSpot : GoodIn wsX4_requireSpot (wsV RX4 224 RX2 yX2_isSpot wsX2_isSpot) := goodIn_app (goodIn_of _ (by decide +kernel)) ggX4_requireSpot_X2_isSpot
theorem dX4_requireSpot_0 : decode cX4_requireSpot 0 = .ok (.aload_n 0, 1) := by decide +kernel
theorem dX4_requireSpot_1 : decode cX4_requireSpot 1 = .ok (.getfield 10, 3) := by decide +kernel
theorem dX4_requireSpot_4 : decode cX4_requireSpot 4 = .ok (.iload_n 1, 1) := by decide +kernel
theorem dX4_requireSpot_5 : decode cX4_requireSpot 5 = .ok (.invokevirtual 224, 3) := by decide +kernel
theorem dX4_requireSpot_8 : decode cX4_requireSpot 8 = .ok (.ifCond .ne 13, 3) := by decide +kernel
theorem dX4_requireSpot_11 : decode cX4_requireSpot 11 = .ok (.new 227, 3) := by decide +kernel
theorem dX4_requireSpot_14 : decode cX4_requireSpot 14 = .ok (.dup, 1) := by decide +kernel
theorem dX4_requireSpot_15 : decode cX4_requireSpot 15 = .ok (.ldc 229, 2) := by decide +kernel
theorem dX4_requireSpot_17 : decode cX4_requireSpot 17 = .ok (.invokespecial 231, 3) := by decide +kernel
theorem dX4_requireSpot_20 : decode cX4_requireSpot 20 = .ok (.athrow, 1) := by decide +kernel
theorem dX4_requireSpot_21 : decode cX4_requireSpot 21 = .ok (.return_, 1) := by decide +kernel
set_option maxRecDepth 20000 in
theorem ggX4_requireNode_X2_isNode : GoodIn wsX4_requireNode wsX2_isNode := goodIn_r _ [8, 9, 10, 11, 7, 12, 13, 25, 26, 27, 28] (by decide +kernel) (by decide +kernel)
set_option maxRecDepth 20000 in
theorem gX4_requireNode_X2_isNode : GoodIn wsX4_requireNode (wsV RX4 232 RX2 yX2_isNode wsX2_isNode) := goodIn_app (goodIn_of _ (by decide +kernel)) ggX4_requireNode_X2_isNode
theorem dX4_requireNode_0 : decode cX4_requireNode 0 = .ok (.aload_n 0, 1) := by decide +kernel
theorem dX4_requireNode_1 : decode cX4_requireNode 1 = .ok (.getfield 10, 3) := by decide +kernel
theorem dX4_requireNode_4 : decode cX4_requireNode 4 = .ok (.iload_n 1, 1) := by decide +kernel
theorem dX4_requireNode_5 : decode cX4_requireNode 5 = .ok (.invokevirtual 232, 3) := by decide +kernel
theorem dX4_requireNode_8 : decode cX4_requireNode 8 = .ok (.ifCond .ne 13, 3) := by decide +kernel
theorem dX4_requireNode_11 : decode cX4_requireNode 11 = .ok (.new 227, 3) := by decide +kernel
theorem dX4_requireNode_14 : decode cX4_requireNode 14 = .ok (.dup, 1) := by decide +kernel
theorem dX4_requireNode_15 : decode cX4_requireNode 15 = .ok (.ldc 235, 2) := by decide +kernel
theorem dX4_requireNode_17 : decode cX4_requireNode 17 = .ok (.invokespecial 231, 3) := by decide +kernel
theorem dX4_requireNode_20 : decode cX4_requireNode 20 = .ok (.athrow, 1) := by decide +kernel
theorem dX4_requireNode_21 : decode cX4_requireNode 21 = .ok (.return_, 1) := by decide +kernel
set_option maxRecDepth 20000 in
theorem ggX4_requireFast_X2_isFast : GoodIn wsX4_requireFast wsX2_isFast := goodIn_r _ [8, 9, 10, 11, 12, 7, 13, 14, 15, 16, 17, 18, 19, 20, 21, 33, 34, 35, 36] (by decide +kernel) (by decide +kernel)
set_option maxRecDepth 20000 in
theorem gX4_requireFast_X2_isFast : GoodIn wsX4_requireFast (wsV RX4 218 RX2 yX2_isFast wsX2_isFast) := goodIn_app (goodIn_of _ (by decide +kernel)) ggX4_requireFast_X2_isFast
theorem dX4_requireFast_0 : decode cX4_requireFast 0 = .ok (.aload_n 0, 1) := by decide +kernel
theorem dX4_requireFast_1 : decode cX4_requireFast 1 = .ok (.getfield 10, 3) := by decide +kernel
theorem dX4_requireFast_4 : decode cX4_requireFast 4 = .ok (.invokevirtual 218, 3) := by decide +kernel
theorem dX4_requireFast_7 : decode cX4_requireFast 7 = .ok (.ifCond .ne 13, 3) := by decide +kernel
theorem dX4_requireFast_10 : decode cX4_requireFast 10 = .ok (.new 57, 3) := by decide +kernel
theorem dX4_requireFast_13 : decode cX4_requireFast 13 = .ok (.dup, 1) := by decide +kernel
theorem dX4_requireFast_14 : decode cX4_requireFast 14 = .ok (.ldc 239, 2) := by decide +kernel
theorem dX4_requireFast_16 : decode cX4_requireFast 16 = .ok (.invokespecial 61, 3) := by decide +kernel
theorem dX4_requireFast_19 : decode cX4_requireFast 19 = .ok (.athrow, 1) := by decide +kernel
theorem dX4_requireFast_20 : decode cX4_requireFast 20 = .ok (.return_, 1) := by decide +kernel
theorem dX4_requireWithin_0 : decode cX4_requireWithin 0 = .ok (.iload_n 0, 1) := by decide +kernel
theorem dX4_requireWithin_1 : decode cX4_requireWithin 1 = .ok (.iload_n 1, 1) := by decide +kernel
theorem dX4_requireWithin_2 : decode cX4_requireWithin 2 = .ok (.if_icmp .lt 8, 3) := by decide +kernel
theorem dX4_requireWithin_5 : decode cX4_requireWithin 5 = .ok (.iload_n 0, 1) := by decide +kernel
theorem dX4_requireWithin_6 : decode cX4_requireWithin 6 = .ok (.iload_n 2, 1) := by decide +kernel
theorem dX4_requireWithin_7 : decode cX4_requireWithin 7 = .ok (.if_icmp .le 13, 3) := by decide +kernel
theorem dX4_requireWithin_10 : decode cX4_requireWithin 10 = .ok (.new 68, 3) := by decide +kernel
theorem dX4_requireWithin_13 : decode cX4_requireWithin 13 = .ok (.dup, 1) := by decide +kernel
theorem dX4_requireWithin_14 : decode cX4_requireWithin 14 = .ok (.ldc 241, 2) := by decide +kernel
theorem dX4_requireWithin_16 : decode cX4_requireWithin 16 = .ok (.invokespecial 72, 3) := by decide +kernel
theorem dX4_requireWithin_19 : decode cX4_requireWithin 19 = .ok (.athrow, 1) := by decide +kernel
theorem dX4_requireWithin_20 : decode cX4_requireWithin 20 = .ok (.return_, 1) := by decide +kernel
set_option maxRecDepth 20000 in
theorem ggX4_settleLying_X0_roll : GoodIn wsX4_settleLying wsX0_roll := goodIn_r _ [8, 9, 10, 11, 12, 13, 14, 15, 16, 17, 7, 18, 19, 20, 21, 22, 23, 24, 25, 26, 27, 47, 48, 49, 50, 51, 52, 53] (by decide +kernel) (by decide +kernel)
set_option maxRecDepth 20000 in
theorem gX4_settleLying_X0_roll : GoodIn wsX4_settleLying (wsV RX4 193 RX0 yX0_roll wsX0_roll) := goodIn_app (goodIn_of _ (by decide +kernel)) ggX4_settleLying_X0_roll
set_option maxRecDepth 20000 in
theorem ggX4_settleLying_X0_allTimes : GoodIn wsX4_settleLying wsX0_allTimes := goodIn_r _ [31, 19, 20, 9, 47, 48, 49, 50, 51, 52, 53] (by decide +kernel) (by decide +kernel)
set_option maxRecDepth 20000 in
theorem gX4_settleLying_X0_allTimes : GoodIn wsX4_settleLying (wsV RX4 171 RX0 yX0_allTimes wsX0_allTimes) := goodIn_app (goodIn_of _ (by decide +kernel)) ggX4_settleLying_X0_allTimes
set_option maxRecDepth 20000 in
theorem ggX4_settleLying_X0_swallowedByRoll : GoodIn wsX4_settleLying wsX0_swallowedByRoll := goodIn_r _ [35, 19, 20, 9, 27, 47, 48, 49, 50, 51, 52, 53] (by decide +kernel) (by decide +kernel)
set_option maxRecDepth 20000 in
theorem gX4_settleLying_X0_swallowedByRoll : GoodIn wsX4_settleLying (wsV RX4 174 RX0 yX0_swallowedByRoll wsX0_swallowedByRoll) := goodIn_app (goodIn_of _ (by decide +kernel)) ggX4_settleLying_X0_swallowedByRoll
theorem dX4_settleLying_0 : decode cX4_settleLying 0 = .ok (.aload_n 0, 1) := by decide +kernel
theorem dX4_settleLying_1 : decode cX4_settleLying 1 = .ok (.getfield 21, 3) := by decide +kernel
theorem dX4_settleLying_4 : decode cX4_settleLying 4 = .ok (.invokevirtual 193, 3) := by decide +kernel
theorem dX4_settleLying_7 : decode cX4_settleLying 7 = .ok (.aload_n 0, 1) := by decide +kernel
theorem dX4_settleLying_8 : decode cX4_settleLying 8 = .ok (.getfield 21, 3) := by decide +kernel
theorem dX4_settleLying_11 : decode cX4_settleLying 11 = .ok (.invokevirtual 171, 3) := by decide +kernel
theorem dX4_settleLying_14 : decode cX4_settleLying 14 = .ok (.istore_n 1, 1) := by decide +kernel
theorem dX4_settleLying_15 : decode cX4_settleLying 15 = .ok (.aload_n 0, 1) := by decide +kernel
theorem dX4_settleLying_16 : decode cX4_settleLying 16 = .ok (.dup, 1) := by decide +kernel
theorem dX4_settleLying_17 : decode cX4_settleLying 17 = .ok (.getfield 105, 3) := by decide +kernel
theorem dX4_settleLying_20 : decode cX4_settleLying 20 = .ok (.iload_n 1, 1) := by decide +kernel
theorem dX4_settleLying_21 : decode cX4_settleLying 21 = .ok (.iadd, 1) := by decide +kernel
theorem dX4_settleLying_22 : decode cX4_settleLying 22 = .ok (.putfield 105, 3) := by decide +kernel
theorem dX4_settleLying_25 : decode cX4_settleLying 25 = .ok (.aload_n 0, 1) := by decide +kernel
theorem dX4_settleLying_26 : decode cX4_settleLying 26 = .ok (.dup, 1) := by decide +kernel
theorem dX4_settleLying_27 : decode cX4_settleLying 27 = .ok (.getfield 108, 3) := by decide +kernel
theorem dX4_settleLying_30 : decode cX4_settleLying 30 = .ok (.aload_n 0, 1) := by decide +kernel
theorem dX4_settleLying_31 : decode cX4_settleLying 31 = .ok (.getfield 21, 3) := by decide +kernel
theorem dX4_settleLying_34 : decode cX4_settleLying 34 = .ok (.invokevirtual 174, 3) := by decide +kernel
theorem dX4_settleLying_37 : decode cX4_settleLying 37 = .ok (.iadd, 1) := by decide +kernel
theorem dX4_settleLying_38 : decode cX4_settleLying 38 = .ok (.putfield 108, 3) := by decide +kernel
theorem dX4_settleLying_41 : decode cX4_settleLying 41 = .ok (.iload_n 1, 1) := by decide +kernel
theorem dX4_settleLying_42 : decode cX4_settleLying 42 = .ok (.ireturn, 1) := by decide +kernel
set_option maxRecDepth 20000 in
theorem ggX4_rollTrialWith_X0_copyRow : GoodIn wsX4_rollTrialWith wsX0_copyRow := goodIn_r _ [8, 9, 10, 11, 12, 13, 47, 48, 49] (by decide +kernel) (by decide +kernel)
set_option maxRecDepth 20000 in
theorem gX4_rollTrialWith_X0_copyRow : GoodIn wsX4_rollTrialWith (wsV RX4 190 RX0 yX0_copyRow wsX0_copyRow) := goodIn_app (goodIn_of _ (by decide +kernel)) ggX4_rollTrialWith_X0_copyRow
set_option maxRecDepth 20000 in
theorem ggX4_rollTrialWith_X0_roll : GoodIn wsX4_rollTrialWith wsX0_roll := goodIn_r _ [17, 18, 19, 20, 21, 22, 23, 24, 25, 26, 7, 27, 28, 29, 30, 9, 31, 32, 33, 34, 35, 47, 48, 49, 50, 51, 52, 53] (by decide +kernel) (by decide +kernel)
set_option maxRecDepth 20000 in
theorem gX4_rollTrialWith_X0_roll : GoodIn wsX4_rollTrialWith (wsV RX4 193 RX0 yX0_roll wsX0_roll) := goodIn_app (goodIn_of _ (by decide +kernel)) ggX4_rollTrialWith_X0_roll
theorem dX4_rollTrialWith_0 : decode cX4_rollTrialWith 0 = .ok (.aload_n 0, 1) := by decide +kernel
theorem dX4_rollTrialWith_1 : decode cX4_rollTrialWith 1 = .ok (.getfield 25, 3) := by decide +kernel
theorem dX4_rollTrialWith_4 : decode cX4_rollTrialWith 4 = .ok (.aload_n 0, 1) := by decide +kernel
theorem dX4_rollTrialWith_5 : decode cX4_rollTrialWith 5 = .ok (.getfield 21, 3) := by decide +kernel
theorem dX4_rollTrialWith_8 : decode cX4_rollTrialWith 8 = .ok (.getfield 89, 3) := by decide +kernel
theorem dX4_rollTrialWith_11 : decode cX4_rollTrialWith 11 = .ok (.invokevirtual 190, 3) := by decide +kernel
theorem dX4_rollTrialWith_14 : decode cX4_rollTrialWith 14 = .ok (.aload_n 0, 1) := by decide +kernel
theorem dX4_rollTrialWith_15 : decode cX4_rollTrialWith 15 = .ok (.getfield 25, 3) := by decide +kernel
theorem dX4_rollTrialWith_18 : decode cX4_rollTrialWith 18 = .ok (.getfield 89, 3) := by decide +kernel
theorem dX4_rollTrialWith_21 : decode cX4_rollTrialWith 21 = .ok (.iload_n 1, 1) := by decide +kernel
theorem dX4_rollTrialWith_22 : decode cX4_rollTrialWith 22 = .ok (.dup2, 1) := by decide +kernel
theorem dX4_rollTrialWith_23 : decode cX4_rollTrialWith 23 = .ok (.iaload, 1) := by decide +kernel
theorem dX4_rollTrialWith_24 : decode cX4_rollTrialWith 24 = .ok (.iload_n 2, 1) := by decide +kernel
theorem dX4_rollTrialWith_25 : decode cX4_rollTrialWith 25 = .ok (.iadd, 1) := by decide +kernel
theorem dX4_rollTrialWith_26 : decode cX4_rollTrialWith 26 = .ok (.iastore, 1) := by decide +kernel
theorem dX4_rollTrialWith_27 : decode cX4_rollTrialWith 27 = .ok (.aload_n 0, 1) := by decide +kernel
theorem dX4_rollTrialWith_28 : decode cX4_rollTrialWith 28 = .ok (.getfield 25, 3) := by decide +kernel
theorem dX4_rollTrialWith_31 : decode cX4_rollTrialWith 31 = .ok (.invokevirtual 193, 3) := by decide +kernel
theorem dX4_rollTrialWith_34 : decode cX4_rollTrialWith 34 = .ok (.return_, 1) := by decide +kernel
set_option maxRecDepth 20000 in
theorem ggX4_liesLasting_X0_steepSet : GoodIn wsX4_liesLasting wsX0_steepSet := goodIn_r _ [8, 9, 10, 11, 12, 13, 7, 14, 15, 16, 63, 64, 65, 66, 67, 68, 69] (by decide +kernel) (by decide +kernel)
set_option maxRecDepth 20000 in
theorem gX4_liesLasting_X0_steepSet : GoodIn wsX4_liesLasting (wsV RX4 243 RX0 yX0_steepSet wsX0_steepSet) := goodIn_app (goodIn_of _ (by decide +kernel)) ggX4_liesLasting_X0_steepSet
set_option maxRecDepth 20000 in
theorem ggX4_liesLasting_X0_copyRow : GoodIn wsX4_liesLasting wsX0_copyRow := goodIn_r _ [20, 16, 21, 22, 23, 24, 63, 64, 65] (by decide +kernel) (by decide +kernel)
set_option maxRecDepth 20000 in
theorem gX4_liesLasting_X0_copyRow : GoodIn wsX4_liesLasting (wsV RX4 190 RX0 yX0_copyRow wsX0_copyRow) := goodIn_app (goodIn_of _ (by decide +kernel)) ggX4_liesLasting_X0_copyRow
set_option maxRecDepth 20000 in
theorem ggX4_liesLasting_X0_addFromSink : GoodIn wsX4_liesLasting wsX0_addFromSink := goodIn_r _ [28, 9, 10, 16, 29, 63, 64, 65, 66, 67, 68, 69] (by decide +kernel) (by decide +kernel)
set_option maxRecDepth 20000 in
theorem gX4_liesLasting_X0_addFromSink : GoodIn wsX4_liesLasting (wsV RX4 246 RX0 yX0_addFromSink wsX0_addFromSink) := goodIn_app (goodIn_of _ (by decide +kernel)) ggX4_liesLasting_X0_addFromSink
set_option maxRecDepth 20000 in
theorem ggX4_liesLasting_X0_roll : GoodIn wsX4_liesLasting wsX0_roll := goodIn_r _ [33, 34, 35, 36, 37, 38, 39, 40, 41, 42, 7, 43, 9, 10, 15, 16, 44, 45, 46, 47, 29, 63, 64, 65, 66, 67, 68, 69] (by decide +kernel) (by decide +kernel)
set_option maxRecDepth 20000 in
theorem gX4_liesLasting_X0_roll : GoodIn wsX4_liesLasting (wsV RX4 193 RX0 yX0_roll wsX0_roll) := goodIn_app (goodIn_of _ (by decide +kernel)) ggX4_liesLasting_X0_roll
set_option maxRecDepth 20000 in
theorem ggX4_liesLasting_X0_hasEachToppledOnce : GoodIn wsX4_liesLasting wsX0_hasEachToppledOnce := goodIn_r _ [51, 9, 10, 34, 63, 64, 65, 66, 67, 68, 69] (by decide +kernel) (by decide +kernel)
set_option maxRecDepth 20000 in
theorem gX4_liesLasting_X0_hasEachToppledOnce : GoodIn wsX4_liesLasting (wsV RX4 249 RX0 yX0_hasEachToppledOnce wsX0_hasEachToppledOnce) := goodIn_app (goodIn_of _ (by decide +kernel)) ggX4_liesLasting_X0_hasEachToppledOnce
theorem dX4_liesLasting_0 : decode cX4_liesLasting 0 = .ok (.aload_n 0, 1) := by decide +kernel
theorem dX4_liesLasting_1 : decode cX4_liesLasting 1 = .ok (.getfield 21, 3) := by decide +kernel
theorem dX4_liesLasting_4 : decode cX4_liesLasting 4 = .ok (.invokevirtual 243, 3) := by decide +kernel
theorem dX4_liesLasting_7 : decode cX4_liesLasting 7 = .ok (.ifCond .eq 5, 3) := by decide +kernel
theorem dX4_liesLasting_10 : decode cX4_liesLasting 10 = .ok (.iconst 0, 1) := by decide +kernel
theorem dX4_liesLasting_11 : decode cX4_liesLasting 11 = .ok (.ireturn, 1) := by decide +kernel
theorem dX4_liesLasting_12 : decode cX4_liesLasting 12 = .ok (.aload_n 0, 1) := by decide +kernel
theorem dX4_liesLasting_13 : decode cX4_liesLasting 13 = .ok (.getfield 25, 3) := by decide +kernel
theorem dX4_liesLasting_16 : decode cX4_liesLasting 16 = .ok (.aload_n 0, 1) := by decide +kernel
theorem dX4_liesLasting_17 : decode cX4_liesLasting 17 = .ok (.getfield 21, 3) := by decide +kernel
theorem dX4_liesLasting_20 : decode cX4_liesLasting 20 = .ok (.getfield 89, 3) := by decide +kernel
theorem dX4_liesLasting_23 : decode cX4_liesLasting 23 = .ok (.invokevirtual 190, 3) := by decide +kernel
theorem dX4_liesLasting_26 : decode cX4_liesLasting 26 = .ok (.aload_n 0, 1) := by decide +kernel
theorem dX4_liesLasting_27 : decode cX4_liesLasting 27 = .ok (.getfield 25, 3) := by decide +kernel
theorem dX4_liesLasting_30 : decode cX4_liesLasting 30 = .ok (.invokevirtual 246, 3) := by decide +kernel
theorem dX4_liesLasting_33 : decode cX4_liesLasting 33 = .ok (.aload_n 0, 1) := by decide +kernel
theorem dX4_liesLasting_34 : decode cX4_liesLasting 34 = .ok (.getfield 25, 3) := by decide +kernel
theorem dX4_liesLasting_37 : decode cX4_liesLasting 37 = .ok (.invokevirtual 193, 3) := by decide +kernel
theorem dX4_liesLasting_40 : decode cX4_liesLasting 40 = .ok (.aload_n 0, 1) := by decide +kernel
theorem dX4_liesLasting_41 : decode cX4_liesLasting 41 = .ok (.getfield 25, 3) := by decide +kernel
theorem dX4_liesLasting_44 : decode cX4_liesLasting 44 = .ok (.invokevirtual 249, 3) := by decide +kernel
theorem dX4_liesLasting_47 : decode cX4_liesLasting 47 = .ok (.ireturn, 1) := by decide +kernel
set_option maxRecDepth 20000 in
theorem ggX4_spotValue_X0_isSteep : GoodIn wsX4_spotValue wsX0_isSteep := goodIn_r _ [13, 14, 15, 16, 41, 42, 43, 44, 45, 46, 47] (by decide +kernel) (by decide +kernel)
set_option maxRecDepth 20000 in
theorem gX4_spotValue_X0_isSteep : GoodIn wsX4_spotValue (wsV RX4 95 RX0 yX0_isSteep wsX0_isSteep) := goodIn_app (goodIn_of _ (by decide +kernel)) ggX4_spotValue_X0_isSteep
set_option maxRecDepth 20000 in
theorem ggX4_spotValue_X3_pointedFrom : GoodIn wsX4_spotValue wsX3_pointedFrom := goodIn_r _ [21, 22, 23, 24, 25, 26, 27, 28, 29, 48, 49, 50, 44, 45, 46, 47] (by decide +kernel) (by decide +kernel)
set_option maxRecDepth 20000 in
theorem gX4_spotValue_X3_pointedFrom : GoodIn wsX4_spotValue (wsV RX4 261 RX3 yX3_pointedFrom wsX3_pointedFrom) := goodIn_app (goodIn_of _ (by decide +kernel)) ggX4_spotValue_X3_pointedFrom
theorem dX4_spotValue_0 : decode cX4_spotValue 0 = .ok (.iload_n 2, 1) := by decide +kernel
theorem dX4_spotValue_1 : decode cX4_spotValue 1 = .ok (.tableswitch 109 0 5 #[39, 49, 59, 72, 82, 99], 39) := by decide +kernel
theorem dX4_spotValue_40 : decode cX4_spotValue 40 = .ok (.aload_n 0, 1) := by decide +kernel
theorem dX4_spotValue_41 : decode cX4_spotValue 41 = .ok (.getfield 21, 3) := by decide +kernel
theorem dX4_spotValue_44 : decode cX4_spotValue 44 = .ok (.getfield 89, 3) := by decide +kernel
theorem dX4_spotValue_47 : decode cX4_spotValue 47 = .ok (.iload_n 1, 1) := by decide +kernel
theorem dX4_spotValue_48 : decode cX4_spotValue 48 = .ok (.iaload, 1) := by decide +kernel
theorem dX4_spotValue_49 : decode cX4_spotValue 49 = .ok (.ireturn, 1) := by decide +kernel
theorem dX4_spotValue_50 : decode cX4_spotValue 50 = .ok (.aload_n 0, 1) := by decide +kernel
theorem dX4_spotValue_51 : decode cX4_spotValue 51 = .ok (.getfield 10, 3) := by decide +kernel
theorem dX4_spotValue_54 : decode cX4_spotValue 54 = .ok (.getfield 252, 3) := by decide +kernel
theorem dX4_spotValue_57 : decode cX4_spotValue 57 = .ok (.iload_n 1, 1) := by decide +kernel
theorem dX4_spotValue_58 : decode cX4_spotValue 58 = .ok (.iaload, 1) := by decide +kernel
theorem dX4_spotValue_59 : decode cX4_spotValue 59 = .ok (.ireturn, 1) := by decide +kernel
theorem dX4_spotValue_60 : decode cX4_spotValue 60 = .ok (.aload_n 0, 1) := by decide +kernel
theorem dX4_spotValue_61 : decode cX4_spotValue 61 = .ok (.getfield 10, 3) := by decide +kernel
theorem dX4_spotValue_64 : decode cX4_spotValue 64 = .ok (.getfield 77, 3) := by decide +kernel
theorem dX4_spotValue_67 : decode cX4_spotValue 67 = .ok (.iload_n 1, 1) := by decide +kernel
theorem dX4_spotValue_68 : decode cX4_spotValue 68 = .ok (.aaload, 1) := by decide +kernel
theorem dX4_spotValue_69 : decode cX4_spotValue 69 = .ok (.bipush 6, 2) := by decide +kernel
theorem dX4_spotValue_71 : decode cX4_spotValue 71 = .ok (.iaload, 1) := by decide +kernel
theorem dX4_spotValue_72 : decode cX4_spotValue 72 = .ok (.ireturn, 1) := by decide +kernel
theorem dX4_spotValue_73 : decode cX4_spotValue 73 = .ok (.aload_n 0, 1) := by decide +kernel
theorem dX4_spotValue_74 : decode cX4_spotValue 74 = .ok (.getfield 21, 3) := by decide +kernel
theorem dX4_spotValue_77 : decode cX4_spotValue 77 = .ok (.getfield 255, 3) := by decide +kernel
theorem dX4_spotValue_80 : decode cX4_spotValue 80 = .ok (.iload_n 1, 1) := by decide +kernel
theorem dX4_spotValue_81 : decode cX4_spotValue 81 = .ok (.iaload, 1) := by decide +kernel
theorem dX4_spotValue_82 : decode cX4_spotValue 82 = .ok (.ireturn, 1) := by decide +kernel
theorem dX4_spotValue_83 : decode cX4_spotValue 83 = .ok (.aload_n 0, 1) := by decide +kernel
theorem dX4_spotValue_84 : decode cX4_spotValue 84 = .ok (.getfield 21, 3) := by decide +kernel
theorem dX4_spotValue_87 : decode cX4_spotValue 87 = .ok (.iload_n 1, 1) := by decide +kernel
theorem dX4_spotValue_88 : decode cX4_spotValue 88 = .ok (.invokevirtual 95, 3) := by decide +kernel
theorem dX4_spotValue_91 : decode cX4_spotValue 91 = .ok (.ifCond .eq 7, 3) := by decide +kernel
theorem dX4_spotValue_94 : decode cX4_spotValue 94 = .ok (.iconst 1, 1) := by decide +kernel
theorem dX4_spotValue_95 : decode cX4_spotValue 95 = .ok (.goto 4, 3) := by decide +kernel
theorem dX4_spotValue_98 : decode cX4_spotValue 98 = .ok (.iconst 0, 1) := by decide +kernel
theorem dX4_spotValue_99 : decode cX4_spotValue 99 = .ok (.ireturn, 1) := by decide +kernel
theorem dX4_spotValue_100 : decode cX4_spotValue 100 = .ok (.aload_n 0, 1) := by decide +kernel
theorem dX4_spotValue_101 : decode cX4_spotValue 101 = .ok (.getfield 37, 3) := by decide +kernel
theorem dX4_spotValue_104 : decode cX4_spotValue 104 = .ok (.getfield 258, 3) := by decide +kernel
theorem dX4_spotValue_107 : decode cX4_spotValue 107 = .ok (.iload_n 1, 1) := by decide +kernel
theorem dX4_spotValue_108 : decode cX4_spotValue 108 = .ok (.iaload, 1) := by decide +kernel
theorem dX4_spotValue_109 : decode cX4_spotValue 109 = .ok (.ireturn, 1) := by decide +kernel
theorem dX4_spotValue_110 : decode cX4_spotValue 110 = .ok (.aload_n 0, 1) := by decide +kernel
theorem dX4_spotValue_111 : decode cX4_spotValue 111 = .ok (.getfield 37, 3) := by decide +kernel
theorem dX4_spotValue_114 : decode cX4_spotValue 114 = .ok (.iload_n 1, 1) := by decide +kernel
theorem dX4_spotValue_115 : decode cX4_spotValue 115 = .ok (.invokevirtual 261, 3) := by decide +kernel
theorem dX4_spotValue_118 : decode cX4_spotValue 118 = .ok (.ireturn, 1) := by decide +kernel
set_option maxRecDepth 20000 in
theorem ggX4_manyValue_X2_allEdges : GoodIn wsX4_manyValue wsX2_allEdges := goodIn_r _ [14, 15, 100, 101, 102, 103] (by decide +kernel) (by decide +kernel)
set_option maxRecDepth 20000 in
theorem gX4_manyValue_X2_allEdges : GoodIn wsX4_manyValue (wsV RX4 264 RX2 yX2_allEdges wsX2_allEdges) := goodIn_app (goodIn_of _ (by decide +kernel)) ggX4_manyValue_X2_allEdges
set_option maxRecDepth 20000 in
theorem ggX4_manyValue_X0_allGrains : GoodIn wsX4_manyValue wsX0_allGrains := goodIn_r _ [20, 21, 22, 23, 107, 108, 109, 100, 101, 102, 103] (by decide +kernel) (by decide +kernel)
set_option maxRecDepth 20000 in
theorem gX4_manyValue_X0_allGrains : GoodIn wsX4_manyValue (wsV RX4 136 RX0 yX0_allGrains wsX0_allGrains) := goodIn_app (goodIn_of _ (by decide +kernel)) ggX4_manyValue_X0_allGrains
set_option maxRecDepth 20000 in
theorem ggX4_manyValue_X0_allTimes : GoodIn wsX4_manyValue wsX0_allTimes := goodIn_r _ [27, 21, 22, 28, 107, 108, 109, 100, 101, 102, 103] (by decide +kernel) (by decide +kernel)
set_option maxRecDepth 20000 in
theorem gX4_manyValue_X0_allTimes : GoodIn wsX4_manyValue (wsV RX4 171 RX0 yX0_allTimes wsX0_allTimes) := goodIn_app (goodIn_of _ (by decide +kernel)) ggX4_manyValue_X0_allTimes
set_option maxRecDepth 20000 in
theorem ggX4_manyValue_X0_steepSet : GoodIn wsX4_manyValue wsX0_steepSet := goodIn_r _ [32, 21, 22, 33, 34, 35, 19, 36, 37, 23, 107, 108, 109, 100, 101, 102, 103] (by decide +kernel) (by decide +kernel)
set_option maxRecDepth 20000 in
theorem gX4_manyValue_X0_steepSet : GoodIn wsX4_manyValue (wsV RX4 243 RX0 yX0_steepSet wsX0_steepSet) := goodIn_app (goodIn_of _ (by decide +kernel)) ggX4_manyValue_X0_steepSet
set_option maxRecDepth 20000 in
theorem ggX4_manyValue_X2_isFast : GoodIn wsX4_manyValue wsX2_isFast := goodIn_r _ [41, 42, 43, 44, 45, 13, 46, 47, 48, 49, 50, 51, 52, 53, 54, 100, 101, 102, 103] (by decide +kernel) (by decide +kernel)
set_option maxRecDepth 20000 in
theorem gX4_manyValue_X2_isFast : GoodIn wsX4_manyValue (wsV RX4 218 RX2 yX2_isFast wsX2_isFast) := goodIn_app (goodIn_of _ (by decide +kernel)) ggX4_manyValue_X2_isFast
set_option maxRecDepth 20000 in
theorem ggX4_manyValue_X1_allCoins : GoodIn wsX4_manyValue wsX1_allCoins := goodIn_r _ [59, 60, 110, 111, 112, 113] (by decide +kernel) (by decide +kernel)
set_option maxRecDepth 20000 in
theorem gX4_manyValue_X1_allCoins : GoodIn wsX4_manyValue (wsV RX4 267 RX1 yX1_allCoins wsX1_allCoins) := goodIn_app (goodIn_of _ (by decide +kernel)) ggX4_manyValue_X1_allCoins
set_option maxRecDepth 20000 in
theorem ggX4_manyValue_X1_debtors : GoodIn wsX4_manyValue wsX1_debtors := goodIn_r _ [64, 60, 110, 111, 112, 113] (by decide +kernel) (by decide +kernel)
set_option maxRecDepth 20000 in
theorem gX4_manyValue_X1_debtors : GoodIn wsX4_manyValue (wsV RX4 270 RX1 yX1_debtors wsX1_debtors) := goodIn_app (goodIn_of _ (by decide +kernel)) ggX4_manyValue_X1_debtors
set_option maxRecDepth 20000 in
theorem ggX4_manyValue_X3_areTree : GoodIn wsX4_manyValue wsX3_areTree := goodIn_r _ [69, 70, 71, 72, 73, 74, 68, 75, 76, 77, 78, 13, 79, 42, 80, 81, 82, 83, 84, 85, 86, 87, 88, 47, 104, 105, 106, 100, 101, 102, 103] (by decide +kernel) (by decide +kernel)
set_option maxRecDepth 20000 in
theorem gX4_manyValue_X3_areTree : GoodIn wsX4_manyValue (wsV RX4 276 RX3 yX3_areTree wsX3_areTree) := goodIn_app (goodIn_of _ (by decide +kernel)) ggX4_manyValue_X3_areTree
theorem dX4_manyValue_0 : decode cX4_manyValue 0 = .ok (.iload_n 1, 1) := by decide +kernel
theorem dX4_manyValue_1 : decode cX4_manyValue 1 = .ok (.tableswitch 178 0 12 #[67, 75, 83, 91, 96, 101, 109, 117, 133, 138, 146, 162, 170], 67) := by decide +kernel
theorem dX4_manyValue_68 : decode cX4_manyValue 68 = .ok (.aload_n 0, 1) := by decide +kernel
theorem dX4_manyValue_69 : decode cX4_manyValue 69 = .ok (.getfield 10, 3) := by decide +kernel
theorem dX4_manyValue_72 : decode cX4_manyValue 72 = .ok (.getfield 53, 3) := by decide +kernel
theorem dX4_manyValue_75 : decode cX4_manyValue 75 = .ok (.ireturn, 1) := by decide +kernel
theorem dX4_manyValue_76 : decode cX4_manyValue 76 = .ok (.aload_n 0, 1) := by decide +kernel
theorem dX4_manyValue_77 : decode cX4_manyValue 77 = .ok (.getfield 10, 3) := by decide +kernel
theorem dX4_manyValue_80 : decode cX4_manyValue 80 = .ok (.invokevirtual 264, 3) := by decide +kernel
theorem dX4_manyValue_83 : decode cX4_manyValue 83 = .ok (.ireturn, 1) := by decide +kernel
theorem dX4_manyValue_84 : decode cX4_manyValue 84 = .ok (.aload_n 0, 1) := by decide +kernel
theorem dX4_manyValue_85 : decode cX4_manyValue 85 = .ok (.getfield 21, 3) := by decide +kernel
theorem dX4_manyValue_88 : decode cX4_manyValue 88 = .ok (.invokevirtual 136, 3) := by decide +kernel
theorem dX4_manyValue_91 : decode cX4_manyValue 91 = .ok (.ireturn, 1) := by decide +kernel
theorem dX4_manyValue_92 : decode cX4_manyValue 92 = .ok (.aload_n 0, 1) := by decide +kernel
theorem dX4_manyValue_93 : decode cX4_manyValue 93 = .ok (.getfield 108, 3) := by decide +kernel
theorem dX4_manyValue_96 : decode cX4_manyValue 96 = .ok (.ireturn, 1) := by decide +kernel
theorem dX4_manyValue_97 : decode cX4_manyValue 97 = .ok (.aload_n 0, 1) := by decide +kernel
theorem dX4_manyValue_98 : decode cX4_manyValue 98 = .ok (.getfield 105, 3) := by decide +kernel
theorem dX4_manyValue_101 : decode cX4_manyValue 101 = .ok (.ireturn, 1) := by decide +kernel
theorem dX4_manyValue_102 : decode cX4_manyValue 102 = .ok (.aload_n 0, 1) := by decide +kernel
theorem dX4_manyValue_103 : decode cX4_manyValue 103 = .ok (.getfield 21, 3) := by decide +kernel
theorem dX4_manyValue_106 : decode cX4_manyValue 106 = .ok (.invokevirtual 171, 3) := by decide +kernel
theorem dX4_manyValue_109 : decode cX4_manyValue 109 = .ok (.ireturn, 1) := by decide +kernel
theorem dX4_manyValue_110 : decode cX4_manyValue 110 = .ok (.aload_n 0, 1) := by decide +kernel
theorem dX4_manyValue_111 : decode cX4_manyValue 111 = .ok (.getfield 21, 3) := by decide +kernel
theorem dX4_manyValue_114 : decode cX4_manyValue 114 = .ok (.invokevirtual 243, 3) := by decide +kernel
theorem dX4_manyValue_117 : decode cX4_manyValue 117 = .ok (.ireturn, 1) := by decide +kernel
theorem dX4_manyValue_118 : decode cX4_manyValue 118 = .ok (.aload_n 0, 1) := by decide +kernel
theorem dX4_manyValue_119 : decode cX4_manyValue 119 = .ok (.getfield 10, 3) := by decide +kernel
theorem dX4_manyValue_122 : decode cX4_manyValue 122 = .ok (.invokevirtual 218, 3) := by decide +kernel
theorem dX4_manyValue_125 : decode cX4_manyValue 125 = .ok (.ifCond .eq 7, 3) := by decide +kernel
theorem dX4_manyValue_128 : decode cX4_manyValue 128 = .ok (.iconst 1, 1) := by decide +kernel
theorem dX4_manyValue_129 : decode cX4_manyValue 129 = .ok (.goto 4, 3) := by decide +kernel
theorem dX4_manyValue_132 : decode cX4_manyValue 132 = .ok (.iconst 0, 1) := by decide +kernel
theorem dX4_manyValue_133 : decode cX4_manyValue 133 = .ok (.ireturn, 1) := by decide +kernel
theorem dX4_manyValue_134 : decode cX4_manyValue 134 = .ok (.aload_n 0, 1) := by decide +kernel
theorem dX4_manyValue_135 : decode cX4_manyValue 135 = .ok (.getfield 118, 3) := by decide +kernel
theorem dX4_manyValue_138 : decode cX4_manyValue 138 = .ok (.ireturn, 1) := by decide +kernel
theorem dX4_manyValue_139 : decode cX4_manyValue 139 = .ok (.aload_n 0, 1) := by decide +kernel
theorem dX4_manyValue_140 : decode cX4_manyValue 140 = .ok (.getfield 44, 3) := by decide +kernel
theorem dX4_manyValue_143 : decode cX4_manyValue 143 = .ok (.invokevirtual 267, 3) := by decide +kernel
theorem dX4_manyValue_146 : decode cX4_manyValue 146 = .ok (.ireturn, 1) := by decide +kernel
theorem dX4_manyValue_147 : decode cX4_manyValue 147 = .ok (.aload_n 0, 1) := by decide +kernel
theorem dX4_manyValue_148 : decode cX4_manyValue 148 = .ok (.getfield 10, 3) := by decide +kernel
theorem dX4_manyValue_151 : decode cX4_manyValue 151 = .ok (.invokevirtual 264, 3) := by decide +kernel
theorem dX4_manyValue_154 : decode cX4_manyValue 154 = .ok (.aload_n 0, 1) := by decide +kernel
theorem dX4_manyValue_155 : decode cX4_manyValue 155 = .ok (.getfield 10, 3) := by decide +kernel
theorem dX4_manyValue_158 : decode cX4_manyValue 158 = .ok (.getfield 53, 3) := by decide +kernel
theorem dX4_manyValue_161 : decode cX4_manyValue 161 = .ok (.isub, 1) := by decide +kernel
theorem dX4_manyValue_162 : decode cX4_manyValue 162 = .ok (.ireturn, 1) := by decide +kernel
theorem dX4_manyValue_163 : decode cX4_manyValue 163 = .ok (.aload_n 0, 1) := by decide +kernel
theorem dX4_manyValue_164 : decode cX4_manyValue 164 = .ok (.getfield 44, 3) := by decide +kernel
theorem dX4_manyValue_167 : decode cX4_manyValue 167 = .ok (.invokevirtual 270, 3) := by decide +kernel
theorem dX4_manyValue_170 : decode cX4_manyValue 170 = .ok (.ireturn, 1) := by decide +kernel
theorem dX4_manyValue_171 : decode cX4_manyValue 171 = .ok (.aload_n 0, 1) := by decide +kernel
theorem dX4_manyValue_172 : decode cX4_manyValue 172 = .ok (.getfield 37, 3) := by decide +kernel
theorem dX4_manyValue_175 : decode cX4_manyValue 175 = .ok (.getfield 273, 3) := by decide +kernel
theorem dX4_manyValue_178 : decode cX4_manyValue 178 = .ok (.ireturn, 1) := by decide +kernel
theorem dX4_manyValue_179 : decode cX4_manyValue 179 = .ok (.aload_n 0, 1) := by decide +kernel
theorem dX4_manyValue_180 : decode cX4_manyValue 180 = .ok (.getfield 37, 3) := by decide +kernel
theorem dX4_manyValue_183 : decode cX4_manyValue 183 = .ok (.invokevirtual 276, 3) := by decide +kernel
theorem dX4_manyValue_186 : decode cX4_manyValue 186 = .ok (.ifCond .eq 7, 3) := by decide +kernel
theorem dX4_manyValue_189 : decode cX4_manyValue 189 = .ok (.iconst 1, 1) := by decide +kernel
theorem dX4_manyValue_190 : decode cX4_manyValue 190 = .ok (.goto 4, 3) := by decide +kernel
theorem dX4_manyValue_193 : decode cX4_manyValue 193 = .ok (.iconst 0, 1) := by decide +kernel
theorem dX4_manyValue_194 : decode cX4_manyValue 194 = .ok (.ireturn, 1) := by decide +kernel
theorem dX4_digestNode_0 : decode cX4_digestNode 0 = .ok (.lload_n 1, 1) := by decide +kernel
theorem dX4_digestNode_1 : decode cX4_digestNode 1 = .ok (.ldc2_w 208, 3) := by decide +kernel
theorem dX4_digestNode_4 : decode cX4_digestNode 4 = .ok (.lmul, 1) := by decide +kernel
theorem dX4_digestNode_5 : decode cX4_digestNode 5 = .ok (.aload_n 0, 1) := by decide +kernel
theorem dX4_digestNode_6 : decode cX4_digestNode 6 = .ok (.getfield 44, 3) := by decide +kernel
theorem dX4_digestNode_9 : decode cX4_digestNode 9 = .ok (.getfield 149, 3) := by decide +kernel
theorem dX4_digestNode_12 : decode cX4_digestNode 12 = .ok (.iload_n 3, 1) := by decide +kernel
theorem dX4_digestNode_13 : decode cX4_digestNode 13 = .ok (.iaload, 1) := by decide +kernel
theorem dX4_digestNode_14 : decode cX4_digestNode 14 = .ok (.i2l, 1) := by decide +kernel
theorem dX4_digestNode_15 : decode cX4_digestNode 15 = .ok (.ladd, 1) := by decide +kernel
theorem dX4_digestNode_16 : decode cX4_digestNode 16 = .ok (.lstore 4, 2) := by decide +kernel
theorem dX4_digestNode_18 : decode cX4_digestNode 18 = .ok (.iconst 0, 1) := by decide +kernel
theorem dX4_digestNode_19 : decode cX4_digestNode 19 = .ok (.istore 6, 2) := by decide +kernel
theorem dX4_digestNode_21 : decode cX4_digestNode 21 = .ok (.iload 6, 2) := by decide +kernel
theorem dX4_digestNode_23 : decode cX4_digestNode 23 = .ok (.aload_n 0, 1) := by decide +kernel
theorem dX4_digestNode_24 : decode cX4_digestNode 24 = .ok (.getfield 10, 3) := by decide +kernel
theorem dX4_digestNode_27 : decode cX4_digestNode 27 = .ok (.getfield 53, 3) := by decide +kernel
theorem dX4_digestNode_30 : decode cX4_digestNode 30 = .ok (.if_icmp .ge 31, 3) := by decide +kernel
theorem dX4_digestNode_33 : decode cX4_digestNode 33 = .ok (.lload 4, 2) := by decide +kernel
theorem dX4_digestNode_35 : decode cX4_digestNode 35 = .ok (.ldc2_w 208, 3) := by decide +kernel
theorem dX4_digestNode_38 : decode cX4_digestNode 38 = .ok (.lmul, 1) := by decide +kernel
theorem dX4_digestNode_39 : decode cX4_digestNode 39 = .ok (.aload_n 0, 1) := by decide +kernel
theorem dX4_digestNode_40 : decode cX4_digestNode 40 = .ok (.getfield 10, 3) := by decide +kernel
theorem dX4_digestNode_43 : decode cX4_digestNode 43 = .ok (.getfield 77, 3) := by decide +kernel
theorem dX4_digestNode_46 : decode cX4_digestNode 46 = .ok (.iload_n 3, 1) := by decide +kernel
theorem dX4_digestNode_47 : decode cX4_digestNode 47 = .ok (.aaload, 1) := by decide +kernel
theorem dX4_digestNode_48 : decode cX4_digestNode 48 = .ok (.iload 6, 2) := by decide +kernel
theorem dX4_digestNode_50 : decode cX4_digestNode 50 = .ok (.iaload, 1) := by decide +kernel
theorem dX4_digestNode_51 : decode cX4_digestNode 51 = .ok (.i2l, 1) := by decide +kernel
theorem dX4_digestNode_52 : decode cX4_digestNode 52 = .ok (.ladd, 1) := by decide +kernel
theorem dX4_digestNode_53 : decode cX4_digestNode 53 = .ok (.lstore 4, 2) := by decide +kernel
theorem dX4_digestNode_55 : decode cX4_digestNode 55 = .ok (.iinc 6 1, 3) := by decide +kernel
theorem dX4_digestNode_58 : decode cX4_digestNode 58 = .ok (.goto (-37), 3) := by decide +kernel
theorem dX4_digestNode_61 : decode cX4_digestNode 61 = .ok (.lload 4, 2) := by decide +kernel
theorem dX4_digestNode_63 : decode cX4_digestNode 63 = .ok (.ldc2_w 208, 3) := by decide +kernel
theorem dX4_digestNode_66 : decode cX4_digestNode 66 = .ok (.lmul, 1) := by decide +kernel
theorem dX4_digestNode_67 : decode cX4_digestNode 67 = .ok (.aload_n 0, 1) := by decide +kernel
theorem dX4_digestNode_68 : decode cX4_digestNode 68 = .ok (.getfield 10, 3) := by decide +kernel
theorem dX4_digestNode_71 : decode cX4_digestNode 71 = .ok (.getfield 77, 3) := by decide +kernel
theorem dX4_digestNode_74 : decode cX4_digestNode 74 = .ok (.iload_n 3, 1) := by decide +kernel
theorem dX4_digestNode_75 : decode cX4_digestNode 75 = .ok (.aaload, 1) := by decide +kernel
theorem dX4_digestNode_76 : decode cX4_digestNode 76 = .ok (.bipush 6, 2) := by decide +kernel
theorem dX4_digestNode_78 : decode cX4_digestNode 78 = .ok (.iaload, 1) := by decide +kernel
theorem dX4_digestNode_79 : decode cX4_digestNode 79 = .ok (.i2l, 1) := by decide +kernel
theorem dX4_digestNode_80 : decode cX4_digestNode 80 = .ok (.ladd, 1) := by decide +kernel
theorem dX4_digestNode_81 : decode cX4_digestNode 81 = .ok (.lreturn, 1) := by decide +kernel
theorem dX4_digestKept_0 : decode cX4_digestKept 0 = .ok (.lload_n 1, 1) := by decide +kernel
theorem dX4_digestKept_1 : decode cX4_digestKept 1 = .ok (.lstore_n 3, 1) := by decide +kernel
theorem dX4_digestKept_2 : decode cX4_digestKept 2 = .ok (.iconst 0, 1) := by decide +kernel
theorem dX4_digestKept_3 : decode cX4_digestKept 3 = .ok (.istore 5, 2) := by decide +kernel
theorem dX4_digestKept_5 : decode cX4_digestKept 5 = .ok (.iload 5, 2) := by decide +kernel
theorem dX4_digestKept_7 : decode cX4_digestKept 7 = .ok (.aload_n 0, 1) := by decide +kernel
theorem dX4_digestKept_8 : decode cX4_digestKept 8 = .ok (.getfield 118, 3) := by decide +kernel
theorem dX4_digestKept_11 : decode cX4_digestKept 11 = .ok (.if_icmp .ge 48, 3) := by decide +kernel
theorem dX4_digestKept_14 : decode cX4_digestKept 14 = .ok (.iconst 0, 1) := by decide +kernel
theorem dX4_digestKept_15 : decode cX4_digestKept 15 = .ok (.istore 6, 2) := by decide +kernel
theorem dX4_digestKept_17 : decode cX4_digestKept 17 = .ok (.iload 6, 2) := by decide +kernel
theorem dX4_digestKept_19 : decode cX4_digestKept 19 = .ok (.aload_n 0, 1) := by decide +kernel
theorem dX4_digestKept_20 : decode cX4_digestKept 20 = .ok (.getfield 10, 3) := by decide +kernel
theorem dX4_digestKept_23 : decode cX4_digestKept 23 = .ok (.getfield 53, 3) := by decide +kernel
theorem dX4_digestKept_26 : decode cX4_digestKept 26 = .ok (.if_icmp .ge 27, 3) := by decide +kernel
theorem dX4_digestKept_29 : decode cX4_digestKept 29 = .ok (.lload_n 3, 1) := by decide +kernel
theorem dX4_digestKept_30 : decode cX4_digestKept 30 = .ok (.ldc2_w 208, 3) := by decide +kernel
theorem dX4_digestKept_33 : decode cX4_digestKept 33 = .ok (.lmul, 1) := by decide +kernel
theorem dX4_digestKept_34 : decode cX4_digestKept 34 = .ok (.aload_n 0, 1) := by decide +kernel
theorem dX4_digestKept_35 : decode cX4_digestKept 35 = .ok (.getfield 50, 3) := by decide +kernel
theorem dX4_digestKept_38 : decode cX4_digestKept 38 = .ok (.iload 5, 2) := by decide +kernel
theorem dX4_digestKept_40 : decode cX4_digestKept 40 = .ok (.aaload, 1) := by decide +kernel
theorem dX4_digestKept_41 : decode cX4_digestKept 41 = .ok (.iload 6, 2) := by decide +kernel
theorem dX4_digestKept_43 : decode cX4_digestKept 43 = .ok (.iaload, 1) := by decide +kernel
theorem dX4_digestKept_44 : decode cX4_digestKept 44 = .ok (.i2l, 1) := by decide +kernel
theorem dX4_digestKept_45 : decode cX4_digestKept 45 = .ok (.ladd, 1) := by decide +kernel
theorem dX4_digestKept_46 : decode cX4_digestKept 46 = .ok (.lstore_n 3, 1) := by decide +kernel
theorem dX4_digestKept_47 : decode cX4_digestKept 47 = .ok (.iinc 6 1, 3) := by decide +kernel
theorem dX4_digestKept_50 : decode cX4_digestKept 50 = .ok (.goto (-33), 3) := by decide +kernel
theorem dX4_digestKept_53 : decode cX4_digestKept 53 = .ok (.iinc 5 1, 3) := by decide +kernel
theorem dX4_digestKept_56 : decode cX4_digestKept 56 = .ok (.goto (-51), 3) := by decide +kernel
theorem dX4_digestKept_59 : decode cX4_digestKept 59 = .ok (.lload_n 3, 1) := by decide +kernel
theorem dX4_digestKept_60 : decode cX4_digestKept 60 = .ok (.lreturn, 1) := by decide +kernel
set_option maxRecDepth 20000 in
theorem ggX4_digestFast_X4_liesLasting : GoodIn wsX4_digestFast wsX4_liesLasting := goodIn_r _ [12, 13, 6, 5, 14, 15, 16, 17, 18, 19, 20, 21, 22, 23, 24, 25, 26, 27, 28, 29, 30, 31, 32, 33, 34, 35, 36, 37, 38, 39, 40, 41, 42, 43, 44, 45, 46, 47, 48, 49, 50, 51, 52, 53, 54, 55, 56, 57, 58, 59, 60, 61, 112, 113, 114, 115, 116, 117, 118, 119, 120, 121, 122, 127, 128, 129, 123, 124, 125, 126] (by decide +kernel) (by decide +kernel)
set_option maxRecDepth 20000 in
theorem gX4_digestFast_X4_liesLasting : GoodIn wsX4_digestFast (wsV RX4 180 RX4 yX4_liesLasting wsX4_liesLasting) := goodIn_app (goodIn_of _ (by decide +kernel)) ggX4_digestFast_X4_liesLasting
set_option maxRecDepth 20000 in
theorem ggX4_digestFast_X0_becomeNeutral : GoodIn wsX4_digestFast wsX0_becomeNeutral := goodIn_r _ [65, 19, 20, 26, 25, 66, 41, 42, 17, 43, 44, 45, 46, 47, 48, 49, 50, 51, 52, 53, 54, 55, 56, 57, 39, 127, 128, 129, 123, 124, 125, 126] (by decide +kernel) (by decide +kernel)
set_option maxRecDepth 20000 in
theorem gX4_digestFast_X0_becomeNeutral : GoodIn wsX4_digestFast (wsV RX4 184 RX0 yX0_becomeNeutral wsX0_becomeNeutral) := goodIn_app (goodIn_of _ (by decide +kernel)) ggX4_digestFast_X0_becomeNeutral
set_option maxRecDepth 20000 in
theorem ggX4_digestFast_X4_rollTrialWith : GoodIn wsX4_digestFast wsX4_rollTrialWith := goodIn_r _ [70, 6, 13, 5, 27, 28, 29, 17, 30, 26, 31, 32, 33, 34, 40, 41, 42, 43, 44, 45, 46, 47, 48, 49, 50, 51, 52, 53, 19, 20, 25, 54, 55, 56, 57, 39, 112, 113, 114, 115, 116, 117, 118, 119, 120, 121, 122, 127, 128, 129, 123, 124, 125, 126] (by decide +kernel) (by decide +kernel)
set_option maxRecDepth 20000 in
theorem gX4_digestFast_X4_rollTrialWith : GoodIn wsX4_digestFast (wsV RX4 168 RX4 yX4_rollTrialWith wsX4_rollTrialWith) := goodIn_app (goodIn_of _ (by decide +kernel)) ggX4_digestFast_X4_rollTrialWith
set_option maxRecDepth 20000 in
theorem ggX4_digestFast_X0_allTimes : GoodIn wsX4_digestFast wsX0_allTimes := goodIn_r _ [74, 19, 20, 44, 127, 128, 129, 123, 124, 125, 126] (by decide +kernel) (by decide +kernel)
set_option maxRecDepth 20000 in
theorem gX4_digestFast_X0_allTimes : GoodIn wsX4_digestFast (wsV RX4 171 RX0 yX0_allTimes wsX0_allTimes) := goodIn_app (goodIn_of _ (by decide +kernel)) ggX4_digestFast_X0_allTimes
set_option maxRecDepth 20000 in
theorem ggX4_digestFast_X1_isPayable : GoodIn wsX4_digestFast wsX1_isPayable := goodIn_r _ [79, 80, 81, 82, 83, 78, 84, 85, 86, 87, 88, 89, 90, 91, 92, 93, 94, 95, 41, 42, 17, 43, 44, 45, 46, 47, 48, 49, 50, 51, 52, 53, 19, 20, 25, 26, 54, 55, 56, 57, 39, 96, 36, 37, 38, 97, 59, 60, 61, 98, 99, 100, 101, 102, 103, 104, 105, 130, 131, 132, 133, 123, 124, 125, 126, 127, 128, 129] (by decide +kernel) (by decide +kernel)
set_option maxRecDepth 20000 in
theorem gX4_digestFast_X1_isPayable : GoodIn wsX4_digestFast (wsV RX4 200 RX1 yX1_isPayable wsX1_isPayable) := goodIn_app (goodIn_of _ (by decide +kernel)) ggX4_digestFast_X1_isPayable
set_option maxRecDepth 20000 in
theorem ggX4_digestFast_X1_weakestNode : GoodIn wsX4_digestFast wsX1_weakestNode := goodIn_r _ [109, 85, 86, 110, 80, 87, 81, 82, 83, 78, 84, 88, 89, 90, 91, 92, 93, 94, 95, 41, 42, 17, 43, 44, 45, 46, 47, 48, 49, 50, 51, 52, 53, 19, 20, 25, 26, 54, 55, 56, 57, 39, 96, 36, 37, 38, 97, 59, 60, 61, 98, 99, 100, 101, 111, 28, 29, 30, 31, 32, 33, 34, 102, 103, 104, 105, 130, 131, 132, 133, 123, 124, 125, 126, 127, 128, 129] (by decide +kernel) (by decide +kernel)
set_option maxRecDepth 20000 in
theorem gX4_digestFast_X1_weakestNode : GoodIn wsX4_digestFast (wsV RX4 203 RX1 yX1_weakestNode wsX1_weakestNode) := goodIn_app (goodIn_of _ (by decide +kernel)) ggX4_digestFast_X1_weakestNode
theorem dX4_digestFast_0 : decode cX4_digestFast 0 = .ok (.lload_n 1, 1) := by decide +kernel
theorem dX4_digestFast_1 : decode cX4_digestFast 1 = .ok (.ldc2_w 208, 3) := by decide +kernel
theorem dX4_digestFast_4 : decode cX4_digestFast 4 = .ok (.lmul, 1) := by decide +kernel
theorem dX4_digestFast_5 : decode cX4_digestFast 5 = .ok (.aload_n 0, 1) := by decide +kernel
theorem dX4_digestFast_6 : decode cX4_digestFast 6 = .ok (.invokevirtual 180, 3) := by decide +kernel
theorem dX4_digestFast_9 : decode cX4_digestFast 9 = .ok (.ifCond .eq 7, 3) := by decide +kernel
theorem dX4_digestFast_12 : decode cX4_digestFast 12 = .ok (.iconst 1, 1) := by decide +kernel
theorem dX4_digestFast_13 : decode cX4_digestFast 13 = .ok (.goto 4, 3) := by decide +kernel
theorem dX4_digestFast_16 : decode cX4_digestFast 16 = .ok (.iconst 0, 1) := by decide +kernel
theorem dX4_digestFast_17 : decode cX4_digestFast 17 = .ok (.i2l, 1) := by decide +kernel
theorem dX4_digestFast_18 : decode cX4_digestFast 18 = .ok (.ladd, 1) := by decide +kernel
theorem dX4_digestFast_19 : decode cX4_digestFast 19 = .ok (.lstore_n 3, 1) := by decide +kernel
theorem dX4_digestFast_20 : decode cX4_digestFast 20 = .ok (.aload_n 0, 1) := by decide +kernel
theorem dX4_digestFast_21 : decode cX4_digestFast 21 = .ok (.getfield 28, 3) := by decide +kernel
theorem dX4_digestFast_24 : decode cX4_digestFast 24 = .ok (.invokevirtual 184, 3) := by decide +kernel
theorem dX4_digestFast_27 : decode cX4_digestFast 27 = .ok (.iconst 0, 1) := by decide +kernel
theorem dX4_digestFast_28 : decode cX4_digestFast 28 = .ok (.istore 5, 2) := by decide +kernel
theorem dX4_digestFast_30 : decode cX4_digestFast 30 = .ok (.iload 5, 2) := by decide +kernel
theorem dX4_digestFast_32 : decode cX4_digestFast 32 = .ok (.aload_n 0, 1) := by decide +kernel
theorem dX4_digestFast_33 : decode cX4_digestFast 33 = .ok (.getfield 10, 3) := by decide +kernel
theorem dX4_digestFast_36 : decode cX4_digestFast 36 = .ok (.getfield 53, 3) := by decide +kernel
theorem dX4_digestFast_39 : decode cX4_digestFast 39 = .ok (.if_icmp .ge 49, 3) := by decide +kernel
theorem dX4_digestFast_42 : decode cX4_digestFast 42 = .ok (.lload_n 3, 1) := by decide +kernel
theorem dX4_digestFast_43 : decode cX4_digestFast 43 = .ok (.ldc2_w 208, 3) := by decide +kernel
theorem dX4_digestFast_46 : decode cX4_digestFast 46 = .ok (.lmul, 1) := by decide +kernel
theorem dX4_digestFast_47 : decode cX4_digestFast 47 = .ok (.aload_n 0, 1) := by decide +kernel
theorem dX4_digestFast_48 : decode cX4_digestFast 48 = .ok (.getfield 28, 3) := by decide +kernel
theorem dX4_digestFast_51 : decode cX4_digestFast 51 = .ok (.getfield 89, 3) := by decide +kernel
theorem dX4_digestFast_54 : decode cX4_digestFast 54 = .ok (.iload 5, 2) := by decide +kernel
theorem dX4_digestFast_56 : decode cX4_digestFast 56 = .ok (.iaload, 1) := by decide +kernel
theorem dX4_digestFast_57 : decode cX4_digestFast 57 = .ok (.i2l, 1) := by decide +kernel
theorem dX4_digestFast_58 : decode cX4_digestFast 58 = .ok (.ladd, 1) := by decide +kernel
theorem dX4_digestFast_59 : decode cX4_digestFast 59 = .ok (.lstore_n 3, 1) := by decide +kernel
theorem dX4_digestFast_60 : decode cX4_digestFast 60 = .ok (.aload_n 0, 1) := by decide +kernel
theorem dX4_digestFast_61 : decode cX4_digestFast 61 = .ok (.iload 5, 2) := by decide +kernel
theorem dX4_digestFast_63 : decode cX4_digestFast 63 = .ok (.iconst 1, 1) := by decide +kernel
theorem dX4_digestFast_64 : decode cX4_digestFast 64 = .ok (.invokevirtual 168, 3) := by decide +kernel
theorem dX4_digestFast_67 : decode cX4_digestFast 67 = .ok (.lload_n 3, 1) := by decide +kernel
theorem dX4_digestFast_68 : decode cX4_digestFast 68 = .ok (.ldc2_w 208, 3) := by decide +kernel
theorem dX4_digestFast_71 : decode cX4_digestFast 71 = .ok (.lmul, 1) := by decide +kernel
theorem dX4_digestFast_72 : decode cX4_digestFast 72 = .ok (.aload_n 0, 1) := by decide +kernel
theorem dX4_digestFast_73 : decode cX4_digestFast 73 = .ok (.getfield 25, 3) := by decide +kernel
theorem dX4_digestFast_76 : decode cX4_digestFast 76 = .ok (.invokevirtual 171, 3) := by decide +kernel
theorem dX4_digestFast_79 : decode cX4_digestFast 79 = .ok (.i2l, 1) := by decide +kernel
theorem dX4_digestFast_80 : decode cX4_digestFast 80 = .ok (.ladd, 1) := by decide +kernel
theorem dX4_digestFast_81 : decode cX4_digestFast 81 = .ok (.lstore_n 3, 1) := by decide +kernel
theorem dX4_digestFast_82 : decode cX4_digestFast 82 = .ok (.iinc 5 1, 3) := by decide +kernel
theorem dX4_digestFast_85 : decode cX4_digestFast 85 = .ok (.goto (-55), 3) := by decide +kernel
theorem dX4_digestFast_88 : decode cX4_digestFast 88 = .ok (.lload_n 3, 1) := by decide +kernel
theorem dX4_digestFast_89 : decode cX4_digestFast 89 = .ok (.ldc2_w 208, 3) := by decide +kernel
theorem dX4_digestFast_92 : decode cX4_digestFast 92 = .ok (.lmul, 1) := by decide +kernel
theorem dX4_digestFast_93 : decode cX4_digestFast 93 = .ok (.aload_n 0, 1) := by decide +kernel
theorem dX4_digestFast_94 : decode cX4_digestFast 94 = .ok (.getfield 44, 3) := by decide +kernel
theorem dX4_digestFast_97 : decode cX4_digestFast 97 = .ok (.invokevirtual 200, 3) := by decide +kernel
theorem dX4_digestFast_100 : decode cX4_digestFast 100 = .ok (.ifCond .eq 7, 3) := by decide +kernel
theorem dX4_digestFast_103 : decode cX4_digestFast 103 = .ok (.iconst 1, 1) := by decide +kernel
theorem dX4_digestFast_104 : decode cX4_digestFast 104 = .ok (.goto 4, 3) := by decide +kernel
theorem dX4_digestFast_107 : decode cX4_digestFast 107 = .ok (.iconst 0, 1) := by decide +kernel
theorem dX4_digestFast_108 : decode cX4_digestFast 108 = .ok (.i2l, 1) := by decide +kernel
theorem dX4_digestFast_109 : decode cX4_digestFast 109 = .ok (.ladd, 1) := by decide +kernel
theorem dX4_digestFast_110 : decode cX4_digestFast 110 = .ok (.lstore_n 3, 1) := by decide +kernel
theorem dX4_digestFast_111 : decode cX4_digestFast 111 = .ok (.lload_n 3, 1) := by decide +kernel
theorem dX4_digestFast_112 : decode cX4_digestFast 112 = .ok (.ldc2_w 208, 3) := by decide +kernel
theorem dX4_digestFast_115 : decode cX4_digestFast 115 = .ok (.lmul, 1) := by decide +kernel
theorem dX4_digestFast_116 : decode cX4_digestFast 116 = .ok (.aload_n 0, 1) := by decide +kernel
theorem dX4_digestFast_117 : decode cX4_digestFast 117 = .ok (.getfield 44, 3) := by decide +kernel
theorem dX4_digestFast_120 : decode cX4_digestFast 120 = .ok (.invokevirtual 203, 3) := by decide +kernel
theorem dX4_digestFast_123 : decode cX4_digestFast 123 = .ok (.i2l, 1) := by decide +kernel
theorem dX4_digestFast_124 : decode cX4_digestFast 124 = .ok (.ladd, 1) := by decide +kernel
theorem dX4_digestFast_125 : decode cX4_digestFast 125 = .ok (.lreturn, 1) := by decide +kernel
theorem dJ6_bitCount_0f7a4_0 : decode cJ6_bitCount_0f7a4 0 = .ok (.iload_n 0, 1) := by decide +kernel
theorem dJ6_bitCount_0f7a4_1 : decode cJ6_bitCount_0f7a4 1 = .ok (.iload_n 0, 1) := by decide +kernel
theorem dJ6_bitCount_0f7a4_2 : decode cJ6_bitCount_0f7a4 2 = .ok (.iconst 1, 1) := by decide +kernel
theorem dJ6_bitCount_0f7a4_3 : decode cJ6_bitCount_0f7a4 3 = .ok (.iushr, 1) := by decide +kernel
theorem dJ6_bitCount_0f7a4_4 : decode cJ6_bitCount_0f7a4 4 = .ok (.ldc_w 265, 3) := by decide +kernel
theorem dJ6_bitCount_0f7a4_7 : decode cJ6_bitCount_0f7a4 7 = .ok (.iand, 1) := by decide +kernel
theorem dJ6_bitCount_0f7a4_8 : decode cJ6_bitCount_0f7a4 8 = .ok (.isub, 1) := by decide +kernel
theorem dJ6_bitCount_0f7a4_9 : decode cJ6_bitCount_0f7a4 9 = .ok (.istore_n 0, 1) := by decide +kernel
theorem dJ6_bitCount_0f7a4_10 : decode cJ6_bitCount_0f7a4 10 = .ok (.iload_n 0, 1) := by decide +kernel
theorem dJ6_bitCount_0f7a4_11 : decode cJ6_bitCount_0f7a4 11 = .ok (.ldc_w 266, 3) := by decide +kernel
theorem dJ6_bitCount_0f7a4_14 : decode cJ6_bitCount_0f7a4 14 = .ok (.iand, 1) := by decide +kernel
theorem dJ6_bitCount_0f7a4_15 : decode cJ6_bitCount_0f7a4 15 = .ok (.iload_n 0, 1) := by decide +kernel
theorem dJ6_bitCount_0f7a4_16 : decode cJ6_bitCount_0f7a4 16 = .ok (.iconst 2, 1) := by decide +kernel
theorem dJ6_bitCount_0f7a4_17 : decode cJ6_bitCount_0f7a4 17 = .ok (.iushr, 1) := by decide +kernel
theorem dJ6_bitCount_0f7a4_18 : decode cJ6_bitCount_0f7a4 18 = .ok (.ldc_w 266, 3) := by decide +kernel
theorem dJ6_bitCount_0f7a4_21 : decode cJ6_bitCount_0f7a4 21 = .ok (.iand, 1) := by decide +kernel
theorem dJ6_bitCount_0f7a4_22 : decode cJ6_bitCount_0f7a4 22 = .ok (.iadd, 1) := by decide +kernel
theorem dJ6_bitCount_0f7a4_23 : decode cJ6_bitCount_0f7a4 23 = .ok (.istore_n 0, 1) := by decide +kernel
theorem dJ6_bitCount_0f7a4_24 : decode cJ6_bitCount_0f7a4 24 = .ok (.iload_n 0, 1) := by decide +kernel
theorem dJ6_bitCount_0f7a4_25 : decode cJ6_bitCount_0f7a4 25 = .ok (.iload_n 0, 1) := by decide +kernel
theorem dJ6_bitCount_0f7a4_26 : decode cJ6_bitCount_0f7a4 26 = .ok (.iconst 4, 1) := by decide +kernel
theorem dJ6_bitCount_0f7a4_27 : decode cJ6_bitCount_0f7a4 27 = .ok (.iushr, 1) := by decide +kernel
theorem dJ6_bitCount_0f7a4_28 : decode cJ6_bitCount_0f7a4 28 = .ok (.iadd, 1) := by decide +kernel
theorem dJ6_bitCount_0f7a4_29 : decode cJ6_bitCount_0f7a4 29 = .ok (.ldc_w 267, 3) := by decide +kernel
theorem dJ6_bitCount_0f7a4_32 : decode cJ6_bitCount_0f7a4 32 = .ok (.iand, 1) := by decide +kernel
theorem dJ6_bitCount_0f7a4_33 : decode cJ6_bitCount_0f7a4 33 = .ok (.istore_n 0, 1) := by decide +kernel
theorem dJ6_bitCount_0f7a4_34 : decode cJ6_bitCount_0f7a4 34 = .ok (.iload_n 0, 1) := by decide +kernel
theorem dJ6_bitCount_0f7a4_35 : decode cJ6_bitCount_0f7a4 35 = .ok (.iload_n 0, 1) := by decide +kernel
theorem dJ6_bitCount_0f7a4_36 : decode cJ6_bitCount_0f7a4 36 = .ok (.bipush 8, 2) := by decide +kernel
theorem dJ6_bitCount_0f7a4_38 : decode cJ6_bitCount_0f7a4 38 = .ok (.iushr, 1) := by decide +kernel
theorem dJ6_bitCount_0f7a4_39 : decode cJ6_bitCount_0f7a4 39 = .ok (.iadd, 1) := by decide +kernel
theorem dJ6_bitCount_0f7a4_40 : decode cJ6_bitCount_0f7a4 40 = .ok (.istore_n 0, 1) := by decide +kernel
theorem dJ6_bitCount_0f7a4_41 : decode cJ6_bitCount_0f7a4 41 = .ok (.iload_n 0, 1) := by decide +kernel
theorem dJ6_bitCount_0f7a4_42 : decode cJ6_bitCount_0f7a4 42 = .ok (.iload_n 0, 1) := by decide +kernel
theorem dJ6_bitCount_0f7a4_43 : decode cJ6_bitCount_0f7a4 43 = .ok (.bipush 16, 2) := by decide +kernel
theorem dJ6_bitCount_0f7a4_45 : decode cJ6_bitCount_0f7a4 45 = .ok (.iushr, 1) := by decide +kernel
theorem dJ6_bitCount_0f7a4_46 : decode cJ6_bitCount_0f7a4 46 = .ok (.iadd, 1) := by decide +kernel
theorem dJ6_bitCount_0f7a4_47 : decode cJ6_bitCount_0f7a4 47 = .ok (.istore_n 0, 1) := by decide +kernel
theorem dJ6_bitCount_0f7a4_48 : decode cJ6_bitCount_0f7a4 48 = .ok (.iload_n 0, 1) := by decide +kernel
theorem dJ6_bitCount_0f7a4_49 : decode cJ6_bitCount_0f7a4 49 = .ok (.bipush 63, 2) := by decide +kernel
theorem dJ6_bitCount_0f7a4_51 : decode cJ6_bitCount_0f7a4 51 = .ok (.iand, 1) := by decide +kernel
theorem dJ6_bitCount_0f7a4_52 : decode cJ6_bitCount_0f7a4 52 = .ok (.ireturn, 1) := by decide +kernel
theorem dJ7_fill_53178_0 : decode cJ7_fill_53178 0 = .ok (.iconst 0, 1) := by decide +kernel
theorem dJ7_fill_53178_1 : decode cJ7_fill_53178 1 = .ok (.istore_n 2, 1) := by decide +kernel
theorem dJ7_fill_53178_2 : decode cJ7_fill_53178 2 = .ok (.aload_n 0, 1) := by decide +kernel
theorem dJ7_fill_53178_3 : decode cJ7_fill_53178 3 = .ok (.arraylength, 1) := by decide +kernel
theorem dJ7_fill_53178_4 : decode cJ7_fill_53178 4 = .ok (.istore_n 3, 1) := by decide +kernel
theorem dJ7_fill_53178_5 : decode cJ7_fill_53178 5 = .ok (.iload_n 2, 1) := by decide +kernel
theorem dJ7_fill_53178_6 : decode cJ7_fill_53178 6 = .ok (.iload_n 3, 1) := by decide +kernel
theorem dJ7_fill_53178_7 : decode cJ7_fill_53178 7 = .ok (.if_icmp .ge 13, 3) := by decide +kernel
theorem dJ7_fill_53178_10 : decode cJ7_fill_53178 10 = .ok (.aload_n 0, 1) := by decide +kernel
theorem dJ7_fill_53178_11 : decode cJ7_fill_53178 11 = .ok (.iload_n 2, 1) := by decide +kernel
theorem dJ7_fill_53178_12 : decode cJ7_fill_53178 12 = .ok (.iload_n 1, 1) := by decide +kernel
theorem dJ7_fill_53178_13 : decode cJ7_fill_53178 13 = .ok (.iastore, 1) := by decide +kernel
theorem dJ7_fill_53178_14 : decode cJ7_fill_53178 14 = .ok (.iinc 2 1, 3) := by decide +kernel
theorem dJ7_fill_53178_17 : decode cJ7_fill_53178 17 = .ok (.goto (-12), 3) := by decide +kernel
theorem dJ7_fill_53178_20 : decode cJ7_fill_53178 20 = .ok (.return_, 1) := by decide +kernel
