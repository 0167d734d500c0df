theorem dX0_init_0 : decode cX0_init 0 = .ok (.aload_n 0, 1) := by decide +kernel
theorem dX0_init_1 : decode cX0_init 1 = .ok (.invokespecial 3, 3) := by decide +kernel
theorem dX0_init_4 : decode cX0_init 4 = .ok (.aload_n 0, 1) := by decide +kernel
theorem dX0_init_5 : decode cX0_init 5 = .ok (.bipush 6, 2) := by decide +kernel
theorem dX0_init_7 : decode cX0_init 7 = .ok (.newarray .int, 2) := by decide +kernel
theorem dX0_init_9 : decode cX0_init 9 = .ok (.putfield 9, 3) := by decide +kernel
theorem dX0_init_12 : decode cX0_init 12 = .ok (.aload_n 0, 1) := by decide +kernel
theorem dX0_init_13 : decode cX0_init 13 = .ok (.bipush 6, 2) := by decide +kernel
theorem dX0_init_15 : decode cX0_init 15 = .ok (.newarray .int, 2) := by decide +kernel
theorem dX0_init_17 : decode cX0_init 17 = .ok (.putfield 15, 3) := by decide +kernel
theorem dX0_init_20 : decode cX0_init 20 = .ok (.aload_n 0, 1) := by decide +kernel
theorem dX0_init_21 : decode cX0_init 21 = .ok (.aload_n 1, 1) := by decide +kernel
theorem dX0_init_22 : decode cX0_init 22 = .ok (.putfield 18, 3) := by decide +kernel
theorem dX0_init_25 : decode cX0_init 25 = .ok (.return_, 1) := by decide +kernel
theorem dX0_copyRow_0 : decode cX0_copyRow 0 = .ok (.aload_n 1, 1) := by decide +kernel
theorem dX0_copyRow_1 : decode cX0_copyRow 1 = .ok (.iconst 0, 1) := by decide +kernel
theorem dX0_copyRow_2 : decode cX0_copyRow 2 = .ok (.aload_n 0, 1) := by decide +kernel
theorem dX0_copyRow_3 : decode cX0_copyRow 3 = .ok (.getfield 9, 3) := by decide +kernel
theorem dX0_copyRow_6 : decode cX0_copyRow 6 = .ok (.iconst 0, 1) := by decide +kernel
theorem dX0_copyRow_7 : decode cX0_copyRow 7 = .ok (.bipush 6, 2) := by decide +kernel
theorem dX0_copyRow_9 : decode cX0_copyRow 9 = .ok (.invokestatic 22, 3) := by decide +kernel
theorem dX0_copyRow_12 : decode cX0_copyRow 12 = .ok (.return_, 1) := by decide +kernel
theorem dX0_addRow_0 : decode cX0_addRow 0 = .ok (.iconst 0, 1) := by decide +kernel
theorem dX0_addRow_1 : decode cX0_addRow 1 = .ok (.istore_n 2, 1) := by decide +kernel
theorem dX0_addRow_2 : decode cX0_addRow 2 = .ok (.iload_n 2, 1) := by decide +kernel
theorem dX0_addRow_3 : decode cX0_addRow 3 = .ok (.aload_n 0, 1) := by decide +kernel
theorem dX0_addRow_4 : decode cX0_addRow 4 = .ok (.getfield 18, 3) := by decide +kernel
theorem dX0_addRow_7 : decode cX0_addRow 7 = .ok (.getfield 28, 3) := by decide +kernel
theorem dX0_addRow_10 : decode cX0_addRow 10 = .ok (.if_icmp .ge 21, 3) := by decide +kernel
theorem dX0_addRow_13 : decode cX0_addRow 13 = .ok (.aload_n 0, 1) := by decide +kernel
theorem dX0_addRow_14 : decode cX0_addRow 14 = .ok (.getfield 9, 3) := by decide +kernel
theorem dX0_addRow_17 : decode cX0_addRow 17 = .ok (.iload_n 2, 1) := by decide +kernel
theorem dX0_addRow_18 : decode cX0_addRow 18 = .ok (.dup2, 1) := by decide +kernel
theorem dX0_addRow_19 : decode cX0_addRow 19 = .ok (.iaload, 1) := by decide +kernel
theorem dX0_addRow_20 : decode cX0_addRow 20 = .ok (.aload_n 1, 1) := by decide +kernel
theorem dX0_addRow_21 : decode cX0_addRow 21 = .ok (.iload_n 2, 1) := by decide +kernel
theorem dX0_addRow_22 : decode cX0_addRow 22 = .ok (.iaload, 1) := by decide +kernel
theorem dX0_addRow_23 : decode cX0_addRow 23 = .ok (.iadd, 1) := by decide +kernel
theorem dX0_addRow_24 : decode cX0_addRow 24 = .ok (.iastore, 1) := by decide +kernel
theorem dX0_addRow_25 : decode cX0_addRow 25 = .ok (.iinc 2 1, 3) := by decide +kernel
theorem dX0_addRow_28 : decode cX0_addRow 28 = .ok (.goto (-26), 3) := by decide +kernel
theorem dX0_addRow_31 : decode cX0_addRow 31 = .ok (.return_, 1) := by decide +kernel
theorem dX0_addFromSink_0 : decode cX0_addFromSink 0 = .ok (.iconst 0, 1) := by decide +kernel
theorem dX0_addFromSink_1 : decode cX0_addFromSink 1 = .ok (.istore_n 1, 1) := by decide +kernel
theorem dX0_addFromSink_2 : decode cX0_addFromSink 2 = .ok (.iload_n 1, 1) := by decide +kernel
theorem dX0_addFromSink_3 : decode cX0_addFromSink 3 = .ok (.aload_n 0, 1) := by decide +kernel
theorem dX0_addFromSink_4 : decode cX0_addFromSink 4 = .ok (.getfield 18, 3) := by decide +kernel
theorem dX0_addFromSink_7 : decode cX0_addFromSink 7 = .ok (.getfield 28, 3) := by decide +kernel
theorem dX0_addFromSink_10 : decode cX0_addFromSink 10 = .ok (.if_icmp .ge 30, 3) := by decide +kernel
theorem dX0_addFromSink_13 : decode cX0_addFromSink 13 = .ok (.aload_n 0, 1) := by decide +kernel
theorem dX0_addFromSink_14 : decode cX0_addFromSink 14 = .ok (.getfield 9, 3) := by decide +kernel
theorem dX0_addFromSink_17 : decode cX0_addFromSink 17 = .ok (.iload_n 1, 1) := by decide +kernel
theorem dX0_addFromSink_18 : decode cX0_addFromSink 18 = .ok (.dup2, 1) := by decide +kernel
theorem dX0_addFromSink_19 : decode cX0_addFromSink 19 = .ok (.iaload, 1) := by decide +kernel
theorem dX0_addFromSink_20 : decode cX0_addFromSink 20 = .ok (.aload_n 0, 1) := by decide +kernel
theorem dX0_addFromSink_21 : decode cX0_addFromSink 21 = .ok (.getfield 18, 3) := by decide +kernel
theorem dX0_addFromSink_24 : decode cX0_addFromSink 24 = .ok (.getfield 34, 3) := by decide +kernel
theorem dX0_addFromSink_27 : decode cX0_addFromSink 27 = .ok (.iload_n 1, 1) := by decide +kernel
theorem dX0_addFromSink_28 : decode cX0_addFromSink 28 = .ok (.aaload, 1) := by decide +kernel
theorem dX0_addFromSink_29 : decode cX0_addFromSink 29 = .ok (.bipush 6, 2) := by decide +kernel
theorem dX0_addFromSink_31 : decode cX0_addFromSink 31 = .ok (.iaload, 1) := by decide +kernel
theorem dX0_addFromSink_32 : decode cX0_addFromSink 32 = .ok (.iadd, 1) := by decide +kernel
theorem dX0_addFromSink_33 : decode cX0_addFromSink 33 = .ok (.iastore, 1) := by decide +kernel
theorem dX0_addFromSink_34 : decode cX0_addFromSink 34 = .ok (.iinc 1 1, 3) := by decide +kernel
theorem dX0_addFromSink_37 : decode cX0_addFromSink 37 = .ok (.goto (-35), 3) := by decide +kernel
theorem dX0_addFromSink_40 : decode cX0_addFromSink 40 = .ok (.return_, 1) := by decide +kernel
theorem dX0_isLike_0 : decode cX0_isLike 0 = .ok (.iconst 0, 1) := by decide +kernel
theorem dX0_isLike_1 : decode cX0_isLike 1 = .ok (.istore_n 2, 1) := by decide +kernel
theorem dX0_isLike_2 : decode cX0_isLike 2 = .ok (.iload_n 2, 1) := by decide +kernel
theorem dX0_isLike_3 : decode cX0_isLike 3 = .ok (.aload_n 0, 1) := by decide +kernel
theorem dX0_isLike_4 : decode cX0_isLike 4 = .ok (.getfield 18, 3) := by decide +kernel
theorem dX0_isLike_7 : decode cX0_isLike 7 = .ok (.getfield 28, 3) := by decide +kernel
theorem dX0_isLike_10 : decode cX0_isLike 10 = .ok (.if_icmp .ge 23, 3) := by decide +kernel
theorem dX0_isLike_13 : decode cX0_isLike 13 = .ok (.aload_n 0, 1) := by decide +kernel
theorem dX0_isLike_14 : decode cX0_isLike 14 = .ok (.getfield 9, 3) := by decide +kernel
theorem dX0_isLike_17 : decode cX0_isLike 17 = .ok (.iload_n 2, 1) := by decide +kernel
theorem dX0_isLike_18 : decode cX0_isLike 18 = .ok (.iaload, 1) := by decide +kernel
theorem dX0_isLike_19 : decode cX0_isLike 19 = .ok (.aload_n 1, 1) := by decide +kernel
theorem dX0_isLike_20 : decode cX0_isLike 20 = .ok (.iload_n 2, 1) := by decide +kernel
theorem dX0_isLike_21 : decode cX0_isLike 21 = .ok (.iaload, 1) := by decide +kernel
theorem dX0_isLike_22 : decode cX0_isLike 22 = .ok (.if_icmp .eq 5, 3) := by decide +kernel
theorem dX0_isLike_25 : decode cX0_isLike 25 = .ok (.iconst 0, 1) := by decide +kernel
theorem dX0_isLike_26 : decode cX0_isLike 26 = .ok (.ireturn, 1) := by decide +kernel
theorem dX0_isLike_27 : decode cX0_isLike 27 = .ok (.iinc 2 1, 3) := by decide +kernel
theorem dX0_isLike_30 : decode cX0_isLike 30 = .ok (.goto (-28), 3) := by decide +kernel
theorem dX0_isLike_33 : decode cX0_isLike 33 = .ok (.iconst 1, 1) := by decide +kernel
theorem dX0_isLike_34 : decode cX0_isLike 34 = .ok (.ireturn, 1) := by decide +kernel
theorem dX0_allGrains_0 : decode cX0_allGrains 0 = .ok (.iconst 0, 1) := by decide +kernel
theorem dX0_allGrains_1 : decode cX0_allGrains 1 = .ok (.istore_n 1, 1) := by decide +kernel
theorem dX0_allGrains_2 : decode cX0_allGrains 2 = .ok (.iconst 0, 1) := by decide +kernel
theorem dX0_allGrains_3 : decode cX0_allGrains 3 = .ok (.istore_n 2, 1) := by decide +kernel
theorem dX0_allGrains_4 : decode cX0_allGrains 4 = .ok (.iload_n 2, 1) := by decide +kernel
theorem dX0_allGrains_5 : decode cX0_allGrains 5 = .ok (.aload_n 0, 1) := by decide +kernel
theorem dX0_allGrains_6 : decode cX0_allGrains 6 = .ok (.getfield 18, 3) := by decide +kernel
theorem dX0_allGrains_9 : decode cX0_allGrains 9 = .ok (.getfield 28, 3) := by decide +kernel
theorem dX0_allGrains_12 : decode cX0_allGrains 12 = .ok (.if_icmp .ge 18, 3) := by decide +kernel
theorem dX0_allGrains_15 : decode cX0_allGrains 15 = .ok (.iload_n 1, 1) := by decide +kernel
theorem dX0_allGrains_16 : decode cX0_allGrains 16 = .ok (.aload_n 0, 1) := by decide +kernel
theorem dX0_allGrains_17 : decode cX0_allGrains 17 = .ok (.getfield 9, 3) := by decide +kernel
theorem dX0_allGrains_20 : decode cX0_allGrains 20 = .ok (.iload_n 2, 1) := by decide +kernel
theorem dX0_allGrains_21 : decode cX0_allGrains 21 = .ok (.iaload, 1) := by decide +kernel
theorem dX0_allGrains_22 : decode cX0_allGrains 22 = .ok (.iadd, 1) := by decide +kernel
theorem dX0_allGrains_23 : decode cX0_allGrains 23 = .ok (.istore_n 1, 1) := by decide +kernel
theorem dX0_allGrains_24 : decode cX0_allGrains 24 = .ok (.iinc 2 1, 3) := by decide +kernel
theorem dX0_allGrains_27 : decode cX0_allGrains 27 = .ok (.goto (-23), 3) := by decide +kernel
theorem dX0_allGrains_30 : decode cX0_allGrains 30 = .ok (.iload_n 1, 1) := by decide +kernel
theorem dX0_allGrains_31 : decode cX0_allGrains 31 = .ok (.ireturn, 1) := by decide +kernel
theorem dX0_isSteep_0 : decode cX0_isSteep 0 = .ok (.aload_n 0, 1) := by decide +kernel
theorem dX0_isSteep_1 : decode cX0_isSteep 1 = .ok (.getfield 18, 3) := by decide +kernel
theorem dX0_isSteep_4 : decode cX0_isSteep 4 = .ok (.getfield 38, 3) := by decide +kernel
theorem dX0_isSteep_7 : decode cX0_isSteep 7 = .ok (.iload_n 1, 1) := by decide +kernel
theorem dX0_isSteep_8 : decode cX0_isSteep 8 = .ok (.iaload, 1) := by decide +kernel
theorem dX0_isSteep_9 : decode cX0_isSteep 9 = .ok (.ifCond .le 25, 3) := by decide +kernel
theorem dX0_isSteep_12 : decode cX0_isSteep 12 = .ok (.aload_n 0, 1) := by decide +kernel
theorem dX0_isSteep_13 : decode cX0_isSteep 13 = .ok (.getfield 9, 3) := by decide +kernel
theorem dX0_isSteep_16 : decode cX0_isSteep 16 = .ok (.iload_n 1, 1) := by decide +kernel
theorem dX0_isSteep_17 : decode cX0_isSteep 17 = .ok (.iaload, 1) := by decide +kernel
theorem dX0_isSteep_18 : decode cX0_isSteep 18 = .ok (.aload_n 0, 1) := by decide +kernel
theorem dX0_isSteep_19 : decode cX0_isSteep 19 = .ok (.getfield 18, 3) := by decide +kernel
theorem dX0_isSteep_22 : decode cX0_isSteep 22 = .ok (.getfield 38, 3) := by decide +kernel
theorem dX0_isSteep_25 : decode cX0_isSteep 25 = .ok (.iload_n 1, 1) := by decide +kernel
theorem dX0_isSteep_26 : decode cX0_isSteep 26 = .ok (.iaload, 1) := by decide +kernel
theorem dX0_isSteep_27 : decode cX0_isSteep 27 = .ok (.if_icmp .lt 7, 3) := by decide +kernel
theorem dX0_isSteep_30 : decode cX0_isSteep 30 = .ok (.iconst 1, 1) := by decide +kernel
theorem dX0_isSteep_31 : decode cX0_isSteep 31 = .ok (.goto 4, 3) := by decide +kernel
theorem dX0_isSteep_34 : decode cX0_isSteep 34 = .ok (.iconst 0, 1) := by decide +kernel
theorem dX0_isSteep_35 : decode cX0_isSteep 35 = .ok (.ireturn, 1) := by decide +kernel
set_option maxRecDepth 20000 in
theorem ggX0_steepSet_X0_isSteep : GoodIn wsX0_steepSet wsX0_isSteep := goodIn_r _ [7, 1, 8, 9, 10, 11, 12, 13, 14, 15, 16] (by decide +kernel) (by decide +kernel)
set_option maxRecDepth 20000 in
theorem gX0_steepSet_X0_isSteep : GoodIn wsX0_steepSet (wsV RX0 41 RX0 yX0_isSteep wsX0_isSteep) := goodIn_app (goodIn_of _ (by decide +kernel)) ggX0_steepSet_X0_isSteep
theorem dX0_steepSet_0 : decode cX0_steepSet 0 = .ok (.iconst 0, 1) := by decide +kernel
theorem dX0_steepSet_1 : decode cX0_steepSet 1 = .ok (.istore_n 1, 1) := by decide +kernel
theorem dX0_steepSet_2 : decode cX0_steepSet 2 = .ok (.iconst 0, 1) := by decide +kernel
theorem dX0_steepSet_3 : decode cX0_steepSet 3 = .ok (.istore_n 2, 1) := by decide +kernel
theorem dX0_steepSet_4 : decode cX0_steepSet 4 = .ok (.iload_n 2, 1) := by decide +kernel
theorem dX0_steepSet_5 : decode cX0_steepSet 5 = .ok (.aload_n 0, 1) := by decide +kernel
theorem dX0_steepSet_6 : decode cX0_steepSet 6 = .ok (.getfield 18, 3) := by decide +kernel
theorem dX0_steepSet_9 : decode cX0_steepSet 9 = .ok (.getfield 28, 3) := by decide +kernel
theorem dX0_steepSet_12 : decode cX0_steepSet 12 = .ok (.if_icmp .ge 23, 3) := by decide +kernel
theorem dX0_steepSet_15 : decode cX0_steepSet 15 = .ok (.aload_n 0, 1) := by decide +kernel
theorem dX0_steepSet_16 : decode cX0_steepSet 16 = .ok (.iload_n 2, 1) := by decide +kernel
theorem dX0_steepSet_17 : decode cX0_steepSet 17 = .ok (.invokevirtual 41, 3) := by decide +kernel
theorem dX0_steepSet_20 : decode cX0_steepSet 20 = .ok (.ifCond .eq 9, 3) := by decide +kernel
theorem dX0_steepSet_23 : decode cX0_steepSet 23 = .ok (.iload_n 1, 1) := by decide +kernel
theorem dX0_steepSet_24 : decode cX0_steepSet 24 = .ok (.iconst 1, 1) := by decide +kernel
theorem dX0_steepSet_25 : decode cX0_steepSet 25 = .ok (.iload_n 2, 1) := by decide +kernel
theorem dX0_steepSet_26 : decode cX0_steepSet 26 = .ok (.ishl, 1) := by decide +kernel
theorem dX0_steepSet_27 : decode cX0_steepSet 27 = .ok (.ior, 1) := by decide +kernel
theorem dX0_steepSet_28 : decode cX0_steepSet 28 = .ok (.istore_n 1, 1) := by decide +kernel
theorem dX0_steepSet_29 : decode cX0_steepSet 29 = .ok (.iinc 2 1, 3) := by decide +kernel
theorem dX0_steepSet_32 : decode cX0_steepSet 32 = .ok (.goto (-28), 3) := by decide +kernel
theorem dX0_steepSet_35 : decode cX0_steepSet 35 = .ok (.iload_n 1, 1) := by decide +kernel
theorem dX0_steepSet_36 : decode cX0_steepSet 36 = .ok (.ireturn, 1) := by decide +kernel
theorem dX0_tip_0 : decode cX0_tip 0 = .ok (.aload_n 0, 1) := by decide +kernel
theorem dX0_tip_1 : decode cX0_tip 1 = .ok (.getfield 9, 3) := by decide +kernel
theorem dX0_tip_4 : decode cX0_tip 4 = .ok (.iload_n 1, 1) := by decide +kernel
theorem dX0_tip_5 : decode cX0_tip 5 = .ok (.dup2, 1) := by decide +kernel
theorem dX0_tip_6 : decode cX0_tip 6 = .ok (.iaload, 1) := by decide +kernel
theorem dX0_tip_7 : decode cX0_tip 7 = .ok (.iload_n 2, 1) := by decide +kernel
theorem dX0_tip_8 : decode cX0_tip 8 = .ok (.aload_n 0, 1) := by decide +kernel
theorem dX0_tip_9 : decode cX0_tip 9 = .ok (.getfield 18, 3) := by decide +kernel
theorem dX0_tip_12 : decode cX0_tip 12 = .ok (.getfield 38, 3) := by decide +kernel
theorem dX0_tip_15 : decode cX0_tip 15 = .ok (.iload_n 1, 1) := by decide +kernel
theorem dX0_tip_16 : decode cX0_tip 16 = .ok (.iaload, 1) := by decide +kernel
theorem dX0_tip_17 : decode cX0_tip 17 = .ok (.imul, 1) := by decide +kernel
theorem dX0_tip_18 : decode cX0_tip 18 = .ok (.isub, 1) := by decide +kernel
theorem dX0_tip_19 : decode cX0_tip 19 = .ok (.iastore, 1) := by decide +kernel
theorem dX0_tip_20 : decode cX0_tip 20 = .ok (.iconst 0, 1) := by decide +kernel
theorem dX0_tip_21 : decode cX0_tip 21 = .ok (.istore_n 3, 1) := by decide +kernel
theorem dX0_tip_22 : decode cX0_tip 22 = .ok (.iload_n 3, 1) := by decide +kernel
theorem dX0_tip_23 : decode cX0_tip 23 = .ok (.aload_n 0, 1) := by decide +kernel
theorem dX0_tip_24 : decode cX0_tip 24 = .ok (.getfield 18, 3) := by decide +kernel
theorem dX0_tip_27 : decode cX0_tip 27 = .ok (.getfield 28, 3) := by decide +kernel
theorem dX0_tip_30 : decode cX0_tip 30 = .ok (.if_icmp .ge 31, 3) := by decide +kernel
theorem dX0_tip_33 : decode cX0_tip 33 = .ok (.aload_n 0, 1) := by decide +kernel
theorem dX0_tip_34 : decode cX0_tip 34 = .ok (.getfield 9, 3) := by decide +kernel
theorem dX0_tip_37 : decode cX0_tip 37 = .ok (.iload_n 3, 1) := by decide +kernel
theorem dX0_tip_38 : decode cX0_tip 38 = .ok (.dup2, 1) := by decide +kernel
theorem dX0_tip_39 : decode cX0_tip 39 = .ok (.iaload, 1) := by decide +kernel
theorem dX0_tip_40 : decode cX0_tip 40 = .ok (.iload_n 2, 1) := by decide +kernel
theorem dX0_tip_41 : decode cX0_tip 41 = .ok (.aload_n 0, 1) := by decide +kernel
theorem dX0_tip_42 : decode cX0_tip 42 = .ok (.getfield 18, 3) := by decide +kernel
theorem dX0_tip_45 : decode cX0_tip 45 = .ok (.getfield 34, 3) := by decide +kernel
theorem dX0_tip_48 : decode cX0_tip 48 = .ok (.iload_n 1, 1) := by decide +kernel
theorem dX0_tip_49 : decode cX0_tip 49 = .ok (.aaload, 1) := by decide +kernel
theorem dX0_tip_50 : decode cX0_tip 50 = .ok (.iload_n 3, 1) := by decide +kernel
theorem dX0_tip_51 : decode cX0_tip 51 = .ok (.iaload, 1) := by decide +kernel
theorem dX0_tip_52 : decode cX0_tip 52 = .ok (.imul, 1) := by decide +kernel
theorem dX0_tip_53 : decode cX0_tip 53 = .ok (.iadd, 1) := by decide +kernel
theorem dX0_tip_54 : decode cX0_tip 54 = .ok (.iastore, 1) := by decide +kernel
theorem dX0_tip_55 : decode cX0_tip 55 = .ok (.iinc 3 1, 3) := by decide +kernel
theorem dX0_tip_58 : decode cX0_tip 58 = .ok (.goto (-36), 3) := by decide +kernel
theorem dX0_tip_61 : decode cX0_tip 61 = .ok (.return_, 1) := by decide +kernel
set_option maxRecDepth 20000 in
theorem ggX0_roll_J7_fill_53178 : GoodIn wsX0_roll wsJ7_fill_53178 := goodIn_r _ [6] (by decide +kernel) (by decide +kernel)
set_option maxRecDepth 20000 in
theorem gX0_roll_J7_fill_53178 : GoodIn wsX0_roll (va_wsS RX0 45 yJ7_fill_53178 wsJ7_fill_53178) := goodIn_app (goodIn_of _ (by decide +kernel)) ggX0_roll_J7_fill_53178
set_option maxRecDepth 20000 in
theorem ggX0_roll_X0_rollRound : GoodIn wsX0_roll wsX0_rollRound := goodIn_r _ [11, 12, 13, 14, 15, 1, 16, 17, 18, 10, 19, 20, 21, 22, 23, 24, 25, 26, 27] (by decide +kernel) (by decide +kernel)
set_option maxRecDepth 20000 in
theorem gX0_roll_X0_rollRound : GoodIn wsX0_roll (wsV RX0 52 RX0 yX0_rollRound wsX0_rollRound) := goodIn_app (goodIn_of _ (by decide +kernel)) ggX0_roll_X0_rollRound
theorem dX0_roll_0 : decode cX0_roll 0 = .ok (.aload_n 0, 1) := by decide +kernel
theorem dX0_roll_1 : decode cX0_roll 1 = .ok (.getfield 15, 3) := by decide +kernel
theorem dX0_roll_4 : decode cX0_roll 4 = .ok (.iconst 0, 1) := by decide +kernel
theorem dX0_roll_5 : decode cX0_roll 5 = .ok (.invokestatic 45, 3) := by decide +kernel
theorem dX0_roll_8 : decode cX0_roll 8 = .ok (.iconst 1, 1) := by decide +kernel
theorem dX0_roll_9 : decode cX0_roll 9 = .ok (.istore_n 1, 1) := by decide +kernel
theorem dX0_roll_10 : decode cX0_roll 10 = .ok (.iconst 0, 1) := by decide +kernel
theorem dX0_roll_11 : decode cX0_roll 11 = .ok (.istore_n 2, 1) := by decide +kernel
theorem dX0_roll_12 : decode cX0_roll 12 = .ok (.iload_n 1, 1) := by decide +kernel
theorem dX0_roll_13 : decode cX0_roll 13 = .ok (.ifCond .eq 20, 3) := by decide +kernel
theorem dX0_roll_16 : decode cX0_roll 16 = .ok (.iload_n 2, 1) := by decide +kernel
theorem dX0_roll_17 : decode cX0_roll 17 = .ok (.ldc 51, 2) := by decide +kernel
theorem dX0_roll_19 : decode cX0_roll 19 = .ok (.if_icmp .ge 14, 3) := by decide +kernel
theorem dX0_roll_22 : decode cX0_roll 22 = .ok (.aload_n 0, 1) := by decide +kernel
theorem dX0_roll_23 : decode cX0_roll 23 = .ok (.invokevirtual 52, 3) := by decide +kernel
theorem dX0_roll_26 : decode cX0_roll 26 = .ok (.istore_n 1, 1) := by decide +kernel
theorem dX0_roll_27 : decode cX0_roll 27 = .ok (.iinc 2 1, 3) := by decide +kernel
theorem dX0_roll_30 : decode cX0_roll 30 = .ok (.goto (-18), 3) := by decide +kernel
theorem dX0_roll_33 : decode cX0_roll 33 = .ok (.return_, 1) := by decide +kernel
set_option maxRecDepth 20000 in
theorem ggX0_rollRound_X0_tip : GoodIn wsX0_rollRound wsX0_tip := goodIn_r _ [10, 4, 1, 3, 2, 11, 12, 13, 14, 15, 16, 17, 18] (by decide +kernel) (by decide +kernel)
set_option maxRecDepth 20000 in
theorem gX0_rollRound_X0_tip : GoodIn wsX0_rollRound (wsV RX0 56 RX0 yX0_tip wsX0_tip) := goodIn_app (goodIn_of _ (by decide +kernel)) ggX0_rollRound_X0_tip
theorem dX0_rollRound_0 : decode cX0_rollRound 0 = .ok (.iconst 0, 1) := by decide +kernel
theorem dX0_rollRound_1 : decode cX0_rollRound 1 = .ok (.istore_n 1, 1) := by decide +kernel
theorem dX0_rollRound_2 : decode cX0_rollRound 2 = .ok (.iconst 0, 1) := by decide +kernel
theorem dX0_rollRound_3 : decode cX0_rollRound 3 = .ok (.istore_n 2, 1) := by decide +kernel
theorem dX0_rollRound_4 : decode cX0_rollRound 4 = .ok (.iload_n 2, 1) := by decide +kernel
theorem dX0_rollRound_5 : decode cX0_rollRound 5 = .ok (.aload_n 0, 1) := by decide +kernel
theorem dX0_rollRound_6 : decode cX0_rollRound 6 = .ok (.getfield 18, 3) := by decide +kernel
theorem dX0_rollRound_9 : decode cX0_rollRound 9 = .ok (.getfield 28, 3) := by decide +kernel
theorem dX0_rollRound_12 : decode cX0_rollRound 12 = .ok (.if_icmp .ge 63, 3) := by decide +kernel
theorem dX0_rollRound_15 : decode cX0_rollRound 15 = .ok (.aload_n 0, 1) := by decide +kernel
theorem dX0_rollRound_16 : decode cX0_rollRound 16 = .ok (.getfield 18, 3) := by decide +kernel
theorem dX0_rollRound_19 : decode cX0_rollRound 19 = .ok (.getfield 38, 3) := by decide +kernel
theorem dX0_rollRound_22 : decode cX0_rollRound 22 = .ok (.iload_n 2, 1) := by decide +kernel
theorem dX0_rollRound_23 : decode cX0_rollRound 23 = .ok (.iaload, 1) := by decide +kernel
theorem dX0_rollRound_24 : decode cX0_rollRound 24 = .ok (.istore_n 3, 1) := by decide +kernel
theorem dX0_rollRound_25 : decode cX0_rollRound 25 = .ok (.iload_n 3, 1) := by decide +kernel
theorem dX0_rollRound_26 : decode cX0_rollRound 26 = .ok (.ifCond .le 43, 3) := by decide +kernel
theorem dX0_rollRound_29 : decode cX0_rollRound 29 = .ok (.aload_n 0, 1) := by decide +kernel
theorem dX0_rollRound_30 : decode cX0_rollRound 30 = .ok (.getfield 9, 3) := by decide +kernel
theorem dX0_rollRound_33 : decode cX0_rollRound 33 = .ok (.iload_n 2, 1) := by decide +kernel
theorem dX0_rollRound_34 : decode cX0_rollRound 34 = .ok (.iaload, 1) := by decide +kernel
theorem dX0_rollRound_35 : decode cX0_rollRound 35 = .ok (.iload_n 3, 1) := by decide +kernel
theorem dX0_rollRound_36 : decode cX0_rollRound 36 = .ok (.if_icmp .lt 33, 3) := by decide +kernel
theorem dX0_rollRound_39 : decode cX0_rollRound 39 = .ok (.aload_n 0, 1) := by decide +kernel
theorem dX0_rollRound_40 : decode cX0_rollRound 40 = .ok (.getfield 9, 3) := by decide +kernel
theorem dX0_rollRound_43 : decode cX0_rollRound 43 = .ok (.iload_n 2, 1) := by decide +kernel
theorem dX0_rollRound_44 : decode cX0_rollRound 44 = .ok (.iaload, 1) := by decide +kernel
theorem dX0_rollRound_45 : decode cX0_rollRound 45 = .ok (.iload_n 3, 1) := by decide +kernel
theorem dX0_rollRound_46 : decode cX0_rollRound 46 = .ok (.idiv, 1) := by decide +kernel
theorem dX0_rollRound_47 : decode cX0_rollRound 47 = .ok (.istore 4, 2) := by decide +kernel
theorem dX0_rollRound_49 : decode cX0_rollRound 49 = .ok (.aload_n 0, 1) := by decide +kernel
theorem dX0_rollRound_50 : decode cX0_rollRound 50 = .ok (.iload_n 2, 1) := by decide +kernel
theorem dX0_rollRound_51 : decode cX0_rollRound 51 = .ok (.iload 4, 2) := by decide +kernel
theorem dX0_rollRound_53 : decode cX0_rollRound 53 = .ok (.invokevirtual 56, 3) := by decide +kernel
theorem dX0_rollRound_56 : decode cX0_rollRound 56 = .ok (.aload_n 0, 1) := by decide +kernel
theorem dX0_rollRound_57 : decode cX0_rollRound 57 = .ok (.getfield 15, 3) := by decide +kernel
theorem dX0_rollRound_60 : decode cX0_rollRound 60 = .ok (.iload_n 2, 1) := by decide +kernel
theorem dX0_rollRound_61 : decode cX0_rollRound 61 = .ok (.dup2, 1) := by decide +kernel
theorem dX0_rollRound_62 : decode cX0_rollRound 62 = .ok (.iaload, 1) := by decide +kernel
theorem dX0_rollRound_63 : decode cX0_rollRound 63 = .ok (.iload 4, 2) := by decide +kernel
theorem dX0_rollRound_65 : decode cX0_rollRound 65 = .ok (.iadd, 1) := by decide +kernel
theorem dX0_rollRound_66 : decode cX0_rollRound 66 = .ok (.iastore, 1) := by decide +kernel
theorem dX0_rollRound_67 : decode cX0_rollRound 67 = .ok (.iconst 1, 1) := by decide +kernel
theorem dX0_rollRound_68 : decode cX0_rollRound 68 = .ok (.istore_n 1, 1) := by decide +kernel
theorem dX0_rollRound_69 : decode cX0_rollRound 69 = .ok (.iinc 2 1, 3) := by decide +kernel
theorem dX0_rollRound_72 : decode cX0_rollRound 72 = .ok (.goto (-68), 3) := by decide +kernel
theorem dX0_rollRound_75 : decode cX0_rollRound 75 = .ok (.iload_n 1, 1) := by decide +kernel
theorem dX0_rollRound_76 : decode cX0_rollRound 76 = .ok (.ireturn, 1) := by decide +kernel
theorem dX0_allTimes_0 : decode cX0_allTimes 0 = .ok (.iconst 0, 1) := by decide +kernel
theorem dX0_allTimes_1 : decode cX0_allTimes 1 = .ok (.istore_n 1, 1) := by decide +kernel
theorem dX0_allTimes_2 : decode cX0_allTimes 2 = .ok (.iconst 0, 1) := by decide +kernel
theorem dX0_allTimes_3 : decode cX0_allTimes 3 = .ok (.istore_n 2, 1) := by decide +kernel
theorem dX0_allTimes_4 : decode cX0_allTimes 4 = .ok (.iload_n 2, 1) := by decide +kernel
theorem dX0_allTimes_5 : decode cX0_allTimes 5 = .ok (.aload_n 0, 1) := by decide +kernel
theorem dX0_allTimes_6 : decode cX0_allTimes 6 = .ok (.getfield 18, 3) := by decide +kernel
theorem dX0_allTimes_9 : decode cX0_allTimes 9 = .ok (.getfield 28, 3) := by decide +kernel
theorem dX0_allTimes_12 : decode cX0_allTimes 12 = .ok (.if_icmp .ge 18, 3) := by decide +kernel
theorem dX0_allTimes_15 : decode cX0_allTimes 15 = .ok (.iload_n 1, 1) := by decide +kernel
theorem dX0_allTimes_16 : decode cX0_allTimes 16 = .ok (.aload_n 0, 1) := by decide +kernel
theorem dX0_allTimes_17 : decode cX0_allTimes 17 = .ok (.getfield 15, 3) := by decide +kernel
theorem dX0_allTimes_20 : decode cX0_allTimes 20 = .ok (.iload_n 2, 1) := by decide +kernel
theorem dX0_allTimes_21 : decode cX0_allTimes 21 = .ok (.iaload, 1) := by decide +kernel
theorem dX0_allTimes_22 : decode cX0_allTimes 22 = .ok (.iadd, 1) := by decide +kernel
theorem dX0_allTimes_23 : decode cX0_allTimes 23 = .ok (.istore_n 1, 1) := by decide +kernel
theorem dX0_allTimes_24 : decode cX0_allTimes 24 = .ok (.iinc 2 1, 3) := by decide +kernel
theorem dX0_allTimes_27 : decode cX0_allTimes 27 = .ok (.goto (-23), 3) := by decide +kernel
theorem dX0_allTimes_30 : decode cX0_allTimes 30 = .ok (.iload_n 1, 1) := by decide +kernel
theorem dX0_allTimes_31 : decode cX0_allTimes 31 = .ok (.ireturn, 1) := by decide +kernel
theorem dX0_swallowedByRoll_0 : decode cX0_swallowedByRoll 0 = .ok (.iconst 0, 1) := by decide +kernel
theorem dX0_swallowedByRoll_1 : decode cX0_swallowedByRoll 1 = .ok (.istore_n 1, 1) := by decide +kernel
theorem dX0_swallowedByRoll_2 : decode cX0_swallowedByRoll 2 = .ok (.iconst 0, 1) := by decide +kernel
theorem dX0_swallowedByRoll_3 : decode cX0_swallowedByRoll 3 = .ok (.istore_n 2, 1) := by decide +kernel
theorem dX0_swallowedByRoll_4 : decode cX0_swallowedByRoll 4 = .ok (.iload_n 2, 1) := by decide +kernel
theorem dX0_swallowedByRoll_5 : decode cX0_swallowedByRoll 5 = .ok (.aload_n 0, 1) := by decide +kernel
theorem dX0_swallowedByRoll_6 : decode cX0_swallowedByRoll 6 = .ok (.getfield 18, 3) := by decide +kernel
theorem dX0_swallowedByRoll_9 : decode cX0_swallowedByRoll 9 = .ok (.getfield 28, 3) := by decide +kernel
theorem dX0_swallowedByRoll_12 : decode cX0_swallowedByRoll 12 = .ok (.if_icmp .ge 31, 3) := by decide +kernel
theorem dX0_swallowedByRoll_15 : decode cX0_swallowedByRoll 15 = .ok (.iload_n 1, 1) := by decide +kernel
theorem dX0_swallowedByRoll_16 : decode cX0_swallowedByRoll 16 = .ok (.aload_n 0, 1) := by decide +kernel
theorem dX0_swallowedByRoll_17 : decode cX0_swallowedByRoll 17 = .ok (.getfield 15, 3) := by decide +kernel
theorem dX0_swallowedByRoll_20 : decode cX0_swallowedByRoll 20 = .ok (.iload_n 2, 1) := by decide +kernel
theorem dX0_swallowedByRoll_21 : decode cX0_swallowedByRoll 21 = .ok (.iaload, 1) := by decide +kernel
theorem dX0_swallowedByRoll_22 : decode cX0_swallowedByRoll 22 = .ok (.aload_n 0, 1) := by decide +kernel
theorem dX0_swallowedByRoll_23 : decode cX0_swallowedByRoll 23 = .ok (.getfield 18, 3) := by decide +kernel
theorem dX0_swallowedByRoll_26 : decode cX0_swallowedByRoll 26 = .ok (.getfield 34, 3) := by decide +kernel
theorem dX0_swallowedByRoll_29 : decode cX0_swallowedByRoll 29 = .ok (.iload_n 2, 1) := by decide +kernel
theorem dX0_swallowedByRoll_30 : decode cX0_swallowedByRoll 30 = .ok (.aaload, 1) := by decide +kernel
theorem dX0_swallowedByRoll_31 : decode cX0_swallowedByRoll 31 = .ok (.bipush 6, 2) := by decide +kernel
theorem dX0_swallowedByRoll_33 : decode cX0_swallowedByRoll 33 = .ok (.iaload, 1) := by decide +kernel
theorem dX0_swallowedByRoll_34 : decode cX0_swallowedByRoll 34 = .ok (.imul, 1) := by decide +kernel
theorem dX0_swallowedByRoll_35 : decode cX0_swallowedByRoll 35 = .ok (.iadd, 1) := by decide +kernel
theorem dX0_swallowedByRoll_36 : decode cX0_swallowedByRoll 36 = .ok (.istore_n 1, 1) := by decide +kernel
theorem dX0_swallowedByRoll_37 : decode cX0_swallowedByRoll 37 = .ok (.iinc 2 1, 3) := by decide +kernel
theorem dX0_swallowedByRoll_40 : decode cX0_swallowedByRoll 40 = .ok (.goto (-36), 3) := by decide +kernel
theorem dX0_swallowedByRoll_43 : decode cX0_swallowedByRoll 43 = .ok (.iload_n 1, 1) := by decide +kernel
theorem dX0_swallowedByRoll_44 : decode cX0_swallowedByRoll 44 = .ok (.ireturn, 1) := by decide +kernel
theorem dX0_hasEachToppledOnce_0 : decode cX0_hasEachToppledOnce 0 = .ok (.iconst 0, 1) := by decide +kernel
theorem dX0_hasEachToppledOnce_1 : decode cX0_hasEachToppledOnce 1 = .ok (.istore_n 1, 1) := by decide +kernel
theorem dX0_hasEachToppledOnce_2 : decode cX0_hasEachToppledOnce 2 = .ok (.iload_n 1, 1) := by decide +kernel
theorem dX0_hasEachToppledOnce_3 : decode cX0_hasEachToppledOnce 3 = .ok (.aload_n 0, 1) := by decide +kernel
theorem dX0_hasEachToppledOnce_4 : decode cX0_hasEachToppledOnce 4 = .ok (.getfield 18, 3) := by decide +kernel
theorem dX0_hasEachToppledOnce_7 : decode cX0_hasEachToppledOnce 7 = .ok (.getfield 28, 3) := by decide +kernel
theorem dX0_hasEachToppledOnce_10 : decode cX0_hasEachToppledOnce 10 = .ok (.if_icmp .ge 21, 3) := by decide +kernel
theorem dX0_hasEachToppledOnce_13 : decode cX0_hasEachToppledOnce 13 = .ok (.aload_n 0, 1) := by decide +kernel
theorem dX0_hasEachToppledOnce_14 : decode cX0_hasEachToppledOnce 14 = .ok (.getfield 15, 3) := by decide +kernel
theorem dX0_hasEachToppledOnce_17 : decode cX0_hasEachToppledOnce 17 = .ok (.iload_n 1, 1) := by decide +kernel
theorem dX0_hasEachToppledOnce_18 : decode cX0_hasEachToppledOnce 18 = .ok (.iaload, 1) := by decide +kernel
theorem dX0_hasEachToppledOnce_19 : decode cX0_hasEachToppledOnce 19 = .ok (.iconst 1, 1) := by decide +kernel
theorem dX0_hasEachToppledOnce_20 : decode cX0_hasEachToppledOnce 20 = .ok (.if_icmp .eq 5, 3) := by decide +kernel
theorem dX0_hasEachToppledOnce_23 : decode cX0_hasEachToppledOnce 23 = .ok (.iconst 0, 1) := by decide +kernel
theorem dX0_hasEachToppledOnce_24 : decode cX0_hasEachToppledOnce 24 = .ok (.ireturn, 1) := by decide +kernel
theorem dX0_hasEachToppledOnce_25 : decode cX0_hasEachToppledOnce 25 = .ok (.iinc 1 1, 3) := by decide +kernel
theorem dX0_hasEachToppledOnce_28 : decode cX0_hasEachToppledOnce 28 = .ok (.goto (-26), 3) := by decide +kernel
theorem dX0_hasEachToppledOnce_31 : decode cX0_hasEachToppledOnce 31 = .ok (.iconst 1, 1) := by decide +kernel
theorem dX0_hasEachToppledOnce_32 : decode cX0_hasEachToppledOnce 32 = .ok (.ireturn, 1) := by decide +kernel
set_option maxRecDepth 20000 in
theorem ggX0_becomeNeutral_X0_roll : GoodIn wsX0_becomeNeutral wsX0_roll := goodIn_r _ [9, 10, 11, 12, 13, 14, 15, 16, 17, 18, 8, 19, 1, 2, 4, 3, 20, 21, 22, 23, 24, 25, 26, 27, 28, 29, 30, 31] (by decide +kernel) (by decide +kernel)
set_option maxRecDepth 20000 in
theorem gX0_becomeNeutral_X0_roll : GoodIn wsX0_becomeNeutral (wsV RX0 60 RX0 yX0_roll wsX0_roll) := goodIn_app (goodIn_of _ (by decide +kernel)) ggX0_becomeNeutral_X0_roll
theorem dX0_becomeNeutral_0 : decode cX0_becomeNeutral 0 = .ok (.iconst 0, 1) := by decide +kernel
theorem dX0_becomeNeutral_1 : decode cX0_becomeNeutral 1 = .ok (.istore_n 1, 1) := by decide +kernel
theorem dX0_becomeNeutral_2 : decode cX0_becomeNeutral 2 = .ok (.iload_n 1, 1) := by decide +kernel
theorem dX0_becomeNeutral_3 : decode cX0_becomeNeutral 3 = .ok (.aload_n 0, 1) := by decide +kernel
theorem dX0_becomeNeutral_4 : decode cX0_becomeNeutral 4 = .ok (.getfield 18, 3) := by decide +kernel
theorem dX0_becomeNeutral_7 : decode cX0_becomeNeutral 7 = .ok (.getfield 28, 3) := by decide +kernel
theorem dX0_becomeNeutral_10 : decode cX0_becomeNeutral 10 = .ok (.if_icmp .ge 28, 3) := by decide +kernel
theorem dX0_becomeNeutral_13 : decode cX0_becomeNeutral 13 = .ok (.aload_n 0, 1) := by decide +kernel
theorem dX0_becomeNeutral_14 : decode cX0_becomeNeutral 14 = .ok (.getfield 9, 3) := by decide +kernel
theorem dX0_becomeNeutral_17 : decode cX0_becomeNeutral 17 = .ok (.iload_n 1, 1) := by decide +kernel
theorem dX0_becomeNeutral_18 : decode cX0_becomeNeutral 18 = .ok (.iconst 2, 1) := by decide +kernel
theorem dX0_becomeNeutral_19 : decode cX0_becomeNeutral 19 = .ok (.aload_n 0, 1) := by decide +kernel
theorem dX0_becomeNeutral_20 : decode cX0_becomeNeutral 20 = .ok (.getfield 18, 3) := by decide +kernel
theorem dX0_becomeNeutral_23 : decode cX0_becomeNeutral 23 = .ok (.getfield 38, 3) := by decide +kernel
theorem dX0_becomeNeutral_26 : decode cX0_becomeNeutral 26 = .ok (.iload_n 1, 1) := by decide +kernel
theorem dX0_becomeNeutral_27 : decode cX0_becomeNeutral 27 = .ok (.iaload, 1) := by decide +kernel
theorem dX0_becomeNeutral_28 : decode cX0_becomeNeutral 28 = .ok (.iconst 1, 1) := by decide +kernel
theorem dX0_becomeNeutral_29 : decode cX0_becomeNeutral 29 = .ok (.isub, 1) := by decide +kernel
theorem dX0_becomeNeutral_30 : decode cX0_becomeNeutral 30 = .ok (.imul, 1) := by decide +kernel
theorem dX0_becomeNeutral_31 : decode cX0_becomeNeutral 31 = .ok (.iastore, 1) := by decide +kernel
theorem dX0_becomeNeutral_32 : decode cX0_becomeNeutral 32 = .ok (.iinc 1 1, 3) := by decide +kernel
theorem dX0_becomeNeutral_35 : decode cX0_becomeNeutral 35 = .ok (.goto (-33), 3) := by decide +kernel
theorem dX0_becomeNeutral_38 : decode cX0_becomeNeutral 38 = .ok (.aload_n 0, 1) := by decide +kernel
theorem dX0_becomeNeutral_39 : decode cX0_becomeNeutral 39 = .ok (.invokevirtual 60, 3) := by decide +kernel
theorem dX0_becomeNeutral_42 : decode cX0_becomeNeutral 42 = .ok (.iconst 0, 1) := by decide +kernel
theorem dX0_becomeNeutral_43 : decode cX0_becomeNeutral 43 = .ok (.istore_n 1, 1) := by decide +kernel
theorem dX0_becomeNeutral_44 : decode cX0_becomeNeutral 44 = .ok (.iload_n 1, 1) := by decide +kernel
theorem dX0_becomeNeutral_45 : decode cX0_becomeNeutral 45 = .ok (.aload_n 0, 1) := by decide +kernel
theorem dX0_becomeNeutral_46 : decode cX0_becomeNeutral 46 = .ok (.getfield 18, 3) := by decide +kernel
theorem dX0_becomeNeutral_49 : decode cX0_becomeNeutral 49 = .ok (.getfield 28, 3) := by decide +kernel
theorem dX0_becomeNeutral_52 : decode cX0_becomeNeutral 52 = .ok (.if_icmp .ge 35, 3) := by decide +kernel
theorem dX0_becomeNeutral_55 : decode cX0_becomeNeutral 55 = .ok (.aload_n 0, 1) := by decide +kernel
theorem dX0_becomeNeutral_56 : decode cX0_becomeNeutral 56 = .ok (.getfield 9, 3) := by decide +kernel
theorem dX0_becomeNeutral_59 : decode cX0_becomeNeutral 59 = .ok (.iload_n 1, 1) := by decide +kernel
theorem dX0_becomeNeutral_60 : decode cX0_becomeNeutral 60 = .ok (.iconst 2, 1) := by decide +kernel
theorem dX0_becomeNeutral_61 : decode cX0_becomeNeutral 61 = .ok (.aload_n 0, 1) := by decide +kernel
theorem dX0_becomeNeutral_62 : decode cX0_becomeNeutral 62 = .ok (.getfield 18, 3) := by decide +kernel
theorem dX0_becomeNeutral_65 : decode cX0_becomeNeutral 65 = .ok (.getfield 38, 3) := by decide +kernel
theorem dX0_becomeNeutral_68 : decode cX0_becomeNeutral 68 = .ok (.iload_n 1, 1) := by decide +kernel
theorem dX0_becomeNeutral_69 : decode cX0_becomeNeutral 69 = .ok (.iaload, 1) := by decide +kernel
theorem dX0_becomeNeutral_70 : decode cX0_becomeNeutral 70 = .ok (.iconst 1, 1) := by decide +kernel
theorem dX0_becomeNeutral_71 : decode cX0_becomeNeutral 71 = .ok (.isub, 1) := by decide +kernel
theorem dX0_becomeNeutral_72 : decode cX0_becomeNeutral 72 = .ok (.imul, 1) := by decide +kernel
theorem dX0_becomeNeutral_73 : decode cX0_becomeNeutral 73 = .ok (.aload_n 0, 1) := by decide +kernel
theorem dX0_becomeNeutral_74 : decode cX0_becomeNeutral 74 = .ok (.getfield 9, 3) := by decide +kernel
theorem dX0_becomeNeutral_77 : decode cX0_becomeNeutral 77 = .ok (.iload_n 1, 1) := by decide +kernel
theorem dX0_becomeNeutral_78 : decode cX0_becomeNeutral 78 = .ok (.iaload, 1) := by decide +kernel
theorem dX0_becomeNeutral_79 : decode cX0_becomeNeutral 79 = .ok (.isub, 1) := by decide +kernel
theorem dX0_becomeNeutral_80 : decode cX0_becomeNeutral 80 = .ok (.iastore, 1) := by decide +kernel
theorem dX0_becomeNeutral_81 : decode cX0_becomeNeutral 81 = .ok (.iinc 1 1, 3) := by decide +kernel
theorem dX0_becomeNeutral_84 : decode cX0_becomeNeutral 84 = .ok (.goto (-40), 3) := by decide +kernel
theorem dX0_becomeNeutral_87 : decode cX0_becomeNeutral 87 = .ok (.aload_n 0, 1) := by decide +kernel
theorem dX0_becomeNeutral_88 : decode cX0_becomeNeutral 88 = .ok (.invokevirtual 60, 3) := by decide +kernel
theorem dX0_becomeNeutral_91 : decode cX0_becomeNeutral 91 = .ok (.return_, 1) := by decide +kernel
set_option maxRecDepth 20000 in
theorem ggX0_burningOrder_X0_nextToBurn : GoodIn wsX0_burningOrder wsX0_nextToBurn := goodIn_r _ [7, 1, 2, 8, 9, 10, 11, 12, 13, 14, 15, 16, 17, 18, 19, 20, 21] (by decide +kernel) (by decide +kernel)
set_option maxRecDepth 20000 in
theorem gX0_burningOrder_X0_nextToBurn : GoodIn wsX0_burningOrder (wsV RX0 63 RX0 yX0_nextToBurn wsX0_nextToBurn) := goodIn_app (goodIn_of _ (by decide +kernel)) ggX0_burningOrder_X0_nextToBurn
theorem dX0_burningOrder_0 : decode cX0_burningOrder 0 = .ok (.bipush 64, 2) := by decide +kernel
theorem dX0_burningOrder_2 : decode cX0_burningOrder 2 = .ok (.istore_n 1, 1) := by decide +kernel
theorem dX0_burningOrder_3 : decode cX0_burningOrder 3 = .ok (.iconst 0, 1) := by decide +kernel
theorem dX0_burningOrder_4 : decode cX0_burningOrder 4 = .ok (.istore_n 2, 1) := by decide +kernel
theorem dX0_burningOrder_5 : decode cX0_burningOrder 5 = .ok (.iconst 0, 1) := by decide +kernel
theorem dX0_burningOrder_6 : decode cX0_burningOrder 6 = .ok (.istore_n 3, 1) := by decide +kernel
theorem dX0_burningOrder_7 : decode cX0_burningOrder 7 = .ok (.iload_n 3, 1) := by decide +kernel
theorem dX0_burningOrder_8 : decode cX0_burningOrder 8 = .ok (.aload_n 0, 1) := by decide +kernel
theorem dX0_burningOrder_9 : decode cX0_burningOrder 9 = .ok (.getfield 18, 3) := by decide +kernel
theorem dX0_burningOrder_12 : decode cX0_burningOrder 12 = .ok (.getfield 28, 3) := by decide +kernel
theorem dX0_burningOrder_15 : decode cX0_burningOrder 15 = .ok (.if_icmp .ge 41, 3) := by decide +kernel
theorem dX0_burningOrder_18 : decode cX0_burningOrder 18 = .ok (.aload_n 0, 1) := by decide +kernel
theorem dX0_burningOrder_19 : decode cX0_burningOrder 19 = .ok (.iload_n 1, 1) := by decide +kernel
theorem dX0_burningOrder_20 : decode cX0_burningOrder 20 = .ok (.invokevirtual 63, 3) := by decide +kernel
theorem dX0_burningOrder_23 : decode cX0_burningOrder 23 = .ok (.istore 4, 2) := by decide +kernel
theorem dX0_burningOrder_25 : decode cX0_burningOrder 25 = .ok (.iload 4, 2) := by decide +kernel
theorem dX0_burningOrder_27 : decode cX0_burningOrder 27 = .ok (.iconst (-1), 1) := by decide +kernel
theorem dX0_burningOrder_28 : decode cX0_burningOrder 28 = .ok (.if_icmp .ne 5, 3) := by decide +kernel
theorem dX0_burningOrder_31 : decode cX0_burningOrder 31 = .ok (.iload_n 2, 1) := by decide +kernel
theorem dX0_burningOrder_32 : decode cX0_burningOrder 32 = .ok (.ireturn, 1) := by decide +kernel
theorem dX0_burningOrder_33 : decode cX0_burningOrder 33 = .ok (.iload_n 1, 1) := by decide +kernel
theorem dX0_burningOrder_34 : decode cX0_burningOrder 34 = .ok (.iconst 1, 1) := by decide +kernel
theorem dX0_burningOrder_35 : decode cX0_burningOrder 35 = .ok (.iload 4, 2) := by decide +kernel
theorem dX0_burningOrder_37 : decode cX0_burningOrder 37 = .ok (.ishl, 1) := by decide +kernel
theorem dX0_burningOrder_38 : decode cX0_burningOrder 38 = .ok (.ior, 1) := by decide +kernel
theorem dX0_burningOrder_39 : decode cX0_burningOrder 39 = .ok (.istore_n 1, 1) := by decide +kernel
theorem dX0_burningOrder_40 : decode cX0_burningOrder 40 = .ok (.iload_n 2, 1) := by decide +kernel
theorem dX0_burningOrder_41 : decode cX0_burningOrder 41 = .ok (.bipush 10, 2) := by decide +kernel
theorem dX0_burningOrder_43 : decode cX0_burningOrder 43 = .ok (.imul, 1) := by decide +kernel
theorem dX0_burningOrder_44 : decode cX0_burningOrder 44 = .ok (.iload 4, 2) := by decide +kernel
theorem dX0_burningOrder_46 : decode cX0_burningOrder 46 = .ok (.iadd, 1) := by decide +kernel
theorem dX0_burningOrder_47 : decode cX0_burningOrder 47 = .ok (.iconst 1, 1) := by decide +kernel
theorem dX0_burningOrder_48 : decode cX0_burningOrder 48 = .ok (.iadd, 1) := by decide +kernel
theorem dX0_burningOrder_49 : decode cX0_burningOrder 49 = .ok (.istore_n 2, 1) := by decide +kernel
theorem dX0_burningOrder_50 : decode cX0_burningOrder 50 = .ok (.iinc 3 1, 3) := by decide +kernel
theorem dX0_burningOrder_53 : decode cX0_burningOrder 53 = .ok (.goto (-46), 3) := by decide +kernel
theorem dX0_burningOrder_56 : decode cX0_burningOrder 56 = .ok (.iload_n 2, 1) := by decide +kernel
theorem dX0_burningOrder_57 : decode cX0_burningOrder 57 = .ok (.ireturn, 1) := by decide +kernel
set_option maxRecDepth 20000 in
theorem ggX0_nextToBurn_X2_edgesInto : GoodIn wsX0_nextToBurn wsX2_edgesInto := goodIn_r _ [8, 9, 13, 14, 15, 16] (by decide +kernel) (by decide +kernel)
set_option maxRecDepth 20000 in
theorem gX0_nextToBurn_X2_edgesInto : GoodIn wsX0_nextToBurn (wsV RX0 67 RX2 yX2_edgesInto wsX2_edgesInto) := goodIn_app (goodIn_of _ (by decide +kernel)) ggX0_nextToBurn_X2_edgesInto
theorem dX0_nextToBurn_0 : decode cX0_nextToBurn 0 = .ok (.iconst 0, 1) := by decide +kernel
theorem dX0_nextToBurn_1 : decode cX0_nextToBurn 1 = .ok (.istore_n 2, 1) := by decide +kernel
theorem dX0_nextToBurn_2 : decode cX0_nextToBurn 2 = .ok (.iload_n 2, 1) := by decide +kernel
theorem dX0_nextToBurn_3 : decode cX0_nextToBurn 3 = .ok (.aload_n 0, 1) := by decide +kernel
theorem dX0_nextToBurn_4 : decode cX0_nextToBurn 4 = .ok (.getfield 18, 3) := by decide +kernel
theorem dX0_nextToBurn_7 : decode cX0_nextToBurn 7 = .ok (.getfield 28, 3) := by decide +kernel
theorem dX0_nextToBurn_10 : decode cX0_nextToBurn 10 = .ok (.if_icmp .ge 47, 3) := by decide +kernel
theorem dX0_nextToBurn_13 : decode cX0_nextToBurn 13 = .ok (.iload_n 1, 1) := by decide +kernel
theorem dX0_nextToBurn_14 : decode cX0_nextToBurn 14 = .ok (.iload_n 2, 1) := by decide +kernel
theorem dX0_nextToBurn_15 : decode cX0_nextToBurn 15 = .ok (.ishr, 1) := by decide +kernel
theorem dX0_nextToBurn_16 : decode cX0_nextToBurn 16 = .ok (.iconst 1, 1) := by decide +kernel
theorem dX0_nextToBurn_17 : decode cX0_nextToBurn 17 = .ok (.iand, 1) := by decide +kernel
theorem dX0_nextToBurn_18 : decode cX0_nextToBurn 18 = .ok (.ifCond .eq 7, 3) := by decide +kernel
theorem dX0_nextToBurn_21 : decode cX0_nextToBurn 21 = .ok (.iconst 1, 1) := by decide +kernel
theorem dX0_nextToBurn_22 : decode cX0_nextToBurn 22 = .ok (.goto 4, 3) := by decide +kernel
theorem dX0_nextToBurn_25 : decode cX0_nextToBurn 25 = .ok (.iconst 0, 1) := by decide +kernel
theorem dX0_nextToBurn_26 : decode cX0_nextToBurn 26 = .ok (.istore_n 3, 1) := by decide +kernel
theorem dX0_nextToBurn_27 : decode cX0_nextToBurn 27 = .ok (.iload_n 3, 1) := by decide +kernel
theorem dX0_nextToBurn_28 : decode cX0_nextToBurn 28 = .ok (.ifCond .ne 23, 3) := by decide +kernel
theorem dX0_nextToBurn_31 : decode cX0_nextToBurn 31 = .ok (.aload_n 0, 1) := by decide +kernel
theorem dX0_nextToBurn_32 : decode cX0_nextToBurn 32 = .ok (.getfield 18, 3) := by decide +kernel
theorem dX0_nextToBurn_35 : decode cX0_nextToBurn 35 = .ok (.iload_n 2, 1) := by decide +kernel
theorem dX0_nextToBurn_36 : decode cX0_nextToBurn 36 = .ok (.iload_n 1, 1) := by decide +kernel
theorem dX0_nextToBurn_37 : decode cX0_nextToBurn 37 = .ok (.invokevirtual 67, 3) := by decide +kernel
theorem dX0_nextToBurn_40 : decode cX0_nextToBurn 40 = .ok (.aload_n 0, 1) := by decide +kernel
theorem dX0_nextToBurn_41 : decode cX0_nextToBurn 41 = .ok (.getfield 9, 3) := by decide +kernel
theorem dX0_nextToBurn_44 : decode cX0_nextToBurn 44 = .ok (.iload_n 2, 1) := by decide +kernel
theorem dX0_nextToBurn_45 : decode cX0_nextToBurn 45 = .ok (.iaload, 1) := by decide +kernel
theorem dX0_nextToBurn_46 : decode cX0_nextToBurn 46 = .ok (.if_icmp .le 5, 3) := by decide +kernel
theorem dX0_nextToBurn_49 : decode cX0_nextToBurn 49 = .ok (.iload_n 2, 1) := by decide +kernel
theorem dX0_nextToBurn_50 : decode cX0_nextToBurn 50 = .ok (.ireturn, 1) := by decide +kernel
theorem dX0_nextToBurn_51 : decode cX0_nextToBurn 51 = .ok (.iinc 2 1, 3) := by decide +kernel
theorem dX0_nextToBurn_54 : decode cX0_nextToBurn 54 = .ok (.goto (-52), 3) := by decide +kernel
theorem dX0_nextToBurn_57 : decode cX0_nextToBurn 57 = .ok (.iconst (-1), 1) := by decide +kernel
theorem dX0_nextToBurn_58 : decode cX0_nextToBurn 58 = .ok (.ireturn, 1) := by decide +kernel
set_option maxRecDepth 20000 in
theorem ggX1_init_X0_init : GoodIn wsX1_init wsX0_init := goodIn_r _ [14, 15, 2, 3, 4, 16, 17, 18, 23, 24, 25] (by decide +kernel) (by decide +kernel)
set_option maxRecDepth 20000 in
theorem gX1_init_X0_init : GoodIn wsX1_init (wsX0_init) := ggX1_init_X0_init
theorem dX1_init_0 : decode cX1_init 0 = .ok (.aload_n 0, 1) := by decide +kernel
theorem dX1_init_1 : decode cX1_init 1 = .ok (.invokespecial 3, 3) := by decide +kernel
theorem dX1_init_4 : decode cX1_init 4 = .ok (.aload_n 0, 1) := by decide +kernel
theorem dX1_init_5 : decode cX1_init 5 = .ok (.bipush 7, 2) := by decide +kernel
theorem dX1_init_7 : decode cX1_init 7 = .ok (.newarray .int, 2) := by decide +kernel
theorem dX1_init_9 : decode cX1_init 9 = .ok (.putfield 9, 3) := by decide +kernel
theorem dX1_init_12 : decode cX1_init 12 = .ok (.aload_n 0, 1) := by decide +kernel
theorem dX1_init_13 : decode cX1_init 13 = .ok (.aload_n 1, 1) := by decide +kernel
theorem dX1_init_14 : decode cX1_init 14 = .ok (.putfield 15, 3) := by decide +kernel
theorem dX1_init_17 : decode cX1_init 17 = .ok (.aload_n 0, 1) := by decide +kernel
theorem dX1_init_18 : decode cX1_init 18 = .ok (.new 19, 3) := by decide +kernel
theorem dX1_init_21 : decode cX1_init 21 = .ok (.dup, 1) := by decide +kernel
theorem dX1_init_22 : decode cX1_init 22 = .ok (.aload_n 1, 1) := by decide +kernel
theorem dX1_init_23 : decode cX1_init 23 = .ok (.invokespecial 21, 3) := by decide +kernel
theorem dX1_init_26 : decode cX1_init 26 = .ok (.putfield 24, 3) := by decide +kernel
theorem dX1_init_29 : decode cX1_init 29 = .ok (.aload_n 0, 1) := by decide +kernel
theorem dX1_init_30 : decode cX1_init 30 = .ok (.new 19, 3) := by decide +kernel
theorem dX1_init_33 : decode cX1_init 33 = .ok (.dup, 1) := by decide +kernel
theorem dX1_init_34 : decode cX1_init 34 = .ok (.aload_n 1, 1) := by decide +kernel
theorem dX1_init_35 : decode cX1_init 35 = .ok (.invokespecial 21, 3) := by decide +kernel
theorem dX1_init_38 : decode cX1_init 38 = .ok (.putfield 28, 3) := by decide +kernel
theorem dX1_init_41 : decode cX1_init 41 = .ok (.return_, 1) := by decide +kernel
theorem dX1_give_0 : decode cX1_give 0 = .ok (.aload_n 0, 1) := by decide +kernel
theorem dX1_give_1 : decode cX1_give 1 = .ok (.getfield 9, 3) := by decide +kernel
theorem dX1_give_4 : decode cX1_give 4 = .ok (.iload_n 1, 1) := by decide +kernel
theorem dX1_give_5 : decode cX1_give 5 = .ok (.dup2, 1) := by decide +kernel
theorem dX1_give_6 : decode cX1_give 6 = .ok (.iaload, 1) := by decide +kernel
theorem dX1_give_7 : decode cX1_give 7 = .ok (.iload_n 2, 1) := by decide +kernel
theorem dX1_give_8 : decode cX1_give 8 = .ok (.aload_n 0, 1) := by decide +kernel
theorem dX1_give_9 : decode cX1_give 9 = .ok (.getfield 15, 3) := by decide +kernel
theorem dX1_give_12 : decode cX1_give 12 = .ok (.getfield 31, 3) := by decide +kernel
theorem dX1_give_15 : decode cX1_give 15 = .ok (.iload_n 1, 1) := by decide +kernel
theorem dX1_give_16 : decode cX1_give 16 = .ok (.iaload, 1) := by decide +kernel
theorem dX1_give_17 : decode cX1_give 17 = .ok (.imul, 1) := by decide +kernel
theorem dX1_give_18 : decode cX1_give 18 = .ok (.isub, 1) := by decide +kernel
theorem dX1_give_19 : decode cX1_give 19 = .ok (.iastore, 1) := by decide +kernel
theorem dX1_give_20 : decode cX1_give 20 = .ok (.iconst 0, 1) := by decide +kernel
theorem dX1_give_21 : decode cX1_give 21 = .ok (.istore_n 3, 1) := by decide +kernel
theorem dX1_give_22 : decode cX1_give 22 = .ok (.iload_n 3, 1) := by decide +kernel
theorem dX1_give_23 : decode cX1_give 23 = .ok (.bipush 7, 2) := by decide +kernel
theorem dX1_give_25 : decode cX1_give 25 = .ok (.if_icmp .ge 31, 3) := by decide +kernel
theorem dX1_give_28 : decode cX1_give 28 = .ok (.aload_n 0, 1) := by decide +kernel
theorem dX1_give_29 : decode cX1_give 29 = .ok (.getfield 9, 3) := by decide +kernel
theorem dX1_give_32 : decode cX1_give 32 = .ok (.iload_n 3, 1) := by decide +kernel
theorem dX1_give_33 : decode cX1_give 33 = .ok (.dup2, 1) := by decide +kernel
theorem dX1_give_34 : decode cX1_give 34 = .ok (.iaload, 1) := by decide +kernel
theorem dX1_give_35 : decode cX1_give 35 = .ok (.iload_n 2, 1) := by decide +kernel
theorem dX1_give_36 : decode cX1_give 36 = .ok (.aload_n 0, 1) := by decide +kernel
theorem dX1_give_37 : decode cX1_give 37 = .ok (.getfield 15, 3) := by decide +kernel
theorem dX1_give_40 : decode cX1_give 40 = .ok (.getfield 36, 3) := by decide +kernel
theorem dX1_give_43 : decode cX1_give 43 = .ok (.iload_n 1, 1) := by decide +kernel
theorem dX1_give_44 : decode cX1_give 44 = .ok (.aaload, 1) := by decide +kernel
theorem dX1_give_45 : decode cX1_give 45 = .ok (.iload_n 3, 1) := by decide +kernel
theorem dX1_give_46 : decode cX1_give 46 = .ok (.iaload, 1) := by decide +kernel
theorem dX1_give_47 : decode cX1_give 47 = .ok (.imul, 1) := by decide +kernel
theorem dX1_give_48 : decode cX1_give 48 = .ok (.iadd, 1) := by decide +kernel
theorem dX1_give_49 : decode cX1_give 49 = .ok (.iastore, 1) := by decide +kernel
theorem dX1_give_50 : decode cX1_give 50 = .ok (.iinc 3 1, 3) := by decide +kernel
theorem dX1_give_53 : decode cX1_give 53 = .ok (.goto (-31), 3) := by decide +kernel
theorem dX1_give_56 : decode cX1_give 56 = .ok (.return_, 1) := by decide +kernel
theorem dX1_allCoins_0 : decode cX1_allCoins 0 = .ok (.iconst 0, 1) := by decide +kernel
theorem dX1_allCoins_1 : decode cX1_allCoins 1 = .ok (.istore_n 1, 1) := by decide +kernel
theorem dX1_allCoins_2 : decode cX1_allCoins 2 = .ok (.iconst 0, 1) := by decide +kernel
theorem dX1_allCoins_3 : decode cX1_allCoins 3 = .ok (.istore_n 2, 1) := by decide +kernel
theorem dX1_allCoins_4 : decode cX1_allCoins 4 = .ok (.iload_n 2, 1) := by decide +kernel
theorem dX1_allCoins_5 : decode cX1_allCoins 5 = .ok (.bipush 7, 2) := by decide +kernel
theorem dX1_allCoins_7 : decode cX1_allCoins 7 = .ok (.if_icmp .ge 18, 3) := by decide +kernel
theorem dX1_allCoins_10 : decode cX1_allCoins 10 = .ok (.iload_n 1, 1) := by decide +kernel
theorem dX1_allCoins_11 : decode cX1_allCoins 11 = .ok (.aload_n 0, 1) := by decide +kernel
theorem dX1_allCoins_12 : decode cX1_allCoins 12 = .ok (.getfield 9, 3) := by decide +kernel
theorem dX1_allCoins_15 : decode cX1_allCoins 15 = .ok (.iload_n 2, 1) := by decide +kernel
theorem dX1_allCoins_16 : decode cX1_allCoins 16 = .ok (.iaload, 1) := by decide +kernel
theorem dX1_allCoins_17 : decode cX1_allCoins 17 = .ok (.iadd, 1) := by decide +kernel
theorem dX1_allCoins_18 : decode cX1_allCoins 18 = .ok (.istore_n 1, 1) := by decide +kernel
theorem dX1_allCoins_19 : decode cX1_allCoins 19 = .ok (.iinc 2 1, 3) := by decide +kernel
theorem dX1_allCoins_22 : decode cX1_allCoins 22 = .ok (.goto (-18), 3) := by decide +kernel
theorem dX1_allCoins_25 : decode cX1_allCoins 25 = .ok (.iload_n 1, 1) := by decide +kernel
theorem dX1_allCoins_26 : decode cX1_allCoins 26 = .ok (.ireturn, 1) := by decide +kernel
theorem dX1_debtors_0 : decode cX1_debtors 0 = .ok (.iconst 0, 1) := by decide +kernel
theorem dX1_debtors_1 : decode cX1_debtors 1 = .ok (.istore_n 1, 1) := by decide +kernel
theorem dX1_debtors_2 : decode cX1_debtors 2 = .ok (.iconst 0, 1) := by decide +kernel
theorem dX1_debtors_3 : decode cX1_debtors 3 = .ok (.istore_n 2, 1) := by decide +kernel
theorem dX1_debtors_4 : decode cX1_debtors 4 = .ok (.iload_n 2, 1) := by decide +kernel
theorem dX1_debtors_5 : decode cX1_debtors 5 = .ok (.bipush 7, 2) := by decide +kernel
theorem dX1_debtors_7 : decode cX1_debtors 7 = .ok (.if_icmp .ge 21, 3) := by decide +kernel
theorem dX1_debtors_10 : decode cX1_debtors 10 = .ok (.aload_n 0, 1) := by decide +kernel
theorem dX1_debtors_11 : decode cX1_debtors 11 = .ok (.getfield 9, 3) := by decide +kernel
theorem dX1_debtors_14 : decode cX1_debtors 14 = .ok (.iload_n 2, 1) := by decide +kernel
theorem dX1_debtors_15 : decode cX1_debtors 15 = .ok (.iaload, 1) := by decide +kernel
theorem dX1_debtors_16 : decode cX1_debtors 16 = .ok (.ifCond .ge 6, 3) := by decide +kernel
theorem dX1_debtors_19 : decode cX1_debtors 19 = .ok (.iinc 1 1, 3) := by decide +kernel
theorem dX1_debtors_22 : decode cX1_debtors 22 = .ok (.iinc 2 1, 3) := by decide +kernel
theorem dX1_debtors_25 : decode cX1_debtors 25 = .ok (.goto (-21), 3) := by decide +kernel
theorem dX1_debtors_28 : decode cX1_debtors 28 = .ok (.iload_n 1, 1) := by decide +kernel
theorem dX1_debtors_29 : decode cX1_debtors 29 = .ok (.ireturn, 1) := by decide +kernel
set_option maxRecDepth 20000 in
theorem ggX1_isPayable_X1_findLasting : GoodIn wsX1_isPayable wsX1_findLasting := goodIn_r _ [6, 7, 8, 1, 9, 10, 11, 12, 13, 14, 5, 15, 16, 17, 18, 19, 20, 21, 22, 23, 24, 25, 26, 27, 28, 29, 30, 31, 32, 33, 34, 35, 36, 37, 38, 39, 40, 41, 42, 43, 44, 45, 46, 47, 48, 57, 58, 59, 60, 61, 62, 63, 64, 65, 66, 67] (by decide +kernel) (by decide +kernel)
set_option maxRecDepth 20000 in
theorem gX1_isPayable_X1_findLasting : GoodIn wsX1_isPayable (wsV RX1 40 RX1 yX1_findLasting wsX1_findLasting) := goodIn_app (goodIn_of _ (by decide +kernel)) ggX1_isPayable_X1_findLasting
set_option maxRecDepth 20000 in
theorem ggX1_isPayable_X1_allCoins : GoodIn wsX1_isPayable wsX1_allCoins := goodIn_r _ [52, 10, 57, 58, 59, 60] (by decide +kernel) (by decide +kernel)
set_option maxRecDepth 20000 in
theorem gX1_isPayable_X1_allCoins : GoodIn wsX1_isPayable (wsV RX1 43 RX1 yX1_allCoins wsX1_allCoins) := goodIn_app (goodIn_of _ (by decide +kernel)) ggX1_isPayable_X1_allCoins
set_option maxRecDepth 20000 in
theorem ggX1_isPayable_X1_leastNeeded : GoodIn wsX1_isPayable wsX1_leastNeeded := goodIn_r _ [56, 7, 8, 16, 9, 57, 58, 59, 60, 61, 62, 63, 64, 65, 66, 67] (by decide +kernel) (by decide +kernel)
set_option maxRecDepth 20000 in
theorem gX1_isPayable_X1_leastNeeded : GoodIn wsX1_isPayable (wsV RX1 47 RX1 yX1_leastNeeded wsX1_leastNeeded) := goodIn_app (goodIn_of _ (by decide +kernel)) ggX1_isPayable_X1_leastNeeded
theorem dX1_isPayable_0 : decode cX1_isPayable 0 = .ok (.aload_n 0, 1) := by decide +kernel
theorem dX1_isPayable_1 : decode cX1_isPayable 1 = .ok (.invokevirtual 40, 3) := by decide +kernel
theorem dX1_isPayable_4 : decode cX1_isPayable 4 = .ok (.aload_n 0, 1) := by decide +kernel
theorem dX1_isPayable_5 : decode cX1_isPayable 5 = .ok (.invokevirtual 43, 3) := by decide +kernel
theorem dX1_isPayable_8 : decode cX1_isPayable 8 = .ok (.aload_n 0, 1) := by decide +kernel
theorem dX1_isPayable_9 : decode cX1_isPayable 9 = .ok (.aload_n 0, 1) := by decide +kernel
theorem dX1_isPayable_10 : decode cX1_isPayable 10 = .ok (.getfield 24, 3) := by decide +kernel
theorem dX1_isPayable_13 : decode cX1_isPayable 13 = .ok (.invokevirtual 47, 3) := by decide +kernel
theorem dX1_isPayable_16 : decode cX1_isPayable 16 = .ok (.if_icmp .lt 7, 3) := by decide +kernel
theorem dX1_isPayable_19 : decode cX1_isPayable 19 = .ok (.iconst 1, 1) := by decide +kernel
theorem dX1_isPayable_20 : decode cX1_isPayable 20 = .ok (.goto 4, 3) := by decide +kernel
theorem dX1_isPayable_23 : decode cX1_isPayable 23 = .ok (.iconst 0, 1) := by decide +kernel
theorem dX1_isPayable_24 : decode cX1_isPayable 24 = .ok (.ireturn, 1) := by decide +kernel
set_option maxRecDepth 20000 in
theorem ggX1_weakestNode_X1_findLasting : GoodIn wsX1_weakestNode wsX1_findLasting := goodIn_r _ [10, 1, 2, 4, 5, 11, 12, 13, 14, 15, 9, 16, 17, 18, 19, 20, 21, 22, 23, 24, 25, 26, 27, 28, 29, 30, 31, 32, 33, 34, 35, 36, 37, 38, 39, 40, 41, 42, 43, 44, 45, 46, 47, 48, 49, 66, 67, 68, 69, 70, 71, 72, 73, 74, 75, 76] (by decide +kernel) (by decide +kernel)
set_option maxRecDepth 20000 in
theorem gX1_weakestNode_X1_findLasting : GoodIn wsX1_weakestNode (wsV RX1 40 RX1 yX1_findLasting wsX1_findLasting) := goodIn_app (goodIn_of _ (by decide +kernel)) ggX1_weakestNode_X1_findLasting
set_option maxRecDepth 20000 in
theorem ggX1_weakestNode_X1_allCoins : GoodIn wsX1_weakestNode wsX1_allCoins := goodIn_r _ [53, 11, 66, 67, 68, 69] (by decide +kernel) (by decide +kernel)
set_option maxRecDepth 20000 in
theorem gX1_weakestNode_X1_allCoins : GoodIn wsX1_weakestNode (wsV RX1 43 RX1 yX1_allCoins wsX1_allCoins) := goodIn_app (goodIn_of _ (by decide +kernel)) ggX1_weakestNode_X1_allCoins
set_option maxRecDepth 20000 in
theorem ggX1_weakestNode_X0_copyRow : GoodIn wsX1_weakestNode wsX0_copyRow := goodIn_r _ [57, 36, 58, 59, 60, 61, 74, 75, 76] (by decide +kernel) (by decide +kernel)
set_option maxRecDepth 20000 in
theorem gX1_weakestNode_X0_copyRow : GoodIn wsX1_weakestNode (wsV RX1 58 RX0 yX0_copyRow wsX0_copyRow) := goodIn_app (goodIn_of _ (by decide +kernel)) ggX1_weakestNode_X0_copyRow
set_option maxRecDepth 20000 in
theorem ggX1_weakestNode_X0_roll : GoodIn wsX1_weakestNode wsX0_roll := goodIn_r _ [22, 23, 24, 25, 26, 27, 28, 29, 30, 31, 21, 32, 33, 34, 35, 36, 37, 38, 39, 40, 41, 74, 75, 76, 70, 71, 72, 73] (by decide +kernel) (by decide +kernel)
set_option maxRecDepth 20000 in
theorem gX1_weakestNode_X0_roll : GoodIn wsX1_weakestNode (wsV RX1 62 RX0 yX0_roll wsX0_roll) := goodIn_app (goodIn_of _ (by decide +kernel)) ggX1_weakestNode_X0_roll
set_option maxRecDepth 20000 in
theorem ggX1_weakestNode_X1_leastNeeded : GoodIn wsX1_weakestNode wsX1_leastNeeded := goodIn_r _ [65, 1, 2, 17, 5, 66, 67, 68, 69, 70, 71, 72, 73, 74, 75, 76] (by decide +kernel) (by decide +kernel)
set_option maxRecDepth 20000 in
theorem gX1_weakestNode_X1_leastNeeded : GoodIn wsX1_weakestNode (wsV RX1 47 RX1 yX1_leastNeeded wsX1_leastNeeded) := goodIn_app (goodIn_of _ (by decide +kernel)) ggX1_weakestNode_X1_leastNeeded
theorem dX1_weakestNode_0 : decode cX1_weakestNode 0 = .ok (.aload_n 0, 1) := by decide +kernel
theorem dX1_weakestNode_1 : decode cX1_weakestNode 1 = .ok (.invokevirtual 40, 3) := by decide +kernel
theorem dX1_weakestNode_4 : decode cX1_weakestNode 4 = .ok (.aload_n 0, 1) := by decide +kernel
theorem dX1_weakestNode_5 : decode cX1_weakestNode 5 = .ok (.invokevirtual 43, 3) := by decide +kernel
theorem dX1_weakestNode_8 : decode cX1_weakestNode 8 = .ok (.iconst 1, 1) := by decide +kernel
theorem dX1_weakestNode_9 : decode cX1_weakestNode 9 = .ok (.isub, 1) := by decide +kernel
theorem dX1_weakestNode_10 : decode cX1_weakestNode 10 = .ok (.istore_n 1, 1) := by decide +kernel
theorem dX1_weakestNode_11 : decode cX1_weakestNode 11 = .ok (.iconst 0, 1) := by decide +kernel
theorem dX1_weakestNode_12 : decode cX1_weakestNode 12 = .ok (.istore_n 2, 1) := by decide +kernel
theorem dX1_weakestNode_13 : decode cX1_weakestNode 13 = .ok (.iload_n 2, 1) := by decide +kernel
theorem dX1_weakestNode_14 : decode cX1_weakestNode 14 = .ok (.aload_n 0, 1) := by decide +kernel
theorem dX1_weakestNode_15 : decode cX1_weakestNode 15 = .ok (.getfield 15, 3) := by decide +kernel
theorem dX1_weakestNode_18 : decode cX1_weakestNode 18 = .ok (.getfield 51, 3) := by decide +kernel
theorem dX1_weakestNode_21 : decode cX1_weakestNode 21 = .ok (.if_icmp .ge 57, 3) := by decide +kernel
theorem dX1_weakestNode_24 : decode cX1_weakestNode 24 = .ok (.aload_n 0, 1) := by decide +kernel
theorem dX1_weakestNode_25 : decode cX1_weakestNode 25 = .ok (.getfield 28, 3) := by decide +kernel
theorem dX1_weakestNode_28 : decode cX1_weakestNode 28 = .ok (.aload_n 0, 1) := by decide +kernel
theorem dX1_weakestNode_29 : decode cX1_weakestNode 29 = .ok (.getfield 24, 3) := by decide +kernel
theorem dX1_weakestNode_32 : decode cX1_weakestNode 32 = .ok (.getfield 55, 3) := by decide +kernel
theorem dX1_weakestNode_35 : decode cX1_weakestNode 35 = .ok (.invokevirtual 58, 3) := by decide +kernel
theorem dX1_weakestNode_38 : decode cX1_weakestNode 38 = .ok (.aload_n 0, 1) := by decide +kernel
theorem dX1_weakestNode_39 : decode cX1_weakestNode 39 = .ok (.getfield 28, 3) := by decide +kernel
theorem dX1_weakestNode_42 : decode cX1_weakestNode 42 = .ok (.getfield 55, 3) := by decide +kernel
theorem dX1_weakestNode_45 : decode cX1_weakestNode 45 = .ok (.iload_n 2, 1) := by decide +kernel
theorem dX1_weakestNode_46 : decode cX1_weakestNode 46 = .ok (.dup2, 1) := by decide +kernel
theorem dX1_weakestNode_47 : decode cX1_weakestNode 47 = .ok (.iaload, 1) := by decide +kernel
theorem dX1_weakestNode_48 : decode cX1_weakestNode 48 = .ok (.iconst 1, 1) := by decide +kernel
theorem dX1_weakestNode_49 : decode cX1_weakestNode 49 = .ok (.iadd, 1) := by decide +kernel
theorem dX1_weakestNode_50 : decode cX1_weakestNode 50 = .ok (.iastore, 1) := by decide +kernel
theorem dX1_weakestNode_51 : decode cX1_weakestNode 51 = .ok (.aload_n 0, 1) := by decide +kernel
theorem dX1_weakestNode_52 : decode cX1_weakestNode 52 = .ok (.getfield 28, 3) := by decide +kernel
theorem dX1_weakestNode_55 : decode cX1_weakestNode 55 = .ok (.invokevirtual 62, 3) := by decide +kernel
theorem dX1_weakestNode_58 : decode cX1_weakestNode 58 = .ok (.iload_n 1, 1) := by decide +kernel
theorem dX1_weakestNode_59 : decode cX1_weakestNode 59 = .ok (.aload_n 0, 1) := by decide +kernel
theorem dX1_weakestNode_60 : decode cX1_weakestNode 60 = .ok (.aload_n 0, 1) := by decide +kernel
theorem dX1_weakestNode_61 : decode cX1_weakestNode 61 = .ok (.getfield 28, 3) := by decide +kernel
theorem dX1_weakestNode_64 : decode cX1_weakestNode 64 = .ok (.invokevirtual 47, 3) := by decide +kernel
theorem dX1_weakestNode_67 : decode cX1_weakestNode 67 = .ok (.if_icmp .ge 5, 3) := by decide +kernel
theorem dX1_weakestNode_70 : decode cX1_weakestNode 70 = .ok (.iload_n 2, 1) := by decide +kernel
theorem dX1_weakestNode_71 : decode cX1_weakestNode 71 = .ok (.ireturn, 1) := by decide +kernel
theorem dX1_weakestNode_72 : decode cX1_weakestNode 72 = .ok (.iinc 2 1, 3) := by decide +kernel
theorem dX1_weakestNode_75 : decode cX1_weakestNode 75 = .ok (.goto (-62), 3) := by decide +kernel
theorem dX1_weakestNode_78 : decode cX1_weakestNode 78 = .ok (.iload_n 1, 1) := by decide +kernel
theorem dX1_weakestNode_79 : decode cX1_weakestNode 79 = .ok (.aload_n 0, 1) := by decide +kernel
theorem dX1_weakestNode_80 : decode cX1_weakestNode 80 = .ok (.aload_n 0, 1) := by decide +kernel
theorem dX1_weakestNode_81 : decode cX1_weakestNode 81 = .ok (.getfield 24, 3) := by decide +kernel
theorem dX1_weakestNode_84 : decode cX1_weakestNode 84 = .ok (.invokevirtual 47, 3) := by decide +kernel
theorem dX1_weakestNode_87 : decode cX1_weakestNode 87 = .ok (.if_icmp .ge 8, 3) := by decide +kernel
theorem dX1_weakestNode_90 : decode cX1_weakestNode 90 = .ok (.bipush 6, 2) := by decide +kernel
theorem dX1_weakestNode_92 : decode cX1_weakestNode 92 = .ok (.goto 4, 3) := by decide +kernel
theorem dX1_weakestNode_95 : decode cX1_weakestNode 95 = .ok (.iconst (-1), 1) := by decide +kernel
theorem dX1_weakestNode_96 : decode cX1_weakestNode 96 = .ok (.ireturn, 1) := by decide +kernel
set_option maxRecDepth 20000 in
theorem ggX1_findLasting_X1_readOtherWay : GoodIn wsX1_findLasting wsX1_readOtherWay := goodIn_r _ [11, 1, 2, 3, 4, 12, 45, 46, 47, 48, 49, 50, 51, 52, 53, 54, 55] (by decide +kernel) (by decide +kernel)
set_option maxRecDepth 20000 in
theorem gX1_findLasting_X1_readOtherWay : GoodIn wsX1_findLasting (wsV RX1 65 RX1 yX1_readOtherWay wsX1_readOtherWay) := goodIn_app (goodIn_of _ (by decide +kernel)) ggX1_findLasting_X1_readOtherWay
set_option maxRecDepth 20000 in
theorem ggX1_findLasting_X0_roll : GoodIn wsX1_findLasting wsX0_roll := goodIn_r _ [17, 18, 19, 20, 21, 22, 23, 24, 25, 26, 16, 27, 28, 29, 30, 31, 32, 33, 34, 35, 36, 53, 54, 55, 49, 50, 51, 52] (by decide +kernel) (by decide +kernel)
set_option maxRecDepth 20000 in
theorem gX1_findLasting_X0_roll : GoodIn wsX1_findLasting (wsV RX1 62 RX0 yX0_roll wsX0_roll) := goodIn_app (goodIn_of _ (by decide +kernel)) ggX1_findLasting_X0_roll
set_option maxRecDepth 20000 in
theorem ggX1_findLasting_X0_addFromSink : GoodIn wsX1_findLasting wsX0_addFromSink := goodIn_r _ [40, 28, 29, 31, 36, 53, 54, 55, 49, 50, 51, 52] (by decide +kernel) (by decide +kernel)
set_option maxRecDepth 20000 in
theorem gX1_findLasting_X0_addFromSink : GoodIn wsX1_findLasting (wsV RX1 69 RX0 yX0_addFromSink wsX0_addFromSink) := goodIn_app (goodIn_of _ (by decide +kernel)) ggX1_findLasting_X0_addFromSink
set_option maxRecDepth 20000 in
theorem ggX1_findLasting_X0_hasEachToppledOnce : GoodIn wsX1_findLasting wsX0_hasEachToppledOnce := goodIn_r _ [44, 28, 29, 18, 53, 54, 55, 49, 50, 51, 52] (by decide +kernel) (by decide +kernel)
set_option maxRecDepth 20000 in
theorem gX1_findLasting_X0_hasEachToppledOnce : GoodIn wsX1_findLasting (wsV RX1 72 RX0 yX0_hasEachToppledOnce wsX0_hasEachToppledOnce) := goodIn_app (goodIn_of _ (by decide +kernel)) ggX1_findLasting_X0_hasEachToppledOnce
theorem dX1_findLasting_0 : decode cX1_findLasting 0 = .ok (.iconst 0, 1) := by decide +kernel
theorem dX1_findLasting_1 : decode cX1_findLasting 1 = .ok (.istore_n 1, 1) := by decide +kernel
theorem dX1_findLasting_2 : decode cX1_findLasting 2 = .ok (.iload_n 1, 1) := by decide +kernel
theorem dX1_findLasting_3 : decode cX1_findLasting 3 = .ok (.aload_n 0, 1) := by decide +kernel
theorem dX1_findLasting_4 : decode cX1_findLasting 4 = .ok (.getfield 15, 3) := by decide +kernel
theorem dX1_findLasting_7 : decode cX1_findLasting 7 = .ok (.getfield 51, 3) := by decide +kernel
theorem dX1_findLasting_10 : decode cX1_findLasting 10 = .ok (.if_icmp .ge 24, 3) := by decide +kernel
theorem dX1_findLasting_13 : decode cX1_findLasting 13 = .ok (.aload_n 0, 1) := by decide +kernel
theorem dX1_findLasting_14 : decode cX1_findLasting 14 = .ok (.getfield 24, 3) := by decide +kernel
theorem dX1_findLasting_17 : decode cX1_findLasting 17 = .ok (.getfield 55, 3) := by decide +kernel
theorem dX1_findLasting_20 : decode cX1_findLasting 20 = .ok (.iload_n 1, 1) := by decide +kernel
theorem dX1_findLasting_21 : decode cX1_findLasting 21 = .ok (.aload_n 0, 1) := by decide +kernel
theorem dX1_findLasting_22 : decode cX1_findLasting 22 = .ok (.getfield 9, 3) := by decide +kernel
theorem dX1_findLasting_25 : decode cX1_findLasting 25 = .ok (.iload_n 1, 1) := by decide +kernel
theorem dX1_findLasting_26 : decode cX1_findLasting 26 = .ok (.iaload, 1) := by decide +kernel
theorem dX1_findLasting_27 : decode cX1_findLasting 27 = .ok (.iastore, 1) := by decide +kernel
theorem dX1_findLasting_28 : decode cX1_findLasting 28 = .ok (.iinc 1 1, 3) := by decide +kernel
theorem dX1_findLasting_31 : decode cX1_findLasting 31 = .ok (.goto (-29), 3) := by decide +kernel
theorem dX1_findLasting_34 : decode cX1_findLasting 34 = .ok (.aload_n 0, 1) := by decide +kernel
theorem dX1_findLasting_35 : decode cX1_findLasting 35 = .ok (.invokevirtual 65, 3) := by decide +kernel
theorem dX1_findLasting_38 : decode cX1_findLasting 38 = .ok (.aload_n 0, 1) := by decide +kernel
theorem dX1_findLasting_39 : decode cX1_findLasting 39 = .ok (.getfield 24, 3) := by decide +kernel
theorem dX1_findLasting_42 : decode cX1_findLasting 42 = .ok (.invokevirtual 62, 3) := by decide +kernel
theorem dX1_findLasting_45 : decode cX1_findLasting 45 = .ok (.aload_n 0, 1) := by decide +kernel
theorem dX1_findLasting_46 : decode cX1_findLasting 46 = .ok (.invokevirtual 65, 3) := by decide +kernel
theorem dX1_findLasting_49 : decode cX1_findLasting 49 = .ok (.aload_n 0, 1) := by decide +kernel
theorem dX1_findLasting_50 : decode cX1_findLasting 50 = .ok (.getfield 24, 3) := by decide +kernel
theorem dX1_findLasting_53 : decode cX1_findLasting 53 = .ok (.invokevirtual 62, 3) := by decide +kernel
theorem dX1_findLasting_56 : decode cX1_findLasting 56 = .ok (.aload_n 0, 1) := by decide +kernel
theorem dX1_findLasting_57 : decode cX1_findLasting 57 = .ok (.invokevirtual 65, 3) := by decide +kernel
theorem dX1_findLasting_60 : decode cX1_findLasting 60 = .ok (.iconst 0, 1) := by decide +kernel
theorem dX1_findLasting_61 : decode cX1_findLasting 61 = .ok (.istore_n 1, 1) := by decide +kernel
theorem dX1_findLasting_62 : decode cX1_findLasting 62 = .ok (.iconst 0, 1) := by decide +kernel
theorem dX1_findLasting_63 : decode cX1_findLasting 63 = .ok (.istore_n 2, 1) := by decide +kernel
theorem dX1_findLasting_64 : decode cX1_findLasting 64 = .ok (.iload_n 1, 1) := by decide +kernel
theorem dX1_findLasting_65 : decode cX1_findLasting 65 = .ok (.ifCond .ne 37, 3) := by decide +kernel
theorem dX1_findLasting_68 : decode cX1_findLasting 68 = .ok (.iload_n 2, 1) := by decide +kernel
theorem dX1_findLasting_69 : decode cX1_findLasting 69 = .ok (.ldc 68, 2) := by decide +kernel
theorem dX1_findLasting_71 : decode cX1_findLasting 71 = .ok (.if_icmp .ge 31, 3) := by decide +kernel
theorem dX1_findLasting_74 : decode cX1_findLasting 74 = .ok (.aload_n 0, 1) := by decide +kernel
theorem dX1_findLasting_75 : decode cX1_findLasting 75 = .ok (.getfield 24, 3) := by decide +kernel
theorem dX1_findLasting_78 : decode cX1_findLasting 78 = .ok (.invokevirtual 69, 3) := by decide +kernel
theorem dX1_findLasting_81 : decode cX1_findLasting 81 = .ok (.aload_n 0, 1) := by decide +kernel
theorem dX1_findLasting_82 : decode cX1_findLasting 82 = .ok (.getfield 24, 3) := by decide +kernel
theorem dX1_findLasting_85 : decode cX1_findLasting 85 = .ok (.invokevirtual 62, 3) := by decide +kernel
theorem dX1_findLasting_88 : decode cX1_findLasting 88 = .ok (.aload_n 0, 1) := by decide +kernel
theorem dX1_findLasting_89 : decode cX1_findLasting 89 = .ok (.getfield 24, 3) := by decide +kernel
theorem dX1_findLasting_92 : decode cX1_findLasting 92 = .ok (.invokevirtual 72, 3) := by decide +kernel
theorem dX1_findLasting_95 : decode cX1_findLasting 95 = .ok (.istore_n 1, 1) := by decide +kernel
theorem dX1_findLasting_96 : decode cX1_findLasting 96 = .ok (.iinc 2 1, 3) := by decide +kernel
theorem dX1_findLasting_99 : decode cX1_findLasting 99 = .ok (.goto (-35), 3) := by decide +kernel
theorem dX1_findLasting_102 : decode cX1_findLasting 102 = .ok (.return_, 1) := by decide +kernel
theorem dX1_readOtherWay_0 : decode cX1_readOtherWay 0 = .ok (.iconst 0, 1) := by decide +kernel
theorem dX1_readOtherWay_1 : decode cX1_readOtherWay 1 = .ok (.istore_n 1, 1) := by decide +kernel
theorem dX1_readOtherWay_2 : decode cX1_readOtherWay 2 = .ok (.iload_n 1, 1) := by decide +kernel
theorem dX1_readOtherWay_3 : decode cX1_readOtherWay 3 = .ok (.aload_n 0, 1) := by decide +kernel
theorem dX1_readOtherWay_4 : decode cX1_readOtherWay 4 = .ok (.getfield 15, 3) := by decide +kernel
theorem dX1_readOtherWay_7 : decode cX1_readOtherWay 7 = .ok (.getfield 51, 3) := by decide +kernel
theorem dX1_readOtherWay_10 : decode cX1_readOtherWay 10 = .ok (.if_icmp .ge 39, 3) := by decide +kernel
theorem dX1_readOtherWay_13 : decode cX1_readOtherWay 13 = .ok (.aload_n 0, 1) := by decide +kernel
theorem dX1_readOtherWay_14 : decode cX1_readOtherWay 14 = .ok (.getfield 24, 3) := by decide +kernel
theorem dX1_readOtherWay_17 : decode cX1_readOtherWay 17 = .ok (.getfield 55, 3) := by decide +kernel
theorem dX1_readOtherWay_20 : decode cX1_readOtherWay 20 = .ok (.iload_n 1, 1) := by decide +kernel
theorem dX1_readOtherWay_21 : decode cX1_readOtherWay 21 = .ok (.aload_n 0, 1) := by decide +kernel
theorem dX1_readOtherWay_22 : decode cX1_readOtherWay 22 = .ok (.getfield 15, 3) := by decide +kernel
theorem dX1_readOtherWay_25 : decode cX1_readOtherWay 25 = .ok (.getfield 31, 3) := by decide +kernel
theorem dX1_readOtherWay_28 : decode cX1_readOtherWay 28 = .ok (.iload_n 1, 1) := by decide +kernel
theorem dX1_readOtherWay_29 : decode cX1_readOtherWay 29 = .ok (.iaload, 1) := by decide +kernel
theorem dX1_readOtherWay_30 : decode cX1_readOtherWay 30 = .ok (.iconst 1, 1) := by decide +kernel
theorem dX1_readOtherWay_31 : decode cX1_readOtherWay 31 = .ok (.isub, 1) := by decide +kernel
theorem dX1_readOtherWay_32 : decode cX1_readOtherWay 32 = .ok (.aload_n 0, 1) := by decide +kernel
theorem dX1_readOtherWay_33 : decode cX1_readOtherWay 33 = .ok (.getfield 24, 3) := by decide +kernel
theorem dX1_readOtherWay_36 : decode cX1_readOtherWay 36 = .ok (.getfield 55, 3) := by decide +kernel
theorem dX1_readOtherWay_39 : decode cX1_readOtherWay 39 = .ok (.iload_n 1, 1) := by decide +kernel
theorem dX1_readOtherWay_40 : decode cX1_readOtherWay 40 = .ok (.iaload, 1) := by decide +kernel
theorem dX1_readOtherWay_41 : decode cX1_readOtherWay 41 = .ok (.isub, 1) := by decide +kernel
theorem dX1_readOtherWay_42 : decode cX1_readOtherWay 42 = .ok (.iastore, 1) := by decide +kernel
theorem dX1_readOtherWay_43 : decode cX1_readOtherWay 43 = .ok (.iinc 1 1, 3) := by decide +kernel
theorem dX1_readOtherWay_46 : decode cX1_readOtherWay 46 = .ok (.goto (-44), 3) := by decide +kernel
theorem dX1_readOtherWay_49 : decode cX1_readOtherWay 49 = .ok (.return_, 1) := by decide +kernel
theorem dX1_leastNeeded_0 : decode cX1_leastNeeded 0 = .ok (.iconst 0, 1) := by decide +kernel
theorem dX1_leastNeeded_1 : decode cX1_leastNeeded 1 = .ok (.istore_n 2, 1) := by decide +kernel
theorem dX1_leastNeeded_2 : decode cX1_leastNeeded 2 = .ok (.iconst 0, 1) := by decide +kernel
theorem dX1_leastNeeded_3 : decode cX1_leastNeeded 3 = .ok (.istore_n 3, 1) := by decide +kernel
theorem dX1_leastNeeded_4 : decode cX1_leastNeeded 4 = .ok (.iload_n 3, 1) := by decide +kernel
theorem dX1_leastNeeded_5 : decode cX1_leastNeeded 5 = .ok (.aload_n 0, 1) := by decide +kernel
theorem dX1_leastNeeded_6 : decode cX1_leastNeeded 6 = .ok (.getfield 15, 3) := by decide +kernel
theorem dX1_leastNeeded_9 : decode cX1_leastNeeded 9 = .ok (.getfield 51, 3) := by decide +kernel
theorem dX1_leastNeeded_12 : decode cX1_leastNeeded 12 = .ok (.if_icmp .ge 30, 3) := by decide +kernel
theorem dX1_leastNeeded_15 : decode cX1_leastNeeded 15 = .ok (.iload_n 2, 1) := by decide +kernel
theorem dX1_leastNeeded_16 : decode cX1_leastNeeded 16 = .ok (.aload_n 0, 1) := by decide +kernel
theorem dX1_leastNeeded_17 : decode cX1_leastNeeded 17 = .ok (.getfield 15, 3) := by decide +kernel
theorem dX1_leastNeeded_20 : decode cX1_leastNeeded 20 = .ok (.getfield 31, 3) := by decide +kernel
theorem dX1_leastNeeded_23 : decode cX1_leastNeeded 23 = .ok (.iload_n 3, 1) := by decide +kernel
theorem dX1_leastNeeded_24 : decode cX1_leastNeeded 24 = .ok (.iaload, 1) := by decide +kernel
theorem dX1_leastNeeded_25 : decode cX1_leastNeeded 25 = .ok (.iconst 1, 1) := by decide +kernel
theorem dX1_leastNeeded_26 : decode cX1_leastNeeded 26 = .ok (.isub, 1) := by decide +kernel
theorem dX1_leastNeeded_27 : decode cX1_leastNeeded 27 = .ok (.aload_n 1, 1) := by decide +kernel
theorem dX1_leastNeeded_28 : decode cX1_leastNeeded 28 = .ok (.getfield 55, 3) := by decide +kernel
theorem dX1_leastNeeded_31 : decode cX1_leastNeeded 31 = .ok (.iload_n 3, 1) := by decide +kernel
theorem dX1_leastNeeded_32 : decode cX1_leastNeeded 32 = .ok (.iaload, 1) := by decide +kernel
theorem dX1_leastNeeded_33 : decode cX1_leastNeeded 33 = .ok (.isub, 1) := by decide +kernel
theorem dX1_leastNeeded_34 : decode cX1_leastNeeded 34 = .ok (.iadd, 1) := by decide +kernel
theorem dX1_leastNeeded_35 : decode cX1_leastNeeded 35 = .ok (.istore_n 2, 1) := by decide +kernel
theorem dX1_leastNeeded_36 : decode cX1_leastNeeded 36 = .ok (.iinc 3 1, 3) := by decide +kernel
theorem dX1_leastNeeded_39 : decode cX1_leastNeeded 39 = .ok (.goto (-35), 3) := by decide +kernel
theorem dX1_leastNeeded_42 : decode cX1_leastNeeded 42 = .ok (.iload_n 2, 1) := by decide +kernel
theorem dX1_leastNeeded_43 : decode cX1_leastNeeded 43 = .ok (.ireturn, 1) := by decide +kernel
theorem dX2_init_0 : decode cX2_init 0 = .ok (.aload_n 0, 1) := by decide +kernel
theorem dX2_init_1 : decode cX2_init 1 = .ok (.invokespecial 3, 3) := by decide +kernel
theorem dX2_init_4 : decode cX2_init 4 = .ok (.aload_n 0, 1) := by decide +kernel
theorem dX2_init_5 : decode cX2_init 5 = .ok (.bipush 7, 2) := by decide +kernel
theorem dX2_init_7 : decode cX2_init 7 = .ok (.bipush 7, 2) := by decide +kernel
theorem dX2_init_9 : decode cX2_init 9 = .ok (.multianewarray 9 2, 4) := by decide +kernel
theorem dX2_init_13 : decode cX2_init 13 = .ok (.putfield 11, 3) := by decide +kernel
theorem dX2_init_16 : decode cX2_init 16 = .ok (.aload_n 0, 1) := by decide +kernel
theorem dX2_init_17 : decode cX2_init 17 = .ok (.bipush 7, 2) := by decide +kernel
theorem dX2_init_19 : decode cX2_init 19 = .ok (.newarray .int, 2) := by decide +kernel
theorem dX2_init_21 : decode cX2_init 21 = .ok (.putfield 16, 3) := by decide +kernel
theorem dX2_init_24 : decode cX2_init 24 = .ok (.aload_n 0, 1) := by decide +kernel
theorem dX2_init_25 : decode cX2_init 25 = .ok (.bipush 6, 2) := by decide +kernel
theorem dX2_init_27 : decode cX2_init 27 = .ok (.bipush 6, 2) := by decide +kernel
theorem dX2_init_29 : decode cX2_init 29 = .ok (.multianewarray 20 2, 4) := by decide +kernel
theorem dX2_init_33 : decode cX2_init 33 = .ok (.putfield 22, 3) := by decide +kernel
theorem dX2_init_36 : decode cX2_init 36 = .ok (.return_, 1) := by decide +kernel
theorem dX2_isSpot_0 : decode cX2_isSpot 0 = .ok (.iload_n 1, 1) := by decide +kernel
theorem dX2_isSpot_1 : decode cX2_isSpot 1 = .ok (.ifCond .lt 15, 3) := by decide +kernel
theorem dX2_isSpot_4 : decode cX2_isSpot 4 = .ok (.iload_n 1, 1) := by decide +kernel
theorem dX2_isSpot_5 : decode cX2_isSpot 5 = .ok (.aload_n 0, 1) := by decide +kernel
theorem dX2_isSpot_6 : decode cX2_isSpot 6 = .ok (.getfield 25, 3) := by decide +kernel
theorem dX2_isSpot_9 : decode cX2_isSpot 9 = .ok (.if_icmp .ge 7, 3) := by decide +kernel
theorem dX2_isSpot_12 : decode cX2_isSpot 12 = .ok (.iconst 1, 1) := by decide +kernel
theorem dX2_isSpot_13 : decode cX2_isSpot 13 = .ok (.goto 4, 3) := by decide +kernel
theorem dX2_isSpot_16 : decode cX2_isSpot 16 = .ok (.iconst 0, 1) := by decide +kernel
theorem dX2_isSpot_17 : decode cX2_isSpot 17 = .ok (.ireturn, 1) := by decide +kernel
set_option maxRecDepth 20000 in
theorem ggX2_isNode_X2_isSpot : GoodIn wsX2_isNode wsX2_isSpot := goodIn_r _ [5, 6, 7, 8, 9, 10] (by decide +kernel) (by decide +kernel)
set_option maxRecDepth 20000 in
theorem gX2_isNode_X2_isSpot : GoodIn wsX2_isNode (wsV RX2 29 RX2 yX2_isSpot wsX2_isSpot) := goodIn_app (goodIn_of _ (by decide +kernel)) ggX2_isNode_X2_isSpot
theorem dX2_isNode_0 : decode cX2_isNode 0 = .ok (.iload_n 1, 1) := by decide +kernel
theorem dX2_isNode_1 : decode cX2_isNode 1 = .ok (.bipush 6, 2) := by decide +kernel
theorem dX2_isNode_3 : decode cX2_isNode 3 = .ok (.if_icmp .eq 11, 3) := by decide +kernel
theorem dX2_isNode_6 : decode cX2_isNode 6 = .ok (.aload_n 0, 1) := by decide +kernel
theorem dX2_isNode_7 : decode cX2_isNode 7 = .ok (.iload_n 1, 1) := by decide +kernel
theorem dX2_isNode_8 : decode cX2_isNode 8 = .ok (.invokevirtual 29, 3) := by decide +kernel
theorem dX2_isNode_11 : decode cX2_isNode 11 = .ok (.ifCond .eq 7, 3) := by decide +kernel
theorem dX2_isNode_14 : decode cX2_isNode 14 = .ok (.iconst 1, 1) := by decide +kernel
theorem dX2_isNode_15 : decode cX2_isNode 15 = .ok (.goto 4, 3) := by decide +kernel
theorem dX2_isNode_18 : decode cX2_isNode 18 = .ok (.iconst 0, 1) := by decide +kernel
theorem dX2_isNode_19 : decode cX2_isNode 19 = .ok (.ireturn, 1) := by decide +kernel
theorem dX2_lay_0 : decode cX2_lay 0 = .ok (.iload_n 3, 1) := by decide +kernel
theorem dX2_lay_1 : decode cX2_lay 1 = .ok (.aload_n 0, 1) := by decide +kernel
theorem dX2_lay_2 : decode cX2_lay 2 = .ok (.getfield 11, 3) := by decide +kernel
theorem dX2_lay_5 : decode cX2_lay 5 = .ok (.iload_n 1, 1) := by decide +kernel
theorem dX2_lay_6 : decode cX2_lay 6 = .ok (.aaload, 1) := by decide +kernel
theorem dX2_lay_7 : decode cX2_lay 7 = .ok (.iload_n 2, 1) := by decide +kernel
theorem dX2_lay_8 : decode cX2_lay 8 = .ok (.iaload, 1) := by decide +kernel
theorem dX2_lay_9 : decode cX2_lay 9 = .ok (.isub, 1) := by decide +kernel
theorem dX2_lay_10 : decode cX2_lay 10 = .ok (.istore 4, 2) := by decide +kernel
theorem dX2_lay_12 : decode cX2_lay 12 = .ok (.aload_n 0, 1) := by decide +kernel
theorem dX2_lay_13 : decode cX2_lay 13 = .ok (.getfield 11, 3) := by decide +kernel
theorem dX2_lay_16 : decode cX2_lay 16 = .ok (.iload_n 1, 1) := by decide +kernel
theorem dX2_lay_17 : decode cX2_lay 17 = .ok (.aaload, 1) := by decide +kernel
theorem dX2_lay_18 : decode cX2_lay 18 = .ok (.iload_n 2, 1) := by decide +kernel
theorem dX2_lay_19 : decode cX2_lay 19 = .ok (.iload_n 3, 1) := by decide +kernel
theorem dX2_lay_20 : decode cX2_lay 20 = .ok (.iastore, 1) := by decide +kernel
theorem dX2_lay_21 : decode cX2_lay 21 = .ok (.aload_n 0, 1) := by decide +kernel
theorem dX2_lay_22 : decode cX2_lay 22 = .ok (.getfield 11, 3) := by decide +kernel
theorem dX2_lay_25 : decode cX2_lay 25 = .ok (.iload_n 2, 1) := by decide +kernel
theorem dX2_lay_26 : decode cX2_lay 26 = .ok (.aaload, 1) := by decide +kernel
theorem dX2_lay_27 : decode cX2_lay 27 = .ok (.iload_n 1, 1) := by decide +kernel
theorem dX2_lay_28 : decode cX2_lay 28 = .ok (.iload_n 3, 1) := by decide +kernel
theorem dX2_lay_29 : decode cX2_lay 29 = .ok (.iastore, 1) := by decide +kernel
theorem dX2_lay_30 : decode cX2_lay 30 = .ok (.aload_n 0, 1) := by decide +kernel
theorem dX2_lay_31 : decode cX2_lay 31 = .ok (.getfield 16, 3) := by decide +kernel
theorem dX2_lay_34 : decode cX2_lay 34 = .ok (.iload_n 1, 1) := by decide +kernel
theorem dX2_lay_35 : decode cX2_lay 35 = .ok (.dup2, 1) := by decide +kernel
theorem dX2_lay_36 : decode cX2_lay 36 = .ok (.iaload, 1) := by decide +kernel
theorem dX2_lay_37 : decode cX2_lay 37 = .ok (.iload 4, 2) := by decide +kernel
theorem dX2_lay_39 : decode cX2_lay 39 = .ok (.iadd, 1) := by decide +kernel
theorem dX2_lay_40 : decode cX2_lay 40 = .ok (.iastore, 1) := by decide +kernel
theorem dX2_lay_41 : decode cX2_lay 41 = .ok (.aload_n 0, 1) := by decide +kernel
theorem dX2_lay_42 : decode cX2_lay 42 = .ok (.getfield 16, 3) := by decide +kernel
theorem dX2_lay_45 : decode cX2_lay 45 = .ok (.iload_n 2, 1) := by decide +kernel
theorem dX2_lay_46 : decode cX2_lay 46 = .ok (.dup2, 1) := by decide +kernel
theorem dX2_lay_47 : decode cX2_lay 47 = .ok (.iaload, 1) := by decide +kernel
theorem dX2_lay_48 : decode cX2_lay 48 = .ok (.iload 4, 2) := by decide +kernel
theorem dX2_lay_50 : decode cX2_lay 50 = .ok (.iadd, 1) := by decide +kernel
theorem dX2_lay_51 : decode cX2_lay 51 = .ok (.iastore, 1) := by decide +kernel
theorem dX2_lay_52 : decode cX2_lay 52 = .ok (.return_, 1) := by decide +kernel
theorem dX2_allEdges_0 : decode cX2_allEdges 0 = .ok (.iconst 0, 1) := by decide +kernel
theorem dX2_allEdges_1 : decode cX2_allEdges 1 = .ok (.istore_n 1, 1) := by decide +kernel
theorem dX2_allEdges_2 : decode cX2_allEdges 2 = .ok (.iconst 0, 1) := by decide +kernel
theorem dX2_allEdges_3 : decode cX2_allEdges 3 = .ok (.istore_n 2, 1) := by decide +kernel
theorem dX2_allEdges_4 : decode cX2_allEdges 4 = .ok (.iload_n 2, 1) := by decide +kernel
theorem dX2_allEdges_5 : decode cX2_allEdges 5 = .ok (.bipush 7, 2) := by decide +kernel
theorem dX2_allEdges_7 : decode cX2_allEdges 7 = .ok (.if_icmp .ge 18, 3) := by decide +kernel
theorem dX2_allEdges_10 : decode cX2_allEdges 10 = .ok (.iload_n 1, 1) := by decide +kernel
theorem dX2_allEdges_11 : decode cX2_allEdges 11 = .ok (.aload_n 0, 1) := by decide +kernel
theorem dX2_allEdges_12 : decode cX2_allEdges 12 = .ok (.getfield 16, 3) := by decide +kernel
theorem dX2_allEdges_15 : decode cX2_allEdges 15 = .ok (.iload_n 2, 1) := by decide +kernel
theorem dX2_allEdges_16 : decode cX2_allEdges 16 = .ok (.iaload, 1) := by decide +kernel
theorem dX2_allEdges_17 : decode cX2_allEdges 17 = .ok (.iadd, 1) := by decide +kernel
theorem dX2_allEdges_18 : decode cX2_allEdges 18 = .ok (.istore_n 1, 1) := by decide +kernel
theorem dX2_allEdges_19 : decode cX2_allEdges 19 = .ok (.iinc 2 1, 3) := by decide +kernel
theorem dX2_allEdges_22 : decode cX2_allEdges 22 = .ok (.goto (-18), 3) := by decide +kernel
theorem dX2_allEdges_25 : decode cX2_allEdges 25 = .ok (.iload_n 1, 1) := by decide +kernel
theorem dX2_allEdges_26 : decode cX2_allEdges 26 = .ok (.iconst 2, 1) := by decide +kernel
theorem dX2_allEdges_27 : decode cX2_allEdges 27 = .ok (.idiv, 1) := by decide +kernel
theorem dX2_allEdges_28 : decode cX2_allEdges 28 = .ok (.ireturn, 1) := by decide +kernel
theorem dX2_edgesInto_0 : decode cX2_edgesInto 0 = .ok (.iconst 0, 1) := by decide +kernel
theorem dX2_edgesInto_1 : decode cX2_edgesInto 1 = .ok (.istore_n 3, 1) := by decide +kernel
theorem dX2_edgesInto_2 : decode cX2_edgesInto 2 = .ok (.iconst 0, 1) := by decide +kernel
theorem dX2_edgesInto_3 : decode cX2_edgesInto 3 = .ok (.istore 4, 2) := by decide +kernel
theorem dX2_edgesInto_5 : decode cX2_edgesInto 5 = .ok (.iload 4, 2) := by decide +kernel
theorem dX2_edgesInto_7 : decode cX2_edgesInto 7 = .ok (.bipush 7, 2) := by decide +kernel
theorem dX2_edgesInto_9 : decode cX2_edgesInto 9 = .ok (.if_icmp .ge 30, 3) := by decide +kernel
theorem dX2_edgesInto_12 : decode cX2_edgesInto 12 = .ok (.iload_n 2, 1) := by decide +kernel
theorem dX2_edgesInto_13 : decode cX2_edgesInto 13 = .ok (.iload 4, 2) := by decide +kernel
theorem dX2_edgesInto_15 : decode cX2_edgesInto 15 = .ok (.ishr, 1) := by decide +kernel
theorem dX2_edgesInto_16 : decode cX2_edgesInto 16 = .ok (.iconst 1, 1) := by decide +kernel
theorem dX2_edgesInto_17 : decode cX2_edgesInto 17 = .ok (.iand, 1) := by decide +kernel
theorem dX2_edgesInto_18 : decode cX2_edgesInto 18 = .ok (.ifCond .eq 15, 3) := by decide +kernel
theorem dX2_edgesInto_21 : decode cX2_edgesInto 21 = .ok (.iload_n 3, 1) := by decide +kernel
theorem dX2_edgesInto_22 : decode cX2_edgesInto 22 = .ok (.aload_n 0, 1) := by decide +kernel
theorem dX2_edgesInto_23 : decode cX2_edgesInto 23 = .ok (.getfield 11, 3) := by decide +kernel
theorem dX2_edgesInto_26 : decode cX2_edgesInto 26 = .ok (.iload_n 1, 1) := by decide +kernel
theorem dX2_edgesInto_27 : decode cX2_edgesInto 27 = .ok (.aaload, 1) := by decide +kernel
theorem dX2_edgesInto_28 : decode cX2_edgesInto 28 = .ok (.iload 4, 2) := by decide +kernel
theorem dX2_edgesInto_30 : decode cX2_edgesInto 30 = .ok (.iaload, 1) := by decide +kernel
theorem dX2_edgesInto_31 : decode cX2_edgesInto 31 = .ok (.iadd, 1) := by decide +kernel
theorem dX2_edgesInto_32 : decode cX2_edgesInto 32 = .ok (.istore_n 3, 1) := by decide +kernel
theorem dX2_edgesInto_33 : decode cX2_edgesInto 33 = .ok (.iinc 4 1, 3) := by decide +kernel
theorem dX2_edgesInto_36 : decode cX2_edgesInto 36 = .ok (.goto (-31), 3) := by decide +kernel
theorem dX2_edgesInto_39 : decode cX2_edgesInto 39 = .ok (.iload_n 3, 1) := by decide +kernel
theorem dX2_edgesInto_40 : decode cX2_edgesInto 40 = .ok (.ireturn, 1) := by decide +kernel
set_option maxRecDepth 20000 in
theorem ggX2_isFast_X2_edgesInto : GoodIn wsX2_isFast wsX2_edgesInto := goodIn_r _ [6, 7, 15, 16, 17, 18] (by decide +kernel) (by decide +kernel)
set_option maxRecDepth 20000 in
theorem gX2_isFast_X2_edgesInto : GoodIn wsX2_isFast (wsV RX2 33 RX2 yX2_edgesInto wsX2_edgesInto) := goodIn_app (goodIn_of _ (by decide +kernel)) ggX2_isFast_X2_edgesInto
set_option maxRecDepth 20000 in
theorem ggX2_isFast_J6_bitCount_0f7a4 : GoodIn wsX2_isFast wsJ6_bitCount_0f7a4 := goodIn_r _ [11, 12, 13, 14] (by decide +kernel) (by decide +kernel)
set_option maxRecDepth 20000 in
theorem gX2_isFast_J6_bitCount_0f7a4 : GoodIn wsX2_isFast (va_wsS RX2 37 yJ6_bitCount_0f7a4 wsJ6_bitCount_0f7a4) := goodIn_app (goodIn_of _ (by decide +kernel)) ggX2_isFast_J6_bitCount_0f7a4
theorem dX2_isFast_0 : decode cX2_isFast 0 = .ok (.bipush 64, 2) := by decide +kernel
theorem dX2_isFast_2 : decode cX2_isFast 2 = .ok (.istore_n 1, 1) := by decide +kernel
theorem dX2_isFast_3 : decode cX2_isFast 3 = .ok (.iconst 0, 1) := by decide +kernel
theorem dX2_isFast_4 : decode cX2_isFast 4 = .ok (.istore_n 2, 1) := by decide +kernel
theorem dX2_isFast_5 : decode cX2_isFast 5 = .ok (.iload_n 2, 1) := by decide +kernel
theorem dX2_isFast_6 : decode cX2_isFast 6 = .ok (.aload_n 0, 1) := by decide +kernel
theorem dX2_isFast_7 : decode cX2_isFast 7 = .ok (.getfield 25, 3) := by decide +kernel
theorem dX2_isFast_10 : decode cX2_isFast 10 = .ok (.if_icmp .ge 40, 3) := by decide +kernel
theorem dX2_isFast_13 : decode cX2_isFast 13 = .ok (.iconst 0, 1) := by decide +kernel
theorem dX2_isFast_14 : decode cX2_isFast 14 = .ok (.istore_n 3, 1) := by decide +kernel
theorem dX2_isFast_15 : decode cX2_isFast 15 = .ok (.iload_n 3, 1) := by decide +kernel
theorem dX2_isFast_16 : decode cX2_isFast 16 = .ok (.aload_n 0, 1) := by decide +kernel
theorem dX2_isFast_17 : decode cX2_isFast 17 = .ok (.getfield 25, 3) := by decide +kernel
theorem dX2_isFast_20 : decode cX2_isFast 20 = .ok (.if_icmp .ge 24, 3) := by decide +kernel
theorem dX2_isFast_23 : decode cX2_isFast 23 = .ok (.aload_n 0, 1) := by decide +kernel
theorem dX2_isFast_24 : decode cX2_isFast 24 = .ok (.iload_n 3, 1) := by decide +kernel
theorem dX2_isFast_25 : decode cX2_isFast 25 = .ok (.iload_n 1, 1) := by decide +kernel
theorem dX2_isFast_26 : decode cX2_isFast 26 = .ok (.invokevirtual 33, 3) := by decide +kernel
theorem dX2_isFast_29 : decode cX2_isFast 29 = .ok (.ifCond .le 9, 3) := by decide +kernel
theorem dX2_isFast_32 : decode cX2_isFast 32 = .ok (.iload_n 1, 1) := by decide +kernel
theorem dX2_isFast_33 : decode cX2_isFast 33 = .ok (.iconst 1, 1) := by decide +kernel
theorem dX2_isFast_34 : decode cX2_isFast 34 = .ok (.iload_n 3, 1) := by decide +kernel
theorem dX2_isFast_35 : decode cX2_isFast 35 = .ok (.ishl, 1) := by decide +kernel
theorem dX2_isFast_36 : decode cX2_isFast 36 = .ok (.ior, 1) := by decide +kernel
theorem dX2_isFast_37 : decode cX2_isFast 37 = .ok (.istore_n 1, 1) := by decide +kernel
theorem dX2_isFast_38 : decode cX2_isFast 38 = .ok (.iinc 3 1, 3) := by decide +kernel
theorem dX2_isFast_41 : decode cX2_isFast 41 = .ok (.goto (-26), 3) := by decide +kernel
theorem dX2_isFast_44 : decode cX2_isFast 44 = .ok (.iinc 2 1, 3) := by decide +kernel
theorem dX2_isFast_47 : decode cX2_isFast 47 = .ok (.goto (-42), 3) := by decide +kernel
theorem dX2_isFast_50 : decode cX2_isFast 50 = .ok (.aload_n 0, 1) := by decide +kernel
theorem dX2_isFast_51 : decode cX2_isFast 51 = .ok (.getfield 25, 3) := by decide +kernel
theorem dX2_isFast_54 : decode cX2_isFast 54 = .ok (.ifCond .le 20, 3) := by decide +kernel
theorem dX2_isFast_57 : decode cX2_isFast 57 = .ok (.iload_n 1, 1) := by decide +kernel
theorem dX2_isFast_58 : decode cX2_isFast 58 = .ok (.invokestatic 37, 3) := by decide +kernel
theorem dX2_isFast_61 : decode cX2_isFast 61 = .ok (.aload_n 0, 1) := by decide +kernel
theorem dX2_isFast_62 : decode cX2_isFast 62 = .ok (.getfield 25, 3) := by decide +kernel
theorem dX2_isFast_65 : decode cX2_isFast 65 = .ok (.iconst 1, 1) := by decide +kernel
theorem dX2_isFast_66 : decode cX2_isFast 66 = .ok (.iadd, 1) := by decide +kernel
theorem dX2_isFast_67 : decode cX2_isFast 67 = .ok (.if_icmp .ne 7, 3) := by decide +kernel
theorem dX2_isFast_70 : decode cX2_isFast 70 = .ok (.iconst 1, 1) := by decide +kernel
theorem dX2_isFast_71 : decode cX2_isFast 71 = .ok (.goto 4, 3) := by decide +kernel
theorem dX2_isFast_74 : decode cX2_isFast 74 = .ok (.iconst 0, 1) := by decide +kernel
theorem dX2_isFast_75 : decode cX2_isFast 75 = .ok (.ireturn, 1) := by decide +kernel
theorem dX2_neighbourAt_0 : decode cX2_neighbourAt 0 = .ok (.iload_n 2, 1) := by decide +kernel
theorem dX2_neighbourAt_1 : decode cX2_neighbourAt 1 = .ok (.istore_n 3, 1) := by decide +kernel
theorem dX2_neighbourAt_2 : decode cX2_neighbourAt 2 = .ok (.iconst 0, 1) := by decide +kernel
theorem dX2_neighbourAt_3 : decode cX2_neighbourAt 3 = .ok (.istore 4, 2) := by decide +kernel
theorem dX2_neighbourAt_5 : decode cX2_neighbourAt 5 = .ok (.iload 4, 2) := by decide +kernel
theorem dX2_neighbourAt_7 : decode cX2_neighbourAt 7 = .ok (.bipush 7, 2) := by decide +kernel
theorem dX2_neighbourAt_9 : decode cX2_neighbourAt 9 = .ok (.if_icmp .ge 28, 3) := by decide +kernel
theorem dX2_neighbourAt_12 : decode cX2_neighbourAt 12 = .ok (.iload_n 3, 1) := by decide +kernel
theorem dX2_neighbourAt_13 : decode cX2_neighbourAt 13 = .ok (.aload_n 0, 1) := by decide +kernel
theorem dX2_neighbourAt_14 : decode cX2_neighbourAt 14 = .ok (.getfield 11, 3) := by decide +kernel
theorem dX2_neighbourAt_17 : decode cX2_neighbourAt 17 = .ok (.iload_n 1, 1) := by decide +kernel
theorem dX2_neighbourAt_18 : decode cX2_neighbourAt 18 = .ok (.aaload, 1) := by decide +kernel
theorem dX2_neighbourAt_19 : decode cX2_neighbourAt 19 = .ok (.iload 4, 2) := by decide +kernel
theorem dX2_neighbourAt_21 : decode cX2_neighbourAt 21 = .ok (.iaload, 1) := by decide +kernel
theorem dX2_neighbourAt_22 : decode cX2_neighbourAt 22 = .ok (.isub, 1) := by decide +kernel
theorem dX2_neighbourAt_23 : decode cX2_neighbourAt 23 = .ok (.istore_n 3, 1) := by decide +kernel
theorem dX2_neighbourAt_24 : decode cX2_neighbourAt 24 = .ok (.iload_n 3, 1) := by decide +kernel
theorem dX2_neighbourAt_25 : decode cX2_neighbourAt 25 = .ok (.ifCond .ge 6, 3) := by decide +kernel
theorem dX2_neighbourAt_28 : decode cX2_neighbourAt 28 = .ok (.iload 4, 2) := by decide +kernel
theorem dX2_neighbourAt_30 : decode cX2_neighbourAt 30 = .ok (.ireturn, 1) := by decide +kernel
theorem dX2_neighbourAt_31 : decode cX2_neighbourAt 31 = .ok (.iinc 4 1, 3) := by decide +kernel
theorem dX2_neighbourAt_34 : decode cX2_neighbourAt 34 = .ok (.goto (-29), 3) := by decide +kernel
theorem dX2_neighbourAt_37 : decode cX2_neighbourAt 37 = .ok (.iconst (-1), 1) := by decide +kernel
theorem dX2_neighbourAt_38 : decode cX2_neighbourAt 38 = .ok (.ireturn, 1) := by decide +kernel
set_option maxRecDepth 20000 in
theorem ggX2_trees_X2_fillTable : GoodIn wsX2_trees wsX2_fillTable := goodIn_r _ [7, 1, 2, 8, 9, 14, 15, 16, 17] (by decide +kernel) (by decide +kernel)
set_option maxRecDepth 20000 in
theorem gX2_trees_X2_fillTable : GoodIn wsX2_trees (wsV RX2 43 RX2 yX2_fillTable wsX2_fillTable) := goodIn_app (goodIn_of _ (by decide +kernel)) ggX2_trees_X2_fillTable
set_option maxRecDepth 20000 in
theorem ggX2_trees_X2_eliminate : GoodIn wsX2_trees wsX2_eliminate := goodIn_r _ [13, 2, 1, 14, 15, 16, 17] (by decide +kernel) (by decide +kernel)
set_option maxRecDepth 20000 in
theorem gX2_trees_X2_eliminate : GoodIn wsX2_trees (wsV RX2 46 RX2 yX2_eliminate wsX2_eliminate) := goodIn_app (goodIn_of _ (by decide +kernel)) ggX2_trees_X2_eliminate
theorem dX2_trees_0 : decode cX2_trees 0 = .ok (.aload_n 0, 1) := by decide +kernel
theorem dX2_trees_1 : decode cX2_trees 1 = .ok (.invokevirtual 43, 3) := by decide +kernel
theorem dX2_trees_4 : decode cX2_trees 4 = .ok (.lconst 1, 1) := by decide +kernel
theorem dX2_trees_5 : decode cX2_trees 5 = .ok (.lstore_n 1, 1) := by decide +kernel
theorem dX2_trees_6 : decode cX2_trees 6 = .ok (.iconst 0, 1) := by decide +kernel
theorem dX2_trees_7 : decode cX2_trees 7 = .ok (.istore_n 3, 1) := by decide +kernel
theorem dX2_trees_8 : decode cX2_trees 8 = .ok (.iload_n 3, 1) := by decide +kernel
theorem dX2_trees_9 : decode cX2_trees 9 = .ok (.aload_n 0, 1) := by decide +kernel
theorem dX2_trees_10 : decode cX2_trees 10 = .ok (.getfield 25, 3) := by decide +kernel
theorem dX2_trees_13 : decode cX2_trees 13 = .ok (.if_icmp .ge 32, 3) := by decide +kernel
theorem dX2_trees_16 : decode cX2_trees 16 = .ok (.lload_n 1, 1) := by decide +kernel
theorem dX2_trees_17 : decode cX2_trees 17 = .ok (.lconst 0, 1) := by decide +kernel
theorem dX2_trees_18 : decode cX2_trees 18 = .ok (.lcmp, 1) := by decide +kernel
theorem dX2_trees_19 : decode cX2_trees 19 = .ok (.ifCond .ne 5, 3) := by decide +kernel
theorem dX2_trees_22 : decode cX2_trees 22 = .ok (.lconst 0, 1) := by decide +kernel
theorem dX2_trees_23 : decode cX2_trees 23 = .ok (.lreturn, 1) := by decide +kernel
theorem dX2_trees_24 : decode cX2_trees 24 = .ok (.aload_n 0, 1) := by decide +kernel
theorem dX2_trees_25 : decode cX2_trees 25 = .ok (.iload_n 3, 1) := by decide +kernel
theorem dX2_trees_26 : decode cX2_trees 26 = .ok (.lload_n 1, 1) := by decide +kernel
theorem dX2_trees_27 : decode cX2_trees 27 = .ok (.invokevirtual 46, 3) := by decide +kernel
theorem dX2_trees_30 : decode cX2_trees 30 = .ok (.aload_n 0, 1) := by decide +kernel
theorem dX2_trees_31 : decode cX2_trees 31 = .ok (.getfield 22, 3) := by decide +kernel
theorem dX2_trees_34 : decode cX2_trees 34 = .ok (.iload_n 3, 1) := by decide +kernel
theorem dX2_trees_35 : decode cX2_trees 35 = .ok (.aaload, 1) := by decide +kernel
theorem dX2_trees_36 : decode cX2_trees 36 = .ok (.iload_n 3, 1) := by decide +kernel
theorem dX2_trees_37 : decode cX2_trees 37 = .ok (.laload, 1) := by decide +kernel
theorem dX2_trees_38 : decode cX2_trees 38 = .ok (.lstore_n 1, 1) := by decide +kernel
theorem dX2_trees_39 : decode cX2_trees 39 = .ok (.iinc 3 1, 3) := by decide +kernel
theorem dX2_trees_42 : decode cX2_trees 42 = .ok (.goto (-34), 3) := by decide +kernel
theorem dX2_trees_45 : decode cX2_trees 45 = .ok (.lload_n 1, 1) := by decide +kernel
theorem dX2_trees_46 : decode cX2_trees 46 = .ok (.lreturn, 1) := by decide +kernel
theorem dX2_fillTable_0 : decode cX2_fillTable 0 = .ok (.iconst 0, 1) := by decide +kernel
theorem dX2_fillTable_1 : decode cX2_fillTable 1 = .ok (.istore_n 1, 1) := by decide +kernel
theorem dX2_fillTable_2 : decode cX2_fillTable 2 = .ok (.iload_n 1, 1) := by decide +kernel
theorem dX2_fillTable_3 : decode cX2_fillTable 3 = .ok (.aload_n 0, 1) := by decide +kernel
theorem dX2_fillTable_4 : decode cX2_fillTable 4 = .ok (.getfield 25, 3) := by decide +kernel
theorem dX2_fillTable_7 : decode cX2_fillTable 7 = .ok (.if_icmp .ge 58, 3) := by decide +kernel
theorem dX2_fillTable_10 : decode cX2_fillTable 10 = .ok (.iconst 0, 1) := by decide +kernel
theorem dX2_fillTable_11 : decode cX2_fillTable 11 = .ok (.istore_n 2, 1) := by decide +kernel
theorem dX2_fillTable_12 : decode cX2_fillTable 12 = .ok (.iload_n 2, 1) := by decide +kernel
theorem dX2_fillTable_13 : decode cX2_fillTable 13 = .ok (.aload_n 0, 1) := by decide +kernel
theorem dX2_fillTable_14 : decode cX2_fillTable 14 = .ok (.getfield 25, 3) := by decide +kernel
theorem dX2_fillTable_17 : decode cX2_fillTable 17 = .ok (.if_icmp .ge 42, 3) := by decide +kernel
theorem dX2_fillTable_20 : decode cX2_fillTable 20 = .ok (.aload_n 0, 1) := by decide +kernel
theorem dX2_fillTable_21 : decode cX2_fillTable 21 = .ok (.getfield 22, 3) := by decide +kernel
theorem dX2_fillTable_24 : decode cX2_fillTable 24 = .ok (.iload_n 1, 1) := by decide +kernel
theorem dX2_fillTable_25 : decode cX2_fillTable 25 = .ok (.aaload, 1) := by decide +kernel
theorem dX2_fillTable_26 : decode cX2_fillTable 26 = .ok (.iload_n 2, 1) := by decide +kernel
theorem dX2_fillTable_27 : decode cX2_fillTable 27 = .ok (.iload_n 1, 1) := by decide +kernel
theorem dX2_fillTable_28 : decode cX2_fillTable 28 = .ok (.iload_n 2, 1) := by decide +kernel
theorem dX2_fillTable_29 : decode cX2_fillTable 29 = .ok (.if_icmp .ne 13, 3) := by decide +kernel
theorem dX2_fillTable_32 : decode cX2_fillTable 32 = .ok (.aload_n 0, 1) := by decide +kernel
theorem dX2_fillTable_33 : decode cX2_fillTable 33 = .ok (.getfield 16, 3) := by decide +kernel
theorem dX2_fillTable_36 : decode cX2_fillTable 36 = .ok (.iload_n 1, 1) := by decide +kernel
theorem dX2_fillTable_37 : decode cX2_fillTable 37 = .ok (.iaload, 1) := by decide +kernel
theorem dX2_fillTable_38 : decode cX2_fillTable 38 = .ok (.i2l, 1) := by decide +kernel
theorem dX2_fillTable_39 : decode cX2_fillTable 39 = .ok (.goto 13, 3) := by decide +kernel
theorem dX2_fillTable_42 : decode cX2_fillTable 42 = .ok (.aload_n 0, 1) := by decide +kernel
theorem dX2_fillTable_43 : decode cX2_fillTable 43 = .ok (.getfield 11, 3) := by decide +kernel
theorem dX2_fillTable_46 : decode cX2_fillTable 46 = .ok (.iload_n 1, 1) := by decide +kernel
theorem dX2_fillTable_47 : decode cX2_fillTable 47 = .ok (.aaload, 1) := by decide +kernel
theorem dX2_fillTable_48 : decode cX2_fillTable 48 = .ok (.iload_n 2, 1) := by decide +kernel
theorem dX2_fillTable_49 : decode cX2_fillTable 49 = .ok (.iaload, 1) := by decide +kernel
theorem dX2_fillTable_50 : decode cX2_fillTable 50 = .ok (.ineg, 1) := by decide +kernel
theorem dX2_fillTable_51 : decode cX2_fillTable 51 = .ok (.i2l, 1) := by decide +kernel
theorem dX2_fillTable_52 : decode cX2_fillTable 52 = .ok (.lastore, 1) := by decide +kernel
theorem dX2_fillTable_53 : decode cX2_fillTable 53 = .ok (.iinc 2 1, 3) := by decide +kernel
theorem dX2_fillTable_56 : decode cX2_fillTable 56 = .ok (.goto (-44), 3) := by decide +kernel
theorem dX2_fillTable_59 : decode cX2_fillTable 59 = .ok (.iinc 1 1, 3) := by decide +kernel
theorem dX2_fillTable_62 : decode cX2_fillTable 62 = .ok (.goto (-60), 3) := by decide +kernel
theorem dX2_fillTable_65 : decode cX2_fillTable 65 = .ok (.return_, 1) := by decide +kernel
theorem dX2_eliminate_0 : decode cX2_eliminate 0 = .ok (.lload_n 2, 1) := by decide +kernel
theorem dX2_eliminate_1 : decode cX2_eliminate 1 = .ok (.lconst 0, 1) := by decide +kernel
theorem dX2_eliminate_2 : decode cX2_eliminate 2 = .ok (.lcmp, 1) := by decide +kernel
theorem dX2_eliminate_3 : decode cX2_eliminate 3 = .ok (.ifCond .ne 4, 3) := by decide +kernel
theorem dX2_eliminate_6 : decode cX2_eliminate 6 = .ok (.return_, 1) := by decide +kernel
theorem dX2_eliminate_7 : decode cX2_eliminate 7 = .ok (.aload_n 0, 1) := by decide +kernel
theorem dX2_eliminate_8 : decode cX2_eliminate 8 = .ok (.getfield 22, 3) := by decide +kernel
theorem dX2_eliminate_11 : decode cX2_eliminate 11 = .ok (.iload_n 1, 1) := by decide +kernel
theorem dX2_eliminate_12 : decode cX2_eliminate 12 = .ok (.aaload, 1) := by decide +kernel
theorem dX2_eliminate_13 : decode cX2_eliminate 13 = .ok (.iload_n 1, 1) := by decide +kernel
theorem dX2_eliminate_14 : decode cX2_eliminate 14 = .ok (.laload, 1) := by decide +kernel
theorem dX2_eliminate_15 : decode cX2_eliminate 15 = .ok (.lstore 4, 2) := by decide +kernel
theorem dX2_eliminate_17 : decode cX2_eliminate 17 = .ok (.iload_n 1, 1) := by decide +kernel
theorem dX2_eliminate_18 : decode cX2_eliminate 18 = .ok (.iconst 1, 1) := by decide +kernel
theorem dX2_eliminate_19 : decode cX2_eliminate 19 = .ok (.iadd, 1) := by decide +kernel
theorem dX2_eliminate_20 : decode cX2_eliminate 20 = .ok (.istore 6, 2) := by decide +kernel
theorem dX2_eliminate_22 : decode cX2_eliminate 22 = .ok (.iload 6, 2) := by decide +kernel
theorem dX2_eliminate_24 : decode cX2_eliminate 24 = .ok (.aload_n 0, 1) := by decide +kernel
theorem dX2_eliminate_25 : decode cX2_eliminate 25 = .ok (.getfield 25, 3) := by decide +kernel
theorem dX2_eliminate_28 : decode cX2_eliminate 28 = .ok (.if_icmp .ge 78, 3) := by decide +kernel
theorem dX2_eliminate_31 : decode cX2_eliminate 31 = .ok (.iload_n 1, 1) := by decide +kernel
theorem dX2_eliminate_32 : decode cX2_eliminate 32 = .ok (.iconst 1, 1) := by decide +kernel
theorem dX2_eliminate_33 : decode cX2_eliminate 33 = .ok (.iadd, 1) := by decide +kernel
theorem dX2_eliminate_34 : decode cX2_eliminate 34 = .ok (.istore 7, 2) := by decide +kernel
theorem dX2_eliminate_36 : decode cX2_eliminate 36 = .ok (.iload 7, 2) := by decide +kernel
theorem dX2_eliminate_38 : decode cX2_eliminate 38 = .ok (.aload_n 0, 1) := by decide +kernel
theorem dX2_eliminate_39 : decode cX2_eliminate 39 = .ok (.getfield 25, 3) := by decide +kernel
theorem dX2_eliminate_42 : decode cX2_eliminate 42 = .ok (.if_icmp .ge 58, 3) := by decide +kernel
theorem dX2_eliminate_45 : decode cX2_eliminate 45 = .ok (.aload_n 0, 1) := by decide +kernel
theorem dX2_eliminate_46 : decode cX2_eliminate 46 = .ok (.getfield 22, 3) := by decide +kernel
theorem dX2_eliminate_49 : decode cX2_eliminate 49 = .ok (.iload 6, 2) := by decide +kernel
theorem dX2_eliminate_51 : decode cX2_eliminate 51 = .ok (.aaload, 1) := by decide +kernel
theorem dX2_eliminate_52 : decode cX2_eliminate 52 = .ok (.iload 7, 2) := by decide +kernel
theorem dX2_eliminate_54 : decode cX2_eliminate 54 = .ok (.laload, 1) := by decide +kernel
theorem dX2_eliminate_55 : decode cX2_eliminate 55 = .ok (.lload 4, 2) := by decide +kernel
theorem dX2_eliminate_57 : decode cX2_eliminate 57 = .ok (.lmul, 1) := by decide +kernel
theorem dX2_eliminate_58 : decode cX2_eliminate 58 = .ok (.aload_n 0, 1) := by decide +kernel
theorem dX2_eliminate_59 : decode cX2_eliminate 59 = .ok (.getfield 22, 3) := by decide +kernel
theorem dX2_eliminate_62 : decode cX2_eliminate 62 = .ok (.iload 6, 2) := by decide +kernel
theorem dX2_eliminate_64 : decode cX2_eliminate 64 = .ok (.aaload, 1) := by decide +kernel
theorem dX2_eliminate_65 : decode cX2_eliminate 65 = .ok (.iload_n 1, 1) := by decide +kernel
theorem dX2_eliminate_66 : decode cX2_eliminate 66 = .ok (.laload, 1) := by decide +kernel
theorem dX2_eliminate_67 : decode cX2_eliminate 67 = .ok (.aload_n 0, 1) := by decide +kernel
theorem dX2_eliminate_68 : decode cX2_eliminate 68 = .ok (.getfield 22, 3) := by decide +kernel
theorem dX2_eliminate_71 : decode cX2_eliminate 71 = .ok (.iload_n 1, 1) := by decide +kernel
theorem dX2_eliminate_72 : decode cX2_eliminate 72 = .ok (.aaload, 1) := by decide +kernel
theorem dX2_eliminate_73 : decode cX2_eliminate 73 = .ok (.iload 7, 2) := by decide +kernel
theorem dX2_eliminate_75 : decode cX2_eliminate 75 = .ok (.laload, 1) := by decide +kernel
theorem dX2_eliminate_76 : decode cX2_eliminate 76 = .ok (.lmul, 1) := by decide +kernel
theorem dX2_eliminate_77 : decode cX2_eliminate 77 = .ok (.lsub, 1) := by decide +kernel
theorem dX2_eliminate_78 : decode cX2_eliminate 78 = .ok (.lstore 8, 2) := by decide +kernel
theorem dX2_eliminate_80 : decode cX2_eliminate 80 = .ok (.aload_n 0, 1) := by decide +kernel
theorem dX2_eliminate_81 : decode cX2_eliminate 81 = .ok (.getfield 22, 3) := by decide +kernel
theorem dX2_eliminate_84 : decode cX2_eliminate 84 = .ok (.iload 6, 2) := by decide +kernel
theorem dX2_eliminate_86 : decode cX2_eliminate 86 = .ok (.aaload, 1) := by decide +kernel
theorem dX2_eliminate_87 : decode cX2_eliminate 87 = .ok (.iload 7, 2) := by decide +kernel
theorem dX2_eliminate_89 : decode cX2_eliminate 89 = .ok (.lload 8, 2) := by decide +kernel
theorem dX2_eliminate_91 : decode cX2_eliminate 91 = .ok (.lload_n 2, 1) := by decide +kernel
theorem dX2_eliminate_92 : decode cX2_eliminate 92 = .ok (.ldiv, 1) := by decide +kernel
theorem dX2_eliminate_93 : decode cX2_eliminate 93 = .ok (.lastore, 1) := by decide +kernel
theorem dX2_eliminate_94 : decode cX2_eliminate 94 = .ok (.iinc 7 1, 3) := by decide +kernel
theorem dX2_eliminate_97 : decode cX2_eliminate 97 = .ok (.goto (-61), 3) := by decide +kernel
theorem dX2_eliminate_100 : decode cX2_eliminate 100 = .ok (.iinc 6 1, 3) := by decide +kernel
theorem dX2_eliminate_103 : decode cX2_eliminate 103 = .ok (.goto (-81), 3) := by decide +kernel
theorem dX2_eliminate_106 : decode cX2_eliminate 106 = .ok (.return_, 1) := by decide +kernel
theorem dX3_init_0 : decode cX3_init 0 = .ok (.aload_n 0, 1) := by decide +kernel
theorem dX3_init_1 : decode cX3_init 1 = .ok (.invokespecial 3, 3) := by decide +kernel
theorem dX3_init_4 : decode cX3_init 4 = .ok (.aload_n 0, 1) := by decide +kernel
theorem dX3_init_5 : decode cX3_init 5 = .ok (.bipush 6, 2) := by decide +kernel
theorem dX3_init_7 : decode cX3_init 7 = .ok (.newarray .int, 2) := by decide +kernel
theorem dX3_init_9 : decode cX3_init 9 = .ok (.putfield 9, 3) := by decide +kernel
theorem dX3_init_12 : decode cX3_init 12 = .ok (.aload_n 0, 1) := by decide +kernel
theorem dX3_init_13 : decode cX3_init 13 = .ok (.aload_n 1, 1) := by decide +kernel
theorem dX3_init_14 : decode cX3_init 14 = .ok (.putfield 15, 3) := by decide +kernel
theorem dX3_init_17 : decode cX3_init 17 = .ok (.return_, 1) := by decide +kernel
set_option maxRecDepth 20000 in
theorem ggX3_reset_X2_isSpot : GoodIn wsX3_reset wsX2_isSpot := goodIn_r _ [7, 8, 12, 13, 14, 15] (by decide +kernel) (by decide +kernel)
set_option maxRecDepth 20000 in
theorem gX3_reset_X2_isSpot : GoodIn wsX3_reset (wsV RX3 19 RX2 yX2_isSpot wsX2_isSpot) := goodIn_app (goodIn_of _ (by decide +kernel)) ggX3_reset_X2_isSpot
theorem dX3_reset_0 : decode cX3_reset 0 = .ok (.aload_n 0, 1) := by decide +kernel
