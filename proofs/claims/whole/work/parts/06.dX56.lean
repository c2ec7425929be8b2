theorem dX5_init_0 : decode cX5_init 0 = .ok (.aload_n 0, 1) := by decide +kernel
theorem dX5_init_1 : decode cX5_init 1 = .ok (.invokespecial 1, 3) := by decide +kernel
theorem dX5_init_4 : decode cX5_init 4 = .ok (.aload_n 0, 1) := by decide +kernel
theorem dX5_init_5 : decode cX5_init 5 = .ok (.bipush 8, 2) := by decide +kernel
theorem dX5_init_7 : decode cX5_init 7 = .ok (.newarray .int, 2) := by decide +kernel
theorem dX5_init_9 : decode cX5_init 9 = .ok (.putfield 9, 3) := by decide +kernel
theorem dX5_init_12 : decode cX5_init 12 = .ok (.aload_n 0, 1) := by decide +kernel
theorem dX5_init_13 : decode cX5_init 13 = .ok (.bipush 8, 2) := by decide +kernel
theorem dX5_init_15 : decode cX5_init 15 = .ok (.newarray .int, 2) := by decide +kernel
theorem dX5_init_17 : decode cX5_init 17 = .ok (.putfield 13, 3) := by decide +kernel
theorem dX5_init_20 : decode cX5_init 20 = .ok (.aload_n 0, 1) := by decide +kernel
theorem dX5_init_21 : decode cX5_init 21 = .ok (.sipush 320, 3) := by decide +kernel
theorem dX5_init_24 : decode cX5_init 24 = .ok (.newarray .int, 2) := by decide +kernel
theorem dX5_init_26 : decode cX5_init 26 = .ok (.putfield 16, 3) := by decide +kernel
theorem dX5_init_29 : decode cX5_init 29 = .ok (.iconst 0, 1) := by decide +kernel
theorem dX5_init_30 : decode cX5_init 30 = .ok (.istore_n 1, 1) := by decide +kernel
theorem dX5_init_31 : decode cX5_init 31 = .ok (.iload_n 1, 1) := by decide +kernel
theorem dX5_init_32 : decode cX5_init 32 = .ok (.bipush 8, 2) := by decide +kernel
theorem dX5_init_34 : decode cX5_init 34 = .ok (.if_icmp .ge 16, 3) := by decide +kernel
theorem dX5_init_37 : decode cX5_init 37 = .ok (.aload_n 0, 1) := by decide +kernel
theorem dX5_init_38 : decode cX5_init 38 = .ok (.getfield 9, 3) := by decide +kernel
theorem dX5_init_41 : decode cX5_init 41 = .ok (.iload_n 1, 1) := by decide +kernel
theorem dX5_init_42 : decode cX5_init 42 = .ok (.iconst (-1), 1) := by decide +kernel
theorem dX5_init_43 : decode cX5_init 43 = .ok (.iastore, 1) := by decide +kernel
theorem dX5_init_44 : decode cX5_init 44 = .ok (.iinc 1 1, 3) := by decide +kernel
theorem dX5_init_47 : decode cX5_init 47 = .ok (.goto (-16), 3) := by decide +kernel
theorem dX5_init_50 : decode cX5_init 50 = .ok (.return_, 1) := by decide +kernel
theorem dX5_isRow_0 : decode cX5_isRow 0 = .ok (.iload_n 1, 1) := by decide +kernel
theorem dX5_isRow_1 : decode cX5_isRow 1 = .ok (.ifCond .lt 13, 3) := by decide +kernel
theorem dX5_isRow_4 : decode cX5_isRow 4 = .ok (.iload_n 1, 1) := by decide +kernel
theorem dX5_isRow_5 : decode cX5_isRow 5 = .ok (.bipush 8, 2) := by decide +kernel
theorem dX5_isRow_7 : decode cX5_isRow 7 = .ok (.if_icmp .ge 7, 3) := by decide +kernel
theorem dX5_isRow_10 : decode cX5_isRow 10 = .ok (.iconst 1, 1) := by decide +kernel
theorem dX5_isRow_11 : decode cX5_isRow 11 = .ok (.goto 4, 3) := by decide +kernel
theorem dX5_isRow_14 : decode cX5_isRow 14 = .ok (.iconst 0, 1) := by decide +kernel
theorem dX5_isRow_15 : decode cX5_isRow 15 = .ok (.ireturn, 1) := by decide +kernel
theorem dX5_isLane_0 : decode cX5_isLane 0 = .ok (.iload_n 1, 1) := by decide +kernel
theorem dX5_isLane_1 : decode cX5_isLane 1 = .ok (.ifCond .lt 12, 3) := by decide +kernel
theorem dX5_isLane_4 : decode cX5_isLane 4 = .ok (.iload_n 1, 1) := by decide +kernel
theorem dX5_isLane_5 : decode cX5_isLane 5 = .ok (.iconst 3, 1) := by decide +kernel
theorem dX5_isLane_6 : decode cX5_isLane 6 = .ok (.if_icmp .ge 7, 3) := by decide +kernel
theorem dX5_isLane_9 : decode cX5_isLane 9 = .ok (.iconst 1, 1) := by decide +kernel
theorem dX5_isLane_10 : decode cX5_isLane 10 = .ok (.goto 4, 3) := by decide +kernel
theorem dX5_isLane_13 : decode cX5_isLane 13 = .ok (.iconst 0, 1) := by decide +kernel
theorem dX5_isLane_14 : decode cX5_isLane 14 = .ok (.ireturn, 1) := by decide +kernel
set_option maxRecDepth 20000 in
theorem ggX5_isMissing_X5_isRow : GoodIn wsX5_isMissing wsX5_isRow := goodIn_r _ [6] (by decide +kernel) (by decide +kernel)
set_option maxRecDepth 20000 in
theorem gX5_isMissing_X5_isRow : GoodIn wsX5_isMissing (wsV RX5 19 RX5 yX5_isRow wsX5_isRow) := goodIn_app (goodIn_of _ (by decide +kernel)) ggX5_isMissing_X5_isRow
theorem dX5_isMissing_0 : decode cX5_isMissing 0 = .ok (.aload_n 0, 1) := by decide +kernel
theorem dX5_isMissing_1 : decode cX5_isMissing 1 = .ok (.iload_n 1, 1) := by decide +kernel
theorem dX5_isMissing_2 : decode cX5_isMissing 2 = .ok (.invokevirtual 19, 3) := by decide +kernel
theorem dX5_isMissing_5 : decode cX5_isMissing 5 = .ok (.ifCond .eq 13, 3) := by decide +kernel
theorem dX5_isMissing_8 : decode cX5_isMissing 8 = .ok (.aload_n 0, 1) := by decide +kernel
theorem dX5_isMissing_9 : decode cX5_isMissing 9 = .ok (.getfield 9, 3) := by decide +kernel
theorem dX5_isMissing_12 : decode cX5_isMissing 12 = .ok (.iload_n 1, 1) := by decide +kernel
theorem dX5_isMissing_13 : decode cX5_isMissing 13 = .ok (.iaload, 1) := by decide +kernel
theorem dX5_isMissing_14 : decode cX5_isMissing 14 = .ok (.iconst (-1), 1) := by decide +kernel
theorem dX5_isMissing_15 : decode cX5_isMissing 15 = .ok (.if_icmp .ne 7, 3) := by decide +kernel
theorem dX5_isMissing_18 : decode cX5_isMissing 18 = .ok (.iconst 1, 1) := by decide +kernel
theorem dX5_isMissing_19 : decode cX5_isMissing 19 = .ok (.goto 4, 3) := by decide +kernel
theorem dX5_isMissing_22 : decode cX5_isMissing 22 = .ok (.iconst 0, 1) := by decide +kernel
theorem dX5_isMissing_23 : decode cX5_isMissing 23 = .ok (.ireturn, 1) := by decide +kernel
set_option maxRecDepth 20000 in
theorem ggX5_areOfOneLane_X5_isRow : GoodIn wsX5_areOfOneLane wsX5_isRow := goodIn_r _ [6] (by decide +kernel) (by decide +kernel)
set_option maxRecDepth 20000 in
theorem gX5_areOfOneLane_X5_isRow : GoodIn wsX5_areOfOneLane (wsV RX5 19 RX5 yX5_isRow wsX5_isRow) := goodIn_app (goodIn_of _ (by decide +kernel)) ggX5_areOfOneLane_X5_isRow
theorem dX5_areOfOneLane_0 : decode cX5_areOfOneLane 0 = .ok (.aload_n 0, 1) := by decide +kernel
theorem dX5_areOfOneLane_1 : decode cX5_areOfOneLane 1 = .ok (.iload_n 1, 1) := by decide +kernel
theorem dX5_areOfOneLane_2 : decode cX5_areOfOneLane 2 = .ok (.invokevirtual 19, 3) := by decide +kernel
theorem dX5_areOfOneLane_5 : decode cX5_areOfOneLane 5 = .ok (.ifCond .eq 30, 3) := by decide +kernel
theorem dX5_areOfOneLane_8 : decode cX5_areOfOneLane 8 = .ok (.aload_n 0, 1) := by decide +kernel
theorem dX5_areOfOneLane_9 : decode cX5_areOfOneLane 9 = .ok (.iload_n 2, 1) := by decide +kernel
theorem dX5_areOfOneLane_10 : decode cX5_areOfOneLane 10 = .ok (.invokevirtual 19, 3) := by decide +kernel
theorem dX5_areOfOneLane_13 : decode cX5_areOfOneLane 13 = .ok (.ifCond .eq 22, 3) := by decide +kernel
theorem dX5_areOfOneLane_16 : decode cX5_areOfOneLane 16 = .ok (.aload_n 0, 1) := by decide +kernel
theorem dX5_areOfOneLane_17 : decode cX5_areOfOneLane 17 = .ok (.getfield 9, 3) := by decide +kernel
theorem dX5_areOfOneLane_20 : decode cX5_areOfOneLane 20 = .ok (.iload_n 1, 1) := by decide +kernel
theorem dX5_areOfOneLane_21 : decode cX5_areOfOneLane 21 = .ok (.iaload, 1) := by decide +kernel
theorem dX5_areOfOneLane_22 : decode cX5_areOfOneLane 22 = .ok (.aload_n 0, 1) := by decide +kernel
theorem dX5_areOfOneLane_23 : decode cX5_areOfOneLane 23 = .ok (.getfield 9, 3) := by decide +kernel
theorem dX5_areOfOneLane_26 : decode cX5_areOfOneLane 26 = .ok (.iload_n 2, 1) := by decide +kernel
theorem dX5_areOfOneLane_27 : decode cX5_areOfOneLane 27 = .ok (.iaload, 1) := by decide +kernel
theorem dX5_areOfOneLane_28 : decode cX5_areOfOneLane 28 = .ok (.if_icmp .ne 7, 3) := by decide +kernel
theorem dX5_areOfOneLane_31 : decode cX5_areOfOneLane 31 = .ok (.iconst 1, 1) := by decide +kernel
theorem dX5_areOfOneLane_32 : decode cX5_areOfOneLane 32 = .ok (.goto 4, 3) := by decide +kernel
theorem dX5_areOfOneLane_35 : decode cX5_areOfOneLane 35 = .ok (.iconst 0, 1) := by decide +kernel
theorem dX5_areOfOneLane_36 : decode cX5_areOfOneLane 36 = .ok (.ireturn, 1) := by decide +kernel
set_option maxRecDepth 20000 in
theorem ggX5_holds_X5_isMissing : GoodIn wsX5_holds wsX5_isMissing := goodIn_r _ [6, 7, 8, 9, 10, 5, 11, 12, 13, 14] (by decide +kernel) (by decide +kernel)
set_option maxRecDepth 20000 in
theorem gX5_holds_X5_isMissing : GoodIn wsX5_holds (wsV RX5 23 RX5 yX5_isMissing wsX5_isMissing) := goodIn_app (goodIn_of _ (by decide +kernel)) ggX5_holds_X5_isMissing
theorem dX5_holds_0 : decode cX5_holds 0 = .ok (.aload_n 0, 1) := by decide +kernel
theorem dX5_holds_1 : decode cX5_holds 1 = .ok (.iload_n 1, 1) := by decide +kernel
theorem dX5_holds_2 : decode cX5_holds 2 = .ok (.invokevirtual 23, 3) := by decide +kernel
theorem dX5_holds_5 : decode cX5_holds 5 = .ok (.ifCond .ne 37, 3) := by decide +kernel
theorem dX5_holds_8 : decode cX5_holds 8 = .ok (.iload_n 2, 1) := by decide +kernel
theorem dX5_holds_9 : decode cX5_holds 9 = .ok (.ifCond .lt 33, 3) := by decide +kernel
theorem dX5_holds_12 : decode cX5_holds 12 = .ok (.iload_n 3, 1) := by decide +kernel
theorem dX5_holds_13 : decode cX5_holds 13 = .ok (.ifCond .lt 29, 3) := by decide +kernel
theorem dX5_holds_16 : decode cX5_holds 16 = .ok (.iload_n 2, 1) := by decide +kernel
theorem dX5_holds_17 : decode cX5_holds 17 = .ok (.aload_n 0, 1) := by decide +kernel
theorem dX5_holds_18 : decode cX5_holds 18 = .ok (.getfield 13, 3) := by decide +kernel
theorem dX5_holds_21 : decode cX5_holds 21 = .ok (.iload_n 1, 1) := by decide +kernel
theorem dX5_holds_22 : decode cX5_holds 22 = .ok (.iaload, 1) := by decide +kernel
theorem dX5_holds_23 : decode cX5_holds 23 = .ok (.if_icmp .gt 19, 3) := by decide +kernel
theorem dX5_holds_26 : decode cX5_holds 26 = .ok (.iload_n 3, 1) := by decide +kernel
theorem dX5_holds_27 : decode cX5_holds 27 = .ok (.aload_n 0, 1) := by decide +kernel
theorem dX5_holds_28 : decode cX5_holds 28 = .ok (.getfield 13, 3) := by decide +kernel
theorem dX5_holds_31 : decode cX5_holds 31 = .ok (.iload_n 1, 1) := by decide +kernel
theorem dX5_holds_32 : decode cX5_holds 32 = .ok (.iaload, 1) := by decide +kernel
theorem dX5_holds_33 : decode cX5_holds 33 = .ok (.iload_n 2, 1) := by decide +kernel
theorem dX5_holds_34 : decode cX5_holds 34 = .ok (.isub, 1) := by decide +kernel
theorem dX5_holds_35 : decode cX5_holds 35 = .ok (.if_icmp .gt 7, 3) := by decide +kernel
theorem dX5_holds_38 : decode cX5_holds 38 = .ok (.iconst 1, 1) := by decide +kernel
theorem dX5_holds_39 : decode cX5_holds 39 = .ok (.goto 4, 3) := by decide +kernel
theorem dX5_holds_42 : decode cX5_holds 42 = .ok (.iconst 0, 1) := by decide +kernel
theorem dX5_holds_43 : decode cX5_holds 43 = .ok (.ireturn, 1) := by decide +kernel
set_option maxRecDepth 20000 in
theorem ggX5_make_X5_isRow : GoodIn wsX5_make wsX5_isRow := goodIn_r _ [8] (by decide +kernel) (by decide +kernel)
set_option maxRecDepth 20000 in
theorem gX5_make_X5_isRow : GoodIn wsX5_make (wsV RX5 19 RX5 yX5_isRow wsX5_isRow) := goodIn_app (goodIn_of _ (by decide +kernel)) ggX5_make_X5_isRow
set_option maxRecDepth 20000 in
theorem ggX5_make_X5_isLane : GoodIn wsX5_make wsX5_isLane := goodIn_r _ [12] (by decide +kernel) (by decide +kernel)
set_option maxRecDepth 20000 in
theorem gX5_make_X5_isLane : GoodIn wsX5_make (wsV RX5 26 RX5 yX5_isLane wsX5_isLane) := goodIn_app (goodIn_of _ (by decide +kernel)) ggX5_make_X5_isLane
theorem dX5_make_0 : decode cX5_make 0 = .ok (.aload_n 0, 1) := by decide +kernel
theorem dX5_make_1 : decode cX5_make 1 = .ok (.iload_n 1, 1) := by decide +kernel
theorem dX5_make_2 : decode cX5_make 2 = .ok (.invokevirtual 19, 3) := by decide +kernel
theorem dX5_make_5 : decode cX5_make 5 = .ok (.ifCond .eq 21, 3) := by decide +kernel
theorem dX5_make_8 : decode cX5_make 8 = .ok (.aload_n 0, 1) := by decide +kernel
theorem dX5_make_9 : decode cX5_make 9 = .ok (.iload_n 2, 1) := by decide +kernel
theorem dX5_make_10 : decode cX5_make 10 = .ok (.invokevirtual 26, 3) := by decide +kernel
theorem dX5_make_13 : decode cX5_make 13 = .ok (.ifCond .eq 13, 3) := by decide +kernel
theorem dX5_make_16 : decode cX5_make 16 = .ok (.iload_n 3, 1) := by decide +kernel
theorem dX5_make_17 : decode cX5_make 17 = .ok (.ifCond .lt 9, 3) := by decide +kernel
theorem dX5_make_20 : decode cX5_make 20 = .ok (.iload_n 3, 1) := by decide +kernel
theorem dX5_make_21 : decode cX5_make 21 = .ok (.bipush 40, 2) := by decide +kernel
theorem dX5_make_23 : decode cX5_make 23 = .ok (.if_icmp .le 4, 3) := by decide +kernel
theorem dX5_make_26 : decode cX5_make 26 = .ok (.return_, 1) := by decide +kernel
theorem dX5_make_27 : decode cX5_make 27 = .ok (.aload_n 0, 1) := by decide +kernel
theorem dX5_make_28 : decode cX5_make 28 = .ok (.getfield 9, 3) := by decide +kernel
theorem dX5_make_31 : decode cX5_make 31 = .ok (.iload_n 1, 1) := by decide +kernel
theorem dX5_make_32 : decode cX5_make 32 = .ok (.iload_n 2, 1) := by decide +kernel
theorem dX5_make_33 : decode cX5_make 33 = .ok (.iastore, 1) := by decide +kernel
theorem dX5_make_34 : decode cX5_make 34 = .ok (.aload_n 0, 1) := by decide +kernel
theorem dX5_make_35 : decode cX5_make 35 = .ok (.getfield 13, 3) := by decide +kernel
theorem dX5_make_38 : decode cX5_make 38 = .ok (.iload_n 1, 1) := by decide +kernel
theorem dX5_make_39 : decode cX5_make 39 = .ok (.iload_n 3, 1) := by decide +kernel
theorem dX5_make_40 : decode cX5_make 40 = .ok (.iastore, 1) := by decide +kernel
theorem dX5_make_41 : decode cX5_make 41 = .ok (.iconst 0, 1) := by decide +kernel
theorem dX5_make_42 : decode cX5_make 42 = .ok (.istore 4, 2) := by decide +kernel
theorem dX5_make_44 : decode cX5_make 44 = .ok (.iload 4, 2) := by decide +kernel
theorem dX5_make_46 : decode cX5_make 46 = .ok (.iload_n 3, 1) := by decide +kernel
theorem dX5_make_47 : decode cX5_make 47 = .ok (.if_icmp .ge 22, 3) := by decide +kernel
theorem dX5_make_50 : decode cX5_make 50 = .ok (.aload_n 0, 1) := by decide +kernel
theorem dX5_make_51 : decode cX5_make 51 = .ok (.getfield 16, 3) := by decide +kernel
theorem dX5_make_54 : decode cX5_make 54 = .ok (.iload_n 1, 1) := by decide +kernel
theorem dX5_make_55 : decode cX5_make 55 = .ok (.bipush 40, 2) := by decide +kernel
theorem dX5_make_57 : decode cX5_make 57 = .ok (.imul, 1) := by decide +kernel
theorem dX5_make_58 : decode cX5_make 58 = .ok (.iload 4, 2) := by decide +kernel
theorem dX5_make_60 : decode cX5_make 60 = .ok (.iadd, 1) := by decide +kernel
theorem dX5_make_61 : decode cX5_make 61 = .ok (.iconst 0, 1) := by decide +kernel
theorem dX5_make_62 : decode cX5_make 62 = .ok (.iastore, 1) := by decide +kernel
theorem dX5_make_63 : decode cX5_make 63 = .ok (.iinc 4 1, 3) := by decide +kernel
theorem dX5_make_66 : decode cX5_make 66 = .ok (.goto (-22), 3) := by decide +kernel
theorem dX5_make_69 : decode cX5_make 69 = .ok (.return_, 1) := by decide +kernel
set_option maxRecDepth 20000 in
theorem ggX5_lose_X5_isMissing : GoodIn wsX5_lose wsX5_isMissing := goodIn_r _ [7, 1, 8, 9, 10, 6, 11, 12, 13, 14] (by decide +kernel) (by decide +kernel)
set_option maxRecDepth 20000 in
theorem gX5_lose_X5_isMissing : GoodIn wsX5_lose (wsV RX5 23 RX5 yX5_isMissing wsX5_isMissing) := goodIn_app (goodIn_of _ (by decide +kernel)) ggX5_lose_X5_isMissing
theorem dX5_lose_0 : decode cX5_lose 0 = .ok (.aload_n 0, 1) := by decide +kernel
theorem dX5_lose_1 : decode cX5_lose 1 = .ok (.iload_n 1, 1) := by decide +kernel
theorem dX5_lose_2 : decode cX5_lose 2 = .ok (.invokevirtual 23, 3) := by decide +kernel
theorem dX5_lose_5 : decode cX5_lose 5 = .ok (.ifCond .eq 5, 3) := by decide +kernel
theorem dX5_lose_8 : decode cX5_lose 8 = .ok (.iconst 0, 1) := by decide +kernel
theorem dX5_lose_9 : decode cX5_lose 9 = .ok (.ireturn, 1) := by decide +kernel
theorem dX5_lose_10 : decode cX5_lose 10 = .ok (.aload_n 0, 1) := by decide +kernel
theorem dX5_lose_11 : decode cX5_lose 11 = .ok (.getfield 9, 3) := by decide +kernel
theorem dX5_lose_14 : decode cX5_lose 14 = .ok (.iload_n 1, 1) := by decide +kernel
theorem dX5_lose_15 : decode cX5_lose 15 = .ok (.iconst (-1), 1) := by decide +kernel
theorem dX5_lose_16 : decode cX5_lose 16 = .ok (.iastore, 1) := by decide +kernel
theorem dX5_lose_17 : decode cX5_lose 17 = .ok (.aload_n 0, 1) := by decide +kernel
theorem dX5_lose_18 : decode cX5_lose 18 = .ok (.getfield 13, 3) := by decide +kernel
theorem dX5_lose_21 : decode cX5_lose 21 = .ok (.iload_n 1, 1) := by decide +kernel
theorem dX5_lose_22 : decode cX5_lose 22 = .ok (.iaload, 1) := by decide +kernel
theorem dX5_lose_23 : decode cX5_lose 23 = .ok (.ireturn, 1) := by decide +kernel
set_option maxRecDepth 20000 in
theorem ggX5_item_X5_holds : GoodIn wsX5_item wsX5_holds := goodIn_r _ [6, 7, 8, 9, 10, 5, 11, 12, 13, 14, 15, 16, 17, 18, 19] (by decide +kernel) (by decide +kernel)
set_option maxRecDepth 20000 in
theorem gX5_item_X5_holds : GoodIn wsX5_item (wsV RX5 29 RX5 yX5_holds wsX5_holds) := goodIn_app (goodIn_of _ (by decide +kernel)) ggX5_item_X5_holds
theorem dX5_item_0 : decode cX5_item 0 = .ok (.aload_n 0, 1) := by decide +kernel
theorem dX5_item_1 : decode cX5_item 1 = .ok (.iload_n 1, 1) := by decide +kernel
theorem dX5_item_2 : decode cX5_item 2 = .ok (.iload_n 2, 1) := by decide +kernel
theorem dX5_item_3 : decode cX5_item 3 = .ok (.iconst 1, 1) := by decide +kernel
theorem dX5_item_4 : decode cX5_item 4 = .ok (.invokevirtual 29, 3) := by decide +kernel
theorem dX5_item_7 : decode cX5_item 7 = .ok (.ifCond .eq 17, 3) := by decide +kernel
theorem dX5_item_10 : decode cX5_item 10 = .ok (.aload_n 0, 1) := by decide +kernel
theorem dX5_item_11 : decode cX5_item 11 = .ok (.getfield 16, 3) := by decide +kernel
theorem dX5_item_14 : decode cX5_item 14 = .ok (.iload_n 1, 1) := by decide +kernel
theorem dX5_item_15 : decode cX5_item 15 = .ok (.bipush 40, 2) := by decide +kernel
theorem dX5_item_17 : decode cX5_item 17 = .ok (.imul, 1) := by decide +kernel
theorem dX5_item_18 : decode cX5_item 18 = .ok (.iload_n 2, 1) := by decide +kernel
theorem dX5_item_19 : decode cX5_item 19 = .ok (.iadd, 1) := by decide +kernel
theorem dX5_item_20 : decode cX5_item 20 = .ok (.iaload, 1) := by decide +kernel
theorem dX5_item_21 : decode cX5_item 21 = .ok (.goto 4, 3) := by decide +kernel
theorem dX5_item_24 : decode cX5_item 24 = .ok (.iconst 0, 1) := by decide +kernel
theorem dX5_item_25 : decode cX5_item 25 = .ok (.ireturn, 1) := by decide +kernel
set_option maxRecDepth 20000 in
theorem ggX5_put_X5_holds : GoodIn wsX5_put wsX5_holds := goodIn_r _ [7, 8, 9, 10, 11, 6, 12, 1, 13, 14, 15, 16, 20, 21, 22] (by decide +kernel) (by decide +kernel)
set_option maxRecDepth 20000 in
theorem gX5_put_X5_holds : GoodIn wsX5_put (wsV RX5 29 RX5 yX5_holds wsX5_holds) := goodIn_app (goodIn_of _ (by decide +kernel)) ggX5_put_X5_holds
set_option maxRecDepth 20000 in
theorem ggX5_put_X5_cutToLane : GoodIn wsX5_put wsX5_cutToLane := goodIn_r _ [19] (by decide +kernel) (by decide +kernel)
set_option maxRecDepth 20000 in
theorem gX5_put_X5_cutToLane : GoodIn wsX5_put (va_wsS RX5 33 yX5_cutToLane wsX5_cutToLane) := goodIn_app (goodIn_of _ (by decide +kernel)) ggX5_put_X5_cutToLane
theorem dX5_put_0 : decode cX5_put 0 = .ok (.aload_n 0, 1) := by decide +kernel
theorem dX5_put_1 : decode cX5_put 1 = .ok (.iload_n 1, 1) := by decide +kernel
theorem dX5_put_2 : decode cX5_put 2 = .ok (.iload_n 2, 1) := by decide +kernel
theorem dX5_put_3 : decode cX5_put 3 = .ok (.iconst 1, 1) := by decide +kernel
theorem dX5_put_4 : decode cX5_put 4 = .ok (.invokevirtual 29, 3) := by decide +kernel
theorem dX5_put_7 : decode cX5_put 7 = .ok (.ifCond .ne 5, 3) := by decide +kernel
theorem dX5_put_10 : decode cX5_put 10 = .ok (.iconst 0, 1) := by decide +kernel
theorem dX5_put_11 : decode cX5_put 11 = .ok (.ireturn, 1) := by decide +kernel
theorem dX5_put_12 : decode cX5_put 12 = .ok (.aload_n 0, 1) := by decide +kernel
theorem dX5_put_13 : decode cX5_put 13 = .ok (.getfield 9, 3) := by decide +kernel
theorem dX5_put_16 : decode cX5_put 16 = .ok (.iload_n 1, 1) := by decide +kernel
theorem dX5_put_17 : decode cX5_put 17 = .ok (.iaload, 1) := by decide +kernel
theorem dX5_put_18 : decode cX5_put 18 = .ok (.iload_n 3, 1) := by decide +kernel
theorem dX5_put_19 : decode cX5_put 19 = .ok (.invokestatic 33, 3) := by decide +kernel
theorem dX5_put_22 : decode cX5_put 22 = .ok (.istore 4, 2) := by decide +kernel
theorem dX5_put_24 : decode cX5_put 24 = .ok (.aload_n 0, 1) := by decide +kernel
theorem dX5_put_25 : decode cX5_put 25 = .ok (.getfield 16, 3) := by decide +kernel
theorem dX5_put_28 : decode cX5_put 28 = .ok (.iload_n 1, 1) := by decide +kernel
theorem dX5_put_29 : decode cX5_put 29 = .ok (.bipush 40, 2) := by decide +kernel
theorem dX5_put_31 : decode cX5_put 31 = .ok (.imul, 1) := by decide +kernel
theorem dX5_put_32 : decode cX5_put 32 = .ok (.iload_n 2, 1) := by decide +kernel
theorem dX5_put_33 : decode cX5_put 33 = .ok (.iadd, 1) := by decide +kernel
theorem dX5_put_34 : decode cX5_put 34 = .ok (.iload 4, 2) := by decide +kernel
theorem dX5_put_36 : decode cX5_put 36 = .ok (.iastore, 1) := by decide +kernel
theorem dX5_put_37 : decode cX5_put 37 = .ok (.iload 4, 2) := by decide +kernel
theorem dX5_put_39 : decode cX5_put 39 = .ok (.ireturn, 1) := by decide +kernel
set_option maxRecDepth 20000 in
theorem ggX5_carry_X5_holds : GoodIn wsX5_carry wsX5_holds := goodIn_r _ [10, 11, 12, 13, 14, 9, 15, 16, 17, 18, 19, 20, 21, 22, 23] (by decide +kernel) (by decide +kernel)
set_option maxRecDepth 20000 in
theorem gX5_carry_X5_holds : GoodIn wsX5_carry (wsV RX5 29 RX5 yX5_holds wsX5_holds) := goodIn_app (goodIn_of _ (by decide +kernel)) ggX5_carry_X5_holds
theorem dX5_carry_0 : decode cX5_carry 0 = .ok (.aload_n 0, 1) := by decide +kernel
theorem dX5_carry_1 : decode cX5_carry 1 = .ok (.iload_n 1, 1) := by decide +kernel
theorem dX5_carry_2 : decode cX5_carry 2 = .ok (.iload_n 2, 1) := by decide +kernel
theorem dX5_carry_3 : decode cX5_carry 3 = .ok (.iload 5, 2) := by decide +kernel
theorem dX5_carry_5 : decode cX5_carry 5 = .ok (.invokevirtual 29, 3) := by decide +kernel
theorem dX5_carry_8 : decode cX5_carry 8 = .ok (.ifCond .eq 41, 3) := by decide +kernel
theorem dX5_carry_11 : decode cX5_carry 11 = .ok (.aload_n 0, 1) := by decide +kernel
theorem dX5_carry_12 : decode cX5_carry 12 = .ok (.iload_n 3, 1) := by decide +kernel
theorem dX5_carry_13 : decode cX5_carry 13 = .ok (.iload 4, 2) := by decide +kernel
theorem dX5_carry_15 : decode cX5_carry 15 = .ok (.iload 5, 2) := by decide +kernel
theorem dX5_carry_17 : decode cX5_carry 17 = .ok (.invokevirtual 29, 3) := by decide +kernel
theorem dX5_carry_20 : decode cX5_carry 20 = .ok (.ifCond .eq 29, 3) := by decide +kernel
theorem dX5_carry_23 : decode cX5_carry 23 = .ok (.aload_n 0, 1) := by decide +kernel
theorem dX5_carry_24 : decode cX5_carry 24 = .ok (.getfield 16, 3) := by decide +kernel
theorem dX5_carry_27 : decode cX5_carry 27 = .ok (.iload_n 1, 1) := by decide +kernel
theorem dX5_carry_28 : decode cX5_carry 28 = .ok (.bipush 40, 2) := by decide +kernel
theorem dX5_carry_30 : decode cX5_carry 30 = .ok (.imul, 1) := by decide +kernel
theorem dX5_carry_31 : decode cX5_carry 31 = .ok (.iload_n 2, 1) := by decide +kernel
theorem dX5_carry_32 : decode cX5_carry 32 = .ok (.iadd, 1) := by decide +kernel
theorem dX5_carry_33 : decode cX5_carry 33 = .ok (.aload_n 0, 1) := by decide +kernel
theorem dX5_carry_34 : decode cX5_carry 34 = .ok (.getfield 16, 3) := by decide +kernel
theorem dX5_carry_37 : decode cX5_carry 37 = .ok (.iload_n 3, 1) := by decide +kernel
theorem dX5_carry_38 : decode cX5_carry 38 = .ok (.bipush 40, 2) := by decide +kernel
theorem dX5_carry_40 : decode cX5_carry 40 = .ok (.imul, 1) := by decide +kernel
theorem dX5_carry_41 : decode cX5_carry 41 = .ok (.iload 4, 2) := by decide +kernel
theorem dX5_carry_43 : decode cX5_carry 43 = .ok (.iadd, 1) := by decide +kernel
theorem dX5_carry_44 : decode cX5_carry 44 = .ok (.iload 5, 2) := by decide +kernel
theorem dX5_carry_46 : decode cX5_carry 46 = .ok (.invokestatic 37, 3) := by decide +kernel
theorem dX5_carry_49 : decode cX5_carry 49 = .ok (.return_, 1) := by decide +kernel
theorem dX5_present_0 : decode cX5_present 0 = .ok (.iconst 0, 1) := by decide +kernel
theorem dX5_present_1 : decode cX5_present 1 = .ok (.istore_n 1, 1) := by decide +kernel
theorem dX5_present_2 : decode cX5_present 2 = .ok (.iconst 0, 1) := by decide +kernel
theorem dX5_present_3 : decode cX5_present 3 = .ok (.istore_n 2, 1) := by decide +kernel
theorem dX5_present_4 : decode cX5_present 4 = .ok (.iload_n 2, 1) := by decide +kernel
theorem dX5_present_5 : decode cX5_present 5 = .ok (.bipush 8, 2) := by decide +kernel
theorem dX5_present_7 : decode cX5_present 7 = .ok (.if_icmp .ge 22, 3) := by decide +kernel
theorem dX5_present_10 : decode cX5_present 10 = .ok (.aload_n 0, 1) := by decide +kernel
theorem dX5_present_11 : decode cX5_present 11 = .ok (.getfield 9, 3) := by decide +kernel
theorem dX5_present_14 : decode cX5_present 14 = .ok (.iload_n 2, 1) := by decide +kernel
theorem dX5_present_15 : decode cX5_present 15 = .ok (.iaload, 1) := by decide +kernel
theorem dX5_present_16 : decode cX5_present 16 = .ok (.iconst (-1), 1) := by decide +kernel
theorem dX5_present_17 : decode cX5_present 17 = .ok (.if_icmp .eq 6, 3) := by decide +kernel
theorem dX5_present_20 : decode cX5_present 20 = .ok (.iinc 1 1, 3) := by decide +kernel
theorem dX5_present_23 : decode cX5_present 23 = .ok (.iinc 2 1, 3) := by decide +kernel
theorem dX5_present_26 : decode cX5_present 26 = .ok (.goto (-22), 3) := by decide +kernel
theorem dX5_present_29 : decode cX5_present 29 = .ok (.iload_n 1, 1) := by decide +kernel
theorem dX5_present_30 : decode cX5_present 30 = .ok (.ireturn, 1) := by decide +kernel
theorem dX5_cutToLane_0 : decode cX5_cutToLane 0 = .ok (.iload_n 0, 1) := by decide +kernel
theorem dX5_cutToLane_1 : decode cX5_cutToLane 1 = .ok (.ifCond .ne 6, 3) := by decide +kernel
theorem dX5_cutToLane_4 : decode cX5_cutToLane 4 = .ok (.iload_n 1, 1) := by decide +kernel
theorem dX5_cutToLane_5 : decode cX5_cutToLane 5 = .ok (.i2b, 1) := by decide +kernel
theorem dX5_cutToLane_6 : decode cX5_cutToLane 6 = .ok (.ireturn, 1) := by decide +kernel
theorem dX5_cutToLane_7 : decode cX5_cutToLane 7 = .ok (.iload_n 0, 1) := by decide +kernel
theorem dX5_cutToLane_8 : decode cX5_cutToLane 8 = .ok (.iconst 1, 1) := by decide +kernel
theorem dX5_cutToLane_9 : decode cX5_cutToLane 9 = .ok (.if_icmp .ne 6, 3) := by decide +kernel
theorem dX5_cutToLane_12 : decode cX5_cutToLane 12 = .ok (.iload_n 1, 1) := by decide +kernel
theorem dX5_cutToLane_13 : decode cX5_cutToLane 13 = .ok (.i2s, 1) := by decide +kernel
theorem dX5_cutToLane_14 : decode cX5_cutToLane 14 = .ok (.ireturn, 1) := by decide +kernel
theorem dX5_cutToLane_15 : decode cX5_cutToLane 15 = .ok (.iload_n 1, 1) := by decide +kernel
theorem dX5_cutToLane_16 : decode cX5_cutToLane 16 = .ok (.ireturn, 1) := by decide +kernel
theorem dX6_init_0 : decode cX6_init 0 = .ok (.aload_n 0, 1) := by decide +kernel
theorem dX6_init_1 : decode cX6_init 1 = .ok (.invokespecial 1, 3) := by decide +kernel
theorem dX6_init_4 : decode cX6_init 4 = .ok (.aload_n 0, 1) := by decide +kernel
theorem dX6_init_5 : decode cX6_init 5 = .ok (.sipush 400, 3) := by decide +kernel
theorem dX6_init_8 : decode cX6_init 8 = .ok (.newarray .byte, 2) := by decide +kernel
theorem dX6_init_10 : decode cX6_init 10 = .ok (.putfield 9, 3) := by decide +kernel
theorem dX6_init_13 : decode cX6_init 13 = .ok (.return_, 1) := by decide +kernel
theorem dX6_length_0 : decode cX6_length 0 = .ok (.aload_n 0, 1) := by decide +kernel
theorem dX6_length_1 : decode cX6_length 1 = .ok (.getfield 13, 3) := by decide +kernel
theorem dX6_length_4 : decode cX6_length 4 = .ok (.ireturn, 1) := by decide +kernel
theorem dX6_hasRoomFor_0 : decode cX6_hasRoomFor 0 = .ok (.iload_n 1, 1) := by decide +kernel
theorem dX6_hasRoomFor_1 : decode cX6_hasRoomFor 1 = .ok (.sipush 400, 3) := by decide +kernel
theorem dX6_hasRoomFor_4 : decode cX6_hasRoomFor 4 = .ok (.aload_n 0, 1) := by decide +kernel
theorem dX6_hasRoomFor_5 : decode cX6_hasRoomFor 5 = .ok (.getfield 13, 3) := by decide +kernel
theorem dX6_hasRoomFor_8 : decode cX6_hasRoomFor 8 = .ok (.isub, 1) := by decide +kernel
theorem dX6_hasRoomFor_9 : decode cX6_hasRoomFor 9 = .ok (.if_icmp .gt 7, 3) := by decide +kernel
theorem dX6_hasRoomFor_12 : decode cX6_hasRoomFor 12 = .ok (.iconst 1, 1) := by decide +kernel
theorem dX6_hasRoomFor_13 : decode cX6_hasRoomFor 13 = .ok (.goto 4, 3) := by decide +kernel
theorem dX6_hasRoomFor_16 : decode cX6_hasRoomFor 16 = .ok (.iconst 0, 1) := by decide +kernel
theorem dX6_hasRoomFor_17 : decode cX6_hasRoomFor 17 = .ok (.ireturn, 1) := by decide +kernel
theorem dX6_append_0 : decode cX6_append 0 = .ok (.iload_n 3, 1) := by decide +kernel
theorem dX6_append_1 : decode cX6_append 1 = .ok (.iconst 1, 1) := by decide +kernel
theorem dX6_append_2 : decode cX6_append 2 = .ok (.isub, 1) := by decide +kernel
theorem dX6_append_3 : decode cX6_append 3 = .ok (.istore 4, 2) := by decide +kernel
theorem dX6_append_5 : decode cX6_append 5 = .ok (.iload 4, 2) := by decide +kernel
theorem dX6_append_7 : decode cX6_append 7 = .ok (.ifCond .lt 47, 3) := by decide +kernel
theorem dX6_append_10 : decode cX6_append 10 = .ok (.aload_n 0, 1) := by decide +kernel
theorem dX6_append_11 : decode cX6_append 11 = .ok (.getfield 13, 3) := by decide +kernel
theorem dX6_append_14 : decode cX6_append 14 = .ok (.sipush 400, 3) := by decide +kernel
theorem dX6_append_17 : decode cX6_append 17 = .ok (.if_icmp .ge 37, 3) := by decide +kernel
theorem dX6_append_20 : decode cX6_append 20 = .ok (.aload_n 0, 1) := by decide +kernel
theorem dX6_append_21 : decode cX6_append 21 = .ok (.getfield 9, 3) := by decide +kernel
theorem dX6_append_24 : decode cX6_append 24 = .ok (.aload_n 0, 1) := by decide +kernel
theorem dX6_append_25 : decode cX6_append 25 = .ok (.getfield 13, 3) := by decide +kernel
theorem dX6_append_28 : decode cX6_append 28 = .ok (.lload_n 1, 1) := by decide +kernel
theorem dX6_append_29 : decode cX6_append 29 = .ok (.bipush 8, 2) := by decide +kernel
theorem dX6_append_31 : decode cX6_append 31 = .ok (.iload 4, 2) := by decide +kernel
theorem dX6_append_33 : decode cX6_append 33 = .ok (.imul, 1) := by decide +kernel
theorem dX6_append_34 : decode cX6_append 34 = .ok (.lushr, 1) := by decide +kernel
theorem dX6_append_35 : decode cX6_append 35 = .ok (.l2i, 1) := by decide +kernel
theorem dX6_append_36 : decode cX6_append 36 = .ok (.i2b, 1) := by decide +kernel
theorem dX6_append_37 : decode cX6_append 37 = .ok (.bastore, 1) := by decide +kernel
theorem dX6_append_38 : decode cX6_append 38 = .ok (.aload_n 0, 1) := by decide +kernel
theorem dX6_append_39 : decode cX6_append 39 = .ok (.dup, 1) := by decide +kernel
theorem dX6_append_40 : decode cX6_append 40 = .ok (.getfield 13, 3) := by decide +kernel
theorem dX6_append_43 : decode cX6_append 43 = .ok (.iconst 1, 1) := by decide +kernel
theorem dX6_append_44 : decode cX6_append 44 = .ok (.iadd, 1) := by decide +kernel
theorem dX6_append_45 : decode cX6_append 45 = .ok (.putfield 13, 3) := by decide +kernel
theorem dX6_append_48 : decode cX6_append 48 = .ok (.iinc 4 (-1), 3) := by decide +kernel
theorem dX6_append_51 : decode cX6_append 51 = .ok (.goto (-46), 3) := by decide +kernel
theorem dX6_append_54 : decode cX6_append 54 = .ok (.return_, 1) := by decide +kernel
theorem dX6_clear_0 : decode cX6_clear 0 = .ok (.aload_n 0, 1) := by decide +kernel
theorem dX6_clear_1 : decode cX6_clear 1 = .ok (.iconst 0, 1) := by decide +kernel
theorem dX6_clear_2 : decode cX6_clear 2 = .ok (.putfield 13, 3) := by decide +kernel
theorem dX6_clear_5 : decode cX6_clear 5 = .ok (.return_, 1) := by decide +kernel
set_option maxRecDepth 20000 in
theorem ggX6_readFirst_X6_readNext : GoodIn wsX6_readFirst wsX6_readNext := goodIn_r _ [6, 1, 7, 8, 9, 10, 11, 12, 5, 13, 14, 15, 16, 17, 18, 19, 20, 21, 22, 23, 24, 25, 26, 27, 28, 29, 30, 31, 32] (by decide +kernel) (by decide +kernel)
set_option maxRecDepth 20000 in
theorem gX6_readFirst_X6_readNext : GoodIn wsX6_readFirst (wsV RX6 20 RX6 yX6_readNext wsX6_readNext) := goodIn_app (goodIn_of _ (by decide +kernel)) ggX6_readFirst_X6_readNext
theorem dX6_readFirst_0 : decode cX6_readFirst 0 = .ok (.aload_n 0, 1) := by decide +kernel
theorem dX6_readFirst_1 : decode cX6_readFirst 1 = .ok (.iconst 0, 1) := by decide +kernel
theorem dX6_readFirst_2 : decode cX6_readFirst 2 = .ok (.putfield 17, 3) := by decide +kernel
theorem dX6_readFirst_5 : decode cX6_readFirst 5 = .ok (.aload_n 0, 1) := by decide +kernel
theorem dX6_readFirst_6 : decode cX6_readFirst 6 = .ok (.invokevirtual 20, 3) := by decide +kernel
theorem dX6_readFirst_9 : decode cX6_readFirst 9 = .ok (.return_, 1) := by decide +kernel
set_option maxRecDepth 20000 in
theorem ggX6_readNext_X6_isBlank : GoodIn wsX6_readNext wsX6_isBlank := goodIn_r _ [9] (by decide +kernel) (by decide +kernel)
set_option maxRecDepth 20000 in
theorem gX6_readNext_X6_isBlank : GoodIn wsX6_readNext (va_wsS RX6 26 yX6_isBlank wsX6_isBlank) := goodIn_app (goodIn_of _ (by decide +kernel)) ggX6_readNext_X6_isBlank
set_option maxRecDepth 20000 in
theorem ggX6_readNext_X6_isLetter : GoodIn wsX6_readNext wsX6_isLetter := goodIn_r _ [12] (by decide +kernel) (by decide +kernel)
set_option maxRecDepth 20000 in
theorem gX6_readNext_X6_isLetter : GoodIn wsX6_readNext (va_wsS RX6 33 yX6_isLetter wsX6_isLetter) := goodIn_app (goodIn_of _ (by decide +kernel)) ggX6_readNext_X6_isLetter
set_option maxRecDepth 20000 in
theorem ggX6_readNext_X6_readLetters : GoodIn wsX6_readNext wsX6_readLetters := goodIn_r _ [16, 1, 3, 4, 10, 11, 8, 12, 24, 25, 26, 27, 28] (by decide +kernel) (by decide +kernel)
set_option maxRecDepth 20000 in
theorem gX6_readNext_X6_readLetters : GoodIn wsX6_readNext (wsV RX6 36 RX6 yX6_readLetters wsX6_readLetters) := goodIn_app (goodIn_of _ (by decide +kernel)) ggX6_readNext_X6_readLetters
set_option maxRecDepth 20000 in
theorem ggX6_readNext_X6_isFigure : GoodIn wsX6_readNext wsX6_isFigure := goodIn_r _ [19] (by decide +kernel) (by decide +kernel)
set_option maxRecDepth 20000 in
theorem gX6_readNext_X6_isFigure : GoodIn wsX6_readNext (va_wsS RX6 39 yX6_isFigure wsX6_isFigure) := goodIn_app (goodIn_of _ (by decide +kernel)) ggX6_readNext_X6_isFigure
set_option maxRecDepth 20000 in
theorem ggX6_readNext_X6_readFigures : GoodIn wsX6_readNext wsX6_readFigures := goodIn_r _ [23, 1, 3, 4, 17, 18, 8, 19, 24, 25, 26, 27, 28] (by decide +kernel) (by decide +kernel)
set_option maxRecDepth 20000 in
theorem gX6_readNext_X6_readFigures : GoodIn wsX6_readNext (wsV RX6 42 RX6 yX6_readFigures wsX6_readFigures) := goodIn_app (goodIn_of _ (by decide +kernel)) ggX6_readNext_X6_readFigures
theorem dX6_readNext_0 : decode cX6_readNext 0 = .ok (.aload_n 0, 1) := by decide +kernel
theorem dX6_readNext_1 : decode cX6_readNext 1 = .ok (.aload_n 0, 1) := by decide +kernel
theorem dX6_readNext_2 : decode cX6_readNext 2 = .ok (.getfield 17, 3) := by decide +kernel
theorem dX6_readNext_5 : decode cX6_readNext 5 = .ok (.putfield 23, 3) := by decide +kernel
theorem dX6_readNext_8 : decode cX6_readNext 8 = .ok (.aload_n 0, 1) := by decide +kernel
theorem dX6_readNext_9 : decode cX6_readNext 9 = .ok (.getfield 23, 3) := by decide +kernel
theorem dX6_readNext_12 : decode cX6_readNext 12 = .ok (.aload_n 0, 1) := by decide +kernel
theorem dX6_readNext_13 : decode cX6_readNext 13 = .ok (.getfield 13, 3) := by decide +kernel
theorem dX6_readNext_16 : decode cX6_readNext 16 = .ok (.if_icmp .ge 31, 3) := by decide +kernel
theorem dX6_readNext_19 : decode cX6_readNext 19 = .ok (.aload_n 0, 1) := by decide +kernel
theorem dX6_readNext_20 : decode cX6_readNext 20 = .ok (.getfield 9, 3) := by decide +kernel
theorem dX6_readNext_23 : decode cX6_readNext 23 = .ok (.aload_n 0, 1) := by decide +kernel
theorem dX6_readNext_24 : decode cX6_readNext 24 = .ok (.getfield 23, 3) := by decide +kernel
theorem dX6_readNext_27 : decode cX6_readNext 27 = .ok (.baload, 1) := by decide +kernel
theorem dX6_readNext_28 : decode cX6_readNext 28 = .ok (.invokestatic 26, 3) := by decide +kernel
theorem dX6_readNext_31 : decode cX6_readNext 31 = .ok (.ifCond .eq 16, 3) := by decide +kernel
theorem dX6_readNext_34 : decode cX6_readNext 34 = .ok (.aload_n 0, 1) := by decide +kernel
theorem dX6_readNext_35 : decode cX6_readNext 35 = .ok (.dup, 1) := by decide +kernel
theorem dX6_readNext_36 : decode cX6_readNext 36 = .ok (.getfield 23, 3) := by decide +kernel
theorem dX6_readNext_39 : decode cX6_readNext 39 = .ok (.iconst 1, 1) := by decide +kernel
theorem dX6_readNext_40 : decode cX6_readNext 40 = .ok (.iadd, 1) := by decide +kernel
theorem dX6_readNext_41 : decode cX6_readNext 41 = .ok (.putfield 23, 3) := by decide +kernel
theorem dX6_readNext_44 : decode cX6_readNext 44 = .ok (.goto (-36), 3) := by decide +kernel
theorem dX6_readNext_47 : decode cX6_readNext 47 = .ok (.aload_n 0, 1) := by decide +kernel
theorem dX6_readNext_48 : decode cX6_readNext 48 = .ok (.aload_n 0, 1) := by decide +kernel
theorem dX6_readNext_49 : decode cX6_readNext 49 = .ok (.getfield 23, 3) := by decide +kernel
theorem dX6_readNext_52 : decode cX6_readNext 52 = .ok (.iconst 1, 1) := by decide +kernel
theorem dX6_readNext_53 : decode cX6_readNext 53 = .ok (.iadd, 1) := by decide +kernel
theorem dX6_readNext_54 : decode cX6_readNext 54 = .ok (.putfield 17, 3) := by decide +kernel
theorem dX6_readNext_57 : decode cX6_readNext 57 = .ok (.aload_n 0, 1) := by decide +kernel
theorem dX6_readNext_58 : decode cX6_readNext 58 = .ok (.getfield 23, 3) := by decide +kernel
theorem dX6_readNext_61 : decode cX6_readNext 61 = .ok (.aload_n 0, 1) := by decide +kernel
theorem dX6_readNext_62 : decode cX6_readNext 62 = .ok (.getfield 13, 3) := by decide +kernel
theorem dX6_readNext_65 : decode cX6_readNext 65 = .ok (.if_icmp .lt 19, 3) := by decide +kernel
theorem dX6_readNext_68 : decode cX6_readNext 68 = .ok (.aload_n 0, 1) := by decide +kernel
theorem dX6_readNext_69 : decode cX6_readNext 69 = .ok (.iconst 0, 1) := by decide +kernel
theorem dX6_readNext_70 : decode cX6_readNext 70 = .ok (.putfield 30, 3) := by decide +kernel
theorem dX6_readNext_73 : decode cX6_readNext 73 = .ok (.aload_n 0, 1) := by decide +kernel
theorem dX6_readNext_74 : decode cX6_readNext 74 = .ok (.aload_n 0, 1) := by decide +kernel
theorem dX6_readNext_75 : decode cX6_readNext 75 = .ok (.getfield 23, 3) := by decide +kernel
theorem dX6_readNext_78 : decode cX6_readNext 78 = .ok (.putfield 17, 3) := by decide +kernel
theorem dX6_readNext_81 : decode cX6_readNext 81 = .ok (.goto 97, 3) := by decide +kernel
theorem dX6_readNext_84 : decode cX6_readNext 84 = .ok (.aload_n 0, 1) := by decide +kernel
theorem dX6_readNext_85 : decode cX6_readNext 85 = .ok (.getfield 9, 3) := by decide +kernel
theorem dX6_readNext_88 : decode cX6_readNext 88 = .ok (.aload_n 0, 1) := by decide +kernel
theorem dX6_readNext_89 : decode cX6_readNext 89 = .ok (.getfield 23, 3) := by decide +kernel
theorem dX6_readNext_92 : decode cX6_readNext 92 = .ok (.baload, 1) := by decide +kernel
theorem dX6_readNext_93 : decode cX6_readNext 93 = .ok (.invokestatic 33, 3) := by decide +kernel
theorem dX6_readNext_96 : decode cX6_readNext 96 = .ok (.ifCond .eq 15, 3) := by decide +kernel
theorem dX6_readNext_99 : decode cX6_readNext 99 = .ok (.aload_n 0, 1) := by decide +kernel
theorem dX6_readNext_100 : decode cX6_readNext 100 = .ok (.iconst 1, 1) := by decide +kernel
theorem dX6_readNext_101 : decode cX6_readNext 101 = .ok (.putfield 30, 3) := by decide +kernel
theorem dX6_readNext_104 : decode cX6_readNext 104 = .ok (.aload_n 0, 1) := by decide +kernel
theorem dX6_readNext_105 : decode cX6_readNext 105 = .ok (.invokevirtual 36, 3) := by decide +kernel
theorem dX6_readNext_108 : decode cX6_readNext 108 = .ok (.goto 70, 3) := by decide +kernel
theorem dX6_readNext_111 : decode cX6_readNext 111 = .ok (.aload_n 0, 1) := by decide +kernel
theorem dX6_readNext_112 : decode cX6_readNext 112 = .ok (.getfield 9, 3) := by decide +kernel
theorem dX6_readNext_115 : decode cX6_readNext 115 = .ok (.aload_n 0, 1) := by decide +kernel
theorem dX6_readNext_116 : decode cX6_readNext 116 = .ok (.getfield 23, 3) := by decide +kernel
theorem dX6_readNext_119 : decode cX6_readNext 119 = .ok (.baload, 1) := by decide +kernel
theorem dX6_readNext_120 : decode cX6_readNext 120 = .ok (.invokestatic 39, 3) := by decide +kernel
theorem dX6_readNext_123 : decode cX6_readNext 123 = .ok (.ifCond .eq 32, 3) := by decide +kernel
theorem dX6_readNext_126 : decode cX6_readNext 126 = .ok (.aload_n 0, 1) := by decide +kernel
theorem dX6_readNext_127 : decode cX6_readNext 127 = .ok (.invokevirtual 42, 3) := by decide +kernel
theorem dX6_readNext_130 : decode cX6_readNext 130 = .ok (.aload_n 0, 1) := by decide +kernel
theorem dX6_readNext_131 : decode cX6_readNext 131 = .ok (.aload_n 0, 1) := by decide +kernel
theorem dX6_readNext_132 : decode cX6_readNext 132 = .ok (.getfield 17, 3) := by decide +kernel
theorem dX6_readNext_135 : decode cX6_readNext 135 = .ok (.aload_n 0, 1) := by decide +kernel
theorem dX6_readNext_136 : decode cX6_readNext 136 = .ok (.getfield 23, 3) := by decide +kernel
theorem dX6_readNext_139 : decode cX6_readNext 139 = .ok (.isub, 1) := by decide +kernel
theorem dX6_readNext_140 : decode cX6_readNext 140 = .ok (.iconst 3, 1) := by decide +kernel
theorem dX6_readNext_141 : decode cX6_readNext 141 = .ok (.if_icmp .le 7, 3) := by decide +kernel
theorem dX6_readNext_144 : decode cX6_readNext 144 = .ok (.iconst 4, 1) := by decide +kernel
theorem dX6_readNext_145 : decode cX6_readNext 145 = .ok (.goto 4, 3) := by decide +kernel
theorem dX6_readNext_148 : decode cX6_readNext 148 = .ok (.iconst 2, 1) := by decide +kernel
theorem dX6_readNext_149 : decode cX6_readNext 149 = .ok (.putfield 30, 3) := by decide +kernel
theorem dX6_readNext_152 : decode cX6_readNext 152 = .ok (.goto 26, 3) := by decide +kernel
theorem dX6_readNext_155 : decode cX6_readNext 155 = .ok (.aload_n 0, 1) := by decide +kernel
theorem dX6_readNext_156 : decode cX6_readNext 156 = .ok (.aload_n 0, 1) := by decide +kernel
theorem dX6_readNext_157 : decode cX6_readNext 157 = .ok (.getfield 9, 3) := by decide +kernel
theorem dX6_readNext_160 : decode cX6_readNext 160 = .ok (.aload_n 0, 1) := by decide +kernel
theorem dX6_readNext_161 : decode cX6_readNext 161 = .ok (.getfield 23, 3) := by decide +kernel
theorem dX6_readNext_164 : decode cX6_readNext 164 = .ok (.baload, 1) := by decide +kernel
theorem dX6_readNext_165 : decode cX6_readNext 165 = .ok (.bipush 59, 2) := by decide +kernel
theorem dX6_readNext_167 : decode cX6_readNext 167 = .ok (.if_icmp .ne 7, 3) := by decide +kernel
theorem dX6_readNext_170 : decode cX6_readNext 170 = .ok (.iconst 3, 1) := by decide +kernel
theorem dX6_readNext_171 : decode cX6_readNext 171 = .ok (.goto 4, 3) := by decide +kernel
theorem dX6_readNext_174 : decode cX6_readNext 174 = .ok (.iconst 4, 1) := by decide +kernel
theorem dX6_readNext_175 : decode cX6_readNext 175 = .ok (.putfield 30, 3) := by decide +kernel
theorem dX6_readNext_178 : decode cX6_readNext 178 = .ok (.return_, 1) := by decide +kernel
theorem dX6_tokenStart_0 : decode cX6_tokenStart 0 = .ok (.aload_n 0, 1) := by decide +kernel
theorem dX6_tokenStart_1 : decode cX6_tokenStart 1 = .ok (.getfield 23, 3) := by decide +kernel
theorem dX6_tokenStart_4 : decode cX6_tokenStart 4 = .ok (.ireturn, 1) := by decide +kernel
theorem dX6_isSort_0 : decode cX6_isSort 0 = .ok (.aload_n 0, 1) := by decide +kernel
theorem dX6_isSort_1 : decode cX6_isSort 1 = .ok (.getfield 30, 3) := by decide +kernel
theorem dX6_isSort_4 : decode cX6_isSort 4 = .ok (.iload_n 1, 1) := by decide +kernel
theorem dX6_isSort_5 : decode cX6_isSort 5 = .ok (.if_icmp .ne 7, 3) := by decide +kernel
theorem dX6_isSort_8 : decode cX6_isSort 8 = .ok (.iconst 1, 1) := by decide +kernel
theorem dX6_isSort_9 : decode cX6_isSort 9 = .ok (.goto 4, 3) := by decide +kernel
theorem dX6_isSort_12 : decode cX6_isSort 12 = .ok (.iconst 0, 1) := by decide +kernel
theorem dX6_isSort_13 : decode cX6_isSort 13 = .ok (.ireturn, 1) := by decide +kernel
set_option maxRecDepth 20000 in
theorem ggX6_isWord_J0_length_8abf5 : GoodIn wsX6_isWord wsJ0_length_8abf5 := goodIn_r _ [10, 11, 12, 13, 14, 9, 15, 16, 17] (by decide +kernel) (by decide +kernel)
set_option maxRecDepth 20000 in
theorem gX6_isWord_J0_length_8abf5 : GoodIn wsX6_isWord (wsV RX6 45 RJ0 yJ0_length_8abf5 wsJ0_length_8abf5) := goodIn_app (goodIn_of _ (by decide +kernel)) ggX6_isWord_J0_length_8abf5
set_option maxRecDepth 20000 in
theorem ggX6_isWord_J0_charAt_5068e : GoodIn wsX6_isWord wsJ0_charAt_5068e := goodIn_r _ [21, 11, 22, 23, 24, 9, 25, 16, 17, 26, 27, 28, 29, 30, 31, 32, 33, 34, 35, 36, 37, 38, 39, 40, 41, 42, 43, 44, 45, 46, 47, 48, 49, 50, 51, 52, 53, 54] (by decide +kernel) (by decide +kernel)
set_option maxRecDepth 20000 in
theorem gX6_isWord_J0_charAt_5068e : GoodIn wsX6_isWord (wsV RX6 51 RJ0 yJ0_charAt_5068e wsJ0_charAt_5068e) := goodIn_app (goodIn_of _ (by decide +kernel)) ggX6_isWord_J0_charAt_5068e
theorem dX6_isWord_0 : decode cX6_isWord 0 = .ok (.aload_n 0, 1) := by decide +kernel
theorem dX6_isWord_1 : decode cX6_isWord 1 = .ok (.getfield 30, 3) := by decide +kernel
theorem dX6_isWord_4 : decode cX6_isWord 4 = .ok (.iconst 1, 1) := by decide +kernel
theorem dX6_isWord_5 : decode cX6_isWord 5 = .ok (.if_icmp .ne 19, 3) := by decide +kernel
theorem dX6_isWord_8 : decode cX6_isWord 8 = .ok (.aload_n 0, 1) := by decide +kernel
theorem dX6_isWord_9 : decode cX6_isWord 9 = .ok (.getfield 17, 3) := by decide +kernel
theorem dX6_isWord_12 : decode cX6_isWord 12 = .ok (.aload_n 0, 1) := by decide +kernel
theorem dX6_isWord_13 : decode cX6_isWord 13 = .ok (.getfield 23, 3) := by decide +kernel
theorem dX6_isWord_16 : decode cX6_isWord 16 = .ok (.isub, 1) := by decide +kernel
theorem dX6_isWord_17 : decode cX6_isWord 17 = .ok (.aload_n 1, 1) := by decide +kernel
theorem dX6_isWord_18 : decode cX6_isWord 18 = .ok (.invokevirtual 45, 3) := by decide +kernel
theorem dX6_isWord_21 : decode cX6_isWord 21 = .ok (.if_icmp .eq 5, 3) := by decide +kernel
theorem dX6_isWord_24 : decode cX6_isWord 24 = .ok (.iconst 0, 1) := by decide +kernel
theorem dX6_isWord_25 : decode cX6_isWord 25 = .ok (.ireturn, 1) := by decide +kernel
theorem dX6_isWord_26 : decode cX6_isWord 26 = .ok (.iconst 0, 1) := by decide +kernel
theorem dX6_isWord_27 : decode cX6_isWord 27 = .ok (.istore_n 2, 1) := by decide +kernel
theorem dX6_isWord_28 : decode cX6_isWord 28 = .ok (.iload_n 2, 1) := by decide +kernel
theorem dX6_isWord_29 : decode cX6_isWord 29 = .ok (.aload_n 1, 1) := by decide +kernel
theorem dX6_isWord_30 : decode cX6_isWord 30 = .ok (.invokevirtual 45, 3) := by decide +kernel
theorem dX6_isWord_33 : decode cX6_isWord 33 = .ok (.if_icmp .ge 43, 3) := by decide +kernel
theorem dX6_isWord_36 : decode cX6_isWord 36 = .ok (.aload_n 0, 1) := by decide +kernel
theorem dX6_isWord_37 : decode cX6_isWord 37 = .ok (.getfield 23, 3) := by decide +kernel
theorem dX6_isWord_40 : decode cX6_isWord 40 = .ok (.iload_n 2, 1) := by decide +kernel
theorem dX6_isWord_41 : decode cX6_isWord 41 = .ok (.iadd, 1) := by decide +kernel
theorem dX6_isWord_42 : decode cX6_isWord 42 = .ok (.aload_n 0, 1) := by decide +kernel
theorem dX6_isWord_43 : decode cX6_isWord 43 = .ok (.getfield 13, 3) := by decide +kernel
theorem dX6_isWord_46 : decode cX6_isWord 46 = .ok (.if_icmp .ge 30, 3) := by decide +kernel
theorem dX6_isWord_49 : decode cX6_isWord 49 = .ok (.aload_n 0, 1) := by decide +kernel
theorem dX6_isWord_50 : decode cX6_isWord 50 = .ok (.getfield 9, 3) := by decide +kernel
theorem dX6_isWord_53 : decode cX6_isWord 53 = .ok (.aload_n 0, 1) := by decide +kernel
theorem dX6_isWord_54 : decode cX6_isWord 54 = .ok (.getfield 23, 3) := by decide +kernel
theorem dX6_isWord_57 : decode cX6_isWord 57 = .ok (.iload_n 2, 1) := by decide +kernel
theorem dX6_isWord_58 : decode cX6_isWord 58 = .ok (.iadd, 1) := by decide +kernel
theorem dX6_isWord_59 : decode cX6_isWord 59 = .ok (.baload, 1) := by decide +kernel
theorem dX6_isWord_60 : decode cX6_isWord 60 = .ok (.aload_n 1, 1) := by decide +kernel
theorem dX6_isWord_61 : decode cX6_isWord 61 = .ok (.iload_n 2, 1) := by decide +kernel
theorem dX6_isWord_62 : decode cX6_isWord 62 = .ok (.invokevirtual 51, 3) := by decide +kernel
theorem dX6_isWord_65 : decode cX6_isWord 65 = .ok (.if_icmp .eq 5, 3) := by decide +kernel
theorem dX6_isWord_68 : decode cX6_isWord 68 = .ok (.iconst 0, 1) := by decide +kernel
theorem dX6_isWord_69 : decode cX6_isWord 69 = .ok (.ireturn, 1) := by decide +kernel
theorem dX6_isWord_70 : decode cX6_isWord 70 = .ok (.iinc 2 1, 3) := by decide +kernel
theorem dX6_isWord_73 : decode cX6_isWord 73 = .ok (.goto (-45), 3) := by decide +kernel
theorem dX6_isWord_76 : decode cX6_isWord 76 = .ok (.iconst 1, 1) := by decide +kernel
theorem dX6_isWord_77 : decode cX6_isWord 77 = .ok (.ireturn, 1) := by decide +kernel
theorem dX6_number_0 : decode cX6_number 0 = .ok (.iconst 0, 1) := by decide +kernel
theorem dX6_number_1 : decode cX6_number 1 = .ok (.istore_n 1, 1) := by decide +kernel
theorem dX6_number_2 : decode cX6_number 2 = .ok (.aload_n 0, 1) := by decide +kernel
theorem dX6_number_3 : decode cX6_number 3 = .ok (.getfield 23, 3) := by decide +kernel
theorem dX6_number_6 : decode cX6_number 6 = .ok (.istore_n 2, 1) := by decide +kernel
theorem dX6_number_7 : decode cX6_number 7 = .ok (.iload_n 2, 1) := by decide +kernel
theorem dX6_number_8 : decode cX6_number 8 = .ok (.aload_n 0, 1) := by decide +kernel
theorem dX6_number_9 : decode cX6_number 9 = .ok (.getfield 17, 3) := by decide +kernel
theorem dX6_number_12 : decode cX6_number 12 = .ok (.if_icmp .ge 32, 3) := by decide +kernel
theorem dX6_number_15 : decode cX6_number 15 = .ok (.iload_n 2, 1) := by decide +kernel
theorem dX6_number_16 : decode cX6_number 16 = .ok (.aload_n 0, 1) := by decide +kernel
theorem dX6_number_17 : decode cX6_number 17 = .ok (.getfield 13, 3) := by decide +kernel
theorem dX6_number_20 : decode cX6_number 20 = .ok (.if_icmp .ge 24, 3) := by decide +kernel
theorem dX6_number_23 : decode cX6_number 23 = .ok (.iload_n 1, 1) := by decide +kernel
theorem dX6_number_24 : decode cX6_number 24 = .ok (.bipush 10, 2) := by decide +kernel
theorem dX6_number_26 : decode cX6_number 26 = .ok (.imul, 1) := by decide +kernel
theorem dX6_number_27 : decode cX6_number 27 = .ok (.aload_n 0, 1) := by decide +kernel
theorem dX6_number_28 : decode cX6_number 28 = .ok (.getfield 9, 3) := by decide +kernel
theorem dX6_number_31 : decode cX6_number 31 = .ok (.iload_n 2, 1) := by decide +kernel
theorem dX6_number_32 : decode cX6_number 32 = .ok (.baload, 1) := by decide +kernel
theorem dX6_number_33 : decode cX6_number 33 = .ok (.bipush 48, 2) := by decide +kernel
theorem dX6_number_35 : decode cX6_number 35 = .ok (.isub, 1) := by decide +kernel
theorem dX6_number_36 : decode cX6_number 36 = .ok (.iadd, 1) := by decide +kernel
theorem dX6_number_37 : decode cX6_number 37 = .ok (.istore_n 1, 1) := by decide +kernel
theorem dX6_number_38 : decode cX6_number 38 = .ok (.iinc 2 1, 3) := by decide +kernel
theorem dX6_number_41 : decode cX6_number 41 = .ok (.goto (-34), 3) := by decide +kernel
theorem dX6_number_44 : decode cX6_number 44 = .ok (.iload_n 1, 1) := by decide +kernel
theorem dX6_number_45 : decode cX6_number 45 = .ok (.ireturn, 1) := by decide +kernel
set_option maxRecDepth 20000 in
theorem ggX6_readLetters_X6_isLetter : GoodIn wsX6_readLetters wsX6_isLetter := goodIn_r _ [7] (by decide +kernel) (by decide +kernel)
set_option maxRecDepth 20000 in
theorem gX6_readLetters_X6_isLetter : GoodIn wsX6_readLetters (va_wsS RX6 33 yX6_isLetter wsX6_isLetter) := goodIn_app (goodIn_of _ (by decide +kernel)) ggX6_readLetters_X6_isLetter
theorem dX6_readLetters_0 : decode cX6_readLetters 0 = .ok (.aload_n 0, 1) := by decide +kernel
theorem dX6_readLetters_1 : decode cX6_readLetters 1 = .ok (.getfield 17, 3) := by decide +kernel
theorem dX6_readLetters_4 : decode cX6_readLetters 4 = .ok (.aload_n 0, 1) := by decide +kernel
theorem dX6_readLetters_5 : decode cX6_readLetters 5 = .ok (.getfield 13, 3) := by decide +kernel
theorem dX6_readLetters_8 : decode cX6_readLetters 8 = .ok (.if_icmp .ge 31, 3) := by decide +kernel
theorem dX6_readLetters_11 : decode cX6_readLetters 11 = .ok (.aload_n 0, 1) := by decide +kernel
theorem dX6_readLetters_12 : decode cX6_readLetters 12 = .ok (.getfield 9, 3) := by decide +kernel
theorem dX6_readLetters_15 : decode cX6_readLetters 15 = .ok (.aload_n 0, 1) := by decide +kernel
theorem dX6_readLetters_16 : decode cX6_readLetters 16 = .ok (.getfield 17, 3) := by decide +kernel
theorem dX6_readLetters_19 : decode cX6_readLetters 19 = .ok (.baload, 1) := by decide +kernel
theorem dX6_readLetters_20 : decode cX6_readLetters 20 = .ok (.invokestatic 33, 3) := by decide +kernel
theorem dX6_readLetters_23 : decode cX6_readLetters 23 = .ok (.ifCond .eq 16, 3) := by decide +kernel
theorem dX6_readLetters_26 : decode cX6_readLetters 26 = .ok (.aload_n 0, 1) := by decide +kernel
theorem dX6_readLetters_27 : decode cX6_readLetters 27 = .ok (.dup, 1) := by decide +kernel
theorem dX6_readLetters_28 : decode cX6_readLetters 28 = .ok (.getfield 17, 3) := by decide +kernel
theorem dX6_readLetters_31 : decode cX6_readLetters 31 = .ok (.iconst 1, 1) := by decide +kernel
theorem dX6_readLetters_32 : decode cX6_readLetters 32 = .ok (.iadd, 1) := by decide +kernel
theorem dX6_readLetters_33 : decode cX6_readLetters 33 = .ok (.putfield 17, 3) := by decide +kernel
theorem dX6_readLetters_36 : decode cX6_readLetters 36 = .ok (.goto (-36), 3) := by decide +kernel
theorem dX6_readLetters_39 : decode cX6_readLetters 39 = .ok (.return_, 1) := by decide +kernel
set_option maxRecDepth 20000 in
theorem ggX6_readFigures_X6_isFigure : GoodIn wsX6_readFigures wsX6_isFigure := goodIn_r _ [7] (by decide +kernel) (by decide +kernel)
set_option maxRecDepth 20000 in
theorem gX6_readFigures_X6_isFigure : GoodIn wsX6_readFigures (va_wsS RX6 39 yX6_isFigure wsX6_isFigure) := goodIn_app (goodIn_of _ (by decide +kernel)) ggX6_readFigures_X6_isFigure
theorem dX6_readFigures_0 : decode cX6_readFigures 0 = .ok (.aload_n 0, 1) := by decide +kernel
theorem dX6_readFigures_1 : decode cX6_readFigures 1 = .ok (.getfield 17, 3) := by decide +kernel
theorem dX6_readFigures_4 : decode cX6_readFigures 4 = .ok (.aload_n 0, 1) := by decide +kernel
theorem dX6_readFigures_5 : decode cX6_readFigures 5 = .ok (.getfield 13, 3) := by decide +kernel
theorem dX6_readFigures_8 : decode cX6_readFigures 8 = .ok (.if_icmp .ge 31, 3) := by decide +kernel
theorem dX6_readFigures_11 : decode cX6_readFigures 11 = .ok (.aload_n 0, 1) := by decide +kernel
theorem dX6_readFigures_12 : decode cX6_readFigures 12 = .ok (.getfield 9, 3) := by decide +kernel
theorem dX6_readFigures_15 : decode cX6_readFigures 15 = .ok (.aload_n 0, 1) := by decide +kernel
theorem dX6_readFigures_16 : decode cX6_readFigures 16 = .ok (.getfield 17, 3) := by decide +kernel
theorem dX6_readFigures_19 : decode cX6_readFigures 19 = .ok (.baload, 1) := by decide +kernel
theorem dX6_readFigures_20 : decode cX6_readFigures 20 = .ok (.invokestatic 39, 3) := by decide +kernel
theorem dX6_readFigures_23 : decode cX6_readFigures 23 = .ok (.ifCond .eq 16, 3) := by decide +kernel
theorem dX6_readFigures_26 : decode cX6_readFigures 26 = .ok (.aload_n 0, 1) := by decide +kernel
theorem dX6_readFigures_27 : decode cX6_readFigures 27 = .ok (.dup, 1) := by decide +kernel
theorem dX6_readFigures_28 : decode cX6_readFigures 28 = .ok (.getfield 17, 3) := by decide +kernel
theorem dX6_readFigures_31 : decode cX6_readFigures 31 = .ok (.iconst 1, 1) := by decide +kernel
theorem dX6_readFigures_32 : decode cX6_readFigures 32 = .ok (.iadd, 1) := by decide +kernel
theorem dX6_readFigures_33 : decode cX6_readFigures 33 = .ok (.putfield 17, 3) := by decide +kernel
theorem dX6_readFigures_36 : decode cX6_readFigures 36 = .ok (.goto (-36), 3) := by decide +kernel
theorem dX6_readFigures_39 : decode cX6_readFigures 39 = .ok (.return_, 1) := by decide +kernel
theorem dX6_isBlank_0 : decode cX6_isBlank 0 = .ok (.iload_n 0, 1) := by decide +kernel
theorem dX6_isBlank_1 : decode cX6_isBlank 1 = .ok (.bipush 32, 2) := by decide +kernel
theorem dX6_isBlank_3 : decode cX6_isBlank 3 = .ok (.if_icmp .eq 9, 3) := by decide +kernel
theorem dX6_isBlank_6 : decode cX6_isBlank 6 = .ok (.iload_n 0, 1) := by decide +kernel
theorem dX6_isBlank_7 : decode cX6_isBlank 7 = .ok (.bipush 10, 2) := by decide +kernel
theorem dX6_isBlank_9 : decode cX6_isBlank 9 = .ok (.if_icmp .ne 7, 3) := by decide +kernel
theorem dX6_isBlank_12 : decode cX6_isBlank 12 = .ok (.iconst 1, 1) := by decide +kernel
theorem dX6_isBlank_13 : decode cX6_isBlank 13 = .ok (.goto 4, 3) := by decide +kernel
theorem dX6_isBlank_16 : decode cX6_isBlank 16 = .ok (.iconst 0, 1) := by decide +kernel
theorem dX6_isBlank_17 : decode cX6_isBlank 17 = .ok (.ireturn, 1) := by decide +kernel
theorem dX6_isLetter_0 : decode cX6_isLetter 0 = .ok (.iload_n 0, 1) := by decide +kernel
theorem dX6_isLetter_1 : decode cX6_isLetter 1 = .ok (.bipush 97, 2) := by decide +kernel
theorem dX6_isLetter_3 : decode cX6_isLetter 3 = .ok (.if_icmp .lt 13, 3) := by decide +kernel
theorem dX6_isLetter_6 : decode cX6_isLetter 6 = .ok (.iload_n 0, 1) := by decide +kernel
theorem dX6_isLetter_7 : decode cX6_isLetter 7 = .ok (.bipush 122, 2) := by decide +kernel
theorem dX6_isLetter_9 : decode cX6_isLetter 9 = .ok (.if_icmp .gt 7, 3) := by decide +kernel
theorem dX6_isLetter_12 : decode cX6_isLetter 12 = .ok (.iconst 1, 1) := by decide +kernel
theorem dX6_isLetter_13 : decode cX6_isLetter 13 = .ok (.goto 4, 3) := by decide +kernel
theorem dX6_isLetter_16 : decode cX6_isLetter 16 = .ok (.iconst 0, 1) := by decide +kernel
theorem dX6_isLetter_17 : decode cX6_isLetter 17 = .ok (.ireturn, 1) := by decide +kernel
theorem dX6_isFigure_0 : decode cX6_isFigure 0 = .ok (.iload_n 0, 1) := by decide +kernel
theorem dX6_isFigure_1 : decode cX6_isFigure 1 = .ok (.bipush 48, 2) := by decide +kernel
theorem dX6_isFigure_3 : decode cX6_isFigure 3 = .ok (.if_icmp .lt 13, 3) := by decide +kernel
theorem dX6_isFigure_6 : decode cX6_isFigure 6 = .ok (.iload_n 0, 1) := by decide +kernel
theorem dX6_isFigure_7 : decode cX6_isFigure 7 = .ok (.bipush 57, 2) := by decide +kernel
theorem dX6_isFigure_9 : decode cX6_isFigure 9 = .ok (.if_icmp .gt 7, 3) := by decide +kernel
theorem dX6_isFigure_12 : decode cX6_isFigure 12 = .ok (.iconst 1, 1) := by decide +kernel
theorem dX6_isFigure_13 : decode cX6_isFigure 13 = .ok (.goto 4, 3) := by decide +kernel
theorem dX6_isFigure_16 : decode cX6_isFigure 16 = .ok (.iconst 0, 1) := by decide +kernel
theorem dX6_isFigure_17 : decode cX6_isFigure 17 = .ok (.ireturn, 1) := by decide +kernel
