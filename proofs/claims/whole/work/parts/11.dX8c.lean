theorem dX8_pick_6 : decode cX8_pick 6 = .ok (.iload_n 1, 1) := by decide +kernel
theorem dX8_pick_7 : decode cX8_pick 7 = .ok (.invokevirtual 249, 3) := by decide +kernel
theorem dX8_pick_10 : decode cX8_pick 10 = .ok (.ifCond .eq 15, 3) := by decide +kernel
theorem dX8_pick_13 : decode cX8_pick 13 = .ok (.iload_n 2, 1) := by decide +kernel
theorem dX8_pick_14 : decode cX8_pick 14 = .ok (.i2l, 1) := by decide +kernel
theorem dX8_pick_15 : decode cX8_pick 15 = .ok (.lconst 1, 1) := by decide +kernel
theorem dX8_pick_16 : decode cX8_pick 16 = .ok (.ldc2_w 252, 3) := by decide +kernel
theorem dX8_pick_19 : decode cX8_pick 19 = .ok (.invokestatic 52, 3) := by decide +kernel
theorem dX8_pick_22 : decode cX8_pick 22 = .ok (.ifCond .ne 7, 3) := by decide +kernel
theorem dX8_pick_25 : decode cX8_pick 25 = .ok (.ldc2_w 62, 3) := by decide +kernel
theorem dX8_pick_28 : decode cX8_pick 28 = .ok (.lreturn, 1) := by decide +kernel
theorem dX8_pick_29 : decode cX8_pick 29 = .ok (.aload_n 0, 1) := by decide +kernel
theorem dX8_pick_30 : decode cX8_pick 30 = .ok (.iload_n 1, 1) := by decide +kernel
theorem dX8_pick_31 : decode cX8_pick 31 = .ok (.invokevirtual 200, 3) := by decide +kernel
theorem dX8_pick_34 : decode cX8_pick 34 = .ok (.iload_n 2, 1) := by decide +kernel
theorem dX8_pick_35 : decode cX8_pick 35 = .ok (.if_icmp .ge 7, 3) := by decide +kernel
theorem dX8_pick_38 : decode cX8_pick 38 = .ok (.ldc2_w 223, 3) := by decide +kernel
theorem dX8_pick_41 : decode cX8_pick 41 = .ok (.lreturn, 1) := by decide +kernel
theorem dX8_pick_42 : decode cX8_pick 42 = .ok (.aload_n 0, 1) := by decide +kernel
theorem dX8_pick_43 : decode cX8_pick 43 = .ok (.invokevirtual 246, 3) := by decide +kernel
theorem dX8_pick_46 : decode cX8_pick 46 = .ok (.aload_n 0, 1) := by decide +kernel
theorem dX8_pick_47 : decode cX8_pick 47 = .ok (.getfield 19, 3) := by decide +kernel
theorem dX8_pick_50 : decode cX8_pick 50 = .ok (.bipush 47, 2) := by decide +kernel
theorem dX8_pick_52 : decode cX8_pick 52 = .ok (.iconst 3, 1) := by decide +kernel
theorem dX8_pick_53 : decode cX8_pick 53 = .ok (.iload_n 1, 1) := by decide +kernel
theorem dX8_pick_54 : decode cX8_pick 54 = .ok (.imul, 1) := by decide +kernel
theorem dX8_pick_55 : decode cX8_pick 55 = .ok (.iadd, 1) := by decide +kernel
theorem dX8_pick_56 : decode cX8_pick 56 = .ok (.iconst 2, 1) := by decide +kernel
theorem dX8_pick_57 : decode cX8_pick 57 = .ok (.iadd, 1) := by decide +kernel
theorem dX8_pick_58 : decode cX8_pick 58 = .ok (.dup2, 1) := by decide +kernel
theorem dX8_pick_59 : decode cX8_pick 59 = .ok (.iaload, 1) := by decide +kernel
theorem dX8_pick_60 : decode cX8_pick 60 = .ok (.iload_n 2, 1) := by decide +kernel
theorem dX8_pick_61 : decode cX8_pick 61 = .ok (.isub, 1) := by decide +kernel
theorem dX8_pick_62 : decode cX8_pick 62 = .ok (.iastore, 1) := by decide +kernel
theorem dX8_pick_63 : decode cX8_pick 63 = .ok (.aload_n 0, 1) := by decide +kernel
theorem dX8_pick_64 : decode cX8_pick 64 = .ok (.iload_n 1, 1) := by decide +kernel
theorem dX8_pick_65 : decode cX8_pick 65 = .ok (.invokevirtual 200, 3) := by decide +kernel
theorem dX8_pick_68 : decode cX8_pick 68 = .ok (.i2l, 1) := by decide +kernel
theorem dX8_pick_69 : decode cX8_pick 69 = .ok (.lreturn, 1) := by decide +kernel
set_option maxRecDepth 20000 in
theorem ggX8_move_X8_isGrave : GoodIn wsX8_move wsX8_isGrave := goodIn_r _ [9, 4, 10, 11, 8, 12, 23, 24, 25, 26, 27, 28, 29, 30, 31, 32, 33, 34, 35, 36, 37, 38, 39, 40, 41, 42, 43, 44, 45, 46, 47, 48, 49] (by decide +kernel) (by decide +kernel)
set_option maxRecDepth 20000 in
theorem gX8_move_X8_isGrave : GoodIn wsX8_move (wsV RX8 254 RX8 yX8_isGrave wsX8_isGrave) := goodIn_app (goodIn_of _ (by decide +kernel)) ggX8_move_X8_isGrave
set_option maxRecDepth 20000 in
theorem ggX8_move_X8_in : GoodIn wsX8_move wsX8_in := goodIn_r _ [12] (by decide +kernel) (by decide +kernel)
set_option maxRecDepth 20000 in
theorem gX8_move_X8_in : GoodIn wsX8_move (va_wsS RX8 52 yX8_in wsX8_in) := goodIn_app (goodIn_of _ (by decide +kernel)) ggX8_move_X8_in
set_option maxRecDepth 20000 in
theorem ggX8_move_X8_keep : GoodIn wsX8_move wsX8_keep := goodIn_r _ [16, 17, 18, 4, 23, 24, 25, 26, 27, 28, 29, 30, 31, 32, 33, 34, 35, 36, 37, 38, 39, 40, 41, 42, 43, 44, 45, 46, 47, 48, 49] (by decide +kernel) (by decide +kernel)
set_option maxRecDepth 20000 in
theorem gX8_move_X8_keep : GoodIn wsX8_move (wsV RX8 246 RX8 yX8_keep wsX8_keep) := goodIn_app (goodIn_of _ (by decide +kernel)) ggX8_move_X8_keep
set_option maxRecDepth 20000 in
theorem ggX8_move_X8_ofGrave : GoodIn wsX8_move wsX8_ofGrave := goodIn_r _ [22, 4, 23, 24, 25, 26, 27, 28, 29, 30, 31, 32, 33, 34, 35, 36, 37, 38, 39, 40, 41, 42, 43, 44, 45, 46, 47, 48, 49] (by decide +kernel) (by decide +kernel)
set_option maxRecDepth 20000 in
theorem gX8_move_X8_ofGrave : GoodIn wsX8_move (wsV RX8 191 RX8 yX8_ofGrave wsX8_ofGrave) := goodIn_app (goodIn_of _ (by decide +kernel)) ggX8_move_X8_ofGrave
theorem dX8_move_0 : decode cX8_move 0 = .ok (.aload_n 0, 1) := by decide +kernel
theorem dX8_move_1 : decode cX8_move 1 = .ok (.iconst 0, 1) := by decide +kernel
theorem dX8_move_2 : decode cX8_move 2 = .ok (.putfield 41, 3) := by decide +kernel
theorem dX8_move_5 : decode cX8_move 5 = .ok (.aload_n 0, 1) := by decide +kernel
theorem dX8_move_6 : decode cX8_move 6 = .ok (.iload_n 1, 1) := by decide +kernel
theorem dX8_move_7 : decode cX8_move 7 = .ok (.invokevirtual 254, 3) := by decide +kernel
theorem dX8_move_10 : decode cX8_move 10 = .ok (.ifCond .eq 15, 3) := by decide +kernel
theorem dX8_move_13 : decode cX8_move 13 = .ok (.iload_n 2, 1) := by decide +kernel
theorem dX8_move_14 : decode cX8_move 14 = .ok (.i2l, 1) := by decide +kernel
theorem dX8_move_15 : decode cX8_move 15 = .ok (.lconst 0, 1) := by decide +kernel
theorem dX8_move_16 : decode cX8_move 16 = .ok (.ldc2_w 257, 3) := by decide +kernel
theorem dX8_move_19 : decode cX8_move 19 = .ok (.invokestatic 52, 3) := by decide +kernel
theorem dX8_move_22 : decode cX8_move 22 = .ok (.ifCond .ne 7, 3) := by decide +kernel
theorem dX8_move_25 : decode cX8_move 25 = .ok (.ldc2_w 62, 3) := by decide +kernel
theorem dX8_move_28 : decode cX8_move 28 = .ok (.lreturn, 1) := by decide +kernel
theorem dX8_move_29 : decode cX8_move 29 = .ok (.aload_n 0, 1) := by decide +kernel
theorem dX8_move_30 : decode cX8_move 30 = .ok (.invokevirtual 246, 3) := by decide +kernel
theorem dX8_move_33 : decode cX8_move 33 = .ok (.aload_n 0, 1) := by decide +kernel
theorem dX8_move_34 : decode cX8_move 34 = .ok (.iload_n 1, 1) := by decide +kernel
theorem dX8_move_35 : decode cX8_move 35 = .ok (.iconst 0, 1) := by decide +kernel
theorem dX8_move_36 : decode cX8_move 36 = .ok (.invokevirtual 191, 3) := by decide +kernel
theorem dX8_move_39 : decode cX8_move 39 = .ok (.istore_n 3, 1) := by decide +kernel
theorem dX8_move_40 : decode cX8_move 40 = .ok (.aload_n 0, 1) := by decide +kernel
theorem dX8_move_41 : decode cX8_move 41 = .ok (.getfield 19, 3) := by decide +kernel
theorem dX8_move_44 : decode cX8_move 44 = .ok (.bipush 15, 2) := by decide +kernel
theorem dX8_move_46 : decode cX8_move 46 = .ok (.iconst 4, 1) := by decide +kernel
theorem dX8_move_47 : decode cX8_move 47 = .ok (.iload_n 1, 1) := by decide +kernel
theorem dX8_move_48 : decode cX8_move 48 = .ok (.imul, 1) := by decide +kernel
theorem dX8_move_49 : decode cX8_move 49 = .ok (.iadd, 1) := by decide +kernel
theorem dX8_move_50 : decode cX8_move 50 = .ok (.iload_n 2, 1) := by decide +kernel
theorem dX8_move_51 : decode cX8_move 51 = .ok (.iastore, 1) := by decide +kernel
theorem dX8_move_52 : decode cX8_move 52 = .ok (.iload_n 3, 1) := by decide +kernel
theorem dX8_move_53 : decode cX8_move 53 = .ok (.i2l, 1) := by decide +kernel
theorem dX8_move_54 : decode cX8_move 54 = .ok (.lreturn, 1) := by decide +kernel
set_option maxRecDepth 20000 in
theorem ggX8_crack_X8_isHorn : GoodIn wsX8_crack wsX8_isHorn := goodIn_r _ [9, 3, 10, 11, 8, 12, 19, 20, 21, 22, 23, 24, 25, 26, 27, 28, 29, 30, 31, 32, 33, 34, 35, 36, 37, 38, 39, 40, 41, 42, 43, 44, 45] (by decide +kernel) (by decide +kernel)
set_option maxRecDepth 20000 in
theorem gX8_crack_X8_isHorn : GoodIn wsX8_crack (wsV RX8 259 RX8 yX8_isHorn wsX8_isHorn) := goodIn_app (goodIn_of _ (by decide +kernel)) ggX8_crack_X8_isHorn
set_option maxRecDepth 20000 in
theorem ggX8_crack_X8_keep : GoodIn wsX8_crack wsX8_keep := goodIn_r _ [16, 17, 18, 3, 19, 20, 21, 22, 23, 24, 25, 26, 27, 28, 29, 30, 31, 32, 33, 34, 35, 36, 37, 38, 39, 40, 41, 42, 43, 44, 45] (by decide +kernel) (by decide +kernel)
set_option maxRecDepth 20000 in
theorem gX8_crack_X8_keep : GoodIn wsX8_crack (wsV RX8 246 RX8 yX8_keep wsX8_keep) := goodIn_app (goodIn_of _ (by decide +kernel)) ggX8_crack_X8_keep
theorem dX8_crack_0 : decode cX8_crack 0 = .ok (.aload_n 0, 1) := by decide +kernel
theorem dX8_crack_1 : decode cX8_crack 1 = .ok (.iconst 0, 1) := by decide +kernel
theorem dX8_crack_2 : decode cX8_crack 2 = .ok (.putfield 41, 3) := by decide +kernel
theorem dX8_crack_5 : decode cX8_crack 5 = .ok (.aload_n 0, 1) := by decide +kernel
theorem dX8_crack_6 : decode cX8_crack 6 = .ok (.iload_n 1, 1) := by decide +kernel
theorem dX8_crack_7 : decode cX8_crack 7 = .ok (.invokevirtual 259, 3) := by decide +kernel
theorem dX8_crack_10 : decode cX8_crack 10 = .ok (.ifCond .ne 7, 3) := by decide +kernel
theorem dX8_crack_13 : decode cX8_crack 13 = .ok (.ldc2_w 62, 3) := by decide +kernel
theorem dX8_crack_16 : decode cX8_crack 16 = .ok (.lreturn, 1) := by decide +kernel
theorem dX8_crack_17 : decode cX8_crack 17 = .ok (.aload_n 0, 1) := by decide +kernel
theorem dX8_crack_18 : decode cX8_crack 18 = .ok (.getfield 19, 3) := by decide +kernel
theorem dX8_crack_21 : decode cX8_crack 21 = .ok (.bipush 35, 2) := by decide +kernel
theorem dX8_crack_23 : decode cX8_crack 23 = .ok (.iconst 3, 1) := by decide +kernel
theorem dX8_crack_24 : decode cX8_crack 24 = .ok (.iload_n 1, 1) := by decide +kernel
theorem dX8_crack_25 : decode cX8_crack 25 = .ok (.imul, 1) := by decide +kernel
theorem dX8_crack_26 : decode cX8_crack 26 = .ok (.iadd, 1) := by decide +kernel
theorem dX8_crack_27 : decode cX8_crack 27 = .ok (.iconst 2, 1) := by decide +kernel
theorem dX8_crack_28 : decode cX8_crack 28 = .ok (.iadd, 1) := by decide +kernel
theorem dX8_crack_29 : decode cX8_crack 29 = .ok (.iaload, 1) := by decide +kernel
theorem dX8_crack_30 : decode cX8_crack 30 = .ok (.iconst 1, 1) := by decide +kernel
theorem dX8_crack_31 : decode cX8_crack 31 = .ok (.if_icmp .ne 7, 3) := by decide +kernel
theorem dX8_crack_34 : decode cX8_crack 34 = .ok (.ldc2_w 223, 3) := by decide +kernel
theorem dX8_crack_37 : decode cX8_crack 37 = .ok (.lreturn, 1) := by decide +kernel
theorem dX8_crack_38 : decode cX8_crack 38 = .ok (.aload_n 0, 1) := by decide +kernel
theorem dX8_crack_39 : decode cX8_crack 39 = .ok (.invokevirtual 246, 3) := by decide +kernel
theorem dX8_crack_42 : decode cX8_crack 42 = .ok (.aload_n 0, 1) := by decide +kernel
theorem dX8_crack_43 : decode cX8_crack 43 = .ok (.getfield 19, 3) := by decide +kernel
theorem dX8_crack_46 : decode cX8_crack 46 = .ok (.bipush 35, 2) := by decide +kernel
theorem dX8_crack_48 : decode cX8_crack 48 = .ok (.iconst 3, 1) := by decide +kernel
theorem dX8_crack_49 : decode cX8_crack 49 = .ok (.iload_n 1, 1) := by decide +kernel
theorem dX8_crack_50 : decode cX8_crack 50 = .ok (.imul, 1) := by decide +kernel
theorem dX8_crack_51 : decode cX8_crack 51 = .ok (.iadd, 1) := by decide +kernel
theorem dX8_crack_52 : decode cX8_crack 52 = .ok (.iconst 2, 1) := by decide +kernel
theorem dX8_crack_53 : decode cX8_crack 53 = .ok (.iadd, 1) := by decide +kernel
theorem dX8_crack_54 : decode cX8_crack 54 = .ok (.iconst 1, 1) := by decide +kernel
theorem dX8_crack_55 : decode cX8_crack 55 = .ok (.iastore, 1) := by decide +kernel
theorem dX8_crack_56 : decode cX8_crack 56 = .ok (.lconst 1, 1) := by decide +kernel
theorem dX8_crack_57 : decode cX8_crack 57 = .ok (.lreturn, 1) := by decide +kernel
theorem dX8_undo_0 : decode cX8_undo 0 = .ok (.aload_n 0, 1) := by decide +kernel
theorem dX8_undo_1 : decode cX8_undo 1 = .ok (.iconst 0, 1) := by decide +kernel
theorem dX8_undo_2 : decode cX8_undo 2 = .ok (.putfield 41, 3) := by decide +kernel
theorem dX8_undo_5 : decode cX8_undo 5 = .ok (.aload_n 0, 1) := by decide +kernel
theorem dX8_undo_6 : decode cX8_undo 6 = .ok (.getfield 188, 3) := by decide +kernel
theorem dX8_undo_9 : decode cX8_undo 9 = .ok (.ifCond .ne 7, 3) := by decide +kernel
theorem dX8_undo_12 : decode cX8_undo 12 = .ok (.ldc2_w 223, 3) := by decide +kernel
theorem dX8_undo_15 : decode cX8_undo 15 = .ok (.lreturn, 1) := by decide +kernel
theorem dX8_undo_16 : decode cX8_undo 16 = .ok (.aload_n 0, 1) := by decide +kernel
theorem dX8_undo_17 : decode cX8_undo 17 = .ok (.dup, 1) := by decide +kernel
theorem dX8_undo_18 : decode cX8_undo 18 = .ok (.getfield 188, 3) := by decide +kernel
theorem dX8_undo_21 : decode cX8_undo 21 = .ok (.iconst 1, 1) := by decide +kernel
theorem dX8_undo_22 : decode cX8_undo 22 = .ok (.isub, 1) := by decide +kernel
theorem dX8_undo_23 : decode cX8_undo 23 = .ok (.putfield 188, 3) := by decide +kernel
theorem dX8_undo_26 : decode cX8_undo 26 = .ok (.iconst 0, 1) := by decide +kernel
theorem dX8_undo_27 : decode cX8_undo 27 = .ok (.istore_n 1, 1) := by decide +kernel
theorem dX8_undo_28 : decode cX8_undo 28 = .ok (.iload_n 1, 1) := by decide +kernel
theorem dX8_undo_29 : decode cX8_undo 29 = .ok (.bipush 59, 2) := by decide +kernel
theorem dX8_undo_31 : decode cX8_undo 31 = .ok (.if_icmp .ge 29, 3) := by decide +kernel
theorem dX8_undo_34 : decode cX8_undo 34 = .ok (.aload_n 0, 1) := by decide +kernel
theorem dX8_undo_35 : decode cX8_undo 35 = .ok (.getfield 19, 3) := by decide +kernel
theorem dX8_undo_38 : decode cX8_undo 38 = .ok (.iload_n 1, 1) := by decide +kernel
theorem dX8_undo_39 : decode cX8_undo 39 = .ok (.aload_n 0, 1) := by decide +kernel
theorem dX8_undo_40 : decode cX8_undo 40 = .ok (.getfield 25, 3) := by decide +kernel
theorem dX8_undo_43 : decode cX8_undo 43 = .ok (.bipush 59, 2) := by decide +kernel
theorem dX8_undo_45 : decode cX8_undo 45 = .ok (.aload_n 0, 1) := by decide +kernel
theorem dX8_undo_46 : decode cX8_undo 46 = .ok (.getfield 188, 3) := by decide +kernel
theorem dX8_undo_49 : decode cX8_undo 49 = .ok (.imul, 1) := by decide +kernel
theorem dX8_undo_50 : decode cX8_undo 50 = .ok (.iload_n 1, 1) := by decide +kernel
theorem dX8_undo_51 : decode cX8_undo 51 = .ok (.iadd, 1) := by decide +kernel
theorem dX8_undo_52 : decode cX8_undo 52 = .ok (.iaload, 1) := by decide +kernel
theorem dX8_undo_53 : decode cX8_undo 53 = .ok (.iastore, 1) := by decide +kernel
theorem dX8_undo_54 : decode cX8_undo 54 = .ok (.iinc 1 1, 3) := by decide +kernel
theorem dX8_undo_57 : decode cX8_undo 57 = .ok (.goto (-29), 3) := by decide +kernel
theorem dX8_undo_60 : decode cX8_undo 60 = .ok (.aload_n 0, 1) := by decide +kernel
theorem dX8_undo_61 : decode cX8_undo 61 = .ok (.getfield 188, 3) := by decide +kernel
theorem dX8_undo_64 : decode cX8_undo 64 = .ok (.i2l, 1) := by decide +kernel
theorem dX8_undo_65 : decode cX8_undo 65 = .ok (.lreturn, 1) := by decide +kernel
set_option maxRecDepth 20000 in
theorem ggX8_grave_X8_isGrave : GoodIn wsX8_grave wsX8_isGrave := goodIn_r _ [8, 9, 10, 11, 7, 12, 37, 38, 39, 40, 41, 42, 43, 44, 45, 46, 47, 48, 49, 50, 51, 52, 53, 54, 55, 56, 57, 58, 59, 60, 61, 62, 63] (by decide +kernel) (by decide +kernel)
set_option maxRecDepth 20000 in
theorem gX8_grave_X8_isGrave : GoodIn wsX8_grave (wsV RX8 254 RX8 yX8_isGrave wsX8_isGrave) := goodIn_app (goodIn_of _ (by decide +kernel)) ggX8_grave_X8_isGrave
set_option maxRecDepth 20000 in
theorem ggX8_grave_X8_in : GoodIn wsX8_grave wsX8_in := goodIn_r _ [12] (by decide +kernel) (by decide +kernel)
set_option maxRecDepth 20000 in
theorem gX8_grave_X8_in : GoodIn wsX8_grave (va_wsS RX8 52 yX8_in wsX8_in) := goodIn_app (goodIn_of _ (by decide +kernel)) ggX8_grave_X8_in
set_option maxRecDepth 20000 in
theorem ggX8_grave_X8_ofGrave : GoodIn wsX8_grave wsX8_ofGrave := goodIn_r _ [16, 9, 37, 38, 39, 40, 41, 42, 43, 44, 45, 46, 47, 48, 49, 50, 51, 52, 53, 54, 55, 56, 57, 58, 59, 60, 61, 62, 63] (by decide +kernel) (by decide +kernel)
set_option maxRecDepth 20000 in
theorem gX8_grave_X8_ofGrave : GoodIn wsX8_grave (wsV RX8 191 RX8 yX8_ofGrave wsX8_ofGrave) := goodIn_app (goodIn_of _ (by decide +kernel)) ggX8_grave_X8_ofGrave
set_option maxRecDepth 20000 in
theorem ggX8_grave_X8_itsTree : GoodIn wsX8_grave wsX8_itsTree := goodIn_r _ [20, 21, 9, 22, 23, 24, 7, 25, 13, 14, 15, 16, 26, 27, 28, 29, 30, 31, 32, 37, 38, 39, 40, 41, 42, 43, 44, 45, 46, 47, 48, 49, 50, 51, 52, 53, 54, 55, 56, 57, 58, 59, 60, 61, 62, 63] (by decide +kernel) (by decide +kernel)
set_option maxRecDepth 20000 in
theorem gX8_grave_X8_itsTree : GoodIn wsX8_grave (wsV RX8 206 RX8 yX8_itsTree wsX8_itsTree) := goodIn_app (goodIn_of _ (by decide +kernel)) ggX8_grave_X8_itsTree
set_option maxRecDepth 20000 in
theorem ggX8_grave_X8_heard : GoodIn wsX8_grave wsX8_heard := goodIn_r _ [36, 9, 13, 14, 15, 7, 16, 26, 27, 28, 37, 38, 39, 40, 41, 42, 43, 44, 45, 46, 47, 48, 49, 50, 51, 52, 53, 54, 55, 56, 57, 58, 59, 60, 61, 62, 63] (by decide +kernel) (by decide +kernel)
set_option maxRecDepth 20000 in
theorem gX8_grave_X8_heard : GoodIn wsX8_grave (wsV RX8 203 RX8 yX8_heard wsX8_heard) := goodIn_app (goodIn_of _ (by decide +kernel)) ggX8_grave_X8_heard
theorem dX8_grave_0 : decode cX8_grave 0 = .ok (.aload_n 0, 1) := by decide +kernel
theorem dX8_grave_1 : decode cX8_grave 1 = .ok (.iconst 0, 1) := by decide +kernel
theorem dX8_grave_2 : decode cX8_grave 2 = .ok (.putfield 41, 3) := by decide +kernel
theorem dX8_grave_5 : decode cX8_grave 5 = .ok (.aload_n 0, 1) := by decide +kernel
theorem dX8_grave_6 : decode cX8_grave 6 = .ok (.iload_n 1, 1) := by decide +kernel
theorem dX8_grave_7 : decode cX8_grave 7 = .ok (.invokevirtual 254, 3) := by decide +kernel
theorem dX8_grave_10 : decode cX8_grave 10 = .ok (.ifCond .eq 15, 3) := by decide +kernel
theorem dX8_grave_13 : decode cX8_grave 13 = .ok (.iload_n 2, 1) := by decide +kernel
theorem dX8_grave_14 : decode cX8_grave 14 = .ok (.i2l, 1) := by decide +kernel
theorem dX8_grave_15 : decode cX8_grave 15 = .ok (.lconst 0, 1) := by decide +kernel
theorem dX8_grave_16 : decode cX8_grave 16 = .ok (.ldc2_w 262, 3) := by decide +kernel
theorem dX8_grave_19 : decode cX8_grave 19 = .ok (.invokestatic 52, 3) := by decide +kernel
theorem dX8_grave_22 : decode cX8_grave 22 = .ok (.ifCond .ne 7, 3) := by decide +kernel
theorem dX8_grave_25 : decode cX8_grave 25 = .ok (.ldc2_w 62, 3) := by decide +kernel
theorem dX8_grave_28 : decode cX8_grave 28 = .ok (.lreturn, 1) := by decide +kernel
theorem dX8_grave_29 : decode cX8_grave 29 = .ok (.iload_n 2, 1) := by decide +kernel
theorem dX8_grave_30 : decode cX8_grave 30 = .ok (.iconst 4, 1) := by decide +kernel
theorem dX8_grave_31 : decode cX8_grave 31 = .ok (.if_icmp .ge 13, 3) := by decide +kernel
theorem dX8_grave_34 : decode cX8_grave 34 = .ok (.aload_n 0, 1) := by decide +kernel
theorem dX8_grave_35 : decode cX8_grave 35 = .ok (.iload_n 1, 1) := by decide +kernel
theorem dX8_grave_36 : decode cX8_grave 36 = .ok (.iload_n 2, 1) := by decide +kernel
theorem dX8_grave_37 : decode cX8_grave 37 = .ok (.invokevirtual 191, 3) := by decide +kernel
theorem dX8_grave_40 : decode cX8_grave 40 = .ok (.i2l, 1) := by decide +kernel
theorem dX8_grave_41 : decode cX8_grave 41 = .ok (.goto 24, 3) := by decide +kernel
theorem dX8_grave_44 : decode cX8_grave 44 = .ok (.iload_n 2, 1) := by decide +kernel
theorem dX8_grave_45 : decode cX8_grave 45 = .ok (.iconst 4, 1) := by decide +kernel
theorem dX8_grave_46 : decode cX8_grave 46 = .ok (.if_icmp .ne 13, 3) := by decide +kernel
theorem dX8_grave_49 : decode cX8_grave 49 = .ok (.aload_n 0, 1) := by decide +kernel
theorem dX8_grave_50 : decode cX8_grave 50 = .ok (.iload_n 1, 1) := by decide +kernel
theorem dX8_grave_51 : decode cX8_grave 51 = .ok (.iconst 0, 1) := by decide +kernel
theorem dX8_grave_52 : decode cX8_grave 52 = .ok (.invokevirtual 206, 3) := by decide +kernel
theorem dX8_grave_55 : decode cX8_grave 55 = .ok (.i2l, 1) := by decide +kernel
theorem dX8_grave_56 : decode cX8_grave 56 = .ok (.goto 9, 3) := by decide +kernel
theorem dX8_grave_59 : decode cX8_grave 59 = .ok (.aload_n 0, 1) := by decide +kernel
theorem dX8_grave_60 : decode cX8_grave 60 = .ok (.iload_n 1, 1) := by decide +kernel
theorem dX8_grave_61 : decode cX8_grave 61 = .ok (.invokevirtual 203, 3) := by decide +kernel
theorem dX8_grave_64 : decode cX8_grave 64 = .ok (.i2l, 1) := by decide +kernel
theorem dX8_grave_65 : decode cX8_grave 65 = .ok (.lreturn, 1) := by decide +kernel
set_option maxRecDepth 20000 in
theorem ggX8_tree_X8_isTree : GoodIn wsX8_tree wsX8_isTree := goodIn_r _ [9, 4, 10, 11, 8, 12, 37, 38, 39, 40, 41, 42, 43, 44, 45, 46, 47, 48, 49, 50, 51, 52, 53, 54, 55, 56, 57, 58, 59, 60, 61, 62, 63] (by decide +kernel) (by decide +kernel)
set_option maxRecDepth 20000 in
theorem gX8_tree_X8_isTree : GoodIn wsX8_tree (wsV RX8 249 RX8 yX8_isTree wsX8_isTree) := goodIn_app (goodIn_of _ (by decide +kernel)) ggX8_tree_X8_isTree
set_option maxRecDepth 20000 in
theorem ggX8_tree_X8_in : GoodIn wsX8_tree wsX8_in := goodIn_r _ [12] (by decide +kernel) (by decide +kernel)
set_option maxRecDepth 20000 in
theorem gX8_tree_X8_in : GoodIn wsX8_tree (va_wsS RX8 52 yX8_in wsX8_in) := goodIn_app (goodIn_of _ (by decide +kernel)) ggX8_tree_X8_in
set_option maxRecDepth 20000 in
theorem ggX8_tree_X8_itsTree : GoodIn wsX8_tree wsX8_itsTree := goodIn_r _ [16, 17, 4, 18, 19, 20, 8, 21, 22, 23, 24, 25, 26, 27, 28, 29, 30, 31, 32, 37, 38, 39, 40, 41, 42, 43, 44, 45, 46, 47, 48, 49, 50, 51, 52, 53, 54, 55, 56, 57, 58, 59, 60, 61, 62, 63] (by decide +kernel) (by decide +kernel)
set_option maxRecDepth 20000 in
theorem gX8_tree_X8_itsTree : GoodIn wsX8_tree (wsV RX8 206 RX8 yX8_itsTree wsX8_itsTree) := goodIn_app (goodIn_of _ (by decide +kernel)) ggX8_tree_X8_itsTree
set_option maxRecDepth 20000 in
theorem ggX8_tree_X8_placeOf : GoodIn wsX8_tree wsX8_placeOf := goodIn_r _ [21, 4, 37, 38, 39, 40, 41, 42, 43, 44, 45, 46, 47, 48, 49, 50, 51, 52, 53, 54, 55, 56, 57, 58, 59, 60, 61, 62, 63] (by decide +kernel) (by decide +kernel)
set_option maxRecDepth 20000 in
theorem gX8_tree_X8_placeOf : GoodIn wsX8_tree (wsV RX8 197 RX8 yX8_placeOf wsX8_placeOf) := goodIn_app (goodIn_of _ (by decide +kernel)) ggX8_tree_X8_placeOf
set_option maxRecDepth 20000 in
theorem ggX8_tree_X8_fruit : GoodIn wsX8_tree wsX8_fruit := goodIn_r _ [32, 4, 37, 38, 39, 40, 41, 42, 43, 44, 45, 46, 47, 48, 49, 50, 51, 52, 53, 54, 55, 56, 57, 58, 59, 60, 61, 62, 63] (by decide +kernel) (by decide +kernel)
set_option maxRecDepth 20000 in
theorem gX8_tree_X8_fruit : GoodIn wsX8_tree (wsV RX8 200 RX8 yX8_fruit wsX8_fruit) := goodIn_app (goodIn_of _ (by decide +kernel)) ggX8_tree_X8_fruit
set_option maxRecDepth 20000 in
theorem ggX8_tree_X8_loose : GoodIn wsX8_tree wsX8_loose := goodIn_r _ [36, 4, 37, 38, 39, 40, 41, 42, 43, 44, 45, 46, 47, 48, 49, 50, 51, 52, 53, 54, 55, 56, 57, 58, 59, 60, 61, 62, 63] (by decide +kernel) (by decide +kernel)
set_option maxRecDepth 20000 in
theorem gX8_tree_X8_loose : GoodIn wsX8_tree (wsV RX8 236 RX8 yX8_loose wsX8_loose) := goodIn_app (goodIn_of _ (by decide +kernel)) ggX8_tree_X8_loose
theorem dX8_tree_0 : decode cX8_tree 0 = .ok (.aload_n 0, 1) := by decide +kernel
theorem dX8_tree_1 : decode cX8_tree 1 = .ok (.iconst 0, 1) := by decide +kernel
theorem dX8_tree_2 : decode cX8_tree 2 = .ok (.putfield 41, 3) := by decide +kernel
theorem dX8_tree_5 : decode cX8_tree 5 = .ok (.aload_n 0, 1) := by decide +kernel
theorem dX8_tree_6 : decode cX8_tree 6 = .ok (.iload_n 1, 1) := by decide +kernel
theorem dX8_tree_7 : decode cX8_tree 7 = .ok (.invokevirtual 249, 3) := by decide +kernel
theorem dX8_tree_10 : decode cX8_tree 10 = .ok (.ifCond .eq 15, 3) := by decide +kernel
theorem dX8_tree_13 : decode cX8_tree 13 = .ok (.iload_n 2, 1) := by decide +kernel
theorem dX8_tree_14 : decode cX8_tree 14 = .ok (.i2l, 1) := by decide +kernel
theorem dX8_tree_15 : decode cX8_tree 15 = .ok (.lconst 0, 1) := by decide +kernel
theorem dX8_tree_16 : decode cX8_tree 16 = .ok (.ldc2_w 264, 3) := by decide +kernel
theorem dX8_tree_19 : decode cX8_tree 19 = .ok (.invokestatic 52, 3) := by decide +kernel
theorem dX8_tree_22 : decode cX8_tree 22 = .ok (.ifCond .ne 7, 3) := by decide +kernel
theorem dX8_tree_25 : decode cX8_tree 25 = .ok (.ldc2_w 62, 3) := by decide +kernel
theorem dX8_tree_28 : decode cX8_tree 28 = .ok (.lreturn, 1) := by decide +kernel
theorem dX8_tree_29 : decode cX8_tree 29 = .ok (.iconst 0, 1) := by decide +kernel
theorem dX8_tree_30 : decode cX8_tree 30 = .ok (.istore_n 3, 1) := by decide +kernel
theorem dX8_tree_31 : decode cX8_tree 31 = .ok (.iconst 0, 1) := by decide +kernel
theorem dX8_tree_32 : decode cX8_tree 32 = .ok (.istore 4, 2) := by decide +kernel
theorem dX8_tree_34 : decode cX8_tree 34 = .ok (.iload 4, 2) := by decide +kernel
theorem dX8_tree_36 : decode cX8_tree 36 = .ok (.aload_n 0, 1) := by decide +kernel
theorem dX8_tree_37 : decode cX8_tree 37 = .ok (.getfield 19, 3) := by decide +kernel
theorem dX8_tree_40 : decode cX8_tree 40 = .ok (.iconst 0, 1) := by decide +kernel
theorem dX8_tree_41 : decode cX8_tree 41 = .ok (.iaload, 1) := by decide +kernel
theorem dX8_tree_42 : decode cX8_tree 42 = .ok (.if_icmp .ge 31, 3) := by decide +kernel
theorem dX8_tree_45 : decode cX8_tree 45 = .ok (.iload_n 3, 1) := by decide +kernel
theorem dX8_tree_46 : decode cX8_tree 46 = .ok (.aload_n 0, 1) := by decide +kernel
theorem dX8_tree_47 : decode cX8_tree 47 = .ok (.iload 4, 2) := by decide +kernel
theorem dX8_tree_49 : decode cX8_tree 49 = .ok (.iconst 0, 1) := by decide +kernel
theorem dX8_tree_50 : decode cX8_tree 50 = .ok (.invokevirtual 206, 3) := by decide +kernel
theorem dX8_tree_53 : decode cX8_tree 53 = .ok (.iload_n 1, 1) := by decide +kernel
theorem dX8_tree_54 : decode cX8_tree 54 = .ok (.if_icmp .ne 10, 3) := by decide +kernel
theorem dX8_tree_57 : decode cX8_tree 57 = .ok (.iconst 1, 1) := by decide +kernel
theorem dX8_tree_58 : decode cX8_tree 58 = .ok (.iload 4, 2) := by decide +kernel
theorem dX8_tree_60 : decode cX8_tree 60 = .ok (.ishl, 1) := by decide +kernel
theorem dX8_tree_61 : decode cX8_tree 61 = .ok (.goto 4, 3) := by decide +kernel
theorem dX8_tree_64 : decode cX8_tree 64 = .ok (.iconst 0, 1) := by decide +kernel
theorem dX8_tree_65 : decode cX8_tree 65 = .ok (.ior, 1) := by decide +kernel
theorem dX8_tree_66 : decode cX8_tree 66 = .ok (.istore_n 3, 1) := by decide +kernel
theorem dX8_tree_67 : decode cX8_tree 67 = .ok (.iinc 4 1, 3) := by decide +kernel
theorem dX8_tree_70 : decode cX8_tree 70 = .ok (.goto (-36), 3) := by decide +kernel
theorem dX8_tree_73 : decode cX8_tree 73 = .ok (.iload_n 2, 1) := by decide +kernel
theorem dX8_tree_74 : decode cX8_tree 74 = .ok (.ifCond .ne 12, 3) := by decide +kernel
theorem dX8_tree_77 : decode cX8_tree 77 = .ok (.aload_n 0, 1) := by decide +kernel
theorem dX8_tree_78 : decode cX8_tree 78 = .ok (.iload_n 1, 1) := by decide +kernel
theorem dX8_tree_79 : decode cX8_tree 79 = .ok (.invokevirtual 197, 3) := by decide +kernel
theorem dX8_tree_82 : decode cX8_tree 82 = .ok (.i2l, 1) := by decide +kernel
theorem dX8_tree_83 : decode cX8_tree 83 = .ok (.goto 33, 3) := by decide +kernel
theorem dX8_tree_86 : decode cX8_tree 86 = .ok (.iload_n 2, 1) := by decide +kernel
theorem dX8_tree_87 : decode cX8_tree 87 = .ok (.iconst 1, 1) := by decide +kernel
theorem dX8_tree_88 : decode cX8_tree 88 = .ok (.if_icmp .ne 12, 3) := by decide +kernel
theorem dX8_tree_91 : decode cX8_tree 91 = .ok (.aload_n 0, 1) := by decide +kernel
theorem dX8_tree_92 : decode cX8_tree 92 = .ok (.iload_n 1, 1) := by decide +kernel
theorem dX8_tree_93 : decode cX8_tree 93 = .ok (.invokevirtual 200, 3) := by decide +kernel
theorem dX8_tree_96 : decode cX8_tree 96 = .ok (.i2l, 1) := by decide +kernel
theorem dX8_tree_97 : decode cX8_tree 97 = .ok (.goto 19, 3) := by decide +kernel
theorem dX8_tree_100 : decode cX8_tree 100 = .ok (.iload_n 2, 1) := by decide +kernel
theorem dX8_tree_101 : decode cX8_tree 101 = .ok (.iconst 2, 1) := by decide +kernel
theorem dX8_tree_102 : decode cX8_tree 102 = .ok (.if_icmp .ne 12, 3) := by decide +kernel
theorem dX8_tree_105 : decode cX8_tree 105 = .ok (.aload_n 0, 1) := by decide +kernel
theorem dX8_tree_106 : decode cX8_tree 106 = .ok (.iload_n 1, 1) := by decide +kernel
theorem dX8_tree_107 : decode cX8_tree 107 = .ok (.invokevirtual 236, 3) := by decide +kernel
theorem dX8_tree_110 : decode cX8_tree 110 = .ok (.i2l, 1) := by decide +kernel
theorem dX8_tree_111 : decode cX8_tree 111 = .ok (.goto 5, 3) := by decide +kernel
theorem dX8_tree_114 : decode cX8_tree 114 = .ok (.iload_n 3, 1) := by decide +kernel
theorem dX8_tree_115 : decode cX8_tree 115 = .ok (.i2l, 1) := by decide +kernel
theorem dX8_tree_116 : decode cX8_tree 116 = .ok (.lreturn, 1) := by decide +kernel
set_option maxRecDepth 20000 in
theorem ggX8_minds_X8_isMatter : GoodIn wsX8_minds wsX8_isMatter := goodIn_r _ [9, 10, 11, 12, 8, 13] (by decide +kernel) (by decide +kernel)
set_option maxRecDepth 20000 in
theorem gX8_minds_X8_isMatter : GoodIn wsX8_minds (va_wsS RX8 225 yX8_isMatter wsX8_isMatter) := goodIn_app (goodIn_of _ (by decide +kernel)) ggX8_minds_X8_isMatter
set_option maxRecDepth 20000 in
theorem ggX8_minds_X8_areHorns : GoodIn wsX8_minds wsX8_areHorns := goodIn_r _ [16, 10, 11, 12, 8, 13] (by decide +kernel) (by decide +kernel)
set_option maxRecDepth 20000 in
theorem gX8_minds_X8_areHorns : GoodIn wsX8_minds (va_wsS RX8 228 yX8_areHorns wsX8_areHorns) := goodIn_app (goodIn_of _ (by decide +kernel)) ggX8_minds_X8_areHorns
set_option maxRecDepth 20000 in
theorem ggX8_minds_X8_doesMind : GoodIn wsX8_minds wsX8_doesMind := goodIn_r _ [20, 21, 22, 23, 24, 8, 25, 5, 26, 27, 28, 29, 30, 31, 32, 33, 34, 35, 36, 37, 38, 39, 40, 41, 42, 43, 44, 45, 46, 47, 48, 49, 50, 51, 52, 53, 54, 55, 56, 57, 58, 59, 60, 61, 62, 63, 64, 65, 66, 67, 68, 69, 70, 71] (by decide +kernel) (by decide +kernel)
set_option maxRecDepth 20000 in
theorem gX8_minds_X8_doesMind : GoodIn wsX8_minds (wsV RX8 242 RX8 yX8_doesMind wsX8_doesMind) := goodIn_app (goodIn_of _ (by decide +kernel)) ggX8_minds_X8_doesMind
theorem dX8_minds_0 : decode cX8_minds 0 = .ok (.aload_n 0, 1) := by decide +kernel
theorem dX8_minds_1 : decode cX8_minds 1 = .ok (.iconst 0, 1) := by decide +kernel
theorem dX8_minds_2 : decode cX8_minds 2 = .ok (.putfield 41, 3) := by decide +kernel
theorem dX8_minds_5 : decode cX8_minds 5 = .ok (.aload_n 0, 1) := by decide +kernel
theorem dX8_minds_6 : decode cX8_minds 6 = .ok (.getfield 184, 3) := by decide +kernel
theorem dX8_minds_9 : decode cX8_minds 9 = .ok (.ifCond .ne 7, 3) := by decide +kernel
theorem dX8_minds_12 : decode cX8_minds 12 = .ok (.ldc2_w 223, 3) := by decide +kernel
theorem dX8_minds_15 : decode cX8_minds 15 = .ok (.lreturn, 1) := by decide +kernel
theorem dX8_minds_16 : decode cX8_minds 16 = .ok (.iload_n 1, 1) := by decide +kernel
theorem dX8_minds_17 : decode cX8_minds 17 = .ok (.invokestatic 225, 3) := by decide +kernel
theorem dX8_minds_20 : decode cX8_minds 20 = .ok (.ifCond .eq 10, 3) := by decide +kernel
theorem dX8_minds_23 : decode cX8_minds 23 = .ok (.iload_n 2, 1) := by decide +kernel
theorem dX8_minds_24 : decode cX8_minds 24 = .ok (.invokestatic 228, 3) := by decide +kernel
theorem dX8_minds_27 : decode cX8_minds 27 = .ok (.ifCond .ne 7, 3) := by decide +kernel
theorem dX8_minds_30 : decode cX8_minds 30 = .ok (.ldc2_w 62, 3) := by decide +kernel
theorem dX8_minds_33 : decode cX8_minds 33 = .ok (.lreturn, 1) := by decide +kernel
theorem dX8_minds_34 : decode cX8_minds 34 = .ok (.iconst 0, 1) := by decide +kernel
theorem dX8_minds_35 : decode cX8_minds 35 = .ok (.istore_n 3, 1) := by decide +kernel
theorem dX8_minds_36 : decode cX8_minds 36 = .ok (.iconst 0, 1) := by decide +kernel
theorem dX8_minds_37 : decode cX8_minds 37 = .ok (.istore 4, 2) := by decide +kernel
theorem dX8_minds_39 : decode cX8_minds 39 = .ok (.iload 4, 2) := by decide +kernel
theorem dX8_minds_41 : decode cX8_minds 41 = .ok (.aload_n 0, 1) := by decide +kernel
theorem dX8_minds_42 : decode cX8_minds 42 = .ok (.getfield 19, 3) := by decide +kernel
theorem dX8_minds_45 : decode cX8_minds 45 = .ok (.iconst 0, 1) := by decide +kernel
theorem dX8_minds_46 : decode cX8_minds 46 = .ok (.iaload, 1) := by decide +kernel
theorem dX8_minds_47 : decode cX8_minds 47 = .ok (.if_icmp .ge 32, 3) := by decide +kernel
theorem dX8_minds_50 : decode cX8_minds 50 = .ok (.iload_n 3, 1) := by decide +kernel
theorem dX8_minds_51 : decode cX8_minds 51 = .ok (.aload_n 0, 1) := by decide +kernel
theorem dX8_minds_52 : decode cX8_minds 52 = .ok (.iload 4, 2) := by decide +kernel
theorem dX8_minds_54 : decode cX8_minds 54 = .ok (.iload_n 1, 1) := by decide +kernel
theorem dX8_minds_55 : decode cX8_minds 55 = .ok (.iload_n 2, 1) := by decide +kernel
theorem dX8_minds_56 : decode cX8_minds 56 = .ok (.iconst 0, 1) := by decide +kernel
theorem dX8_minds_57 : decode cX8_minds 57 = .ok (.invokevirtual 242, 3) := by decide +kernel
theorem dX8_minds_60 : decode cX8_minds 60 = .ok (.ifCond .eq 10, 3) := by decide +kernel
theorem dX8_minds_63 : decode cX8_minds 63 = .ok (.iconst 1, 1) := by decide +kernel
theorem dX8_minds_64 : decode cX8_minds 64 = .ok (.iload 4, 2) := by decide +kernel
theorem dX8_minds_66 : decode cX8_minds 66 = .ok (.ishl, 1) := by decide +kernel
theorem dX8_minds_67 : decode cX8_minds 67 = .ok (.goto 4, 3) := by decide +kernel
theorem dX8_minds_70 : decode cX8_minds 70 = .ok (.iconst 0, 1) := by decide +kernel
theorem dX8_minds_71 : decode cX8_minds 71 = .ok (.ior, 1) := by decide +kernel
theorem dX8_minds_72 : decode cX8_minds 72 = .ok (.istore_n 3, 1) := by decide +kernel
theorem dX8_minds_73 : decode cX8_minds 73 = .ok (.iinc 4 1, 3) := by decide +kernel
theorem dX8_minds_76 : decode cX8_minds 76 = .ok (.goto (-37), 3) := by decide +kernel
theorem dX8_minds_79 : decode cX8_minds 79 = .ok (.iload_n 3, 1) := by decide +kernel
theorem dX8_minds_80 : decode cX8_minds 80 = .ok (.i2l, 1) := by decide +kernel
theorem dX8_minds_81 : decode cX8_minds 81 = .ok (.lreturn, 1) := by decide +kernel
theorem dX8_times_0 : decode cX8_times 0 = .ok (.aload_n 0, 1) := by decide +kernel
theorem dX8_times_1 : decode cX8_times 1 = .ok (.dup, 1) := by decide +kernel
theorem dX8_times_2 : decode cX8_times 2 = .ok (.getfield 266, 3) := by decide +kernel
theorem dX8_times_5 : decode cX8_times 5 = .ok (.iload_n 1, 1) := by decide +kernel
theorem dX8_times_6 : decode cX8_times 6 = .ok (.i2l, 1) := by decide +kernel
theorem dX8_times_7 : decode cX8_times 7 = .ok (.lmul, 1) := by decide +kernel
theorem dX8_times_8 : decode cX8_times 8 = .ok (.putfield 266, 3) := by decide +kernel
theorem dX8_times_11 : decode cX8_times 11 = .ok (.aload_n 0, 1) := by decide +kernel
theorem dX8_times_12 : decode cX8_times 12 = .ok (.dup, 1) := by decide +kernel
theorem dX8_times_13 : decode cX8_times 13 = .ok (.getfield 269, 3) := by decide +kernel
theorem dX8_times_16 : decode cX8_times 16 = .ok (.ldc2_w 217, 3) := by decide +kernel
theorem dX8_times_19 : decode cX8_times 19 = .ok (.lmul, 1) := by decide +kernel
theorem dX8_times_20 : decode cX8_times 20 = .ok (.putfield 269, 3) := by decide +kernel
theorem dX8_times_23 : decode cX8_times 23 = .ok (.return_, 1) := by decide +kernel
set_option maxRecDepth 20000 in
theorem ggX8_passes_X8_fruit : GoodIn wsX8_passes wsX8_fruit := goodIn_r _ [6, 1, 42, 43, 44, 45, 46, 47, 48, 49, 50, 51, 52, 53, 54, 55, 56, 57, 58, 59, 60, 61, 62, 63, 64, 65, 66, 67, 68] (by decide +kernel) (by decide +kernel)
set_option maxRecDepth 20000 in
theorem gX8_passes_X8_fruit : GoodIn wsX8_passes (wsV RX8 200 RX8 yX8_fruit wsX8_fruit) := goodIn_app (goodIn_of _ (by decide +kernel)) ggX8_passes_X8_fruit
set_option maxRecDepth 20000 in
theorem ggX8_passes_X8_loose : GoodIn wsX8_passes wsX8_loose := goodIn_r _ [10, 1, 42, 43, 44, 45, 46, 47, 48, 49, 50, 51, 52, 53, 54, 55, 56, 57, 58, 59, 60, 61, 62, 63, 64, 65, 66, 67, 68] (by decide +kernel) (by decide +kernel)
set_option maxRecDepth 20000 in
theorem gX8_passes_X8_loose : GoodIn wsX8_passes (wsV RX8 236 RX8 yX8_loose wsX8_loose) := goodIn_app (goodIn_of _ (by decide +kernel)) ggX8_passes_X8_loose
set_option maxRecDepth 20000 in
theorem ggX8_passes_X8_times : GoodIn wsX8_passes wsX8_times := goodIn_r _ [14, 15, 16, 17, 42, 43, 44, 45, 46, 47, 48, 49, 50, 51, 52, 53, 54, 55, 56, 57, 58, 59, 60, 61, 62, 63, 64, 65, 66, 67, 68] (by decide +kernel) (by decide +kernel)
set_option maxRecDepth 20000 in
theorem gX8_passes_X8_times : GoodIn wsX8_passes (wsV RX8 272 RX8 yX8_times wsX8_times) := goodIn_app (goodIn_of _ (by decide +kernel)) ggX8_passes_X8_times
set_option maxRecDepth 20000 in
theorem ggX8_passes_X8_doesMind : GoodIn wsX8_passes wsX8_doesMind := goodIn_r _ [21, 22, 23, 24, 25, 5, 26, 1, 27, 28, 29, 30, 31, 32, 33, 34, 35, 36, 37, 38, 39, 40, 41, 2, 3, 4, 6, 42, 43, 44, 45, 46, 47, 48, 49, 50, 51, 52, 53, 54, 55, 56, 57, 58, 59, 60, 61, 62, 63, 64, 65, 66, 67, 68] (by decide +kernel) (by decide +kernel)
set_option maxRecDepth 20000 in
theorem gX8_passes_X8_doesMind : GoodIn wsX8_passes (wsV RX8 242 RX8 yX8_doesMind wsX8_doesMind) := goodIn_app (goodIn_of _ (by decide +kernel)) ggX8_passes_X8_doesMind
set_option maxRecDepth 20000 in
theorem ggX8_passes_X8_ofGrave : GoodIn wsX8_passes wsX8_ofGrave := goodIn_r _ [30, 1, 42, 43, 44, 45, 46, 47, 48, 49, 50, 51, 52, 53, 54, 55, 56, 57, 58, 59, 60, 61, 62, 63, 64, 65, 66, 67, 68] (by decide +kernel) (by decide +kernel)
set_option maxRecDepth 20000 in
theorem gX8_passes_X8_ofGrave : GoodIn wsX8_passes (wsV RX8 191 RX8 yX8_ofGrave wsX8_ofGrave) := goodIn_app (goodIn_of _ (by decide +kernel)) ggX8_passes_X8_ofGrave
theorem dX8_passes_0 : decode cX8_passes 0 = .ok (.iconst 0, 1) := by decide +kernel
theorem dX8_passes_1 : decode cX8_passes 1 = .ok (.istore 5, 2) := by decide +kernel
theorem dX8_passes_3 : decode cX8_passes 3 = .ok (.iload 5, 2) := by decide +kernel
theorem dX8_passes_5 : decode cX8_passes 5 = .ok (.aload_n 0, 1) := by decide +kernel
theorem dX8_passes_6 : decode cX8_passes 6 = .ok (.getfield 19, 3) := by decide +kernel
theorem dX8_passes_9 : decode cX8_passes 9 = .ok (.iconst 2, 1) := by decide +kernel
theorem dX8_passes_10 : decode cX8_passes 10 = .ok (.iaload, 1) := by decide +kernel
theorem dX8_passes_11 : decode cX8_passes 11 = .ok (.if_icmp .ge 50, 3) := by decide +kernel
theorem dX8_passes_14 : decode cX8_passes 14 = .ok (.aload_n 0, 1) := by decide +kernel
theorem dX8_passes_15 : decode cX8_passes 15 = .ok (.iload 5, 2) := by decide +kernel
theorem dX8_passes_17 : decode cX8_passes 17 = .ok (.invokevirtual 200, 3) := by decide +kernel
theorem dX8_passes_20 : decode cX8_passes 20 = .ok (.ifCond .le 35, 3) := by decide +kernel
theorem dX8_passes_23 : decode cX8_passes 23 = .ok (.iload 4, 2) := by decide +kernel
theorem dX8_passes_25 : decode cX8_passes 25 = .ok (.iload 5, 2) := by decide +kernel
theorem dX8_passes_27 : decode cX8_passes 27 = .ok (.ishr, 1) := by decide +kernel
theorem dX8_passes_28 : decode cX8_passes 28 = .ok (.iconst 1, 1) := by decide +kernel
theorem dX8_passes_29 : decode cX8_passes 29 = .ok (.iand, 1) := by decide +kernel
theorem dX8_passes_30 : decode cX8_passes 30 = .ok (.ifCond .ne 25, 3) := by decide +kernel
theorem dX8_passes_33 : decode cX8_passes 33 = .ok (.aload_n 0, 1) := by decide +kernel
theorem dX8_passes_34 : decode cX8_passes 34 = .ok (.bipush 10, 2) := by decide +kernel
theorem dX8_passes_36 : decode cX8_passes 36 = .ok (.aload_n 0, 1) := by decide +kernel
theorem dX8_passes_37 : decode cX8_passes 37 = .ok (.iload 5, 2) := by decide +kernel
theorem dX8_passes_39 : decode cX8_passes 39 = .ok (.invokevirtual 236, 3) := by decide +kernel
theorem dX8_passes_42 : decode cX8_passes 42 = .ok (.aload_n 0, 1) := by decide +kernel
theorem dX8_passes_43 : decode cX8_passes 43 = .ok (.getfield 19, 3) := by decide +kernel
theorem dX8_passes_46 : decode cX8_passes 46 = .ok (.iconst 3, 1) := by decide +kernel
theorem dX8_passes_47 : decode cX8_passes 47 = .ok (.iload_n 3, 1) := by decide +kernel
theorem dX8_passes_48 : decode cX8_passes 48 = .ok (.iadd, 1) := by decide +kernel
theorem dX8_passes_49 : decode cX8_passes 49 = .ok (.iaload, 1) := by decide +kernel
theorem dX8_passes_50 : decode cX8_passes 50 = .ok (.imul, 1) := by decide +kernel
theorem dX8_passes_51 : decode cX8_passes 51 = .ok (.isub, 1) := by decide +kernel
theorem dX8_passes_52 : decode cX8_passes 52 = .ok (.invokevirtual 272, 3) := by decide +kernel
theorem dX8_passes_55 : decode cX8_passes 55 = .ok (.iinc 5 1, 3) := by decide +kernel
theorem dX8_passes_58 : decode cX8_passes 58 = .ok (.goto (-55), 3) := by decide +kernel
theorem dX8_passes_61 : decode cX8_passes 61 = .ok (.iconst 0, 1) := by decide +kernel
theorem dX8_passes_62 : decode cX8_passes 62 = .ok (.istore 5, 2) := by decide +kernel
theorem dX8_passes_64 : decode cX8_passes 64 = .ok (.iload 5, 2) := by decide +kernel
theorem dX8_passes_66 : decode cX8_passes 66 = .ok (.aload_n 0, 1) := by decide +kernel
theorem dX8_passes_67 : decode cX8_passes 67 = .ok (.getfield 19, 3) := by decide +kernel
theorem dX8_passes_70 : decode cX8_passes 70 = .ok (.iconst 0, 1) := by decide +kernel
theorem dX8_passes_71 : decode cX8_passes 71 = .ok (.iaload, 1) := by decide +kernel
theorem dX8_passes_72 : decode cX8_passes 72 = .ok (.if_icmp .ge 36, 3) := by decide +kernel
theorem dX8_passes_75 : decode cX8_passes 75 = .ok (.aload_n 0, 1) := by decide +kernel
theorem dX8_passes_76 : decode cX8_passes 76 = .ok (.iload 5, 2) := by decide +kernel
theorem dX8_passes_78 : decode cX8_passes 78 = .ok (.iload_n 1, 1) := by decide +kernel
theorem dX8_passes_79 : decode cX8_passes 79 = .ok (.iload_n 2, 1) := by decide +kernel
theorem dX8_passes_80 : decode cX8_passes 80 = .ok (.iload 4, 2) := by decide +kernel
theorem dX8_passes_82 : decode cX8_passes 82 = .ok (.invokevirtual 242, 3) := by decide +kernel
theorem dX8_passes_85 : decode cX8_passes 85 = .ok (.ifCond .eq 17, 3) := by decide +kernel
theorem dX8_passes_88 : decode cX8_passes 88 = .ok (.aload_n 0, 1) := by decide +kernel
theorem dX8_passes_89 : decode cX8_passes 89 = .ok (.bipush 10, 2) := by decide +kernel
theorem dX8_passes_91 : decode cX8_passes 91 = .ok (.aload_n 0, 1) := by decide +kernel
theorem dX8_passes_92 : decode cX8_passes 92 = .ok (.iload 5, 2) := by decide +kernel
theorem dX8_passes_94 : decode cX8_passes 94 = .ok (.iconst 2, 1) := by decide +kernel
theorem dX8_passes_95 : decode cX8_passes 95 = .ok (.invokevirtual 191, 3) := by decide +kernel
theorem dX8_passes_98 : decode cX8_passes 98 = .ok (.isub, 1) := by decide +kernel
theorem dX8_passes_99 : decode cX8_passes 99 = .ok (.invokevirtual 272, 3) := by decide +kernel
theorem dX8_passes_102 : decode cX8_passes 102 = .ok (.iinc 5 1, 3) := by decide +kernel
theorem dX8_passes_105 : decode cX8_passes 105 = .ok (.goto (-41), 3) := by decide +kernel
theorem dX8_passes_108 : decode cX8_passes 108 = .ok (.return_, 1) := by decide +kernel
set_option maxRecDepth 20000 in
theorem ggX8_layOdds_X8_passes : GoodIn wsX8_layOdds wsX8_passes := goodIn_r _ [7, 8, 9, 10, 11, 6, 12, 13, 14, 15, 16, 17, 18, 19, 20, 1, 2, 21, 22, 23, 24, 25, 26, 27, 28, 29, 30, 31, 32, 33, 34, 35, 36, 37, 38, 39, 40, 41, 42, 43, 44, 45, 46, 47, 48, 49, 50, 51, 52, 53, 54, 55, 56, 57, 58, 59, 60, 61, 62, 63, 64, 65, 66, 67, 68, 69, 70, 71, 72] (by decide +kernel) (by decide +kernel)
set_option maxRecDepth 20000 in
theorem gX8_layOdds_X8_passes : GoodIn wsX8_layOdds (wsV RX8 275 RX8 yX8_passes wsX8_passes) := goodIn_app (goodIn_of _ (by decide +kernel)) ggX8_layOdds_X8_passes
theorem dX8_layOdds_0 : decode cX8_layOdds 0 = .ok (.aload_n 0, 1) := by decide +kernel
theorem dX8_layOdds_1 : decode cX8_layOdds 1 = .ok (.lconst 1, 1) := by decide +kernel
theorem dX8_layOdds_2 : decode cX8_layOdds 2 = .ok (.putfield 266, 3) := by decide +kernel
theorem dX8_layOdds_5 : decode cX8_layOdds 5 = .ok (.aload_n 0, 1) := by decide +kernel
theorem dX8_layOdds_6 : decode cX8_layOdds 6 = .ok (.lconst 1, 1) := by decide +kernel
theorem dX8_layOdds_7 : decode cX8_layOdds 7 = .ok (.putfield 269, 3) := by decide +kernel
theorem dX8_layOdds_10 : decode cX8_layOdds 10 = .ok (.aload_n 0, 1) := by decide +kernel
theorem dX8_layOdds_11 : decode cX8_layOdds 11 = .ok (.iload_n 1, 1) := by decide +kernel
theorem dX8_layOdds_12 : decode cX8_layOdds 12 = .ok (.iload_n 2, 1) := by decide +kernel
theorem dX8_layOdds_13 : decode cX8_layOdds 13 = .ok (.iload_n 3, 1) := by decide +kernel
theorem dX8_layOdds_14 : decode cX8_layOdds 14 = .ok (.iload 4, 2) := by decide +kernel
theorem dX8_layOdds_16 : decode cX8_layOdds 16 = .ok (.invokevirtual 275, 3) := by decide +kernel
theorem dX8_layOdds_19 : decode cX8_layOdds 19 = .ok (.return_, 1) := by decide +kernel
theorem dX8_partOf_0 : decode cX8_partOf 0 = .ok (.lload_n 0, 1) := by decide +kernel
theorem dX8_partOf_1 : decode cX8_partOf 1 = .ok (.lstore 5, 2) := by decide +kernel
theorem dX8_partOf_3 : decode cX8_partOf 3 = .ok (.lload_n 2, 1) := by decide +kernel
theorem dX8_partOf_4 : decode cX8_partOf 4 = .ok (.lstore 7, 2) := by decide +kernel
theorem dX8_partOf_6 : decode cX8_partOf 6 = .ok (.lload 7, 2) := by decide +kernel
theorem dX8_partOf_8 : decode cX8_partOf 8 = .ok (.lconst 0, 1) := by decide +kernel
theorem dX8_partOf_9 : decode cX8_partOf 9 = .ok (.lcmp, 1) := by decide +kernel
theorem dX8_partOf_10 : decode cX8_partOf 10 = .ok (.ifCond .eq 21, 3) := by decide +kernel
theorem dX8_partOf_13 : decode cX8_partOf 13 = .ok (.lload 5, 2) := by decide +kernel
theorem dX8_partOf_15 : decode cX8_partOf 15 = .ok (.lload 7, 2) := by decide +kernel
theorem dX8_partOf_17 : decode cX8_partOf 17 = .ok (.lrem, 1) := by decide +kernel
theorem dX8_partOf_18 : decode cX8_partOf 18 = .ok (.lstore 9, 2) := by decide +kernel
theorem dX8_partOf_20 : decode cX8_partOf 20 = .ok (.lload 7, 2) := by decide +kernel
theorem dX8_partOf_22 : decode cX8_partOf 22 = .ok (.lstore 5, 2) := by decide +kernel
theorem dX8_partOf_24 : decode cX8_partOf 24 = .ok (.lload 9, 2) := by decide +kernel
theorem dX8_partOf_26 : decode cX8_partOf 26 = .ok (.lstore 7, 2) := by decide +kernel
theorem dX8_partOf_28 : decode cX8_partOf 28 = .ok (.goto (-22), 3) := by decide +kernel
theorem dX8_partOf_31 : decode cX8_partOf 31 = .ok (.iload 4, 2) := by decide +kernel
theorem dX8_partOf_33 : decode cX8_partOf 33 = .ok (.ifCond .ne 7, 3) := by decide +kernel
theorem dX8_partOf_36 : decode cX8_partOf 36 = .ok (.lload_n 0, 1) := by decide +kernel
theorem dX8_partOf_37 : decode cX8_partOf 37 = .ok (.goto 4, 3) := by decide +kernel
theorem dX8_partOf_40 : decode cX8_partOf 40 = .ok (.lload_n 2, 1) := by decide +kernel
theorem dX8_partOf_41 : decode cX8_partOf 41 = .ok (.lload 5, 2) := by decide +kernel
theorem dX8_partOf_43 : decode cX8_partOf 43 = .ok (.ldiv, 1) := by decide +kernel
theorem dX8_partOf_44 : decode cX8_partOf 44 = .ok (.lreturn, 1) := by decide +kernel
set_option maxRecDepth 20000 in
theorem ggX8_odds_X8_isMatter : GoodIn wsX8_odds wsX8_isMatter := goodIn_r _ [10, 11, 12, 13, 9, 14] (by decide +kernel) (by decide +kernel)
set_option maxRecDepth 20000 in
theorem gX8_odds_X8_isMatter : GoodIn wsX8_odds (va_wsS RX8 225 yX8_isMatter wsX8_isMatter) := goodIn_app (goodIn_of _ (by decide +kernel)) ggX8_odds_X8_isMatter
set_option maxRecDepth 20000 in
theorem ggX8_odds_X8_areHorns : GoodIn wsX8_odds wsX8_areHorns := goodIn_r _ [17, 11, 12, 13, 9, 14] (by decide +kernel) (by decide +kernel)
set_option maxRecDepth 20000 in
theorem gX8_odds_X8_areHorns : GoodIn wsX8_odds (va_wsS RX8 228 yX8_areHorns wsX8_areHorns) := goodIn_app (goodIn_of _ (by decide +kernel)) ggX8_odds_X8_areHorns
set_option maxRecDepth 20000 in
theorem ggX8_odds_X8_isHour : GoodIn wsX8_odds wsX8_isHour := goodIn_r _ [20, 21, 12, 13, 9, 14] (by decide +kernel) (by decide +kernel)
set_option maxRecDepth 20000 in
theorem gX8_odds_X8_isHour : GoodIn wsX8_odds (va_wsS RX8 231 yX8_isHour wsX8_isHour) := goodIn_app (goodIn_of _ (by decide +kernel)) ggX8_odds_X8_isHour
set_option maxRecDepth 20000 in
theorem ggX8_odds_X8_in : GoodIn wsX8_odds wsX8_in := goodIn_r _ [14] (by decide +kernel) (by decide +kernel)
set_option maxRecDepth 20000 in
theorem gX8_odds_X8_in : GoodIn wsX8_odds (va_wsS RX8 52 yX8_in wsX8_in) := goodIn_app (goodIn_of _ (by decide +kernel)) ggX8_odds_X8_in
set_option maxRecDepth 20000 in
theorem ggX8_odds_X8_layOdds : GoodIn wsX8_odds wsX8_layOdds := goodIn_r _ [25, 5, 6, 26, 27, 28, 9, 29, 30, 31, 32, 33, 34, 35, 36, 37, 38, 39, 40, 41, 42, 43, 44, 45, 46, 47, 48, 49, 50, 51, 52, 53, 54, 55, 56, 57, 58, 59, 60, 61, 62, 63, 64, 65, 66, 67, 71, 72, 73, 74, 75, 76, 77, 78, 79, 80, 81, 82, 83, 84, 85, 86, 87, 88, 89, 90, 91, 92, 93, 94, 95, 96, 97] (by decide +kernel) (by decide +kernel)
set_option maxRecDepth 20000 in
theorem gX8_odds_X8_layOdds : GoodIn wsX8_odds (wsV RX8 279 RX8 yX8_layOdds wsX8_layOdds) := goodIn_app (goodIn_of _ (by decide +kernel)) ggX8_odds_X8_layOdds
set_option maxRecDepth 20000 in
theorem ggX8_odds_X8_partOf : GoodIn wsX8_odds wsX8_partOf := goodIn_r _ [70] (by decide +kernel) (by decide +kernel)
set_option maxRecDepth 20000 in
theorem gX8_odds_X8_partOf : GoodIn wsX8_odds (va_wsS RX8 282 yX8_partOf wsX8_partOf) := goodIn_app (goodIn_of _ (by decide +kernel)) ggX8_odds_X8_partOf
theorem dX8_odds_0 : decode cX8_odds 0 = .ok (.aload_n 0, 1) := by decide +kernel
theorem dX8_odds_1 : decode cX8_odds 1 = .ok (.iconst 0, 1) := by decide +kernel
theorem dX8_odds_2 : decode cX8_odds 2 = .ok (.putfield 41, 3) := by decide +kernel
theorem dX8_odds_5 : decode cX8_odds 5 = .ok (.aload_n 0, 1) := by decide +kernel
theorem dX8_odds_6 : decode cX8_odds 6 = .ok (.getfield 184, 3) := by decide +kernel
theorem dX8_odds_9 : decode cX8_odds 9 = .ok (.ifCond .ne 7, 3) := by decide +kernel
theorem dX8_odds_12 : decode cX8_odds 12 = .ok (.ldc2_w 223, 3) := by decide +kernel
theorem dX8_odds_15 : decode cX8_odds 15 = .ok (.lreturn, 1) := by decide +kernel
theorem dX8_odds_16 : decode cX8_odds 16 = .ok (.iload_n 1, 1) := by decide +kernel
theorem dX8_odds_17 : decode cX8_odds 17 = .ok (.invokestatic 225, 3) := by decide +kernel
theorem dX8_odds_20 : decode cX8_odds 20 = .ok (.ifCond .eq 28, 3) := by decide +kernel
theorem dX8_odds_23 : decode cX8_odds 23 = .ok (.iload_n 2, 1) := by decide +kernel
theorem dX8_odds_24 : decode cX8_odds 24 = .ok (.invokestatic 228, 3) := by decide +kernel
theorem dX8_odds_27 : decode cX8_odds 27 = .ok (.ifCond .eq 21, 3) := by decide +kernel
theorem dX8_odds_30 : decode cX8_odds 30 = .ok (.iload_n 3, 1) := by decide +kernel
theorem dX8_odds_31 : decode cX8_odds 31 = .ok (.invokestatic 231, 3) := by decide +kernel
theorem dX8_odds_34 : decode cX8_odds 34 = .ok (.ifCond .eq 14, 3) := by decide +kernel
theorem dX8_odds_37 : decode cX8_odds 37 = .ok (.iload 4, 2) := by decide +kernel
theorem dX8_odds_39 : decode cX8_odds 39 = .ok (.i2l, 1) := by decide +kernel
theorem dX8_odds_40 : decode cX8_odds 40 = .ok (.lconst 0, 1) := by decide +kernel
theorem dX8_odds_41 : decode cX8_odds 41 = .ok (.lconst 1, 1) := by decide +kernel
theorem dX8_odds_42 : decode cX8_odds 42 = .ok (.invokestatic 52, 3) := by decide +kernel
theorem dX8_odds_45 : decode cX8_odds 45 = .ok (.ifCond .ne 7, 3) := by decide +kernel
theorem dX8_odds_48 : decode cX8_odds 48 = .ok (.ldc2_w 62, 3) := by decide +kernel
theorem dX8_odds_51 : decode cX8_odds 51 = .ok (.lreturn, 1) := by decide +kernel
theorem dX8_odds_52 : decode cX8_odds 52 = .ok (.aload_n 0, 1) := by decide +kernel
theorem dX8_odds_53 : decode cX8_odds 53 = .ok (.iload_n 1, 1) := by decide +kernel
theorem dX8_odds_54 : decode cX8_odds 54 = .ok (.iload_n 2, 1) := by decide +kernel
theorem dX8_odds_55 : decode cX8_odds 55 = .ok (.iload_n 3, 1) := by decide +kernel
theorem dX8_odds_56 : decode cX8_odds 56 = .ok (.iconst 0, 1) := by decide +kernel
theorem dX8_odds_57 : decode cX8_odds 57 = .ok (.invokevirtual 279, 3) := by decide +kernel
theorem dX8_odds_60 : decode cX8_odds 60 = .ok (.aload_n 0, 1) := by decide +kernel
theorem dX8_odds_61 : decode cX8_odds 61 = .ok (.getfield 266, 3) := by decide +kernel
theorem dX8_odds_64 : decode cX8_odds 64 = .ok (.aload_n 0, 1) := by decide +kernel
theorem dX8_odds_65 : decode cX8_odds 65 = .ok (.getfield 269, 3) := by decide +kernel
theorem dX8_odds_68 : decode cX8_odds 68 = .ok (.iload 4, 2) := by decide +kernel
theorem dX8_odds_70 : decode cX8_odds 70 = .ok (.invokestatic 282, 3) := by decide +kernel
theorem dX8_odds_73 : decode cX8_odds 73 = .ok (.lreturn, 1) := by decide +kernel
set_option maxRecDepth 20000 in
theorem ggX8_hearers_X8_heard : GoodIn wsX8_hearers wsX8_heard := goodIn_r _ [6, 1, 7, 8, 9, 5, 10, 11, 12, 13, 14, 15, 16, 17, 18, 19, 20, 21, 22, 23, 24, 25, 26, 27, 28, 29, 30, 31, 32, 33, 34, 35, 36, 37, 38, 39, 40] (by decide +kernel) (by decide +kernel)
set_option maxRecDepth 20000 in
theorem gX8_hearers_X8_heard : GoodIn wsX8_hearers (wsV RX8 203 RX8 yX8_heard wsX8_heard) := goodIn_app (goodIn_of _ (by decide +kernel)) ggX8_hearers_X8_heard
theorem dX8_hearers_0 : decode cX8_hearers 0 = .ok (.iconst 0, 1) := by decide +kernel
theorem dX8_hearers_1 : decode cX8_hearers 1 = .ok (.istore_n 2, 1) := by decide +kernel
theorem dX8_hearers_2 : decode cX8_hearers 2 = .ok (.iconst 0, 1) := by decide +kernel
theorem dX8_hearers_3 : decode cX8_hearers 3 = .ok (.istore_n 3, 1) := by decide +kernel
theorem dX8_hearers_4 : decode cX8_hearers 4 = .ok (.iload_n 3, 1) := by decide +kernel
theorem dX8_hearers_5 : decode cX8_hearers 5 = .ok (.aload_n 0, 1) := by decide +kernel
theorem dX8_hearers_6 : decode cX8_hearers 6 = .ok (.getfield 19, 3) := by decide +kernel
theorem dX8_hearers_9 : decode cX8_hearers 9 = .ok (.iconst 0, 1) := by decide +kernel
theorem dX8_hearers_10 : decode cX8_hearers 10 = .ok (.iaload, 1) := by decide +kernel
theorem dX8_hearers_11 : decode cX8_hearers 11 = .ok (.if_icmp .ge 27, 3) := by decide +kernel
theorem dX8_hearers_14 : decode cX8_hearers 14 = .ok (.iload_n 2, 1) := by decide +kernel
theorem dX8_hearers_15 : decode cX8_hearers 15 = .ok (.aload_n 0, 1) := by decide +kernel
theorem dX8_hearers_16 : decode cX8_hearers 16 = .ok (.iload_n 3, 1) := by decide +kernel
theorem dX8_hearers_17 : decode cX8_hearers 17 = .ok (.invokevirtual 203, 3) := by decide +kernel
theorem dX8_hearers_20 : decode cX8_hearers 20 = .ok (.iload_n 1, 1) := by decide +kernel
theorem dX8_hearers_21 : decode cX8_hearers 21 = .ok (.iand, 1) := by decide +kernel
theorem dX8_hearers_22 : decode cX8_hearers 22 = .ok (.ifCond .eq 7, 3) := by decide +kernel
theorem dX8_hearers_25 : decode cX8_hearers 25 = .ok (.iconst 1, 1) := by decide +kernel
theorem dX8_hearers_26 : decode cX8_hearers 26 = .ok (.goto 4, 3) := by decide +kernel
theorem dX8_hearers_29 : decode cX8_hearers 29 = .ok (.iconst 0, 1) := by decide +kernel
theorem dX8_hearers_30 : decode cX8_hearers 30 = .ok (.iadd, 1) := by decide +kernel
theorem dX8_hearers_31 : decode cX8_hearers 31 = .ok (.istore_n 2, 1) := by decide +kernel
theorem dX8_hearers_32 : decode cX8_hearers 32 = .ok (.iinc 3 1, 3) := by decide +kernel
theorem dX8_hearers_35 : decode cX8_hearers 35 = .ok (.goto (-31), 3) := by decide +kernel
theorem dX8_hearers_38 : decode cX8_hearers 38 = .ok (.iload_n 2, 1) := by decide +kernel
theorem dX8_hearers_39 : decode cX8_hearers 39 = .ok (.ireturn, 1) := by decide +kernel
set_option maxRecDepth 20000 in
theorem ggX8_how_X8_isMatter : GoodIn wsX8_how wsX8_isMatter := goodIn_r _ [12, 13, 14, 15, 11, 16] (by decide +kernel) (by decide +kernel)
set_option maxRecDepth 20000 in
theorem gX8_how_X8_isMatter : GoodIn wsX8_how (va_wsS RX8 225 yX8_isMatter wsX8_isMatter) := goodIn_app (goodIn_of _ (by decide +kernel)) ggX8_how_X8_isMatter
set_option maxRecDepth 20000 in
theorem ggX8_how_X8_in : GoodIn wsX8_how wsX8_in := goodIn_r _ [16] (by decide +kernel) (by decide +kernel)
set_option maxRecDepth 20000 in
theorem gX8_how_X8_in : GoodIn wsX8_how (va_wsS RX8 52 yX8_in wsX8_in) := goodIn_app (goodIn_of _ (by decide +kernel)) ggX8_how_X8_in
set_option maxRecDepth 20000 in
theorem ggX8_how_X8_isHour : GoodIn wsX8_how wsX8_isHour := goodIn_r _ [19, 20, 14, 15, 11, 16] (by decide +kernel) (by decide +kernel)
set_option maxRecDepth 20000 in
theorem gX8_how_X8_isHour : GoodIn wsX8_how (va_wsS RX8 231 yX8_isHour wsX8_isHour) := goodIn_app (goodIn_of _ (by decide +kernel)) ggX8_how_X8_isHour
set_option maxRecDepth 20000 in
theorem ggX8_how_X8_layOdds : GoodIn wsX8_how wsX8_layOdds := goodIn_r _ [24, 7, 8, 25, 26, 27, 11, 28, 29, 30, 31, 32, 33, 34, 35, 36, 37, 38, 39, 40, 41, 42, 43, 44, 45, 46, 6, 47, 48, 49, 50, 51, 52, 53, 54, 55, 56, 57, 58, 59, 60, 61, 62, 63, 64, 65, 70, 71, 72, 73, 74, 75, 76, 77, 78, 79, 80, 81, 82, 83, 84, 85, 86, 87, 88, 89, 90, 91, 92, 93, 94, 95, 96] (by decide +kernel) (by decide +kernel)
set_option maxRecDepth 20000 in
theorem gX8_how_X8_layOdds : GoodIn wsX8_how (wsV RX8 279 RX8 yX8_layOdds wsX8_layOdds) := goodIn_app (goodIn_of _ (by decide +kernel)) ggX8_how_X8_layOdds
set_option maxRecDepth 20000 in
theorem ggX8_how_X8_hearers : GoodIn wsX8_how wsX8_hearers := goodIn_r _ [69, 29, 47, 48, 49, 11, 50, 51, 52, 53, 54, 55, 56, 57, 70, 71, 72, 73, 74, 75, 76, 77, 78, 79, 80, 81, 82, 83, 84, 85, 86, 87, 88, 89, 90, 91, 92, 93, 94, 95, 96] (by decide +kernel) (by decide +kernel)
set_option maxRecDepth 20000 in
theorem gX8_how_X8_hearers : GoodIn wsX8_how (wsV RX8 286 RX8 yX8_hearers wsX8_hearers) := goodIn_app (goodIn_of _ (by decide +kernel)) ggX8_how_X8_hearers
theorem dX8_how_0 : decode cX8_how 0 = .ok (.aload_n 0, 1) := by decide +kernel
theorem dX8_how_1 : decode cX8_how 1 = .ok (.iconst 0, 1) := by decide +kernel
theorem dX8_how_2 : decode cX8_how 2 = .ok (.putfield 41, 3) := by decide +kernel
theorem dX8_how_5 : decode cX8_how 5 = .ok (.aload_n 0, 1) := by decide +kernel
theorem dX8_how_6 : decode cX8_how 6 = .ok (.getfield 184, 3) := by decide +kernel
theorem dX8_how_9 : decode cX8_how 9 = .ok (.ifCond .ne 7, 3) := by decide +kernel
theorem dX8_how_12 : decode cX8_how 12 = .ok (.ldc2_w 223, 3) := by decide +kernel
theorem dX8_how_15 : decode cX8_how 15 = .ok (.lreturn, 1) := by decide +kernel
theorem dX8_how_16 : decode cX8_how 16 = .ok (.iload_n 1, 1) := by decide +kernel
theorem dX8_how_17 : decode cX8_how 17 = .ok (.invokestatic 225, 3) := by decide +kernel
theorem dX8_how_20 : decode cX8_how 20 = .ok (.ifCond .eq 36, 3) := by decide +kernel
theorem dX8_how_23 : decode cX8_how 23 = .ok (.iload_n 2, 1) := by decide +kernel
theorem dX8_how_24 : decode cX8_how 24 = .ok (.i2l, 1) := by decide +kernel
theorem dX8_how_25 : decode cX8_how 25 = .ok (.lconst 0, 1) := by decide +kernel
theorem dX8_how_26 : decode cX8_how 26 = .ok (.ldc2_w 262, 3) := by decide +kernel
theorem dX8_how_29 : decode cX8_how 29 = .ok (.invokestatic 52, 3) := by decide +kernel
theorem dX8_how_32 : decode cX8_how 32 = .ok (.ifCond .eq 24, 3) := by decide +kernel
theorem dX8_how_35 : decode cX8_how 35 = .ok (.iload_n 3, 1) := by decide +kernel
theorem dX8_how_36 : decode cX8_how 36 = .ok (.invokestatic 231, 3) := by decide +kernel
theorem dX8_how_39 : decode cX8_how 39 = .ok (.ifCond .eq 17, 3) := by decide +kernel
theorem dX8_how_42 : decode cX8_how 42 = .ok (.iload 4, 2) := by decide +kernel
theorem dX8_how_44 : decode cX8_how 44 = .ok (.invokestatic 231, 3) := by decide +kernel
theorem dX8_how_47 : decode cX8_how 47 = .ok (.ifCond .eq 9, 3) := by decide +kernel
theorem dX8_how_50 : decode cX8_how 50 = .ok (.iload_n 3, 1) := by decide +kernel
theorem dX8_how_51 : decode cX8_how 51 = .ok (.iload 4, 2) := by decide +kernel
theorem dX8_how_53 : decode cX8_how 53 = .ok (.if_icmp .le 7, 3) := by decide +kernel
theorem dX8_how_56 : decode cX8_how 56 = .ok (.ldc2_w 62, 3) := by decide +kernel
theorem dX8_how_59 : decode cX8_how 59 = .ok (.lreturn, 1) := by decide +kernel
theorem dX8_how_60 : decode cX8_how 60 = .ok (.ldc 80, 2) := by decide +kernel
theorem dX8_how_62 : decode cX8_how 62 = .ok (.istore 5, 2) := by decide +kernel
theorem dX8_how_64 : decode cX8_how 64 = .ok (.lconst 0, 1) := by decide +kernel
theorem dX8_how_65 : decode cX8_how 65 = .ok (.lstore 6, 2) := by decide +kernel
theorem dX8_how_67 : decode cX8_how 67 = .ok (.lconst 1, 1) := by decide +kernel
theorem dX8_how_68 : decode cX8_how 68 = .ok (.lstore 8, 2) := by decide +kernel
theorem dX8_how_70 : decode cX8_how 70 = .ok (.iload_n 3, 1) := by decide +kernel
theorem dX8_how_71 : decode cX8_how 71 = .ok (.istore 10, 2) := by decide +kernel
theorem dX8_how_73 : decode cX8_how 73 = .ok (.iload 10, 2) := by decide +kernel
theorem dX8_how_75 : decode cX8_how 75 = .ok (.iload 4, 2) := by decide +kernel
theorem dX8_how_77 : decode cX8_how 77 = .ok (.if_icmp .gt 129, 3) := by decide +kernel
theorem dX8_how_80 : decode cX8_how 80 = .ok (.iconst 0, 1) := by decide +kernel
theorem dX8_how_81 : decode cX8_how 81 = .ok (.istore 11, 2) := by decide +kernel
theorem dX8_how_83 : decode cX8_how 83 = .ok (.iload 11, 2) := by decide +kernel
theorem dX8_how_85 : decode cX8_how 85 = .ok (.bipush 16, 2) := by decide +kernel
theorem dX8_how_87 : decode cX8_how 87 = .ok (.if_icmp .ge 113, 3) := by decide +kernel
theorem dX8_how_90 : decode cX8_how 90 = .ok (.aload_n 0, 1) := by decide +kernel
theorem dX8_how_91 : decode cX8_how 91 = .ok (.iload_n 1, 1) := by decide +kernel
theorem dX8_how_92 : decode cX8_how 92 = .ok (.iload 11, 2) := by decide +kernel
theorem dX8_how_94 : decode cX8_how 94 = .ok (.iload 10, 2) := by decide +kernel
theorem dX8_how_96 : decode cX8_how 96 = .ok (.iconst 0, 1) := by decide +kernel
theorem dX8_how_97 : decode cX8_how 97 = .ok (.invokevirtual 279, 3) := by decide +kernel
theorem dX8_how_100 : decode cX8_how 100 = .ok (.aload_n 0, 1) := by decide +kernel
theorem dX8_how_101 : decode cX8_how 101 = .ok (.iload 11, 2) := by decide +kernel
theorem dX8_how_103 : decode cX8_how 103 = .ok (.invokevirtual 286, 3) := by decide +kernel
theorem dX8_how_106 : decode cX8_how 106 = .ok (.iload_n 2, 1) := by decide +kernel
theorem dX8_how_107 : decode cX8_how 107 = .ok (.if_icmp .lt 32, 3) := by decide +kernel
theorem dX8_how_110 : decode cX8_how 110 = .ok (.iload 5, 2) := by decide +kernel
theorem dX8_how_112 : decode cX8_how 112 = .ok (.ldc 80, 2) := by decide +kernel
theorem dX8_how_114 : decode cX8_how 114 = .ok (.if_icmp .eq 21, 3) := by decide +kernel
theorem dX8_how_117 : decode cX8_how 117 = .ok (.aload_n 0, 1) := by decide +kernel
theorem dX8_how_118 : decode cX8_how 118 = .ok (.getfield 266, 3) := by decide +kernel
theorem dX8_how_121 : decode cX8_how 121 = .ok (.lload 8, 2) := by decide +kernel
theorem dX8_how_123 : decode cX8_how 123 = .ok (.lmul, 1) := by decide +kernel
theorem dX8_how_124 : decode cX8_how 124 = .ok (.lload 6, 2) := by decide +kernel
theorem dX8_how_126 : decode cX8_how 126 = .ok (.aload_n 0, 1) := by decide +kernel
theorem dX8_how_127 : decode cX8_how 127 = .ok (.getfield 269, 3) := by decide +kernel
theorem dX8_how_130 : decode cX8_how 130 = .ok (.lmul, 1) := by decide +kernel
theorem dX8_how_131 : decode cX8_how 131 = .ok (.lcmp, 1) := by decide +kernel
theorem dX8_how_132 : decode cX8_how 132 = .ok (.ifCond .le 7, 3) := by decide +kernel
theorem dX8_how_135 : decode cX8_how 135 = .ok (.iconst 1, 1) := by decide +kernel
theorem dX8_how_136 : decode cX8_how 136 = .ok (.goto 4, 3) := by decide +kernel
theorem dX8_how_139 : decode cX8_how 139 = .ok (.iconst 0, 1) := by decide +kernel
theorem dX8_how_140 : decode cX8_how 140 = .ok (.istore 12, 2) := by decide +kernel
theorem dX8_how_142 : decode cX8_how 142 = .ok (.iload 12, 2) := by decide +kernel
theorem dX8_how_144 : decode cX8_how 144 = .ok (.ifCond .eq 14, 3) := by decide +kernel
theorem dX8_how_147 : decode cX8_how 147 = .ok (.bipush 16, 2) := by decide +kernel
theorem dX8_how_149 : decode cX8_how 149 = .ok (.iload 10, 2) := by decide +kernel
theorem dX8_how_151 : decode cX8_how 151 = .ok (.imul, 1) := by decide +kernel
theorem dX8_how_152 : decode cX8_how 152 = .ok (.iload 11, 2) := by decide +kernel
theorem dX8_how_154 : decode cX8_how 154 = .ok (.iadd, 1) := by decide +kernel
theorem dX8_how_155 : decode cX8_how 155 = .ok (.goto 5, 3) := by decide +kernel
theorem dX8_how_158 : decode cX8_how 158 = .ok (.iload 5, 2) := by decide +kernel
theorem dX8_how_160 : decode cX8_how 160 = .ok (.istore 5, 2) := by decide +kernel
theorem dX8_how_162 : decode cX8_how 162 = .ok (.iload 12, 2) := by decide +kernel
theorem dX8_how_164 : decode cX8_how 164 = .ok (.ifCond .eq 10, 3) := by decide +kernel
theorem dX8_how_167 : decode cX8_how 167 = .ok (.aload_n 0, 1) := by decide +kernel
theorem dX8_how_168 : decode cX8_how 168 = .ok (.getfield 266, 3) := by decide +kernel
theorem dX8_how_171 : decode cX8_how 171 = .ok (.goto 5, 3) := by decide +kernel
theorem dX8_how_174 : decode cX8_how 174 = .ok (.lload 6, 2) := by decide +kernel
theorem dX8_how_176 : decode cX8_how 176 = .ok (.lstore 6, 2) := by decide +kernel
theorem dX8_how_178 : decode cX8_how 178 = .ok (.iload 12, 2) := by decide +kernel
theorem dX8_how_180 : decode cX8_how 180 = .ok (.ifCond .eq 10, 3) := by decide +kernel
theorem dX8_how_183 : decode cX8_how 183 = .ok (.aload_n 0, 1) := by decide +kernel
theorem dX8_how_184 : decode cX8_how 184 = .ok (.getfield 269, 3) := by decide +kernel
theorem dX8_how_187 : decode cX8_how 187 = .ok (.goto 5, 3) := by decide +kernel
theorem dX8_how_190 : decode cX8_how 190 = .ok (.lload 8, 2) := by decide +kernel
theorem dX8_how_192 : decode cX8_how 192 = .ok (.lstore 8, 2) := by decide +kernel
theorem dX8_how_194 : decode cX8_how 194 = .ok (.iinc 11 1, 3) := by decide +kernel
theorem dX8_how_197 : decode cX8_how 197 = .ok (.goto (-114), 3) := by decide +kernel
theorem dX8_how_200 : decode cX8_how 200 = .ok (.iinc 10 1, 3) := by decide +kernel
theorem dX8_how_203 : decode cX8_how 203 = .ok (.goto (-130), 3) := by decide +kernel
theorem dX8_how_206 : decode cX8_how 206 = .ok (.iload 5, 2) := by decide +kernel
theorem dX8_how_208 : decode cX8_how 208 = .ok (.i2l, 1) := by decide +kernel
theorem dX8_how_209 : decode cX8_how 209 = .ok (.lreturn, 1) := by decide +kernel
set_option maxRecDepth 20000 in
theorem ggX8_fell_X8_isMatter : GoodIn wsX8_fell wsX8_isMatter := goodIn_r _ [13, 14, 15, 16, 12, 17] (by decide +kernel) (by decide +kernel)
set_option maxRecDepth 20000 in
theorem gX8_fell_X8_isMatter : GoodIn wsX8_fell (va_wsS RX8 225 yX8_isMatter wsX8_isMatter) := goodIn_app (goodIn_of _ (by decide +kernel)) ggX8_fell_X8_isMatter
set_option maxRecDepth 20000 in
theorem ggX8_fell_X8_areHorns : GoodIn wsX8_fell wsX8_areHorns := goodIn_r _ [20, 14, 15, 16, 12, 17] (by decide +kernel) (by decide +kernel)
set_option maxRecDepth 20000 in
theorem gX8_fell_X8_areHorns : GoodIn wsX8_fell (va_wsS RX8 228 yX8_areHorns wsX8_areHorns) := goodIn_app (goodIn_of _ (by decide +kernel)) ggX8_fell_X8_areHorns
set_option maxRecDepth 20000 in
theorem ggX8_fell_X8_isHour : GoodIn wsX8_fell wsX8_isHour := goodIn_r _ [23, 24, 15, 16, 12, 17] (by decide +kernel) (by decide +kernel)
set_option maxRecDepth 20000 in
theorem gX8_fell_X8_isHour : GoodIn wsX8_fell (va_wsS RX8 231 yX8_isHour wsX8_isHour) := goodIn_app (goodIn_of _ (by decide +kernel)) ggX8_fell_X8_isHour
set_option maxRecDepth 20000 in
theorem ggX8_fell_X8_isTree : GoodIn wsX8_fell wsX8_isTree := goodIn_r _ [28, 8, 15, 16, 12, 17, 68, 69, 70, 71, 72, 73, 74, 75, 76, 77, 78, 79, 80, 81, 82, 83, 84, 85, 86, 87, 88, 89, 90, 91, 92, 93, 94] (by decide +kernel) (by decide +kernel)
set_option maxRecDepth 20000 in
theorem gX8_fell_X8_isTree : GoodIn wsX8_fell (wsV RX8 249 RX8 yX8_isTree wsX8_isTree) := goodIn_app (goodIn_of _ (by decide +kernel)) ggX8_fell_X8_isTree
set_option maxRecDepth 20000 in
theorem ggX8_fell_X8_in : GoodIn wsX8_fell wsX8_in := goodIn_r _ [17] (by decide +kernel) (by decide +kernel)
set_option maxRecDepth 20000 in
theorem gX8_fell_X8_in : GoodIn wsX8_fell (va_wsS RX8 52 yX8_in wsX8_in) := goodIn_app (goodIn_of _ (by decide +kernel)) ggX8_fell_X8_in
set_option maxRecDepth 20000 in
theorem ggX8_fell_X8_doesMind : GoodIn wsX8_fell wsX8_doesMind := goodIn_r _ [32, 33, 34, 35, 36, 12, 37, 8, 38, 39, 40, 41, 42, 43, 44, 45, 46, 47, 48, 49, 50, 51, 52, 53, 54, 55, 56, 68, 69, 70, 71, 72, 73, 74, 75, 76, 77, 78, 79, 80, 81, 82, 83, 84, 85, 86, 87, 88, 89, 90, 91, 92, 93, 94] (by decide +kernel) (by decide +kernel)
set_option maxRecDepth 20000 in
theorem gX8_fell_X8_doesMind : GoodIn wsX8_fell (wsV RX8 242 RX8 yX8_doesMind wsX8_doesMind) := goodIn_app (goodIn_of _ (by decide +kernel)) ggX8_fell_X8_doesMind
set_option maxRecDepth 20000 in
theorem ggX8_fell_X8_itsTree : GoodIn wsX8_fell wsX8_itsTree := goodIn_r _ [48, 33, 8, 49, 50, 51, 12, 52, 38, 39, 40, 41, 42, 43, 44, 53, 54, 55, 56, 68, 69, 70, 71, 72, 73, 74, 75, 76, 77, 78, 79, 80, 81, 82, 83, 84, 85, 86, 87, 88, 89, 90, 91, 92, 93, 94] (by decide +kernel) (by decide +kernel)
set_option maxRecDepth 20000 in
theorem gX8_fell_X8_itsTree : GoodIn wsX8_fell (wsV RX8 206 RX8 yX8_itsTree wsX8_itsTree) := goodIn_app (goodIn_of _ (by decide +kernel)) ggX8_fell_X8_itsTree
set_option maxRecDepth 20000 in
theorem ggX8_fell_X8_ofGrave : GoodIn wsX8_fell wsX8_ofGrave := goodIn_r _ [41, 8, 68, 69, 70, 71, 72, 73, 74, 75, 76, 77, 78, 79, 80, 81, 82, 83, 84, 85, 86, 87, 88, 89, 90, 91, 92, 93, 94] (by decide +kernel) (by decide +kernel)
set_option maxRecDepth 20000 in
theorem gX8_fell_X8_ofGrave : GoodIn wsX8_fell (wsV RX8 191 RX8 yX8_ofGrave wsX8_ofGrave) := goodIn_app (goodIn_of _ (by decide +kernel)) ggX8_fell_X8_ofGrave
set_option maxRecDepth 20000 in
theorem ggX8_fell_X8_times : GoodIn wsX8_fell wsX8_times := goodIn_r _ [60, 6, 7, 9, 68, 69, 70, 71, 72, 73, 74, 75, 76, 77, 78, 79, 80, 81, 82, 83, 84, 85, 86, 87, 88, 89, 90, 91, 92, 93, 94] (by decide +kernel) (by decide +kernel)
set_option maxRecDepth 20000 in
theorem gX8_fell_X8_times : GoodIn wsX8_fell (wsV RX8 272 RX8 yX8_times wsX8_times) := goodIn_app (goodIn_of _ (by decide +kernel)) ggX8_fell_X8_times
set_option maxRecDepth 20000 in
theorem ggX8_fell_X8_fruit : GoodIn wsX8_fell wsX8_fruit := goodIn_r _ [56, 8, 68, 69, 70, 71, 72, 73, 74, 75, 76, 77, 78, 79, 80, 81, 82, 83, 84, 85, 86, 87, 88, 89, 90, 91, 92, 93, 94] (by decide +kernel) (by decide +kernel)
set_option maxRecDepth 20000 in
theorem gX8_fell_X8_fruit : GoodIn wsX8_fell (wsV RX8 200 RX8 yX8_fruit wsX8_fruit) := goodIn_app (goodIn_of _ (by decide +kernel)) ggX8_fell_X8_fruit
set_option maxRecDepth 20000 in
theorem ggX8_fell_X8_loose : GoodIn wsX8_fell wsX8_loose := goodIn_r _ [64, 8, 68, 69, 70, 71, 72, 73, 74, 75, 76, 77, 78, 79, 80, 81, 82, 83, 84, 85, 86, 87, 88, 89, 90, 91, 92, 93, 94] (by decide +kernel) (by decide +kernel)
set_option maxRecDepth 20000 in
theorem gX8_fell_X8_loose : GoodIn wsX8_fell (wsV RX8 236 RX8 yX8_loose wsX8_loose) := goodIn_app (goodIn_of _ (by decide +kernel)) ggX8_fell_X8_loose
set_option maxRecDepth 20000 in
theorem ggX8_fell_X8_partOf : GoodIn wsX8_fell wsX8_partOf := goodIn_r _ [67] (by decide +kernel) (by decide +kernel)
set_option maxRecDepth 20000 in
theorem gX8_fell_X8_partOf : GoodIn wsX8_fell (va_wsS RX8 282 yX8_partOf wsX8_partOf) := goodIn_app (goodIn_of _ (by decide +kernel)) ggX8_fell_X8_partOf
theorem dX8_fell_0 : decode cX8_fell 0 = .ok (.aload_n 0, 1) := by decide +kernel
theorem dX8_fell_1 : decode cX8_fell 1 = .ok (.iconst 0, 1) := by decide +kernel
theorem dX8_fell_2 : decode cX8_fell 2 = .ok (.putfield 41, 3) := by decide +kernel
theorem dX8_fell_5 : decode cX8_fell 5 = .ok (.aload_n 0, 1) := by decide +kernel
theorem dX8_fell_6 : decode cX8_fell 6 = .ok (.getfield 184, 3) := by decide +kernel
theorem dX8_fell_9 : decode cX8_fell 9 = .ok (.ifCond .ne 7, 3) := by decide +kernel
theorem dX8_fell_12 : decode cX8_fell 12 = .ok (.ldc2_w 223, 3) := by decide +kernel
theorem dX8_fell_15 : decode cX8_fell 15 = .ok (.lreturn, 1) := by decide +kernel
theorem dX8_fell_16 : decode cX8_fell 16 = .ok (.iload_n 1, 1) := by decide +kernel
theorem dX8_fell_17 : decode cX8_fell 17 = .ok (.invokestatic 225, 3) := by decide +kernel
theorem dX8_fell_20 : decode cX8_fell 20 = .ok (.ifCond .eq 39, 3) := by decide +kernel
theorem dX8_fell_23 : decode cX8_fell 23 = .ok (.iload_n 2, 1) := by decide +kernel
theorem dX8_fell_24 : decode cX8_fell 24 = .ok (.invokestatic 228, 3) := by decide +kernel
theorem dX8_fell_27 : decode cX8_fell 27 = .ok (.ifCond .eq 32, 3) := by decide +kernel
theorem dX8_fell_30 : decode cX8_fell 30 = .ok (.iload_n 3, 1) := by decide +kernel
theorem dX8_fell_31 : decode cX8_fell 31 = .ok (.invokestatic 231, 3) := by decide +kernel
theorem dX8_fell_34 : decode cX8_fell 34 = .ok (.ifCond .eq 25, 3) := by decide +kernel
theorem dX8_fell_37 : decode cX8_fell 37 = .ok (.aload_n 0, 1) := by decide +kernel
theorem dX8_fell_38 : decode cX8_fell 38 = .ok (.iload 4, 2) := by decide +kernel
theorem dX8_fell_40 : decode cX8_fell 40 = .ok (.invokevirtual 249, 3) := by decide +kernel
theorem dX8_fell_43 : decode cX8_fell 43 = .ok (.ifCond .eq 16, 3) := by decide +kernel
theorem dX8_fell_46 : decode cX8_fell 46 = .ok (.iload 5, 2) := by decide +kernel
theorem dX8_fell_48 : decode cX8_fell 48 = .ok (.i2l, 1) := by decide +kernel
theorem dX8_fell_49 : decode cX8_fell 49 = .ok (.lconst 0, 1) := by decide +kernel
theorem dX8_fell_50 : decode cX8_fell 50 = .ok (.ldc2_w 60, 3) := by decide +kernel
theorem dX8_fell_53 : decode cX8_fell 53 = .ok (.invokestatic 52, 3) := by decide +kernel
theorem dX8_fell_56 : decode cX8_fell 56 = .ok (.ifCond .ne 7, 3) := by decide +kernel
theorem dX8_fell_59 : decode cX8_fell 59 = .ok (.ldc2_w 62, 3) := by decide +kernel
theorem dX8_fell_62 : decode cX8_fell 62 = .ok (.lreturn, 1) := by decide +kernel
theorem dX8_fell_63 : decode cX8_fell 63 = .ok (.iconst 0, 1) := by decide +kernel
theorem dX8_fell_64 : decode cX8_fell 64 = .ok (.istore 6, 2) := by decide +kernel
theorem dX8_fell_66 : decode cX8_fell 66 = .ok (.aload_n 0, 1) := by decide +kernel
theorem dX8_fell_67 : decode cX8_fell 67 = .ok (.lconst 1, 1) := by decide +kernel
theorem dX8_fell_68 : decode cX8_fell 68 = .ok (.putfield 266, 3) := by decide +kernel
theorem dX8_fell_71 : decode cX8_fell 71 = .ok (.aload_n 0, 1) := by decide +kernel
theorem dX8_fell_72 : decode cX8_fell 72 = .ok (.lconst 1, 1) := by decide +kernel
theorem dX8_fell_73 : decode cX8_fell 73 = .ok (.putfield 269, 3) := by decide +kernel
theorem dX8_fell_76 : decode cX8_fell 76 = .ok (.iconst 0, 1) := by decide +kernel
theorem dX8_fell_77 : decode cX8_fell 77 = .ok (.istore 7, 2) := by decide +kernel
theorem dX8_fell_79 : decode cX8_fell 79 = .ok (.iload 7, 2) := by decide +kernel
theorem dX8_fell_81 : decode cX8_fell 81 = .ok (.aload_n 0, 1) := by decide +kernel
theorem dX8_fell_82 : decode cX8_fell 82 = .ok (.getfield 19, 3) := by decide +kernel
theorem dX8_fell_85 : decode cX8_fell 85 = .ok (.iconst 0, 1) := by decide +kernel
theorem dX8_fell_86 : decode cX8_fell 86 = .ok (.iaload, 1) := by decide +kernel
theorem dX8_fell_87 : decode cX8_fell 87 = .ok (.if_icmp .ge 70, 3) := by decide +kernel
theorem dX8_fell_90 : decode cX8_fell 90 = .ok (.aload_n 0, 1) := by decide +kernel
theorem dX8_fell_91 : decode cX8_fell 91 = .ok (.iload 7, 2) := by decide +kernel
theorem dX8_fell_93 : decode cX8_fell 93 = .ok (.iload_n 1, 1) := by decide +kernel
theorem dX8_fell_94 : decode cX8_fell 94 = .ok (.iload_n 2, 1) := by decide +kernel
theorem dX8_fell_95 : decode cX8_fell 95 = .ok (.iconst 0, 1) := by decide +kernel
theorem dX8_fell_96 : decode cX8_fell 96 = .ok (.invokevirtual 242, 3) := by decide +kernel
theorem dX8_fell_99 : decode cX8_fell 99 = .ok (.ifCond .eq 52, 3) := by decide +kernel
theorem dX8_fell_102 : decode cX8_fell 102 = .ok (.aload_n 0, 1) := by decide +kernel
theorem dX8_fell_103 : decode cX8_fell 103 = .ok (.iload 7, 2) := by decide +kernel
theorem dX8_fell_105 : decode cX8_fell 105 = .ok (.iconst 0, 1) := by decide +kernel
theorem dX8_fell_106 : decode cX8_fell 106 = .ok (.invokevirtual 206, 3) := by decide +kernel
theorem dX8_fell_109 : decode cX8_fell 109 = .ok (.iload 4, 2) := by decide +kernel
theorem dX8_fell_111 : decode cX8_fell 111 = .ok (.if_icmp .ne 40, 3) := by decide +kernel
theorem dX8_fell_114 : decode cX8_fell 114 = .ok (.aload_n 0, 1) := by decide +kernel
theorem dX8_fell_115 : decode cX8_fell 115 = .ok (.bipush 10, 2) := by decide +kernel
theorem dX8_fell_117 : decode cX8_fell 117 = .ok (.aload_n 0, 1) := by decide +kernel
theorem dX8_fell_118 : decode cX8_fell 118 = .ok (.iload 7, 2) := by decide +kernel
theorem dX8_fell_120 : decode cX8_fell 120 = .ok (.iconst 2, 1) := by decide +kernel
theorem dX8_fell_121 : decode cX8_fell 121 = .ok (.invokevirtual 191, 3) := by decide +kernel
theorem dX8_fell_124 : decode cX8_fell 124 = .ok (.isub, 1) := by decide +kernel
theorem dX8_fell_125 : decode cX8_fell 125 = .ok (.invokevirtual 272, 3) := by decide +kernel
theorem dX8_fell_128 : decode cX8_fell 128 = .ok (.iload 6, 2) := by decide +kernel
theorem dX8_fell_130 : decode cX8_fell 130 = .ok (.aload_n 0, 1) := by decide +kernel
theorem dX8_fell_131 : decode cX8_fell 131 = .ok (.iload 7, 2) := by decide +kernel
theorem dX8_fell_133 : decode cX8_fell 133 = .ok (.iconst 2, 1) := by decide +kernel
theorem dX8_fell_134 : decode cX8_fell 134 = .ok (.invokevirtual 191, 3) := by decide +kernel
theorem dX8_fell_137 : decode cX8_fell 137 = .ok (.ifCond .le 10, 3) := by decide +kernel
theorem dX8_fell_140 : decode cX8_fell 140 = .ok (.iconst 1, 1) := by decide +kernel
theorem dX8_fell_141 : decode cX8_fell 141 = .ok (.iload 7, 2) := by decide +kernel
theorem dX8_fell_143 : decode cX8_fell 143 = .ok (.ishl, 1) := by decide +kernel
theorem dX8_fell_144 : decode cX8_fell 144 = .ok (.goto 4, 3) := by decide +kernel
theorem dX8_fell_147 : decode cX8_fell 147 = .ok (.iconst 0, 1) := by decide +kernel
theorem dX8_fell_148 : decode cX8_fell 148 = .ok (.ior, 1) := by decide +kernel
theorem dX8_fell_149 : decode cX8_fell 149 = .ok (.istore 6, 2) := by decide +kernel
theorem dX8_fell_151 : decode cX8_fell 151 = .ok (.iinc 7 1, 3) := by decide +kernel
theorem dX8_fell_154 : decode cX8_fell 154 = .ok (.goto (-75), 3) := by decide +kernel
theorem dX8_fell_157 : decode cX8_fell 157 = .ok (.iload 5, 2) := by decide +kernel
theorem dX8_fell_159 : decode cX8_fell 159 = .ok (.iconst 2, 1) := by decide +kernel
theorem dX8_fell_160 : decode cX8_fell 160 = .ok (.if_icmp .ne 7, 3) := by decide +kernel
theorem dX8_fell_163 : decode cX8_fell 163 = .ok (.iload 6, 2) := by decide +kernel
theorem dX8_fell_165 : decode cX8_fell 165 = .ok (.i2l, 1) := by decide +kernel
theorem dX8_fell_166 : decode cX8_fell 166 = .ok (.lreturn, 1) := by decide +kernel
theorem dX8_fell_167 : decode cX8_fell 167 = .ok (.aload_n 0, 1) := by decide +kernel
theorem dX8_fell_168 : decode cX8_fell 168 = .ok (.getfield 266, 3) := by decide +kernel
theorem dX8_fell_171 : decode cX8_fell 171 = .ok (.ldc2_w 217, 3) := by decide +kernel
theorem dX8_fell_174 : decode cX8_fell 174 = .ok (.lmul, 1) := by decide +kernel
theorem dX8_fell_175 : decode cX8_fell 175 = .ok (.lstore 7, 2) := by decide +kernel
theorem dX8_fell_177 : decode cX8_fell 177 = .ok (.aload_n 0, 1) := by decide +kernel
theorem dX8_fell_178 : decode cX8_fell 178 = .ok (.aload_n 0, 1) := by decide +kernel
theorem dX8_fell_179 : decode cX8_fell 179 = .ok (.iload 4, 2) := by decide +kernel
theorem dX8_fell_181 : decode cX8_fell 181 = .ok (.invokevirtual 200, 3) := by decide +kernel
theorem dX8_fell_184 : decode cX8_fell 184 = .ok (.ifCond .le 24, 3) := by decide +kernel
theorem dX8_fell_187 : decode cX8_fell 187 = .ok (.bipush 10, 2) := by decide +kernel
theorem dX8_fell_189 : decode cX8_fell 189 = .ok (.aload_n 0, 1) := by decide +kernel
theorem dX8_fell_190 : decode cX8_fell 190 = .ok (.iload 4, 2) := by decide +kernel
theorem dX8_fell_192 : decode cX8_fell 192 = .ok (.invokevirtual 236, 3) := by decide +kernel
theorem dX8_fell_195 : decode cX8_fell 195 = .ok (.aload_n 0, 1) := by decide +kernel
theorem dX8_fell_196 : decode cX8_fell 196 = .ok (.getfield 19, 3) := by decide +kernel
theorem dX8_fell_199 : decode cX8_fell 199 = .ok (.iconst 3, 1) := by decide +kernel
theorem dX8_fell_200 : decode cX8_fell 200 = .ok (.iload_n 3, 1) := by decide +kernel
theorem dX8_fell_201 : decode cX8_fell 201 = .ok (.iadd, 1) := by decide +kernel
theorem dX8_fell_202 : decode cX8_fell 202 = .ok (.iaload, 1) := by decide +kernel
theorem dX8_fell_203 : decode cX8_fell 203 = .ok (.imul, 1) := by decide +kernel
theorem dX8_fell_204 : decode cX8_fell 204 = .ok (.isub, 1) := by decide +kernel
theorem dX8_fell_205 : decode cX8_fell 205 = .ok (.goto 5, 3) := by decide +kernel
theorem dX8_fell_208 : decode cX8_fell 208 = .ok (.bipush 10, 2) := by decide +kernel
theorem dX8_fell_210 : decode cX8_fell 210 = .ok (.invokevirtual 272, 3) := by decide +kernel
theorem dX8_fell_213 : decode cX8_fell 213 = .ok (.aload_n 0, 1) := by decide +kernel
theorem dX8_fell_214 : decode cX8_fell 214 = .ok (.getfield 266, 3) := by decide +kernel
theorem dX8_fell_217 : decode cX8_fell 217 = .ok (.aload_n 0, 1) := by decide +kernel
theorem dX8_fell_218 : decode cX8_fell 218 = .ok (.getfield 269, 3) := by decide +kernel
theorem dX8_fell_221 : decode cX8_fell 221 = .ok (.lcmp, 1) := by decide +kernel
theorem dX8_fell_222 : decode cX8_fell 222 = .ok (.ifCond .ne 9, 3) := by decide +kernel
theorem dX8_fell_225 : decode cX8_fell 225 = .ok (.iload 5, 2) := by decide +kernel
theorem dX8_fell_227 : decode cX8_fell 227 = .ok (.i2l, 1) := by decide +kernel
theorem dX8_fell_228 : decode cX8_fell 228 = .ok (.goto 24, 3) := by decide +kernel
theorem dX8_fell_231 : decode cX8_fell 231 = .ok (.aload_n 0, 1) := by decide +kernel
theorem dX8_fell_232 : decode cX8_fell 232 = .ok (.getfield 269, 3) := by decide +kernel
theorem dX8_fell_235 : decode cX8_fell 235 = .ok (.lload 7, 2) := by decide +kernel
theorem dX8_fell_237 : decode cX8_fell 237 = .ok (.lsub, 1) := by decide +kernel
theorem dX8_fell_238 : decode cX8_fell 238 = .ok (.aload_n 0, 1) := by decide +kernel
theorem dX8_fell_239 : decode cX8_fell 239 = .ok (.getfield 269, 3) := by decide +kernel
theorem dX8_fell_242 : decode cX8_fell 242 = .ok (.aload_n 0, 1) := by decide +kernel
theorem dX8_fell_243 : decode cX8_fell 243 = .ok (.getfield 266, 3) := by decide +kernel
theorem dX8_fell_246 : decode cX8_fell 246 = .ok (.lsub, 1) := by decide +kernel
theorem dX8_fell_247 : decode cX8_fell 247 = .ok (.iload 5, 2) := by decide +kernel
theorem dX8_fell_249 : decode cX8_fell 249 = .ok (.invokestatic 282, 3) := by decide +kernel
theorem dX8_fell_252 : decode cX8_fell 252 = .ok (.lreturn, 1) := by decide +kernel
theorem dX8_bits_0 : decode cX8_bits 0 = .ok (.iconst 0, 1) := by decide +kernel
theorem dX8_bits_1 : decode cX8_bits 1 = .ok (.istore_n 1, 1) := by decide +kernel
theorem dX8_bits_2 : decode cX8_bits 2 = .ok (.iconst 0, 1) := by decide +kernel
theorem dX8_bits_3 : decode cX8_bits 3 = .ok (.istore_n 2, 1) := by decide +kernel
theorem dX8_bits_4 : decode cX8_bits 4 = .ok (.iload_n 2, 1) := by decide +kernel
theorem dX8_bits_5 : decode cX8_bits 5 = .ok (.iconst 4, 1) := by decide +kernel
theorem dX8_bits_6 : decode cX8_bits 6 = .ok (.if_icmp .ge 17, 3) := by decide +kernel
theorem dX8_bits_9 : decode cX8_bits 9 = .ok (.iload_n 1, 1) := by decide +kernel
theorem dX8_bits_10 : decode cX8_bits 10 = .ok (.iload_n 0, 1) := by decide +kernel
theorem dX8_bits_11 : decode cX8_bits 11 = .ok (.iload_n 2, 1) := by decide +kernel
theorem dX8_bits_12 : decode cX8_bits 12 = .ok (.ishr, 1) := by decide +kernel
theorem dX8_bits_13 : decode cX8_bits 13 = .ok (.iconst 1, 1) := by decide +kernel
theorem dX8_bits_14 : decode cX8_bits 14 = .ok (.iand, 1) := by decide +kernel
theorem dX8_bits_15 : decode cX8_bits 15 = .ok (.iadd, 1) := by decide +kernel
theorem dX8_bits_16 : decode cX8_bits 16 = .ok (.istore_n 1, 1) := by decide +kernel
theorem dX8_bits_17 : decode cX8_bits 17 = .ok (.iinc 2 1, 3) := by decide +kernel
theorem dX8_bits_20 : decode cX8_bits 20 = .ok (.goto (-16), 3) := by decide +kernel
theorem dX8_bits_23 : decode cX8_bits 23 = .ok (.iload_n 1, 1) := by decide +kernel
theorem dX8_bits_24 : decode cX8_bits 24 = .ok (.ireturn, 1) := by decide +kernel
set_option maxRecDepth 20000 in
theorem ggX8_picks_X8_isMatter : GoodIn wsX8_picks wsX8_isMatter := goodIn_r _ [13, 14, 15, 16, 12, 17] (by decide +kernel) (by decide +kernel)
set_option maxRecDepth 20000 in
theorem gX8_picks_X8_isMatter : GoodIn wsX8_picks (va_wsS RX8 225 yX8_isMatter wsX8_isMatter) := goodIn_app (goodIn_of _ (by decide +kernel)) ggX8_picks_X8_isMatter
set_option maxRecDepth 20000 in
theorem ggX8_picks_X8_areHorns : GoodIn wsX8_picks wsX8_areHorns := goodIn_r _ [20, 14, 15, 16, 12, 17] (by decide +kernel) (by decide +kernel)
set_option maxRecDepth 20000 in
theorem gX8_picks_X8_areHorns : GoodIn wsX8_picks (va_wsS RX8 228 yX8_areHorns wsX8_areHorns) := goodIn_app (goodIn_of _ (by decide +kernel)) ggX8_picks_X8_areHorns
set_option maxRecDepth 20000 in
theorem ggX8_picks_X8_isHour : GoodIn wsX8_picks wsX8_isHour := goodIn_r _ [23, 24, 15, 16, 12, 17] (by decide +kernel) (by decide +kernel)
set_option maxRecDepth 20000 in
theorem gX8_picks_X8_isHour : GoodIn wsX8_picks (va_wsS RX8 231 yX8_isHour wsX8_isHour) := goodIn_app (goodIn_of _ (by decide +kernel)) ggX8_picks_X8_isHour
set_option maxRecDepth 20000 in
theorem ggX8_picks_X8_in : GoodIn wsX8_picks wsX8_in := goodIn_r _ [17] (by decide +kernel) (by decide +kernel)
set_option maxRecDepth 20000 in
theorem gX8_picks_X8_in : GoodIn wsX8_picks (va_wsS RX8 52 yX8_in wsX8_in) := goodIn_app (goodIn_of _ (by decide +kernel)) ggX8_picks_X8_in
set_option maxRecDepth 20000 in
theorem ggX8_picks_X8_layOdds : GoodIn wsX8_picks wsX8_layOdds := goodIn_r _ [28, 8, 9, 29, 30, 31, 12, 32, 7, 33, 34, 35, 36, 37, 38, 39, 40, 41, 42, 43, 44, 45, 46, 47, 48, 49, 6, 50, 51, 52, 53, 54, 55, 56, 57, 58, 59, 60, 61, 62, 63, 64, 65, 66, 67, 68, 72, 73, 74, 75, 76, 77, 78, 79, 80, 81, 82, 83, 84, 85, 86, 87, 88, 89, 90, 91, 92, 93, 94, 95, 96, 97, 98] (by decide +kernel) (by decide +kernel)
set_option maxRecDepth 20000 in
theorem gX8_picks_X8_layOdds : GoodIn wsX8_picks (wsV RX8 279 RX8 yX8_layOdds wsX8_layOdds) := goodIn_app (goodIn_of _ (by decide +kernel)) ggX8_picks_X8_layOdds
set_option maxRecDepth 20000 in
theorem ggX8_picks_X8_bits : GoodIn wsX8_picks wsX8_bits := goodIn_r _ [71] (by decide +kernel) (by decide +kernel)
set_option maxRecDepth 20000 in
theorem gX8_picks_X8_bits : GoodIn wsX8_picks (va_wsS RX8 291 yX8_bits wsX8_bits) := goodIn_app (goodIn_of _ (by decide +kernel)) ggX8_picks_X8_bits
