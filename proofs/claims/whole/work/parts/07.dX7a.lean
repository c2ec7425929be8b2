set_option maxRecDepth 20000 in
theorem ggX7_init_X5_init : GoodIn wsX7_init wsX5_init := goodIn_r _ [37, 38, 2, 3, 39, 40, 41, 42, 80, 81, 82] (by decide +kernel) (by decide +kernel)
set_option maxRecDepth 20000 in
theorem gX7_init_X5_init : GoodIn wsX7_init (wsX5_init) := ggX7_init_X5_init
set_option maxRecDepth 20000 in
theorem ggX7_init_X6_init : GoodIn wsX7_init wsX6_init := goodIn_r _ [44, 45, 2, 3, 46, 47, 97, 98, 99, 100, 101] (by decide +kernel) (by decide +kernel)
set_option maxRecDepth 20000 in
theorem gX7_init_X6_init_n18 : GoodIn wsX7_init (wsX6_init) := ggX7_init_X6_init
set_option maxRecDepth 20000 in
theorem ggX7_init_X4_init : GoodIn wsX7_init wsX4_init := goodIn_r _ [50, 51, 2, 3, 52, 102, 103, 104, 105] (by decide +kernel) (by decide +kernel)
set_option maxRecDepth 20000 in
theorem gX7_init_X4_init : GoodIn wsX7_init (wsX4_init) := ggX7_init_X4_init
set_option maxRecDepth 20000 in
theorem ggX7_init_X0_init : GoodIn wsX7_init wsX0_init := goodIn_r _ [54, 55, 2, 3, 39, 56, 57, 58, 106, 107, 108, 109, 110] (by decide +kernel) (by decide +kernel)
set_option maxRecDepth 20000 in
theorem gX7_init_X0_init_n34 : GoodIn wsX7_init (wsX0_init) := ggX7_init_X0_init
set_option maxRecDepth 20000 in
theorem ggX7_init_X1_init : GoodIn wsX7_init wsX1_init := goodIn_r _ [60, 61, 2, 3, 39, 62, 111, 112, 113, 114, 115, 116, 117] (by decide +kernel) (by decide +kernel)
set_option maxRecDepth 20000 in
theorem gX7_init_X1_init_n41 : GoodIn wsX7_init (wsX1_init) := ggX7_init_X1_init
set_option maxRecDepth 20000 in
theorem ggX7_init_X2_init : GoodIn wsX7_init wsX2_init := goodIn_r _ [64, 65, 2, 3, 66, 118, 119] (by decide +kernel) (by decide +kernel)
set_option maxRecDepth 20000 in
theorem gX7_init_X2_init_n48 : GoodIn wsX7_init (wsX2_init) := ggX7_init_X2_init
set_option maxRecDepth 20000 in
theorem ggX7_init_X3_init : GoodIn wsX7_init wsX3_init := goodIn_r _ [68, 69, 2, 3, 39, 70, 71, 72, 73, 74, 75, 76, 77, 78, 79, 120, 121, 122, 123, 124, 125, 126, 127, 128, 129, 130, 131, 132, 133] (by decide +kernel) (by decide +kernel)
set_option maxRecDepth 20000 in
theorem gX7_init_X3_init_n55 : GoodIn wsX7_init (wsX3_init) := ggX7_init_X3_init
theorem dX7_init_0 : decode cX7_init 0 = .ok (.aload_n 0, 1) := by decide +kernel
theorem dX7_init_1 : decode cX7_init 1 = .ok (.invokespecial 3, 3) := by decide +kernel
theorem dX7_init_4 : decode cX7_init 4 = .ok (.aload_n 0, 1) := by decide +kernel
theorem dX7_init_5 : decode cX7_init 5 = .ok (.new 9, 3) := by decide +kernel
theorem dX7_init_8 : decode cX7_init 8 = .ok (.dup, 1) := by decide +kernel
theorem dX7_init_9 : decode cX7_init 9 = .ok (.invokespecial 11, 3) := by decide +kernel
theorem dX7_init_12 : decode cX7_init 12 = .ok (.putfield 12, 3) := by decide +kernel
theorem dX7_init_15 : decode cX7_init 15 = .ok (.aload_n 0, 1) := by decide +kernel
theorem dX7_init_16 : decode cX7_init 16 = .ok (.new 16, 3) := by decide +kernel
theorem dX7_init_19 : decode cX7_init 19 = .ok (.dup, 1) := by decide +kernel
theorem dX7_init_20 : decode cX7_init 20 = .ok (.invokespecial 18, 3) := by decide +kernel
theorem dX7_init_23 : decode cX7_init 23 = .ok (.putfield 19, 3) := by decide +kernel
theorem dX7_init_26 : decode cX7_init 26 = .ok (.aload_n 0, 1) := by decide +kernel
theorem dX7_init_27 : decode cX7_init 27 = .ok (.new 23, 3) := by decide +kernel
theorem dX7_init_30 : decode cX7_init 30 = .ok (.dup, 1) := by decide +kernel
theorem dX7_init_31 : decode cX7_init 31 = .ok (.aload_n 0, 1) := by decide +kernel
theorem dX7_init_32 : decode cX7_init 32 = .ok (.getfield 19, 3) := by decide +kernel
theorem dX7_init_35 : decode cX7_init 35 = .ok (.invokespecial 25, 3) := by decide +kernel
theorem dX7_init_38 : decode cX7_init 38 = .ok (.putfield 28, 3) := by decide +kernel
theorem dX7_init_41 : decode cX7_init 41 = .ok (.aload_n 0, 1) := by decide +kernel
theorem dX7_init_42 : decode cX7_init 42 = .ok (.new 32, 3) := by decide +kernel
theorem dX7_init_45 : decode cX7_init 45 = .ok (.dup, 1) := by decide +kernel
theorem dX7_init_46 : decode cX7_init 46 = .ok (.invokespecial 34, 3) := by decide +kernel
theorem dX7_init_49 : decode cX7_init 49 = .ok (.putfield 35, 3) := by decide +kernel
theorem dX7_init_52 : decode cX7_init 52 = .ok (.aload_n 0, 1) := by decide +kernel
theorem dX7_init_53 : decode cX7_init 53 = .ok (.new 39, 3) := by decide +kernel
theorem dX7_init_56 : decode cX7_init 56 = .ok (.dup, 1) := by decide +kernel
theorem dX7_init_57 : decode cX7_init 57 = .ok (.invokespecial 41, 3) := by decide +kernel
theorem dX7_init_60 : decode cX7_init 60 = .ok (.putfield 42, 3) := by decide +kernel
theorem dX7_init_63 : decode cX7_init 63 = .ok (.aload_n 0, 1) := by decide +kernel
theorem dX7_init_64 : decode cX7_init 64 = .ok (.new 46, 3) := by decide +kernel
theorem dX7_init_67 : decode cX7_init 67 = .ok (.dup, 1) := by decide +kernel
theorem dX7_init_68 : decode cX7_init 68 = .ok (.invokespecial 48, 3) := by decide +kernel
theorem dX7_init_71 : decode cX7_init 71 = .ok (.putfield 49, 3) := by decide +kernel
theorem dX7_init_74 : decode cX7_init 74 = .ok (.aload_n 0, 1) := by decide +kernel
theorem dX7_init_75 : decode cX7_init 75 = .ok (.new 53, 3) := by decide +kernel
theorem dX7_init_78 : decode cX7_init 78 = .ok (.dup, 1) := by decide +kernel
theorem dX7_init_79 : decode cX7_init 79 = .ok (.invokespecial 55, 3) := by decide +kernel
theorem dX7_init_82 : decode cX7_init 82 = .ok (.putfield 56, 3) := by decide +kernel
theorem dX7_init_85 : decode cX7_init 85 = .ok (.aload_n 0, 1) := by decide +kernel
theorem dX7_init_86 : decode cX7_init 86 = .ok (.new 53, 3) := by decide +kernel
theorem dX7_init_89 : decode cX7_init 89 = .ok (.dup, 1) := by decide +kernel
theorem dX7_init_90 : decode cX7_init 90 = .ok (.invokespecial 55, 3) := by decide +kernel
theorem dX7_init_93 : decode cX7_init 93 = .ok (.putfield 60, 3) := by decide +kernel
theorem dX7_init_96 : decode cX7_init 96 = .ok (.aload_n 0, 1) := by decide +kernel
theorem dX7_init_97 : decode cX7_init 97 = .ok (.new 53, 3) := by decide +kernel
theorem dX7_init_100 : decode cX7_init 100 = .ok (.dup, 1) := by decide +kernel
theorem dX7_init_101 : decode cX7_init 101 = .ok (.invokespecial 55, 3) := by decide +kernel
theorem dX7_init_104 : decode cX7_init 104 = .ok (.putfield 63, 3) := by decide +kernel
theorem dX7_init_107 : decode cX7_init 107 = .ok (.aload_n 0, 1) := by decide +kernel
theorem dX7_init_108 : decode cX7_init 108 = .ok (.new 53, 3) := by decide +kernel
theorem dX7_init_111 : decode cX7_init 111 = .ok (.dup, 1) := by decide +kernel
theorem dX7_init_112 : decode cX7_init 112 = .ok (.invokespecial 55, 3) := by decide +kernel
theorem dX7_init_115 : decode cX7_init 115 = .ok (.putfield 66, 3) := by decide +kernel
theorem dX7_init_118 : decode cX7_init 118 = .ok (.return_, 1) := by decide +kernel
set_option maxRecDepth 20000 in
theorem ggX7_row_X5_isRow : GoodIn wsX7_row wsX5_isRow := goodIn_r _ [7] (by decide +kernel) (by decide +kernel)
set_option maxRecDepth 20000 in
theorem gX7_row_X5_isRow : GoodIn wsX7_row (wsV RX7 69 RX5 yX5_isRow wsX5_isRow) := goodIn_app (goodIn_of _ (by decide +kernel)) ggX7_row_X5_isRow
set_option maxRecDepth 20000 in
theorem ggX7_row_X5_isLane : GoodIn wsX7_row wsX5_isLane := goodIn_r _ [11] (by decide +kernel) (by decide +kernel)
set_option maxRecDepth 20000 in
theorem gX7_row_X5_isLane : GoodIn wsX7_row (wsV RX7 73 RX5 yX5_isLane wsX5_isLane) := goodIn_app (goodIn_of _ (by decide +kernel)) ggX7_row_X5_isLane
set_option maxRecDepth 20000 in
theorem ggX7_row_X7_finding : GoodIn wsX7_row wsX7_finding := goodIn_r _ [16, 17, 18, 32, 33, 34, 35, 36, 37, 38, 39, 40, 41, 42, 43, 44, 45] (by decide +kernel) (by decide +kernel)
set_option maxRecDepth 20000 in
theorem gX7_row_X7_finding : GoodIn wsX7_row (wsV RX7 78 RX7 yX7_finding wsX7_finding) := goodIn_app (goodIn_of _ (by decide +kernel)) ggX7_row_X7_finding
set_option maxRecDepth 20000 in
theorem ggX7_row_X5_make : GoodIn wsX7_row wsX5_make := goodIn_r _ [22, 23, 24, 25, 26, 4, 5, 6, 7, 27, 9, 10, 11, 46, 47, 48] (by decide +kernel) (by decide +kernel)
set_option maxRecDepth 20000 in
theorem gX7_row_X5_make : GoodIn wsX7_row (wsV RX7 82 RX5 yX5_make wsX5_make) := goodIn_app (goodIn_of _ (by decide +kernel)) ggX7_row_X5_make
set_option maxRecDepth 20000 in
theorem ggX7_row_X7_withoutFinding : GoodIn wsX7_row wsX7_withoutFinding := goodIn_r _ [31, 17, 32, 33, 34, 35, 36, 37, 38, 39, 40, 41, 42, 43, 44, 45] (by decide +kernel) (by decide +kernel)
set_option maxRecDepth 20000 in
theorem gX7_row_X7_withoutFinding : GoodIn wsX7_row (wsV RX7 86 RX7 yX7_withoutFinding wsX7_withoutFinding) := goodIn_app (goodIn_of _ (by decide +kernel)) ggX7_row_X7_withoutFinding
theorem dX7_row_0 : decode cX7_row 0 = .ok (.aload_n 0, 1) := by decide +kernel
theorem dX7_row_1 : decode cX7_row 1 = .ok (.getfield 12, 3) := by decide +kernel
theorem dX7_row_4 : decode cX7_row 4 = .ok (.iload_n 1, 1) := by decide +kernel
theorem dX7_row_5 : decode cX7_row 5 = .ok (.invokevirtual 69, 3) := by decide +kernel
theorem dX7_row_8 : decode cX7_row 8 = .ok (.ifCond .eq 20, 3) := by decide +kernel
theorem dX7_row_11 : decode cX7_row 11 = .ok (.aload_n 0, 1) := by decide +kernel
theorem dX7_row_12 : decode cX7_row 12 = .ok (.getfield 12, 3) := by decide +kernel
theorem dX7_row_15 : decode cX7_row 15 = .ok (.iload_n 2, 1) := by decide +kernel
theorem dX7_row_16 : decode cX7_row 16 = .ok (.invokevirtual 73, 3) := by decide +kernel
theorem dX7_row_19 : decode cX7_row 19 = .ok (.ifCond .eq 9, 3) := by decide +kernel
theorem dX7_row_22 : decode cX7_row 22 = .ok (.iload_n 3, 1) := by decide +kernel
theorem dX7_row_23 : decode cX7_row 23 = .ok (.bipush 40, 2) := by decide +kernel
theorem dX7_row_25 : decode cX7_row 25 = .ok (.if_icmp .le 7, 3) := by decide +kernel
theorem dX7_row_28 : decode cX7_row 28 = .ok (.ldc2_w 76, 3) := by decide +kernel
theorem dX7_row_31 : decode cX7_row 31 = .ok (.lreturn, 1) := by decide +kernel
theorem dX7_row_32 : decode cX7_row 32 = .ok (.iload_n 3, 1) := by decide +kernel
theorem dX7_row_33 : decode cX7_row 33 = .ok (.ifCond .ge 9, 3) := by decide +kernel
theorem dX7_row_36 : decode cX7_row 36 = .ok (.aload_n 0, 1) := by decide +kernel
theorem dX7_row_37 : decode cX7_row 37 = .ok (.iconst 4, 1) := by decide +kernel
theorem dX7_row_38 : decode cX7_row 38 = .ok (.invokevirtual 78, 3) := by decide +kernel
theorem dX7_row_41 : decode cX7_row 41 = .ok (.lreturn, 1) := by decide +kernel
theorem dX7_row_42 : decode cX7_row 42 = .ok (.aload_n 0, 1) := by decide +kernel
theorem dX7_row_43 : decode cX7_row 43 = .ok (.getfield 12, 3) := by decide +kernel
theorem dX7_row_46 : decode cX7_row 46 = .ok (.iload_n 1, 1) := by decide +kernel
theorem dX7_row_47 : decode cX7_row 47 = .ok (.iload_n 2, 1) := by decide +kernel
theorem dX7_row_48 : decode cX7_row 48 = .ok (.iload_n 3, 1) := by decide +kernel
theorem dX7_row_49 : decode cX7_row 49 = .ok (.invokevirtual 82, 3) := by decide +kernel
theorem dX7_row_52 : decode cX7_row 52 = .ok (.aload_n 0, 1) := by decide +kernel
theorem dX7_row_53 : decode cX7_row 53 = .ok (.iload_n 3, 1) := by decide +kernel
theorem dX7_row_54 : decode cX7_row 54 = .ok (.i2l, 1) := by decide +kernel
theorem dX7_row_55 : decode cX7_row 55 = .ok (.invokevirtual 86, 3) := by decide +kernel
theorem dX7_row_58 : decode cX7_row 58 = .ok (.lreturn, 1) := by decide +kernel
set_option maxRecDepth 20000 in
theorem ggX7_set_X5_isRow : GoodIn wsX7_set wsX5_isRow := goodIn_r _ [7] (by decide +kernel) (by decide +kernel)
set_option maxRecDepth 20000 in
theorem gX7_set_X5_isRow : GoodIn wsX7_set (wsV RX7 69 RX5 yX5_isRow wsX5_isRow) := goodIn_app (goodIn_of _ (by decide +kernel)) ggX7_set_X5_isRow
set_option maxRecDepth 20000 in
theorem ggX7_set_X5_isMissing : GoodIn wsX7_set wsX5_isMissing := goodIn_r _ [11, 12, 13, 4, 5, 6, 7, 54, 55, 56] (by decide +kernel) (by decide +kernel)
set_option maxRecDepth 20000 in
theorem gX7_set_X5_isMissing : GoodIn wsX7_set (wsV RX7 90 RX5 yX5_isMissing wsX5_isMissing) := goodIn_app (goodIn_of _ (by decide +kernel)) ggX7_set_X5_isMissing
set_option maxRecDepth 20000 in
theorem ggX7_set_X7_finding : GoodIn wsX7_set wsX7_finding := goodIn_r _ [18, 19, 20, 40, 41, 42, 43, 44, 45, 46, 47, 48, 49, 50, 51, 52, 53] (by decide +kernel) (by decide +kernel)
set_option maxRecDepth 20000 in
theorem gX7_set_X7_finding : GoodIn wsX7_set (wsV RX7 78 RX7 yX7_finding wsX7_finding) := goodIn_app (goodIn_of _ (by decide +kernel)) ggX7_set_X7_finding
set_option maxRecDepth 20000 in
theorem ggX7_set_X5_holds : GoodIn wsX7_set wsX5_holds := goodIn_r _ [24, 25, 26, 9, 10, 6, 11, 12, 13, 4, 5, 7, 54, 55, 56] (by decide +kernel) (by decide +kernel)
set_option maxRecDepth 20000 in
theorem gX7_set_X5_holds : GoodIn wsX7_set (wsV RX7 93 RX5 yX5_holds wsX5_holds) := goodIn_app (goodIn_of _ (by decide +kernel)) ggX7_set_X5_holds
set_option maxRecDepth 20000 in
theorem ggX7_set_X5_put : GoodIn wsX7_set wsX5_put := goodIn_r _ [30, 12, 31, 32, 22, 23, 6, 24, 25, 26, 9, 10, 11, 13, 4, 5, 7, 33, 34, 35, 54, 55, 56] (by decide +kernel) (by decide +kernel)
set_option maxRecDepth 20000 in
theorem gX7_set_X5_put : GoodIn wsX7_set (wsV RX7 97 RX5 yX5_put wsX5_put) := goodIn_app (goodIn_of _ (by decide +kernel)) ggX7_set_X5_put
set_option maxRecDepth 20000 in
theorem ggX7_set_X7_withoutFinding : GoodIn wsX7_set wsX7_withoutFinding := goodIn_r _ [39, 19, 40, 41, 42, 43, 44, 45, 46, 47, 48, 49, 50, 51, 52, 53] (by decide +kernel) (by decide +kernel)
set_option maxRecDepth 20000 in
theorem gX7_set_X7_withoutFinding : GoodIn wsX7_set (wsV RX7 86 RX7 yX7_withoutFinding wsX7_withoutFinding) := goodIn_app (goodIn_of _ (by decide +kernel)) ggX7_set_X7_withoutFinding
theorem dX7_set_0 : decode cX7_set 0 = .ok (.aload_n 0, 1) := by decide +kernel
theorem dX7_set_1 : decode cX7_set 1 = .ok (.getfield 12, 3) := by decide +kernel
theorem dX7_set_4 : decode cX7_set 4 = .ok (.iload_n 1, 1) := by decide +kernel
theorem dX7_set_5 : decode cX7_set 5 = .ok (.invokevirtual 69, 3) := by decide +kernel
theorem dX7_set_8 : decode cX7_set 8 = .ok (.ifCond .ne 7, 3) := by decide +kernel
theorem dX7_set_11 : decode cX7_set 11 = .ok (.ldc2_w 76, 3) := by decide +kernel
theorem dX7_set_14 : decode cX7_set 14 = .ok (.lreturn, 1) := by decide +kernel
theorem dX7_set_15 : decode cX7_set 15 = .ok (.aload_n 0, 1) := by decide +kernel
theorem dX7_set_16 : decode cX7_set 16 = .ok (.getfield 12, 3) := by decide +kernel
theorem dX7_set_19 : decode cX7_set 19 = .ok (.iload_n 1, 1) := by decide +kernel
theorem dX7_set_20 : decode cX7_set 20 = .ok (.invokevirtual 90, 3) := by decide +kernel
theorem dX7_set_23 : decode cX7_set 23 = .ok (.ifCond .eq 9, 3) := by decide +kernel
theorem dX7_set_26 : decode cX7_set 26 = .ok (.aload_n 0, 1) := by decide +kernel
theorem dX7_set_27 : decode cX7_set 27 = .ok (.iconst 1, 1) := by decide +kernel
theorem dX7_set_28 : decode cX7_set 28 = .ok (.invokevirtual 78, 3) := by decide +kernel
theorem dX7_set_31 : decode cX7_set 31 = .ok (.lreturn, 1) := by decide +kernel
theorem dX7_set_32 : decode cX7_set 32 = .ok (.aload_n 0, 1) := by decide +kernel
theorem dX7_set_33 : decode cX7_set 33 = .ok (.getfield 12, 3) := by decide +kernel
theorem dX7_set_36 : decode cX7_set 36 = .ok (.iload_n 1, 1) := by decide +kernel
theorem dX7_set_37 : decode cX7_set 37 = .ok (.iload_n 2, 1) := by decide +kernel
theorem dX7_set_38 : decode cX7_set 38 = .ok (.iconst 1, 1) := by decide +kernel
theorem dX7_set_39 : decode cX7_set 39 = .ok (.invokevirtual 93, 3) := by decide +kernel
theorem dX7_set_42 : decode cX7_set 42 = .ok (.ifCond .ne 9, 3) := by decide +kernel
theorem dX7_set_45 : decode cX7_set 45 = .ok (.aload_n 0, 1) := by decide +kernel
theorem dX7_set_46 : decode cX7_set 46 = .ok (.iconst 2, 1) := by decide +kernel
theorem dX7_set_47 : decode cX7_set 47 = .ok (.invokevirtual 78, 3) := by decide +kernel
theorem dX7_set_50 : decode cX7_set 50 = .ok (.lreturn, 1) := by decide +kernel
theorem dX7_set_51 : decode cX7_set 51 = .ok (.aload_n 0, 1) := by decide +kernel
theorem dX7_set_52 : decode cX7_set 52 = .ok (.aload_n 0, 1) := by decide +kernel
theorem dX7_set_53 : decode cX7_set 53 = .ok (.getfield 12, 3) := by decide +kernel
theorem dX7_set_56 : decode cX7_set 56 = .ok (.iload_n 1, 1) := by decide +kernel
theorem dX7_set_57 : decode cX7_set 57 = .ok (.iload_n 2, 1) := by decide +kernel
theorem dX7_set_58 : decode cX7_set 58 = .ok (.iload_n 3, 1) := by decide +kernel
theorem dX7_set_59 : decode cX7_set 59 = .ok (.invokevirtual 97, 3) := by decide +kernel
theorem dX7_set_62 : decode cX7_set 62 = .ok (.i2l, 1) := by decide +kernel
theorem dX7_set_63 : decode cX7_set 63 = .ok (.invokevirtual 86, 3) := by decide +kernel
theorem dX7_set_66 : decode cX7_set 66 = .ok (.lreturn, 1) := by decide +kernel
set_option maxRecDepth 20000 in
theorem ggX7_copy_X5_isRow : GoodIn wsX7_copy wsX5_isRow := goodIn_r _ [7] (by decide +kernel) (by decide +kernel)
set_option maxRecDepth 20000 in
theorem gX7_copy_X5_isRow : GoodIn wsX7_copy (wsV RX7 69 RX5 yX5_isRow wsX5_isRow) := goodIn_app (goodIn_of _ (by decide +kernel)) ggX7_copy_X5_isRow
set_option maxRecDepth 20000 in
theorem ggX7_copy_X5_isMissing : GoodIn wsX7_copy wsX5_isMissing := goodIn_r _ [11, 12, 13, 4, 5, 6, 7, 59, 60, 61] (by decide +kernel) (by decide +kernel)
set_option maxRecDepth 20000 in
theorem gX7_copy_X5_isMissing : GoodIn wsX7_copy (wsV RX7 90 RX5 yX5_isMissing wsX5_isMissing) := goodIn_app (goodIn_of _ (by decide +kernel)) ggX7_copy_X5_isMissing
set_option maxRecDepth 20000 in
theorem ggX7_copy_X7_finding : GoodIn wsX7_copy wsX7_finding := goodIn_r _ [18, 19, 20, 45, 46, 47, 48, 49, 50, 51, 52, 53, 54, 55, 56, 57, 58] (by decide +kernel) (by decide +kernel)
set_option maxRecDepth 20000 in
theorem gX7_copy_X7_finding : GoodIn wsX7_copy (wsV RX7 78 RX7 yX7_finding wsX7_finding) := goodIn_app (goodIn_of _ (by decide +kernel)) ggX7_copy_X7_finding
set_option maxRecDepth 20000 in
theorem ggX7_copy_X5_areOfOneLane : GoodIn wsX7_copy wsX5_areOfOneLane := goodIn_r _ [24, 12, 13, 4, 5, 6, 7, 59, 60, 61] (by decide +kernel) (by decide +kernel)
set_option maxRecDepth 20000 in
theorem gX7_copy_X5_areOfOneLane : GoodIn wsX7_copy (wsV RX7 101 RX5 yX5_areOfOneLane wsX5_areOfOneLane) := goodIn_app (goodIn_of _ (by decide +kernel)) ggX7_copy_X5_areOfOneLane
set_option maxRecDepth 20000 in
theorem ggX7_copy_X5_holds : GoodIn wsX7_copy wsX5_holds := goodIn_r _ [28, 29, 30, 9, 10, 6, 11, 12, 13, 4, 5, 7, 59, 60, 61] (by decide +kernel) (by decide +kernel)
set_option maxRecDepth 20000 in
theorem gX7_copy_X5_holds : GoodIn wsX7_copy (wsV RX7 93 RX5 yX5_holds wsX5_holds) := goodIn_app (goodIn_of _ (by decide +kernel)) ggX7_copy_X5_holds
set_option maxRecDepth 20000 in
theorem ggX7_copy_X5_carry : GoodIn wsX7_copy wsX5_carry := goodIn_r _ [34, 35, 36, 37, 38, 39, 40, 26, 27, 6, 28, 29, 30, 9, 10, 11, 12, 13, 4, 5, 7, 59, 60, 61] (by decide +kernel) (by decide +kernel)
set_option maxRecDepth 20000 in
theorem gX7_copy_X5_carry : GoodIn wsX7_copy (wsV RX7 105 RX5 yX5_carry wsX5_carry) := goodIn_app (goodIn_of _ (by decide +kernel)) ggX7_copy_X5_carry
set_option maxRecDepth 20000 in
theorem ggX7_copy_X7_withoutFinding : GoodIn wsX7_copy wsX7_withoutFinding := goodIn_r _ [44, 19, 45, 46, 47, 48, 49, 50, 51, 52, 53, 54, 55, 56, 57, 58] (by decide +kernel) (by decide +kernel)
set_option maxRecDepth 20000 in
theorem gX7_copy_X7_withoutFinding : GoodIn wsX7_copy (wsV RX7 86 RX7 yX7_withoutFinding wsX7_withoutFinding) := goodIn_app (goodIn_of _ (by decide +kernel)) ggX7_copy_X7_withoutFinding
theorem dX7_copy_0 : decode cX7_copy 0 = .ok (.aload_n 0, 1) := by decide +kernel
theorem dX7_copy_1 : decode cX7_copy 1 = .ok (.getfield 12, 3) := by decide +kernel
theorem dX7_copy_4 : decode cX7_copy 4 = .ok (.iload_n 1, 1) := by decide +kernel
theorem dX7_copy_5 : decode cX7_copy 5 = .ok (.invokevirtual 69, 3) := by decide +kernel
theorem dX7_copy_8 : decode cX7_copy 8 = .ok (.ifCond .eq 14, 3) := by decide +kernel
theorem dX7_copy_11 : decode cX7_copy 11 = .ok (.aload_n 0, 1) := by decide +kernel
theorem dX7_copy_12 : decode cX7_copy 12 = .ok (.getfield 12, 3) := by decide +kernel
theorem dX7_copy_15 : decode cX7_copy 15 = .ok (.iload_n 3, 1) := by decide +kernel
theorem dX7_copy_16 : decode cX7_copy 16 = .ok (.invokevirtual 69, 3) := by decide +kernel
theorem dX7_copy_19 : decode cX7_copy 19 = .ok (.ifCond .ne 7, 3) := by decide +kernel
theorem dX7_copy_22 : decode cX7_copy 22 = .ok (.ldc2_w 76, 3) := by decide +kernel
theorem dX7_copy_25 : decode cX7_copy 25 = .ok (.lreturn, 1) := by decide +kernel
theorem dX7_copy_26 : decode cX7_copy 26 = .ok (.aload_n 0, 1) := by decide +kernel
theorem dX7_copy_27 : decode cX7_copy 27 = .ok (.getfield 12, 3) := by decide +kernel
theorem dX7_copy_30 : decode cX7_copy 30 = .ok (.iload_n 1, 1) := by decide +kernel
theorem dX7_copy_31 : decode cX7_copy 31 = .ok (.invokevirtual 90, 3) := by decide +kernel
theorem dX7_copy_34 : decode cX7_copy 34 = .ok (.ifCond .ne 14, 3) := by decide +kernel
theorem dX7_copy_37 : decode cX7_copy 37 = .ok (.aload_n 0, 1) := by decide +kernel
theorem dX7_copy_38 : decode cX7_copy 38 = .ok (.getfield 12, 3) := by decide +kernel
theorem dX7_copy_41 : decode cX7_copy 41 = .ok (.iload_n 3, 1) := by decide +kernel
theorem dX7_copy_42 : decode cX7_copy 42 = .ok (.invokevirtual 90, 3) := by decide +kernel
theorem dX7_copy_45 : decode cX7_copy 45 = .ok (.ifCond .eq 9, 3) := by decide +kernel
theorem dX7_copy_48 : decode cX7_copy 48 = .ok (.aload_n 0, 1) := by decide +kernel
theorem dX7_copy_49 : decode cX7_copy 49 = .ok (.iconst 1, 1) := by decide +kernel
theorem dX7_copy_50 : decode cX7_copy 50 = .ok (.invokevirtual 78, 3) := by decide +kernel
theorem dX7_copy_53 : decode cX7_copy 53 = .ok (.lreturn, 1) := by decide +kernel
theorem dX7_copy_54 : decode cX7_copy 54 = .ok (.aload_n 0, 1) := by decide +kernel
theorem dX7_copy_55 : decode cX7_copy 55 = .ok (.getfield 12, 3) := by decide +kernel
theorem dX7_copy_58 : decode cX7_copy 58 = .ok (.iload_n 1, 1) := by decide +kernel
theorem dX7_copy_59 : decode cX7_copy 59 = .ok (.iload_n 3, 1) := by decide +kernel
theorem dX7_copy_60 : decode cX7_copy 60 = .ok (.invokevirtual 101, 3) := by decide +kernel
theorem dX7_copy_63 : decode cX7_copy 63 = .ok (.ifCond .ne 9, 3) := by decide +kernel
theorem dX7_copy_66 : decode cX7_copy 66 = .ok (.aload_n 0, 1) := by decide +kernel
theorem dX7_copy_67 : decode cX7_copy 67 = .ok (.iconst 5, 1) := by decide +kernel
theorem dX7_copy_68 : decode cX7_copy 68 = .ok (.invokevirtual 78, 3) := by decide +kernel
theorem dX7_copy_71 : decode cX7_copy 71 = .ok (.lreturn, 1) := by decide +kernel
theorem dX7_copy_72 : decode cX7_copy 72 = .ok (.aload_n 0, 1) := by decide +kernel
theorem dX7_copy_73 : decode cX7_copy 73 = .ok (.getfield 12, 3) := by decide +kernel
theorem dX7_copy_76 : decode cX7_copy 76 = .ok (.iload_n 1, 1) := by decide +kernel
theorem dX7_copy_77 : decode cX7_copy 77 = .ok (.iload_n 2, 1) := by decide +kernel
theorem dX7_copy_78 : decode cX7_copy 78 = .ok (.iload 5, 2) := by decide +kernel
theorem dX7_copy_80 : decode cX7_copy 80 = .ok (.invokevirtual 93, 3) := by decide +kernel
theorem dX7_copy_83 : decode cX7_copy 83 = .ok (.ifCond .eq 18, 3) := by decide +kernel
theorem dX7_copy_86 : decode cX7_copy 86 = .ok (.aload_n 0, 1) := by decide +kernel
theorem dX7_copy_87 : decode cX7_copy 87 = .ok (.getfield 12, 3) := by decide +kernel
theorem dX7_copy_90 : decode cX7_copy 90 = .ok (.iload_n 3, 1) := by decide +kernel
theorem dX7_copy_91 : decode cX7_copy 91 = .ok (.iload 4, 2) := by decide +kernel
theorem dX7_copy_93 : decode cX7_copy 93 = .ok (.iload 5, 2) := by decide +kernel
theorem dX7_copy_95 : decode cX7_copy 95 = .ok (.invokevirtual 93, 3) := by decide +kernel
theorem dX7_copy_98 : decode cX7_copy 98 = .ok (.ifCond .ne 9, 3) := by decide +kernel
theorem dX7_copy_101 : decode cX7_copy 101 = .ok (.aload_n 0, 1) := by decide +kernel
theorem dX7_copy_102 : decode cX7_copy 102 = .ok (.iconst 2, 1) := by decide +kernel
theorem dX7_copy_103 : decode cX7_copy 103 = .ok (.invokevirtual 78, 3) := by decide +kernel
theorem dX7_copy_106 : decode cX7_copy 106 = .ok (.lreturn, 1) := by decide +kernel
theorem dX7_copy_107 : decode cX7_copy 107 = .ok (.aload_n 0, 1) := by decide +kernel
theorem dX7_copy_108 : decode cX7_copy 108 = .ok (.getfield 12, 3) := by decide +kernel
theorem dX7_copy_111 : decode cX7_copy 111 = .ok (.iload_n 1, 1) := by decide +kernel
theorem dX7_copy_112 : decode cX7_copy 112 = .ok (.iload_n 2, 1) := by decide +kernel
theorem dX7_copy_113 : decode cX7_copy 113 = .ok (.iload_n 3, 1) := by decide +kernel
theorem dX7_copy_114 : decode cX7_copy 114 = .ok (.iload 4, 2) := by decide +kernel
theorem dX7_copy_116 : decode cX7_copy 116 = .ok (.iload 5, 2) := by decide +kernel
theorem dX7_copy_118 : decode cX7_copy 118 = .ok (.invokevirtual 105, 3) := by decide +kernel
theorem dX7_copy_121 : decode cX7_copy 121 = .ok (.aload_n 0, 1) := by decide +kernel
theorem dX7_copy_122 : decode cX7_copy 122 = .ok (.iload 5, 2) := by decide +kernel
theorem dX7_copy_124 : decode cX7_copy 124 = .ok (.i2l, 1) := by decide +kernel
theorem dX7_copy_125 : decode cX7_copy 125 = .ok (.invokevirtual 86, 3) := by decide +kernel
theorem dX7_copy_128 : decode cX7_copy 128 = .ok (.lreturn, 1) := by decide +kernel
set_option maxRecDepth 20000 in
theorem ggX7_drop_X5_isRow : GoodIn wsX7_drop wsX5_isRow := goodIn_r _ [7] (by decide +kernel) (by decide +kernel)
set_option maxRecDepth 20000 in
theorem gX7_drop_X5_isRow : GoodIn wsX7_drop (wsV RX7 69 RX5 yX5_isRow wsX5_isRow) := goodIn_app (goodIn_of _ (by decide +kernel)) ggX7_drop_X5_isRow
set_option maxRecDepth 20000 in
theorem ggX7_drop_X5_isMissing : GoodIn wsX7_drop wsX5_isMissing := goodIn_r _ [11, 12, 13, 4, 5, 6, 7, 45, 46, 47] (by decide +kernel) (by decide +kernel)
set_option maxRecDepth 20000 in
theorem gX7_drop_X5_isMissing : GoodIn wsX7_drop (wsV RX7 90 RX5 yX5_isMissing wsX5_isMissing) := goodIn_app (goodIn_of _ (by decide +kernel)) ggX7_drop_X5_isMissing
set_option maxRecDepth 20000 in
theorem ggX7_drop_X7_finding : GoodIn wsX7_drop wsX7_finding := goodIn_r _ [18, 19, 20, 31, 32, 33, 34, 35, 36, 37, 38, 39, 40, 41, 42, 43, 44] (by decide +kernel) (by decide +kernel)
set_option maxRecDepth 20000 in
theorem gX7_drop_X7_finding : GoodIn wsX7_drop (wsV RX7 78 RX7 yX7_finding wsX7_finding) := goodIn_app (goodIn_of _ (by decide +kernel)) ggX7_drop_X7_finding
set_option maxRecDepth 20000 in
theorem ggX7_drop_X5_lose : GoodIn wsX7_drop wsX5_lose := goodIn_r _ [24, 12, 25, 26, 9, 10, 6, 11, 13, 4, 5, 7, 45, 46, 47] (by decide +kernel) (by decide +kernel)
set_option maxRecDepth 20000 in
theorem gX7_drop_X5_lose : GoodIn wsX7_drop (wsV RX7 109 RX5 yX5_lose wsX5_lose) := goodIn_app (goodIn_of _ (by decide +kernel)) ggX7_drop_X5_lose
set_option maxRecDepth 20000 in
theorem ggX7_drop_X7_withoutFinding : GoodIn wsX7_drop wsX7_withoutFinding := goodIn_r _ [30, 19, 31, 32, 33, 34, 35, 36, 37, 38, 39, 40, 41, 42, 43, 44] (by decide +kernel) (by decide +kernel)
set_option maxRecDepth 20000 in
theorem gX7_drop_X7_withoutFinding : GoodIn wsX7_drop (wsV RX7 86 RX7 yX7_withoutFinding wsX7_withoutFinding) := goodIn_app (goodIn_of _ (by decide +kernel)) ggX7_drop_X7_withoutFinding
theorem dX7_drop_0 : decode cX7_drop 0 = .ok (.aload_n 0, 1) := by decide +kernel
theorem dX7_drop_1 : decode cX7_drop 1 = .ok (.getfield 12, 3) := by decide +kernel
theorem dX7_drop_4 : decode cX7_drop 4 = .ok (.iload_n 1, 1) := by decide +kernel
theorem dX7_drop_5 : decode cX7_drop 5 = .ok (.invokevirtual 69, 3) := by decide +kernel
theorem dX7_drop_8 : decode cX7_drop 8 = .ok (.ifCond .ne 7, 3) := by decide +kernel
theorem dX7_drop_11 : decode cX7_drop 11 = .ok (.ldc2_w 76, 3) := by decide +kernel
theorem dX7_drop_14 : decode cX7_drop 14 = .ok (.lreturn, 1) := by decide +kernel
theorem dX7_drop_15 : decode cX7_drop 15 = .ok (.aload_n 0, 1) := by decide +kernel
theorem dX7_drop_16 : decode cX7_drop 16 = .ok (.getfield 12, 3) := by decide +kernel
theorem dX7_drop_19 : decode cX7_drop 19 = .ok (.iload_n 1, 1) := by decide +kernel
theorem dX7_drop_20 : decode cX7_drop 20 = .ok (.invokevirtual 90, 3) := by decide +kernel
theorem dX7_drop_23 : decode cX7_drop 23 = .ok (.ifCond .eq 9, 3) := by decide +kernel
theorem dX7_drop_26 : decode cX7_drop 26 = .ok (.aload_n 0, 1) := by decide +kernel
theorem dX7_drop_27 : decode cX7_drop 27 = .ok (.iconst 1, 1) := by decide +kernel
theorem dX7_drop_28 : decode cX7_drop 28 = .ok (.invokevirtual 78, 3) := by decide +kernel
theorem dX7_drop_31 : decode cX7_drop 31 = .ok (.lreturn, 1) := by decide +kernel
theorem dX7_drop_32 : decode cX7_drop 32 = .ok (.aload_n 0, 1) := by decide +kernel
theorem dX7_drop_33 : decode cX7_drop 33 = .ok (.aload_n 0, 1) := by decide +kernel
theorem dX7_drop_34 : decode cX7_drop 34 = .ok (.getfield 12, 3) := by decide +kernel
theorem dX7_drop_37 : decode cX7_drop 37 = .ok (.iload_n 1, 1) := by decide +kernel
theorem dX7_drop_38 : decode cX7_drop 38 = .ok (.invokevirtual 109, 3) := by decide +kernel
theorem dX7_drop_41 : decode cX7_drop 41 = .ok (.i2l, 1) := by decide +kernel
theorem dX7_drop_42 : decode cX7_drop 42 = .ok (.invokevirtual 86, 3) := by decide +kernel
theorem dX7_drop_45 : decode cX7_drop 45 = .ok (.lreturn, 1) := by decide +kernel
set_option maxRecDepth 20000 in
theorem ggX7_feed_X6_hasRoomFor : GoodIn wsX7_feed wsX6_hasRoomFor := goodIn_r _ [8, 9, 33, 34, 35, 36, 37] (by decide +kernel) (by decide +kernel)
set_option maxRecDepth 20000 in
theorem gX7_feed_X6_hasRoomFor : GoodIn wsX7_feed (wsV RX7 113 RX6 yX6_hasRoomFor wsX6_hasRoomFor) := goodIn_app (goodIn_of _ (by decide +kernel)) ggX7_feed_X6_hasRoomFor
set_option maxRecDepth 20000 in
theorem ggX7_feed_X6_append : GoodIn wsX7_feed wsX6_append := goodIn_r _ [13, 9, 14, 33, 34, 35, 36, 37] (by decide +kernel) (by decide +kernel)
set_option maxRecDepth 20000 in
theorem gX7_feed_X6_append : GoodIn wsX7_feed (wsV RX7 118 RX6 yX6_append wsX6_append) := goodIn_app (goodIn_of _ (by decide +kernel)) ggX7_feed_X6_append
set_option maxRecDepth 20000 in
theorem ggX7_feed_X6_length : GoodIn wsX7_feed wsX6_length := goodIn_r _ [18, 9, 33, 34, 35, 36, 37] (by decide +kernel) (by decide +kernel)
set_option maxRecDepth 20000 in
theorem gX7_feed_X6_length : GoodIn wsX7_feed (wsV RX7 122 RX6 yX6_length wsX6_length) := goodIn_app (goodIn_of _ (by decide +kernel)) ggX7_feed_X6_length
theorem dX7_feed_0 : decode cX7_feed 0 = .ok (.iload_n 3, 1) := by decide +kernel
theorem dX7_feed_1 : decode cX7_feed 1 = .ok (.iconst 1, 1) := by decide +kernel
theorem dX7_feed_2 : decode cX7_feed 2 = .ok (.if_icmp .lt 9, 3) := by decide +kernel
theorem dX7_feed_5 : decode cX7_feed 5 = .ok (.iload_n 3, 1) := by decide +kernel
theorem dX7_feed_6 : decode cX7_feed 6 = .ok (.bipush 8, 2) := by decide +kernel
theorem dX7_feed_8 : decode cX7_feed 8 = .ok (.if_icmp .le 7, 3) := by decide +kernel
theorem dX7_feed_11 : decode cX7_feed 11 = .ok (.ldc2_w 76, 3) := by decide +kernel
theorem dX7_feed_14 : decode cX7_feed 14 = .ok (.lreturn, 1) := by decide +kernel
theorem dX7_feed_15 : decode cX7_feed 15 = .ok (.aload_n 0, 1) := by decide +kernel
theorem dX7_feed_16 : decode cX7_feed 16 = .ok (.getfield 19, 3) := by decide +kernel
theorem dX7_feed_19 : decode cX7_feed 19 = .ok (.iload_n 3, 1) := by decide +kernel
theorem dX7_feed_20 : decode cX7_feed 20 = .ok (.invokevirtual 113, 3) := by decide +kernel
theorem dX7_feed_23 : decode cX7_feed 23 = .ok (.ifCond .ne 7, 3) := by decide +kernel
theorem dX7_feed_26 : decode cX7_feed 26 = .ok (.ldc2_w 116, 3) := by decide +kernel
theorem dX7_feed_29 : decode cX7_feed 29 = .ok (.lreturn, 1) := by decide +kernel
theorem dX7_feed_30 : decode cX7_feed 30 = .ok (.aload_n 0, 1) := by decide +kernel
theorem dX7_feed_31 : decode cX7_feed 31 = .ok (.getfield 19, 3) := by decide +kernel
theorem dX7_feed_34 : decode cX7_feed 34 = .ok (.lload_n 1, 1) := by decide +kernel
theorem dX7_feed_35 : decode cX7_feed 35 = .ok (.iload_n 3, 1) := by decide +kernel
theorem dX7_feed_36 : decode cX7_feed 36 = .ok (.invokevirtual 118, 3) := by decide +kernel
theorem dX7_feed_39 : decode cX7_feed 39 = .ok (.aload_n 0, 1) := by decide +kernel
theorem dX7_feed_40 : decode cX7_feed 40 = .ok (.getfield 19, 3) := by decide +kernel
theorem dX7_feed_43 : decode cX7_feed 43 = .ok (.invokevirtual 122, 3) := by decide +kernel
theorem dX7_feed_46 : decode cX7_feed 46 = .ok (.i2l, 1) := by decide +kernel
theorem dX7_feed_47 : decode cX7_feed 47 = .ok (.lreturn, 1) := by decide +kernel
set_option maxRecDepth 20000 in
theorem ggX7_hill_X4_readInto : GoodIn wsX7_hill wsX4_readInto := goodIn_r _ [14, 15, 16, 17, 18, 19, 20, 21, 22, 23, 24, 25, 26, 27, 28, 29, 30, 31, 32, 33, 34, 35, 36, 37, 38, 39, 40, 41, 42, 43, 44, 45, 46, 47, 48, 49, 50, 51, 52, 53, 54, 55, 56, 57, 58, 13, 59, 60, 61, 62, 63, 64, 65, 66, 67, 68, 69, 70, 71, 72, 73, 74, 75, 76, 77, 78, 79, 80, 81, 82, 83, 84, 85, 86, 87, 88, 89, 90, 91, 92, 93, 94, 95, 96, 97, 98, 99, 100, 101, 102, 103, 104, 105, 106, 107, 108, 109, 110, 111, 112, 113, 114, 115, 116, 117, 118, 119, 120, 121, 122, 123, 124, 125, 126, 127, 128, 129, 130, 131, 132, 133, 134, 135, 136, 137, 138, 139, 140, 141, 142, 143, 144, 145, 146, 147, 148, 149, 150, 151, 152, 153, 154, 155, 156, 157, 158, 159, 160, 161, 162, 163, 164, 165, 166, 167, 168, 169, 170, 171, 172, 173, 174, 175, 176, 177, 178, 179, 180, 181, 182, 183, 184, 185, 186, 187, 234, 235, 236, 237, 220, 221, 222, 223, 224, 225, 226, 227, 228, 229, 230, 231, 232, 233, 238, 239, 240, 241, 242] (by decide +kernel) (by decide +kernel)
set_option maxRecDepth 20000 in
theorem gX7_hill_X4_readInto : GoodIn wsX7_hill (wsV RX7 126 RX4 yX4_readInto wsX4_readInto) := goodIn_app (goodIn_of _ (by decide +kernel)) ggX7_hill_X4_readInto
set_option maxRecDepth 20000 in
theorem ggX7_hill_X6_clear : GoodIn wsX7_hill wsX6_clear := goodIn_r _ [191, 36, 238, 239, 240, 241, 242] (by decide +kernel) (by decide +kernel)
set_option maxRecDepth 20000 in
theorem gX7_hill_X6_clear : GoodIn wsX7_hill (wsV RX7 130 RX6 yX6_clear wsX6_clear) := goodIn_app (goodIn_of _ (by decide +kernel)) ggX7_hill_X6_clear
set_option maxRecDepth 20000 in
theorem ggX7_hill_X4_faultNumber : GoodIn wsX7_hill wsX4_faultNumber := goodIn_r _ [195, 119, 234, 235, 236, 237] (by decide +kernel) (by decide +kernel)
set_option maxRecDepth 20000 in
theorem gX7_hill_X4_faultNumber : GoodIn wsX7_hill (wsV RX7 133 RX4 yX4_faultNumber wsX4_faultNumber) := goodIn_app (goodIn_of _ (by decide +kernel)) ggX7_hill_X4_faultNumber
set_option maxRecDepth 20000 in
theorem ggX7_hill_X4_faultPlace : GoodIn wsX7_hill wsX4_faultPlace := goodIn_r _ [199, 120, 234, 235, 236, 237] (by decide +kernel) (by decide +kernel)
set_option maxRecDepth 20000 in
theorem gX7_hill_X4_faultPlace : GoodIn wsX7_hill (wsV RX7 142 RX4 yX4_faultPlace wsX4_faultPlace) := goodIn_app (goodIn_of _ (by decide +kernel)) ggX7_hill_X4_faultPlace
set_option maxRecDepth 20000 in
theorem ggX7_hill_X0_forgetAll : GoodIn wsX7_hill wsX0_forgetAll := goodIn_r _ [204, 205, 243, 244, 245, 246, 247] (by decide +kernel) (by decide +kernel)
set_option maxRecDepth 20000 in
theorem gX7_hill_X0_forgetAll : GoodIn wsX7_hill (wsV RX7 149 RX0 yX0_forgetAll wsX0_forgetAll) := goodIn_app (goodIn_of _ (by decide +kernel)) ggX7_hill_X0_forgetAll
theorem dX7_hill_0 : decode cX7_hill 0 = .ok (.aload_n 0, 1) := by decide +kernel
theorem dX7_hill_1 : decode cX7_hill 1 = .ok (.getfield 28, 3) := by decide +kernel
theorem dX7_hill_4 : decode cX7_hill 4 = .ok (.aload_n 0, 1) := by decide +kernel
theorem dX7_hill_5 : decode cX7_hill 5 = .ok (.getfield 66, 3) := by decide +kernel
theorem dX7_hill_8 : decode cX7_hill 8 = .ok (.invokevirtual 126, 3) := by decide +kernel
theorem dX7_hill_11 : decode cX7_hill 11 = .ok (.istore_n 1, 1) := by decide +kernel
theorem dX7_hill_12 : decode cX7_hill 12 = .ok (.aload_n 0, 1) := by decide +kernel
theorem dX7_hill_13 : decode cX7_hill 13 = .ok (.getfield 19, 3) := by decide +kernel
theorem dX7_hill_16 : decode cX7_hill 16 = .ok (.invokevirtual 130, 3) := by decide +kernel
theorem dX7_hill_19 : decode cX7_hill 19 = .ok (.iload_n 1, 1) := by decide +kernel
theorem dX7_hill_20 : decode cX7_hill 20 = .ok (.ifCond .ne 27, 3) := by decide +kernel
theorem dX7_hill_23 : decode cX7_hill 23 = .ok (.aload_n 0, 1) := by decide +kernel
theorem dX7_hill_24 : decode cX7_hill 24 = .ok (.aload_n 0, 1) := by decide +kernel
theorem dX7_hill_25 : decode cX7_hill 25 = .ok (.getfield 28, 3) := by decide +kernel
theorem dX7_hill_28 : decode cX7_hill 28 = .ok (.invokevirtual 133, 3) := by decide +kernel
theorem dX7_hill_31 : decode cX7_hill 31 = .ok (.putfield 136, 3) := by decide +kernel
theorem dX7_hill_34 : decode cX7_hill 34 = .ok (.ldc2_w 140, 3) := by decide +kernel
theorem dX7_hill_37 : decode cX7_hill 37 = .ok (.aload_n 0, 1) := by decide +kernel
theorem dX7_hill_38 : decode cX7_hill 38 = .ok (.getfield 28, 3) := by decide +kernel
theorem dX7_hill_41 : decode cX7_hill 41 = .ok (.invokevirtual 142, 3) := by decide +kernel
theorem dX7_hill_44 : decode cX7_hill 44 = .ok (.i2l, 1) := by decide +kernel
theorem dX7_hill_45 : decode cX7_hill 45 = .ok (.lsub, 1) := by decide +kernel
theorem dX7_hill_46 : decode cX7_hill 46 = .ok (.lreturn, 1) := by decide +kernel
theorem dX7_hill_47 : decode cX7_hill 47 = .ok (.aload_n 0, 1) := by decide +kernel
theorem dX7_hill_48 : decode cX7_hill 48 = .ok (.getfield 63, 3) := by decide +kernel
theorem dX7_hill_51 : decode cX7_hill 51 = .ok (.astore_n 2, 1) := by decide +kernel
theorem dX7_hill_52 : decode cX7_hill 52 = .ok (.aload_n 0, 1) := by decide +kernel
theorem dX7_hill_53 : decode cX7_hill 53 = .ok (.aload_n 0, 1) := by decide +kernel
theorem dX7_hill_54 : decode cX7_hill 54 = .ok (.getfield 66, 3) := by decide +kernel
theorem dX7_hill_57 : decode cX7_hill 57 = .ok (.putfield 63, 3) := by decide +kernel
theorem dX7_hill_60 : decode cX7_hill 60 = .ok (.aload_n 0, 1) := by decide +kernel
theorem dX7_hill_61 : decode cX7_hill 61 = .ok (.aload_n 2, 1) := by decide +kernel
theorem dX7_hill_62 : decode cX7_hill 62 = .ok (.putfield 66, 3) := by decide +kernel
theorem dX7_hill_65 : decode cX7_hill 65 = .ok (.aload_n 0, 1) := by decide +kernel
theorem dX7_hill_66 : decode cX7_hill 66 = .ok (.iconst 1, 1) := by decide +kernel
theorem dX7_hill_67 : decode cX7_hill 67 = .ok (.putfield 145, 3) := by decide +kernel
theorem dX7_hill_70 : decode cX7_hill 70 = .ok (.aload_n 0, 1) := by decide +kernel
theorem dX7_hill_71 : decode cX7_hill 71 = .ok (.getfield 35, 3) := by decide +kernel
theorem dX7_hill_74 : decode cX7_hill 74 = .ok (.invokevirtual 149, 3) := by decide +kernel
theorem dX7_hill_77 : decode cX7_hill 77 = .ok (.aload_n 0, 1) := by decide +kernel
theorem dX7_hill_78 : decode cX7_hill 78 = .ok (.getfield 63, 3) := by decide +kernel
theorem dX7_hill_81 : decode cX7_hill 81 = .ok (.getfield 152, 3) := by decide +kernel
theorem dX7_hill_84 : decode cX7_hill 84 = .ok (.i2l, 1) := by decide +kernel
theorem dX7_hill_85 : decode cX7_hill 85 = .ok (.lreturn, 1) := by decide +kernel
theorem dX7_fault_0 : decode cX7_fault 0 = .ok (.aload_n 0, 1) := by decide +kernel
theorem dX7_fault_1 : decode cX7_fault 1 = .ok (.getfield 136, 3) := by decide +kernel
theorem dX7_fault_4 : decode cX7_fault 4 = .ok (.ireturn, 1) := by decide +kernel
set_option maxRecDepth 20000 in
theorem ggX7_ask_X7_isAsked : GoodIn wsX7_ask wsX7_isAsked := goodIn_r _ [10, 11, 12, 9, 13, 14, 15, 16, 17, 18, 19] (by decide +kernel) (by decide +kernel)
set_option maxRecDepth 20000 in
theorem gX7_ask_X7_isAsked : GoodIn wsX7_ask (va_wsS RX7 157 yX7_isAsked wsX7_isAsked) := goodIn_app (goodIn_of _ (by decide +kernel)) ggX7_ask_X7_isAsked
set_option maxRecDepth 20000 in
theorem ggX7_ask_X3_minding : GoodIn wsX7_ask wsX3_minding := goodIn_r _ [24, 25, 26, 27, 28, 29, 30, 23, 31, 32, 33, 34, 35, 36, 37, 38, 39, 40, 41, 42, 43, 44, 45, 46, 47, 48, 49, 50, 51, 52, 53, 54, 55, 56, 57, 58, 59, 60, 61, 62, 63, 64, 65, 66, 67, 68, 69, 70, 71, 121, 122, 123, 124, 125, 126, 127, 128, 129, 130, 131, 132, 133, 134] (by decide +kernel) (by decide +kernel)
set_option maxRecDepth 20000 in
theorem gX7_ask_X3_minding : GoodIn wsX7_ask (wsV RX7 161 RX3 yX3_minding wsX3_minding) := goodIn_app (goodIn_of _ (by decide +kernel)) ggX7_ask_X3_minding
set_option maxRecDepth 20000 in
theorem ggX7_ask_X3_drawFallen : GoodIn wsX7_ask wsX3_drawFallen := goodIn_r _ [75, 61, 76, 77, 78, 25, 79, 63, 64, 65, 23, 66, 67, 68, 69, 70, 71, 42, 43, 44, 80, 81, 82, 83, 84, 85, 86, 87, 88, 89, 57, 58, 59, 60, 27, 62, 51, 52, 53, 54, 55, 33, 34, 35, 36, 121, 122, 123, 124, 125, 126, 127, 128, 129, 130, 131, 132, 133, 134] (by decide +kernel) (by decide +kernel)
set_option maxRecDepth 20000 in
theorem gX7_ask_X3_drawFallen : GoodIn wsX7_ask (wsV RX7 164 RX3 yX3_drawFallen wsX3_drawFallen) := goodIn_app (goodIn_of _ (by decide +kernel)) ggX7_ask_X3_drawFallen
set_option maxRecDepth 20000 in
theorem ggX7_ask_X3_addFruit : GoodIn wsX7_ask wsX3_addFruit := goodIn_r _ [93, 61, 67, 42, 43, 23, 44, 121, 122, 123, 124, 125, 126, 127, 128, 129, 130, 131, 132, 133, 134] (by decide +kernel) (by decide +kernel)
set_option maxRecDepth 20000 in
theorem gX7_ask_X3_addFruit : GoodIn wsX7_ask (wsV RX7 167 RX3 yX3_addFruit wsX3_addFruit) := goodIn_app (goodIn_of _ (by decide +kernel)) ggX7_ask_X3_addFruit
set_option maxRecDepth 20000 in
theorem ggX7_ask_X0_keep : GoodIn wsX7_ask wsX0_keep := goodIn_r _ [98, 99, 100, 101, 102, 103, 104, 105, 54, 106, 135, 136, 137, 138, 139] (by decide +kernel) (by decide +kernel)
set_option maxRecDepth 20000 in
theorem gX7_ask_X0_keep : GoodIn wsX7_ask (wsV RX7 171 RX0 yX0_keep wsX0_keep) := goodIn_app (goodIn_of _ (by decide +kernel)) ggX7_ask_X0_keep
theorem dX7_ask_0 : decode cX7_ask 0 = .ok (.aload_n 0, 1) := by decide +kernel
theorem dX7_ask_1 : decode cX7_ask 1 = .ok (.getfield 145, 3) := by decide +kernel
theorem dX7_ask_4 : decode cX7_ask 4 = .ok (.ifCond .ne 7, 3) := by decide +kernel
theorem dX7_ask_7 : decode cX7_ask 7 = .ok (.ldc2_w 155, 3) := by decide +kernel
theorem dX7_ask_10 : decode cX7_ask 10 = .ok (.lreturn, 1) := by decide +kernel
theorem dX7_ask_11 : decode cX7_ask 11 = .ok (.iload_n 1, 1) := by decide +kernel
theorem dX7_ask_12 : decode cX7_ask 12 = .ok (.iload_n 2, 1) := by decide +kernel
theorem dX7_ask_13 : decode cX7_ask 13 = .ok (.iload_n 3, 1) := by decide +kernel
theorem dX7_ask_14 : decode cX7_ask 14 = .ok (.invokestatic 157, 3) := by decide +kernel
theorem dX7_ask_17 : decode cX7_ask 17 = .ok (.ifCond .eq 16, 3) := by decide +kernel
theorem dX7_ask_20 : decode cX7_ask 20 = .ok (.iload 4, 2) := by decide +kernel
theorem dX7_ask_22 : decode cX7_ask 22 = .ok (.iconst 1, 1) := by decide +kernel
theorem dX7_ask_23 : decode cX7_ask 23 = .ok (.if_icmp .lt 10, 3) := by decide +kernel
theorem dX7_ask_26 : decode cX7_ask 26 = .ok (.iload 4, 2) := by decide +kernel
theorem dX7_ask_28 : decode cX7_ask 28 = .ok (.ldc 160, 2) := by decide +kernel
theorem dX7_ask_30 : decode cX7_ask 30 = .ok (.if_icmp .le 7, 3) := by decide +kernel
theorem dX7_ask_33 : decode cX7_ask 33 = .ok (.ldc2_w 76, 3) := by decide +kernel
theorem dX7_ask_36 : decode cX7_ask 36 = .ok (.lreturn, 1) := by decide +kernel
theorem dX7_ask_37 : decode cX7_ask 37 = .ok (.aload_n 0, 1) := by decide +kernel
theorem dX7_ask_38 : decode cX7_ask 38 = .ok (.getfield 63, 3) := by decide +kernel
theorem dX7_ask_41 : decode cX7_ask 41 = .ok (.aload_n 0, 1) := by decide +kernel
theorem dX7_ask_42 : decode cX7_ask 42 = .ok (.getfield 63, 3) := by decide +kernel
theorem dX7_ask_45 : decode cX7_ask 45 = .ok (.iload_n 1, 1) := by decide +kernel
theorem dX7_ask_46 : decode cX7_ask 46 = .ok (.iload_n 2, 1) := by decide +kernel
theorem dX7_ask_47 : decode cX7_ask 47 = .ok (.iconst 0, 1) := by decide +kernel
theorem dX7_ask_48 : decode cX7_ask 48 = .ok (.invokevirtual 161, 3) := by decide +kernel
theorem dX7_ask_51 : decode cX7_ask 51 = .ok (.iload_n 3, 1) := by decide +kernel
theorem dX7_ask_52 : decode cX7_ask 52 = .ok (.iload 4, 2) := by decide +kernel
theorem dX7_ask_54 : decode cX7_ask 54 = .ok (.invokevirtual 164, 3) := by decide +kernel
theorem dX7_ask_57 : decode cX7_ask 57 = .ok (.istore 5, 2) := by decide +kernel
theorem dX7_ask_59 : decode cX7_ask 59 = .ok (.aload_n 0, 1) := by decide +kernel
theorem dX7_ask_60 : decode cX7_ask 60 = .ok (.getfield 63, 3) := by decide +kernel
theorem dX7_ask_63 : decode cX7_ask 63 = .ok (.iload 5, 2) := by decide +kernel
theorem dX7_ask_65 : decode cX7_ask 65 = .ok (.iconst (-1), 1) := by decide +kernel
theorem dX7_ask_66 : decode cX7_ask 66 = .ok (.invokevirtual 167, 3) := by decide +kernel
theorem dX7_ask_69 : decode cX7_ask 69 = .ok (.aload_n 0, 1) := by decide +kernel
theorem dX7_ask_70 : decode cX7_ask 70 = .ok (.getfield 35, 3) := by decide +kernel
theorem dX7_ask_73 : decode cX7_ask 73 = .ok (.iconst 0, 1) := by decide +kernel
theorem dX7_ask_74 : decode cX7_ask 74 = .ok (.iload 5, 2) := by decide +kernel
theorem dX7_ask_76 : decode cX7_ask 76 = .ok (.iconst 1, 1) := by decide +kernel
theorem dX7_ask_77 : decode cX7_ask 77 = .ok (.invokevirtual 171, 3) := by decide +kernel
theorem dX7_ask_80 : decode cX7_ask 80 = .ok (.iload 5, 2) := by decide +kernel
theorem dX7_ask_82 : decode cX7_ask 82 = .ok (.i2l, 1) := by decide +kernel
theorem dX7_ask_83 : decode cX7_ask 83 = .ok (.lreturn, 1) := by decide +kernel
set_option maxRecDepth 20000 in
theorem ggX7_pick_X3_isTree : GoodIn wsX7_pick wsX3_isTree := goodIn_r _ [10, 11, 48, 49, 50, 51, 52, 53, 54, 55, 56, 57, 58, 59, 60, 61] (by decide +kernel) (by decide +kernel)
set_option maxRecDepth 20000 in
theorem gX7_pick_X3_isTree : GoodIn wsX7_pick (wsV RX7 174 RX3 yX3_isTree wsX3_isTree) := goodIn_app (goodIn_of _ (by decide +kernel)) ggX7_pick_X3_isTree
set_option maxRecDepth 20000 in
theorem ggX7_pick_X3_addFruit : GoodIn wsX7_pick wsX3_addFruit := goodIn_r _ [15, 11, 16, 17, 18, 9, 19, 48, 49, 50, 51, 52, 53, 54, 55, 56, 57, 58, 59, 60, 61] (by decide +kernel) (by decide +kernel)
set_option maxRecDepth 20000 in
theorem gX7_pick_X3_addFruit : GoodIn wsX7_pick (wsV RX7 167 RX3 yX3_addFruit wsX3_addFruit) := goodIn_app (goodIn_of _ (by decide +kernel)) ggX7_pick_X3_addFruit
set_option maxRecDepth 20000 in
theorem ggX7_pick_X0_keep : GoodIn wsX7_pick wsX0_keep := goodIn_r _ [24, 25, 26, 27, 28, 29, 30, 31, 32, 33, 62, 63, 64, 65, 66] (by decide +kernel) (by decide +kernel)
set_option maxRecDepth 20000 in
theorem gX7_pick_X0_keep : GoodIn wsX7_pick (wsV RX7 171 RX0 yX0_keep wsX0_keep) := goodIn_app (goodIn_of _ (by decide +kernel)) ggX7_pick_X0_keep
theorem dX7_pick_0 : decode cX7_pick 0 = .ok (.aload_n 0, 1) := by decide +kernel
theorem dX7_pick_1 : decode cX7_pick 1 = .ok (.getfield 63, 3) := by decide +kernel
theorem dX7_pick_4 : decode cX7_pick 4 = .ok (.iload_n 1, 1) := by decide +kernel
theorem dX7_pick_5 : decode cX7_pick 5 = .ok (.invokevirtual 174, 3) := by decide +kernel
theorem dX7_pick_8 : decode cX7_pick 8 = .ok (.ifCond .eq 14, 3) := by decide +kernel
theorem dX7_pick_11 : decode cX7_pick 11 = .ok (.iload_n 2, 1) := by decide +kernel
theorem dX7_pick_12 : decode cX7_pick 12 = .ok (.iconst 1, 1) := by decide +kernel
theorem dX7_pick_13 : decode cX7_pick 13 = .ok (.if_icmp .lt 9, 3) := by decide +kernel
theorem dX7_pick_16 : decode cX7_pick 16 = .ok (.iload_n 2, 1) := by decide +kernel
theorem dX7_pick_17 : decode cX7_pick 17 = .ok (.bipush 9, 2) := by decide +kernel
theorem dX7_pick_19 : decode cX7_pick 19 = .ok (.if_icmp .le 7, 3) := by decide +kernel
theorem dX7_pick_22 : decode cX7_pick 22 = .ok (.ldc2_w 76, 3) := by decide +kernel
theorem dX7_pick_25 : decode cX7_pick 25 = .ok (.lreturn, 1) := by decide +kernel
theorem dX7_pick_26 : decode cX7_pick 26 = .ok (.aload_n 0, 1) := by decide +kernel
theorem dX7_pick_27 : decode cX7_pick 27 = .ok (.getfield 63, 3) := by decide +kernel
theorem dX7_pick_30 : decode cX7_pick 30 = .ok (.getfield 177, 3) := by decide +kernel
theorem dX7_pick_33 : decode cX7_pick 33 = .ok (.iload_n 1, 1) := by decide +kernel
theorem dX7_pick_34 : decode cX7_pick 34 = .ok (.iaload, 1) := by decide +kernel
theorem dX7_pick_35 : decode cX7_pick 35 = .ok (.iload_n 2, 1) := by decide +kernel
theorem dX7_pick_36 : decode cX7_pick 36 = .ok (.if_icmp .ge 7, 3) := by decide +kernel
theorem dX7_pick_39 : decode cX7_pick 39 = .ok (.ldc2_w 155, 3) := by decide +kernel
theorem dX7_pick_42 : decode cX7_pick 42 = .ok (.lreturn, 1) := by decide +kernel
theorem dX7_pick_43 : decode cX7_pick 43 = .ok (.aload_n 0, 1) := by decide +kernel
theorem dX7_pick_44 : decode cX7_pick 44 = .ok (.getfield 63, 3) := by decide +kernel
theorem dX7_pick_47 : decode cX7_pick 47 = .ok (.iconst 1, 1) := by decide +kernel
theorem dX7_pick_48 : decode cX7_pick 48 = .ok (.iload_n 1, 1) := by decide +kernel
theorem dX7_pick_49 : decode cX7_pick 49 = .ok (.ishl, 1) := by decide +kernel
theorem dX7_pick_50 : decode cX7_pick 50 = .ok (.iload_n 2, 1) := by decide +kernel
theorem dX7_pick_51 : decode cX7_pick 51 = .ok (.ineg, 1) := by decide +kernel
theorem dX7_pick_52 : decode cX7_pick 52 = .ok (.invokevirtual 167, 3) := by decide +kernel
theorem dX7_pick_55 : decode cX7_pick 55 = .ok (.aload_n 0, 1) := by decide +kernel
theorem dX7_pick_56 : decode cX7_pick 56 = .ok (.getfield 35, 3) := by decide +kernel
theorem dX7_pick_59 : decode cX7_pick 59 = .ok (.iconst 1, 1) := by decide +kernel
theorem dX7_pick_60 : decode cX7_pick 60 = .ok (.iconst 1, 1) := by decide +kernel
theorem dX7_pick_61 : decode cX7_pick 61 = .ok (.iload_n 1, 1) := by decide +kernel
theorem dX7_pick_62 : decode cX7_pick 62 = .ok (.ishl, 1) := by decide +kernel
theorem dX7_pick_63 : decode cX7_pick 63 = .ok (.iload_n 2, 1) := by decide +kernel
theorem dX7_pick_64 : decode cX7_pick 64 = .ok (.invokevirtual 171, 3) := by decide +kernel
theorem dX7_pick_67 : decode cX7_pick 67 = .ok (.aload_n 0, 1) := by decide +kernel
theorem dX7_pick_68 : decode cX7_pick 68 = .ok (.getfield 63, 3) := by decide +kernel
theorem dX7_pick_71 : decode cX7_pick 71 = .ok (.getfield 177, 3) := by decide +kernel
theorem dX7_pick_74 : decode cX7_pick 74 = .ok (.iload_n 1, 1) := by decide +kernel
theorem dX7_pick_75 : decode cX7_pick 75 = .ok (.iaload, 1) := by decide +kernel
theorem dX7_pick_76 : decode cX7_pick 76 = .ok (.i2l, 1) := by decide +kernel
theorem dX7_pick_77 : decode cX7_pick 77 = .ok (.lreturn, 1) := by decide +kernel
set_option maxRecDepth 20000 in
theorem ggX7_move_X3_isGrave : GoodIn wsX7_move wsX3_isGrave := goodIn_r _ [9, 10, 39, 40, 41, 42, 43, 44, 45, 46, 47, 48, 49, 50, 51, 52] (by decide +kernel) (by decide +kernel)
set_option maxRecDepth 20000 in
theorem gX7_move_X3_isGrave : GoodIn wsX7_move (wsV RX7 181 RX3 yX3_isGrave wsX3_isGrave) := goodIn_app (goodIn_of _ (by decide +kernel)) ggX7_move_X3_isGrave
set_option maxRecDepth 20000 in
theorem ggX7_move_X0_keep : GoodIn wsX7_move wsX0_keep := goodIn_r _ [15, 16, 17, 18, 19, 20, 21, 22, 23, 24, 53, 54, 55, 56, 57] (by decide +kernel) (by decide +kernel)
set_option maxRecDepth 20000 in
theorem gX7_move_X0_keep : GoodIn wsX7_move (wsV RX7 171 RX0 yX0_keep wsX0_keep) := goodIn_app (goodIn_of _ (by decide +kernel)) ggX7_move_X0_keep
theorem dX7_move_0 : decode cX7_move 0 = .ok (.aload_n 0, 1) := by decide +kernel
theorem dX7_move_1 : decode cX7_move 1 = .ok (.getfield 63, 3) := by decide +kernel
theorem dX7_move_4 : decode cX7_move 4 = .ok (.iload_n 1, 1) := by decide +kernel
theorem dX7_move_5 : decode cX7_move 5 = .ok (.invokevirtual 181, 3) := by decide +kernel
theorem dX7_move_8 : decode cX7_move 8 = .ok (.ifCond .eq 13, 3) := by decide +kernel
theorem dX7_move_11 : decode cX7_move 11 = .ok (.iload_n 2, 1) := by decide +kernel
theorem dX7_move_12 : decode cX7_move 12 = .ok (.ifCond .lt 9, 3) := by decide +kernel
theorem dX7_move_15 : decode cX7_move 15 = .ok (.iload_n 2, 1) := by decide +kernel
theorem dX7_move_16 : decode cX7_move 16 = .ok (.bipush 30, 2) := by decide +kernel
theorem dX7_move_18 : decode cX7_move 18 = .ok (.if_icmp .le 7, 3) := by decide +kernel
theorem dX7_move_21 : decode cX7_move 21 = .ok (.ldc2_w 76, 3) := by decide +kernel
theorem dX7_move_24 : decode cX7_move 24 = .ok (.lreturn, 1) := by decide +kernel
theorem dX7_move_25 : decode cX7_move 25 = .ok (.aload_n 0, 1) := by decide +kernel
theorem dX7_move_26 : decode cX7_move 26 = .ok (.getfield 63, 3) := by decide +kernel
theorem dX7_move_29 : decode cX7_move 29 = .ok (.getfield 184, 3) := by decide +kernel
theorem dX7_move_32 : decode cX7_move 32 = .ok (.iload_n 1, 1) := by decide +kernel
theorem dX7_move_33 : decode cX7_move 33 = .ok (.iaload, 1) := by decide +kernel
theorem dX7_move_34 : decode cX7_move 34 = .ok (.istore_n 3, 1) := by decide +kernel
theorem dX7_move_35 : decode cX7_move 35 = .ok (.aload_n 0, 1) := by decide +kernel
theorem dX7_move_36 : decode cX7_move 36 = .ok (.getfield 63, 3) := by decide +kernel
theorem dX7_move_39 : decode cX7_move 39 = .ok (.getfield 184, 3) := by decide +kernel
theorem dX7_move_42 : decode cX7_move 42 = .ok (.iload_n 1, 1) := by decide +kernel
theorem dX7_move_43 : decode cX7_move 43 = .ok (.iload_n 2, 1) := by decide +kernel
theorem dX7_move_44 : decode cX7_move 44 = .ok (.iastore, 1) := by decide +kernel
theorem dX7_move_45 : decode cX7_move 45 = .ok (.aload_n 0, 1) := by decide +kernel
theorem dX7_move_46 : decode cX7_move 46 = .ok (.getfield 35, 3) := by decide +kernel
theorem dX7_move_49 : decode cX7_move 49 = .ok (.iconst 2, 1) := by decide +kernel
theorem dX7_move_50 : decode cX7_move 50 = .ok (.iload_n 1, 1) := by decide +kernel
theorem dX7_move_51 : decode cX7_move 51 = .ok (.iload_n 3, 1) := by decide +kernel
theorem dX7_move_52 : decode cX7_move 52 = .ok (.invokevirtual 171, 3) := by decide +kernel
theorem dX7_move_55 : decode cX7_move 55 = .ok (.iload_n 3, 1) := by decide +kernel
theorem dX7_move_56 : decode cX7_move 56 = .ok (.i2l, 1) := by decide +kernel
theorem dX7_move_57 : decode cX7_move 57 = .ok (.lreturn, 1) := by decide +kernel
set_option maxRecDepth 20000 in
theorem ggX7_crack_X3_isHorn : GoodIn wsX7_crack wsX3_isHorn := goodIn_r _ [10, 11, 48, 49, 50, 51, 52, 53, 54, 55, 56, 57, 58, 59, 60, 61] (by decide +kernel) (by decide +kernel)
set_option maxRecDepth 20000 in
theorem gX7_crack_X3_isHorn : GoodIn wsX7_crack (wsV RX7 187 RX3 yX3_isHorn wsX3_isHorn) := goodIn_app (goodIn_of _ (by decide +kernel)) ggX7_crack_X3_isHorn
set_option maxRecDepth 20000 in
theorem ggX7_crack_X3_isCracked : GoodIn wsX7_crack wsX3_isCracked := goodIn_r _ [15, 16, 17, 18, 9, 19, 48, 49, 50, 51, 52, 53, 54, 55, 56, 57, 58, 59, 60, 61] (by decide +kernel) (by decide +kernel)
set_option maxRecDepth 20000 in
theorem gX7_crack_X3_isCracked : GoodIn wsX7_crack (wsV RX7 190 RX3 yX3_isCracked wsX3_isCracked) := goodIn_app (goodIn_of _ (by decide +kernel)) ggX7_crack_X3_isCracked
set_option maxRecDepth 20000 in
theorem ggX7_crack_X0_keep : GoodIn wsX7_crack wsX0_keep := goodIn_r _ [24, 25, 26, 27, 28, 29, 30, 31, 32, 33, 62, 63, 64, 65, 66] (by decide +kernel) (by decide +kernel)
set_option maxRecDepth 20000 in
theorem gX7_crack_X0_keep : GoodIn wsX7_crack (wsV RX7 171 RX0 yX0_keep wsX0_keep) := goodIn_app (goodIn_of _ (by decide +kernel)) ggX7_crack_X0_keep
theorem dX7_crack_0 : decode cX7_crack 0 = .ok (.aload_n 0, 1) := by decide +kernel
theorem dX7_crack_1 : decode cX7_crack 1 = .ok (.getfield 63, 3) := by decide +kernel
theorem dX7_crack_4 : decode cX7_crack 4 = .ok (.iload_n 1, 1) := by decide +kernel
theorem dX7_crack_5 : decode cX7_crack 5 = .ok (.invokevirtual 187, 3) := by decide +kernel
theorem dX7_crack_8 : decode cX7_crack 8 = .ok (.ifCond .ne 7, 3) := by decide +kernel
theorem dX7_crack_11 : decode cX7_crack 11 = .ok (.ldc2_w 76, 3) := by decide +kernel
theorem dX7_crack_14 : decode cX7_crack 14 = .ok (.lreturn, 1) := by decide +kernel
theorem dX7_crack_15 : decode cX7_crack 15 = .ok (.aload_n 0, 1) := by decide +kernel
theorem dX7_crack_16 : decode cX7_crack 16 = .ok (.getfield 63, 3) := by decide +kernel
theorem dX7_crack_19 : decode cX7_crack 19 = .ok (.iload_n 1, 1) := by decide +kernel
theorem dX7_crack_20 : decode cX7_crack 20 = .ok (.invokevirtual 190, 3) := by decide +kernel
theorem dX7_crack_23 : decode cX7_crack 23 = .ok (.ifCond .eq 7, 3) := by decide +kernel
theorem dX7_crack_26 : decode cX7_crack 26 = .ok (.ldc2_w 155, 3) := by decide +kernel
theorem dX7_crack_29 : decode cX7_crack 29 = .ok (.lreturn, 1) := by decide +kernel
theorem dX7_crack_30 : decode cX7_crack 30 = .ok (.aload_n 0, 1) := by decide +kernel
theorem dX7_crack_31 : decode cX7_crack 31 = .ok (.getfield 63, 3) := by decide +kernel
theorem dX7_crack_34 : decode cX7_crack 34 = .ok (.dup, 1) := by decide +kernel
theorem dX7_crack_35 : decode cX7_crack 35 = .ok (.getfield 193, 3) := by decide +kernel
theorem dX7_crack_38 : decode cX7_crack 38 = .ok (.iconst 1, 1) := by decide +kernel
theorem dX7_crack_39 : decode cX7_crack 39 = .ok (.iload_n 1, 1) := by decide +kernel
theorem dX7_crack_40 : decode cX7_crack 40 = .ok (.ishl, 1) := by decide +kernel
theorem dX7_crack_41 : decode cX7_crack 41 = .ok (.ior, 1) := by decide +kernel
theorem dX7_crack_42 : decode cX7_crack 42 = .ok (.putfield 193, 3) := by decide +kernel
theorem dX7_crack_45 : decode cX7_crack 45 = .ok (.aload_n 0, 1) := by decide +kernel
theorem dX7_crack_46 : decode cX7_crack 46 = .ok (.getfield 35, 3) := by decide +kernel
theorem dX7_crack_49 : decode cX7_crack 49 = .ok (.iconst 3, 1) := by decide +kernel
theorem dX7_crack_50 : decode cX7_crack 50 = .ok (.iload_n 1, 1) := by decide +kernel
theorem dX7_crack_51 : decode cX7_crack 51 = .ok (.iconst 0, 1) := by decide +kernel
theorem dX7_crack_52 : decode cX7_crack 52 = .ok (.invokevirtual 171, 3) := by decide +kernel
theorem dX7_crack_55 : decode cX7_crack 55 = .ok (.lconst 1, 1) := by decide +kernel
theorem dX7_crack_56 : decode cX7_crack 56 = .ok (.lreturn, 1) := by decide +kernel
set_option maxRecDepth 20000 in
theorem ggX7_undo_X0_kept : GoodIn wsX7_undo wsX0_kept := goodIn_r _ [8, 9, 49, 50, 51, 52, 53] (by decide +kernel) (by decide +kernel)
set_option maxRecDepth 20000 in
theorem gX7_undo_X0_kept : GoodIn wsX7_undo (wsV RX7 196 RX0 yX0_kept wsX0_kept) := goodIn_app (goodIn_of _ (by decide +kernel)) ggX7_undo_X0_kept
set_option maxRecDepth 20000 in
theorem ggX7_undo_X0_undoLatest : GoodIn wsX7_undo wsX0_undoLatest := goodIn_r _ [13, 9, 14, 15, 16, 17, 18, 19, 20, 21, 22, 23, 24, 25, 26, 27, 28, 29, 30, 31, 32, 33, 34, 49, 50, 51, 52, 53, 54, 55, 56, 57, 58, 59, 60, 61, 62, 63, 64, 65, 66, 67] (by decide +kernel) (by decide +kernel)
set_option maxRecDepth 20000 in
theorem gX7_undo_X0_undoLatest : GoodIn wsX7_undo (wsV RX7 199 RX0 yX0_undoLatest wsX0_undoLatest) := goodIn_app (goodIn_of _ (by decide +kernel)) ggX7_undo_X0_undoLatest
theorem dX7_undo_0 : decode cX7_undo 0 = .ok (.aload_n 0, 1) := by decide +kernel
theorem dX7_undo_1 : decode cX7_undo 1 = .ok (.getfield 35, 3) := by decide +kernel
theorem dX7_undo_4 : decode cX7_undo 4 = .ok (.invokevirtual 196, 3) := by decide +kernel
theorem dX7_undo_7 : decode cX7_undo 7 = .ok (.ifCond .ne 7, 3) := by decide +kernel
theorem dX7_undo_10 : decode cX7_undo 10 = .ok (.ldc2_w 155, 3) := by decide +kernel
theorem dX7_undo_13 : decode cX7_undo 13 = .ok (.lreturn, 1) := by decide +kernel
theorem dX7_undo_14 : decode cX7_undo 14 = .ok (.aload_n 0, 1) := by decide +kernel
theorem dX7_undo_15 : decode cX7_undo 15 = .ok (.getfield 35, 3) := by decide +kernel
theorem dX7_undo_18 : decode cX7_undo 18 = .ok (.aload_n 0, 1) := by decide +kernel
theorem dX7_undo_19 : decode cX7_undo 19 = .ok (.getfield 63, 3) := by decide +kernel
theorem dX7_undo_22 : decode cX7_undo 22 = .ok (.invokevirtual 199, 3) := by decide +kernel
theorem dX7_undo_25 : decode cX7_undo 25 = .ok (.aload_n 0, 1) := by decide +kernel
theorem dX7_undo_26 : decode cX7_undo 26 = .ok (.getfield 35, 3) := by decide +kernel
theorem dX7_undo_29 : decode cX7_undo 29 = .ok (.invokevirtual 196, 3) := by decide +kernel
theorem dX7_undo_32 : decode cX7_undo 32 = .ok (.i2l, 1) := by decide +kernel
theorem dX7_undo_33 : decode cX7_undo 33 = .ok (.lreturn, 1) := by decide +kernel
set_option maxRecDepth 20000 in
theorem ggX7_grave_X3_isGrave : GoodIn wsX7_grave wsX3_isGrave := goodIn_r _ [11, 12, 69, 70, 71, 72, 73, 74, 75, 76, 77, 78, 79, 80, 81, 82] (by decide +kernel) (by decide +kernel)
set_option maxRecDepth 20000 in
theorem gX7_grave_X3_isGrave : GoodIn wsX7_grave (wsV RX7 181 RX3 yX3_isGrave wsX3_isGrave) := goodIn_app (goodIn_of _ (by decide +kernel)) ggX7_grave_X3_isGrave
set_option maxRecDepth 20000 in
theorem ggX7_grave_X3_treeOf : GoodIn wsX7_grave wsX3_treeOf := goodIn_r _ [16, 17, 18, 19, 20, 21, 22, 23, 24, 25, 8, 9, 10, 11, 12, 26, 27, 28, 29, 30, 31, 32, 33, 34, 35, 36, 37, 69, 70, 71, 72, 73, 74, 75, 76, 77, 78, 79, 80, 81, 82] (by decide +kernel) (by decide +kernel)
set_option maxRecDepth 20000 in
theorem gX7_grave_X3_treeOf : GoodIn wsX7_grave (wsV RX7 212 RX3 yX3_treeOf wsX3_treeOf) := goodIn_app (goodIn_of _ (by decide +kernel)) ggX7_grave_X3_treeOf
set_option maxRecDepth 20000 in
theorem ggX7_grave_X3_hornsHeardBy : GoodIn wsX7_grave wsX3_hornsHeardBy := goodIn_r _ [41, 42, 25, 8, 9, 10, 11, 12, 43, 44, 45, 46, 47, 35, 36, 37, 48, 49, 50, 51, 52, 53, 20, 21, 22, 23, 24, 54, 69, 70, 71, 72, 73, 74, 75, 76, 77, 78, 79, 80, 81, 82] (by decide +kernel) (by decide +kernel)
set_option maxRecDepth 20000 in
theorem gX7_grave_X3_hornsHeardBy : GoodIn wsX7_grave (wsV RX7 216 RX3 yX3_hornsHeardBy wsX3_hornsHeardBy) := goodIn_app (goodIn_of _ (by decide +kernel)) ggX7_grave_X3_hornsHeardBy
theorem dX7_grave_0 : decode cX7_grave 0 = .ok (.aload_n 0, 1) := by decide +kernel
theorem dX7_grave_1 : decode cX7_grave 1 = .ok (.getfield 63, 3) := by decide +kernel
theorem dX7_grave_4 : decode cX7_grave 4 = .ok (.iload_n 1, 1) := by decide +kernel
theorem dX7_grave_5 : decode cX7_grave 5 = .ok (.invokevirtual 181, 3) := by decide +kernel
theorem dX7_grave_8 : decode cX7_grave 8 = .ok (.ifCond .ne 7, 3) := by decide +kernel
theorem dX7_grave_11 : decode cX7_grave 11 = .ok (.ldc2_w 76, 3) := by decide +kernel
theorem dX7_grave_14 : decode cX7_grave 14 = .ok (.lreturn, 1) := by decide +kernel
theorem dX7_grave_15 : decode cX7_grave 15 = .ok (.iload_n 2, 1) := by decide +kernel
theorem dX7_grave_16 : decode cX7_grave 16 = .ok (.tableswitch 105 0 5 #[40, 51, 62, 73, 84, 95], 40) := by decide +kernel
theorem dX7_grave_56 : decode cX7_grave 56 = .ok (.aload_n 0, 1) := by decide +kernel
theorem dX7_grave_57 : decode cX7_grave 57 = .ok (.getfield 63, 3) := by decide +kernel
theorem dX7_grave_60 : decode cX7_grave 60 = .ok (.getfield 184, 3) := by decide +kernel
theorem dX7_grave_63 : decode cX7_grave 63 = .ok (.iload_n 1, 1) := by decide +kernel
theorem dX7_grave_64 : decode cX7_grave 64 = .ok (.iaload, 1) := by decide +kernel
theorem dX7_grave_65 : decode cX7_grave 65 = .ok (.i2l, 1) := by decide +kernel
theorem dX7_grave_66 : decode cX7_grave 66 = .ok (.lreturn, 1) := by decide +kernel
theorem dX7_grave_67 : decode cX7_grave 67 = .ok (.aload_n 0, 1) := by decide +kernel
theorem dX7_grave_68 : decode cX7_grave 68 = .ok (.getfield 63, 3) := by decide +kernel
theorem dX7_grave_71 : decode cX7_grave 71 = .ok (.getfield 203, 3) := by decide +kernel
theorem dX7_grave_74 : decode cX7_grave 74 = .ok (.iload_n 1, 1) := by decide +kernel
theorem dX7_grave_75 : decode cX7_grave 75 = .ok (.iaload, 1) := by decide +kernel
theorem dX7_grave_76 : decode cX7_grave 76 = .ok (.i2l, 1) := by decide +kernel
theorem dX7_grave_77 : decode cX7_grave 77 = .ok (.lreturn, 1) := by decide +kernel
theorem dX7_grave_78 : decode cX7_grave 78 = .ok (.aload_n 0, 1) := by decide +kernel
theorem dX7_grave_79 : decode cX7_grave 79 = .ok (.getfield 63, 3) := by decide +kernel
theorem dX7_grave_82 : decode cX7_grave 82 = .ok (.getfield 206, 3) := by decide +kernel
theorem dX7_grave_85 : decode cX7_grave 85 = .ok (.iload_n 1, 1) := by decide +kernel
theorem dX7_grave_86 : decode cX7_grave 86 = .ok (.iaload, 1) := by decide +kernel
theorem dX7_grave_87 : decode cX7_grave 87 = .ok (.i2l, 1) := by decide +kernel
theorem dX7_grave_88 : decode cX7_grave 88 = .ok (.lreturn, 1) := by decide +kernel
theorem dX7_grave_89 : decode cX7_grave 89 = .ok (.aload_n 0, 1) := by decide +kernel
theorem dX7_grave_90 : decode cX7_grave 90 = .ok (.getfield 63, 3) := by decide +kernel
theorem dX7_grave_93 : decode cX7_grave 93 = .ok (.getfield 209, 3) := by decide +kernel
theorem dX7_grave_96 : decode cX7_grave 96 = .ok (.iload_n 1, 1) := by decide +kernel
theorem dX7_grave_97 : decode cX7_grave 97 = .ok (.iaload, 1) := by decide +kernel
theorem dX7_grave_98 : decode cX7_grave 98 = .ok (.i2l, 1) := by decide +kernel
theorem dX7_grave_99 : decode cX7_grave 99 = .ok (.lreturn, 1) := by decide +kernel
theorem dX7_grave_100 : decode cX7_grave 100 = .ok (.aload_n 0, 1) := by decide +kernel
theorem dX7_grave_101 : decode cX7_grave 101 = .ok (.getfield 63, 3) := by decide +kernel
theorem dX7_grave_104 : decode cX7_grave 104 = .ok (.iload_n 1, 1) := by decide +kernel
theorem dX7_grave_105 : decode cX7_grave 105 = .ok (.iconst 0, 1) := by decide +kernel
theorem dX7_grave_106 : decode cX7_grave 106 = .ok (.invokevirtual 212, 3) := by decide +kernel
theorem dX7_grave_109 : decode cX7_grave 109 = .ok (.i2l, 1) := by decide +kernel
theorem dX7_grave_110 : decode cX7_grave 110 = .ok (.lreturn, 1) := by decide +kernel
theorem dX7_grave_111 : decode cX7_grave 111 = .ok (.aload_n 0, 1) := by decide +kernel
theorem dX7_grave_112 : decode cX7_grave 112 = .ok (.getfield 63, 3) := by decide +kernel
theorem dX7_grave_115 : decode cX7_grave 115 = .ok (.iload_n 1, 1) := by decide +kernel
theorem dX7_grave_116 : decode cX7_grave 116 = .ok (.invokevirtual 216, 3) := by decide +kernel
theorem dX7_grave_119 : decode cX7_grave 119 = .ok (.i2l, 1) := by decide +kernel
theorem dX7_grave_120 : decode cX7_grave 120 = .ok (.lreturn, 1) := by decide +kernel
theorem dX7_grave_121 : decode cX7_grave 121 = .ok (.ldc2_w 76, 3) := by decide +kernel
theorem dX7_grave_124 : decode cX7_grave 124 = .ok (.lreturn, 1) := by decide +kernel
set_option maxRecDepth 20000 in
theorem ggX7_tree_X3_isTree : GoodIn wsX7_tree wsX3_isTree := goodIn_r _ [9, 10, 59, 60, 61, 62, 63, 64, 65, 66, 67, 68, 69, 70, 71, 72] (by decide +kernel) (by decide +kernel)
set_option maxRecDepth 20000 in
theorem gX7_tree_X3_isTree : GoodIn wsX7_tree (wsV RX7 174 RX3 yX3_isTree wsX3_isTree) := goodIn_app (goodIn_of _ (by decide +kernel)) ggX7_tree_X3_isTree
set_option maxRecDepth 20000 in
theorem ggX7_tree_X3_loose : GoodIn wsX7_tree wsX3_loose := goodIn_r _ [14, 15, 16, 6, 7, 8, 9, 10, 59, 60, 61, 62, 63, 64, 65, 66, 67, 68, 69, 70, 71, 72] (by decide +kernel) (by decide +kernel)
set_option maxRecDepth 20000 in
theorem gX7_tree_X3_loose : GoodIn wsX7_tree (wsV RX7 222 RX3 yX3_loose wsX3_loose) := goodIn_app (goodIn_of _ (by decide +kernel)) ggX7_tree_X3_loose
set_option maxRecDepth 20000 in
theorem ggX7_tree_X3_gravesOf : GoodIn wsX7_tree wsX3_gravesOf := goodIn_r _ [20, 21, 22, 23, 24, 8, 25, 26, 10, 27, 28, 29, 30, 31, 32, 33, 34, 35, 36, 37, 38, 39, 40, 41, 16, 6, 7, 9, 42, 43, 44, 59, 60, 61, 62, 63, 64, 65, 66, 67, 68, 69, 70, 71, 72] (by decide +kernel) (by decide +kernel)
set_option maxRecDepth 20000 in
theorem gX7_tree_X3_gravesOf : GoodIn wsX7_tree (wsV RX7 225 RX3 yX3_gravesOf wsX3_gravesOf) := goodIn_app (goodIn_of _ (by decide +kernel)) ggX7_tree_X3_gravesOf
theorem dX7_tree_0 : decode cX7_tree 0 = .ok (.aload_n 0, 1) := by decide +kernel
theorem dX7_tree_1 : decode cX7_tree 1 = .ok (.getfield 63, 3) := by decide +kernel
theorem dX7_tree_4 : decode cX7_tree 4 = .ok (.iload_n 1, 1) := by decide +kernel
theorem dX7_tree_5 : decode cX7_tree 5 = .ok (.invokevirtual 174, 3) := by decide +kernel
theorem dX7_tree_8 : decode cX7_tree 8 = .ok (.ifCond .ne 7, 3) := by decide +kernel
theorem dX7_tree_11 : decode cX7_tree 11 = .ok (.ldc2_w 76, 3) := by decide +kernel
theorem dX7_tree_14 : decode cX7_tree 14 = .ok (.lreturn, 1) := by decide +kernel
theorem dX7_tree_15 : decode cX7_tree 15 = .ok (.iload_n 2, 1) := by decide +kernel
theorem dX7_tree_16 : decode cX7_tree 16 = .ok (.tableswitch 74 0 3 #[32, 43, 54, 64], 32) := by decide +kernel
theorem dX7_tree_48 : decode cX7_tree 48 = .ok (.aload_n 0, 1) := by decide +kernel
theorem dX7_tree_49 : decode cX7_tree 49 = .ok (.getfield 63, 3) := by decide +kernel
theorem dX7_tree_52 : decode cX7_tree 52 = .ok (.getfield 219, 3) := by decide +kernel
theorem dX7_tree_55 : decode cX7_tree 55 = .ok (.iload_n 1, 1) := by decide +kernel
theorem dX7_tree_56 : decode cX7_tree 56 = .ok (.iaload, 1) := by decide +kernel
theorem dX7_tree_57 : decode cX7_tree 57 = .ok (.i2l, 1) := by decide +kernel
theorem dX7_tree_58 : decode cX7_tree 58 = .ok (.lreturn, 1) := by decide +kernel
theorem dX7_tree_59 : decode cX7_tree 59 = .ok (.aload_n 0, 1) := by decide +kernel
theorem dX7_tree_60 : decode cX7_tree 60 = .ok (.getfield 63, 3) := by decide +kernel
theorem dX7_tree_63 : decode cX7_tree 63 = .ok (.getfield 177, 3) := by decide +kernel
theorem dX7_tree_66 : decode cX7_tree 66 = .ok (.iload_n 1, 1) := by decide +kernel
theorem dX7_tree_67 : decode cX7_tree 67 = .ok (.iaload, 1) := by decide +kernel
theorem dX7_tree_68 : decode cX7_tree 68 = .ok (.i2l, 1) := by decide +kernel
theorem dX7_tree_69 : decode cX7_tree 69 = .ok (.lreturn, 1) := by decide +kernel
theorem dX7_tree_70 : decode cX7_tree 70 = .ok (.aload_n 0, 1) := by decide +kernel
theorem dX7_tree_71 : decode cX7_tree 71 = .ok (.getfield 63, 3) := by decide +kernel
theorem dX7_tree_74 : decode cX7_tree 74 = .ok (.iload_n 1, 1) := by decide +kernel
theorem dX7_tree_75 : decode cX7_tree 75 = .ok (.invokevirtual 222, 3) := by decide +kernel
theorem dX7_tree_78 : decode cX7_tree 78 = .ok (.i2l, 1) := by decide +kernel
theorem dX7_tree_79 : decode cX7_tree 79 = .ok (.lreturn, 1) := by decide +kernel
theorem dX7_tree_80 : decode cX7_tree 80 = .ok (.aload_n 0, 1) := by decide +kernel
theorem dX7_tree_81 : decode cX7_tree 81 = .ok (.getfield 63, 3) := by decide +kernel
theorem dX7_tree_84 : decode cX7_tree 84 = .ok (.iload_n 1, 1) := by decide +kernel
theorem dX7_tree_85 : decode cX7_tree 85 = .ok (.invokevirtual 225, 3) := by decide +kernel
theorem dX7_tree_88 : decode cX7_tree 88 = .ok (.i2l, 1) := by decide +kernel
theorem dX7_tree_89 : decode cX7_tree 89 = .ok (.lreturn, 1) := by decide +kernel
theorem dX7_tree_90 : decode cX7_tree 90 = .ok (.ldc2_w 76, 3) := by decide +kernel
theorem dX7_tree_93 : decode cX7_tree 93 = .ok (.lreturn, 1) := by decide +kernel
set_option maxRecDepth 20000 in
theorem ggX7_minds_X7_isMatter : GoodIn wsX7_minds wsX7_isMatter := goodIn_r _ [8] (by decide +kernel) (by decide +kernel)
set_option maxRecDepth 20000 in
theorem gX7_minds_X7_isMatter : GoodIn wsX7_minds (va_wsS RX7 228 yX7_isMatter wsX7_isMatter) := goodIn_app (goodIn_of _ (by decide +kernel)) ggX7_minds_X7_isMatter
set_option maxRecDepth 20000 in
theorem ggX7_minds_X7_isHorns : GoodIn wsX7_minds wsX7_isHorns := goodIn_r _ [11] (by decide +kernel) (by decide +kernel)
set_option maxRecDepth 20000 in
theorem gX7_minds_X7_isHorns : GoodIn wsX7_minds (va_wsS RX7 231 yX7_isHorns wsX7_isHorns) := goodIn_app (goodIn_of _ (by decide +kernel)) ggX7_minds_X7_isHorns
set_option maxRecDepth 20000 in
theorem ggX7_minds_X3_minding : GoodIn wsX7_minds wsX3_minding := goodIn_r _ [16, 17, 18, 19, 20, 21, 22, 15, 23, 24, 25, 26, 27, 28, 29, 30, 31, 32, 33, 34, 35, 36, 37, 38, 39, 40, 41, 42, 43, 44, 45, 46, 47, 48, 49, 50, 51, 52, 53, 54, 55, 56, 57, 58, 59, 60, 61, 62, 63, 78, 79, 80, 81, 82, 83, 84, 85, 86, 87, 88, 89, 90, 91] (by decide +kernel) (by decide +kernel)
set_option maxRecDepth 20000 in
theorem gX7_minds_X3_minding : GoodIn wsX7_minds (wsV RX7 161 RX3 yX3_minding wsX3_minding) := goodIn_app (goodIn_of _ (by decide +kernel)) ggX7_minds_X3_minding
theorem dX7_minds_0 : decode cX7_minds 0 = .ok (.aload_n 0, 1) := by decide +kernel
theorem dX7_minds_1 : decode cX7_minds 1 = .ok (.getfield 145, 3) := by decide +kernel
theorem dX7_minds_4 : decode cX7_minds 4 = .ok (.ifCond .ne 7, 3) := by decide +kernel
theorem dX7_minds_7 : decode cX7_minds 7 = .ok (.ldc2_w 155, 3) := by decide +kernel
theorem dX7_minds_10 : decode cX7_minds 10 = .ok (.lreturn, 1) := by decide +kernel
theorem dX7_minds_11 : decode cX7_minds 11 = .ok (.iload_n 1, 1) := by decide +kernel
theorem dX7_minds_12 : decode cX7_minds 12 = .ok (.invokestatic 228, 3) := by decide +kernel
theorem dX7_minds_15 : decode cX7_minds 15 = .ok (.ifCond .eq 10, 3) := by decide +kernel
theorem dX7_minds_18 : decode cX7_minds 18 = .ok (.iload_n 2, 1) := by decide +kernel
theorem dX7_minds_19 : decode cX7_minds 19 = .ok (.invokestatic 231, 3) := by decide +kernel
theorem dX7_minds_22 : decode cX7_minds 22 = .ok (.ifCond .ne 7, 3) := by decide +kernel
theorem dX7_minds_25 : decode cX7_minds 25 = .ok (.ldc2_w 76, 3) := by decide +kernel
theorem dX7_minds_28 : decode cX7_minds 28 = .ok (.lreturn, 1) := by decide +kernel
theorem dX7_minds_29 : decode cX7_minds 29 = .ok (.aload_n 0, 1) := by decide +kernel
theorem dX7_minds_30 : decode cX7_minds 30 = .ok (.getfield 63, 3) := by decide +kernel
theorem dX7_minds_33 : decode cX7_minds 33 = .ok (.iload_n 1, 1) := by decide +kernel
theorem dX7_minds_34 : decode cX7_minds 34 = .ok (.iload_n 2, 1) := by decide +kernel
theorem dX7_minds_35 : decode cX7_minds 35 = .ok (.iconst 0, 1) := by decide +kernel
theorem dX7_minds_36 : decode cX7_minds 36 = .ok (.invokevirtual 161, 3) := by decide +kernel
theorem dX7_minds_39 : decode cX7_minds 39 = .ok (.i2l, 1) := by decide +kernel
theorem dX7_minds_40 : decode cX7_minds 40 = .ok (.lreturn, 1) := by decide +kernel
set_option maxRecDepth 20000 in
theorem ggX7_odds_X7_isAsked : GoodIn wsX7_odds wsX7_isAsked := goodIn_r _ [10, 11, 12, 9, 13, 14, 15, 16, 17, 18, 19] (by decide +kernel) (by decide +kernel)
set_option maxRecDepth 20000 in
theorem gX7_odds_X7_isAsked : GoodIn wsX7_odds (va_wsS RX7 157 yX7_isAsked wsX7_isAsked) := goodIn_app (goodIn_of _ (by decide +kernel)) ggX7_odds_X7_isAsked
set_option maxRecDepth 20000 in
theorem ggX7_odds_X7_isPart : GoodIn wsX7_odds wsX7_isPart := goodIn_r _ [22] (by decide +kernel) (by decide +kernel)
set_option maxRecDepth 20000 in
theorem gX7_odds_X7_isPart : GoodIn wsX7_odds (va_wsS RX7 234 yX7_isPart wsX7_isPart) := goodIn_app (goodIn_of _ (by decide +kernel)) ggX7_odds_X7_isPart
set_option maxRecDepth 20000 in
theorem ggX7_odds_X3_minding : GoodIn wsX7_odds wsX3_minding := goodIn_r _ [27, 28, 29, 30, 31, 32, 33, 26, 34, 35, 36, 37, 38, 39, 40, 41, 42, 43, 44, 45, 46, 47, 48, 49, 50, 51, 52, 53, 54, 55, 56, 57, 58, 59, 60, 61, 62, 63, 64, 65, 66, 67, 68, 69, 70, 71, 72, 73, 74, 127, 128, 129, 130, 131, 132, 133, 134, 135, 136, 137, 138, 139, 140] (by decide +kernel) (by decide +kernel)
set_option maxRecDepth 20000 in
theorem gX7_odds_X3_minding : GoodIn wsX7_odds (wsV RX7 161 RX3 yX3_minding wsX3_minding) := goodIn_app (goodIn_of _ (by decide +kernel)) ggX7_odds_X3_minding
set_option maxRecDepth 20000 in
theorem ggX7_odds_X3_passing : GoodIn wsX7_odds wsX3_passing := goodIn_r _ [78, 79, 64, 80, 81, 82, 26, 83, 28, 84, 45, 46, 47, 85, 86, 87, 88, 66, 67, 68, 69, 70, 71, 72, 73, 74, 89, 90, 91, 92, 93, 94, 95, 96, 97, 98, 127, 128, 129, 130, 131, 132, 133, 134, 135, 136, 137, 138, 139, 140] (by decide +kernel) (by decide +kernel)
set_option maxRecDepth 20000 in
theorem gX7_odds_X3_passing : GoodIn wsX7_odds (wsV RX7 237 RX3 yX3_passing wsX3_passing) := goodIn_app (goodIn_of _ (by decide +kernel)) ggX7_odds_X3_passing
set_option maxRecDepth 20000 in
theorem ggX7_odds_X2_become : GoodIn wsX7_odds wsX2_become := goodIn_r _ [103, 104, 105, 106, 107, 102, 108, 141, 142] (by decide +kernel) (by decide +kernel)
set_option maxRecDepth 20000 in
theorem gX7_odds_X2_become : GoodIn wsX7_odds (wsV RX7 243 RX2 yX2_become wsX2_become) := goodIn_app (goodIn_of _ (by decide +kernel)) ggX7_odds_X2_become
set_option maxRecDepth 20000 in
theorem ggX7_odds_X2_part : GoodIn wsX7_odds wsX2_part := goodIn_r _ [112, 104, 105, 141, 142] (by decide +kernel) (by decide +kernel)
set_option maxRecDepth 20000 in
theorem gX7_odds_X2_part : GoodIn wsX7_odds (wsV RX7 247 RX2 yX2_part wsX2_part) := goodIn_app (goodIn_of _ (by decide +kernel)) ggX7_odds_X2_part
theorem dX7_odds_0 : decode cX7_odds 0 = .ok (.aload_n 0, 1) := by decide +kernel
theorem dX7_odds_1 : decode cX7_odds 1 = .ok (.getfield 145, 3) := by decide +kernel
theorem dX7_odds_4 : decode cX7_odds 4 = .ok (.ifCond .ne 7, 3) := by decide +kernel
theorem dX7_odds_7 : decode cX7_odds 7 = .ok (.ldc2_w 155, 3) := by decide +kernel
theorem dX7_odds_10 : decode cX7_odds 10 = .ok (.lreturn, 1) := by decide +kernel
theorem dX7_odds_11 : decode cX7_odds 11 = .ok (.iload_n 1, 1) := by decide +kernel
