theorem dX8_init_0 : decode cX8_init 0 = .ok (.aload_n 0, 1) := by decide +kernel
theorem dX8_init_1 : decode cX8_init 1 = .ok (.invokespecial 3, 3) := by decide +kernel
theorem dX8_init_4 : decode cX8_init 4 = .ok (.aload_n 0, 1) := by decide +kernel
theorem dX8_init_5 : decode cX8_init 5 = .ok (.bipush 8, 2) := by decide +kernel
theorem dX8_init_7 : decode cX8_init 7 = .ok (.newarray .int, 2) := by decide +kernel
theorem dX8_init_9 : decode cX8_init 9 = .ok (.dup, 1) := by decide +kernel
theorem dX8_init_10 : decode cX8_init 10 = .ok (.iconst 0, 1) := by decide +kernel
theorem dX8_init_11 : decode cX8_init 11 = .ok (.iconst (-1), 1) := by decide +kernel
theorem dX8_init_12 : decode cX8_init 12 = .ok (.iastore, 1) := by decide +kernel
theorem dX8_init_13 : decode cX8_init 13 = .ok (.dup, 1) := by decide +kernel
theorem dX8_init_14 : decode cX8_init 14 = .ok (.iconst 1, 1) := by decide +kernel
theorem dX8_init_15 : decode cX8_init 15 = .ok (.iconst (-1), 1) := by decide +kernel
theorem dX8_init_16 : decode cX8_init 16 = .ok (.iastore, 1) := by decide +kernel
theorem dX8_init_17 : decode cX8_init 17 = .ok (.dup, 1) := by decide +kernel
theorem dX8_init_18 : decode cX8_init 18 = .ok (.iconst 2, 1) := by decide +kernel
theorem dX8_init_19 : decode cX8_init 19 = .ok (.iconst (-1), 1) := by decide +kernel
theorem dX8_init_20 : decode cX8_init 20 = .ok (.iastore, 1) := by decide +kernel
theorem dX8_init_21 : decode cX8_init 21 = .ok (.dup, 1) := by decide +kernel
theorem dX8_init_22 : decode cX8_init 22 = .ok (.iconst 3, 1) := by decide +kernel
theorem dX8_init_23 : decode cX8_init 23 = .ok (.iconst (-1), 1) := by decide +kernel
theorem dX8_init_24 : decode cX8_init 24 = .ok (.iastore, 1) := by decide +kernel
theorem dX8_init_25 : decode cX8_init 25 = .ok (.dup, 1) := by decide +kernel
theorem dX8_init_26 : decode cX8_init 26 = .ok (.iconst 4, 1) := by decide +kernel
theorem dX8_init_27 : decode cX8_init 27 = .ok (.iconst (-1), 1) := by decide +kernel
theorem dX8_init_28 : decode cX8_init 28 = .ok (.iastore, 1) := by decide +kernel
theorem dX8_init_29 : decode cX8_init 29 = .ok (.dup, 1) := by decide +kernel
theorem dX8_init_30 : decode cX8_init 30 = .ok (.iconst 5, 1) := by decide +kernel
theorem dX8_init_31 : decode cX8_init 31 = .ok (.iconst (-1), 1) := by decide +kernel
theorem dX8_init_32 : decode cX8_init 32 = .ok (.iastore, 1) := by decide +kernel
theorem dX8_init_33 : decode cX8_init 33 = .ok (.dup, 1) := by decide +kernel
theorem dX8_init_34 : decode cX8_init 34 = .ok (.bipush 6, 2) := by decide +kernel
theorem dX8_init_36 : decode cX8_init 36 = .ok (.iconst (-1), 1) := by decide +kernel
theorem dX8_init_37 : decode cX8_init 37 = .ok (.iastore, 1) := by decide +kernel
theorem dX8_init_38 : decode cX8_init 38 = .ok (.dup, 1) := by decide +kernel
theorem dX8_init_39 : decode cX8_init 39 = .ok (.bipush 7, 2) := by decide +kernel
theorem dX8_init_41 : decode cX8_init 41 = .ok (.iconst (-1), 1) := by decide +kernel
theorem dX8_init_42 : decode cX8_init 42 = .ok (.iastore, 1) := by decide +kernel
theorem dX8_init_43 : decode cX8_init 43 = .ok (.putfield 9, 3) := by decide +kernel
theorem dX8_init_46 : decode cX8_init 46 = .ok (.aload_n 0, 1) := by decide +kernel
theorem dX8_init_47 : decode cX8_init 47 = .ok (.bipush 8, 2) := by decide +kernel
theorem dX8_init_49 : decode cX8_init 49 = .ok (.newarray .int, 2) := by decide +kernel
theorem dX8_init_51 : decode cX8_init 51 = .ok (.putfield 13, 3) := by decide +kernel
theorem dX8_init_54 : decode cX8_init 54 = .ok (.aload_n 0, 1) := by decide +kernel
theorem dX8_init_55 : decode cX8_init 55 = .ok (.sipush 320, 3) := by decide +kernel
theorem dX8_init_58 : decode cX8_init 58 = .ok (.newarray .int, 2) := by decide +kernel
theorem dX8_init_60 : decode cX8_init 60 = .ok (.putfield 16, 3) := by decide +kernel
theorem dX8_init_63 : decode cX8_init 63 = .ok (.aload_n 0, 1) := by decide +kernel
theorem dX8_init_64 : decode cX8_init 64 = .ok (.bipush 59, 2) := by decide +kernel
theorem dX8_init_66 : decode cX8_init 66 = .ok (.newarray .int, 2) := by decide +kernel
theorem dX8_init_68 : decode cX8_init 68 = .ok (.putfield 19, 3) := by decide +kernel
theorem dX8_init_71 : decode cX8_init 71 = .ok (.aload_n 0, 1) := by decide +kernel
theorem dX8_init_72 : decode cX8_init 72 = .ok (.bipush 59, 2) := by decide +kernel
theorem dX8_init_74 : decode cX8_init 74 = .ok (.newarray .int, 2) := by decide +kernel
theorem dX8_init_76 : decode cX8_init 76 = .ok (.putfield 22, 3) := by decide +kernel
theorem dX8_init_79 : decode cX8_init 79 = .ok (.aload_n 0, 1) := by decide +kernel
theorem dX8_init_80 : decode cX8_init 80 = .ok (.sipush 1416, 3) := by decide +kernel
theorem dX8_init_83 : decode cX8_init 83 = .ok (.newarray .int, 2) := by decide +kernel
theorem dX8_init_85 : decode cX8_init 85 = .ok (.putfield 25, 3) := by decide +kernel
theorem dX8_init_88 : decode cX8_init 88 = .ok (.aload_n 0, 1) := by decide +kernel
theorem dX8_init_89 : decode cX8_init 89 = .ok (.sipush 400, 3) := by decide +kernel
theorem dX8_init_92 : decode cX8_init 92 = .ok (.newarray .int, 2) := by decide +kernel
theorem dX8_init_94 : decode cX8_init 94 = .ok (.putfield 28, 3) := by decide +kernel
theorem dX8_init_97 : decode cX8_init 97 = .ok (.aload_n 0, 1) := by decide +kernel
theorem dX8_init_98 : decode cX8_init 98 = .ok (.iconst 2, 1) := by decide +kernel
theorem dX8_init_99 : decode cX8_init 99 = .ok (.newarray .boolean, 2) := by decide +kernel
theorem dX8_init_101 : decode cX8_init 101 = .ok (.putfield 31, 3) := by decide +kernel
theorem dX8_init_104 : decode cX8_init 104 = .ok (.aload_n 0, 1) := by decide +kernel
theorem dX8_init_105 : decode cX8_init 105 = .ok (.bipush 118, 2) := by decide +kernel
theorem dX8_init_107 : decode cX8_init 107 = .ok (.newarray .int, 2) := by decide +kernel
theorem dX8_init_109 : decode cX8_init 109 = .ok (.putfield 35, 3) := by decide +kernel
theorem dX8_init_112 : decode cX8_init 112 = .ok (.aload_n 0, 1) := by decide +kernel
theorem dX8_init_113 : decode cX8_init 113 = .ok (.bipush 16, 2) := by decide +kernel
theorem dX8_init_115 : decode cX8_init 115 = .ok (.newarray .int, 2) := by decide +kernel
theorem dX8_init_117 : decode cX8_init 117 = .ok (.putfield 38, 3) := by decide +kernel
theorem dX8_init_120 : decode cX8_init 120 = .ok (.return_, 1) := by decide +kernel
theorem dX8_in_0 : decode cX8_in 0 = .ok (.lload_n 0, 1) := by decide +kernel
theorem dX8_in_1 : decode cX8_in 1 = .ok (.lload_n 2, 1) := by decide +kernel
theorem dX8_in_2 : decode cX8_in 2 = .ok (.lcmp, 1) := by decide +kernel
theorem dX8_in_3 : decode cX8_in 3 = .ok (.ifCond .lt 14, 3) := by decide +kernel
theorem dX8_in_6 : decode cX8_in 6 = .ok (.lload_n 0, 1) := by decide +kernel
theorem dX8_in_7 : decode cX8_in 7 = .ok (.lload 4, 2) := by decide +kernel
theorem dX8_in_9 : decode cX8_in 9 = .ok (.lcmp, 1) := by decide +kernel
theorem dX8_in_10 : decode cX8_in 10 = .ok (.ifCond .gt 7, 3) := by decide +kernel
theorem dX8_in_13 : decode cX8_in 13 = .ok (.iconst 1, 1) := by decide +kernel
theorem dX8_in_14 : decode cX8_in 14 = .ok (.goto 4, 3) := by decide +kernel
theorem dX8_in_17 : decode cX8_in 17 = .ok (.iconst 0, 1) := by decide +kernel
theorem dX8_in_18 : decode cX8_in 18 = .ok (.ireturn, 1) := by decide +kernel
theorem dX8_finding_0 : decode cX8_finding 0 = .ok (.aload_n 0, 1) := by decide +kernel
theorem dX8_finding_1 : decode cX8_finding 1 = .ok (.iload_n 1, 1) := by decide +kernel
theorem dX8_finding_2 : decode cX8_finding 2 = .ok (.putfield 45, 3) := by decide +kernel
theorem dX8_finding_5 : decode cX8_finding 5 = .ok (.ldc2_w 48, 3) := by decide +kernel
theorem dX8_finding_8 : decode cX8_finding 8 = .ok (.iload_n 1, 1) := by decide +kernel
theorem dX8_finding_9 : decode cX8_finding 9 = .ok (.i2l, 1) := by decide +kernel
theorem dX8_finding_10 : decode cX8_finding 10 = .ok (.lsub, 1) := by decide +kernel
theorem dX8_finding_11 : decode cX8_finding 11 = .ok (.lreturn, 1) := by decide +kernel
set_option maxRecDepth 20000 in
theorem ggX8_isRow_X8_in : GoodIn wsX8_isRow wsX8_in := goodIn_r _ [5] (by decide +kernel) (by decide +kernel)
set_option maxRecDepth 20000 in
theorem gX8_isRow_X8_in : GoodIn wsX8_isRow (va_wsS RX8 52 yX8_in wsX8_in) := goodIn_app (goodIn_of _ (by decide +kernel)) ggX8_isRow_X8_in
theorem dX8_isRow_0 : decode cX8_isRow 0 = .ok (.iload_n 0, 1) := by decide +kernel
theorem dX8_isRow_1 : decode cX8_isRow 1 = .ok (.i2l, 1) := by decide +kernel
theorem dX8_isRow_2 : decode cX8_isRow 2 = .ok (.lconst 0, 1) := by decide +kernel
theorem dX8_isRow_3 : decode cX8_isRow 3 = .ok (.ldc2_w 50, 3) := by decide +kernel
theorem dX8_isRow_6 : decode cX8_isRow 6 = .ok (.invokestatic 52, 3) := by decide +kernel
theorem dX8_isRow_9 : decode cX8_isRow 9 = .ok (.ireturn, 1) := by decide +kernel
set_option maxRecDepth 20000 in
theorem ggX8_row_X8_isRow : GoodIn wsX8_row wsX8_isRow := goodIn_r _ [11, 12, 13, 14, 10, 15] (by decide +kernel) (by decide +kernel)
set_option maxRecDepth 20000 in
theorem gX8_row_X8_isRow : GoodIn wsX8_row (va_wsS RX8 56 yX8_isRow wsX8_isRow) := goodIn_app (goodIn_of _ (by decide +kernel)) ggX8_row_X8_isRow
set_option maxRecDepth 20000 in
theorem ggX8_row_X8_in : GoodIn wsX8_row wsX8_in := goodIn_r _ [15] (by decide +kernel) (by decide +kernel)
set_option maxRecDepth 20000 in
theorem gX8_row_X8_in : GoodIn wsX8_row (va_wsS RX8 52 yX8_in wsX8_in) := goodIn_app (goodIn_of _ (by decide +kernel)) ggX8_row_X8_in
set_option maxRecDepth 20000 in
theorem ggX8_row_X8_finding : GoodIn wsX8_row wsX8_finding := goodIn_r _ [19, 4, 20, 21, 22, 23, 24, 25, 26, 27, 28, 29, 30, 31, 32, 33, 34, 35, 36, 37, 38, 39, 40, 41, 42, 43, 44, 45, 46, 47] (by decide +kernel) (by decide +kernel)
set_option maxRecDepth 20000 in
theorem gX8_row_X8_finding : GoodIn wsX8_row (wsV RX8 64 RX8 yX8_finding wsX8_finding) := goodIn_app (goodIn_of _ (by decide +kernel)) ggX8_row_X8_finding
theorem dX8_row_0 : decode cX8_row 0 = .ok (.aload_n 0, 1) := by decide +kernel
theorem dX8_row_1 : decode cX8_row 1 = .ok (.iconst 0, 1) := by decide +kernel
theorem dX8_row_2 : decode cX8_row 2 = .ok (.putfield 41, 3) := by decide +kernel
theorem dX8_row_5 : decode cX8_row 5 = .ok (.iload_n 1, 1) := by decide +kernel
theorem dX8_row_6 : decode cX8_row 6 = .ok (.invokestatic 56, 3) := by decide +kernel
theorem dX8_row_9 : decode cX8_row 9 = .ok (.ifCond .eq 21, 3) := by decide +kernel
theorem dX8_row_12 : decode cX8_row 12 = .ok (.iload_n 2, 1) := by decide +kernel
theorem dX8_row_13 : decode cX8_row 13 = .ok (.i2l, 1) := by decide +kernel
theorem dX8_row_14 : decode cX8_row 14 = .ok (.lconst 0, 1) := by decide +kernel
theorem dX8_row_15 : decode cX8_row 15 = .ok (.ldc2_w 60, 3) := by decide +kernel
theorem dX8_row_18 : decode cX8_row 18 = .ok (.invokestatic 52, 3) := by decide +kernel
theorem dX8_row_21 : decode cX8_row 21 = .ok (.ifCond .eq 9, 3) := by decide +kernel
theorem dX8_row_24 : decode cX8_row 24 = .ok (.iload_n 3, 1) := by decide +kernel
theorem dX8_row_25 : decode cX8_row 25 = .ok (.bipush 40, 2) := by decide +kernel
theorem dX8_row_27 : decode cX8_row 27 = .ok (.if_icmp .le 7, 3) := by decide +kernel
theorem dX8_row_30 : decode cX8_row 30 = .ok (.ldc2_w 62, 3) := by decide +kernel
theorem dX8_row_33 : decode cX8_row 33 = .ok (.lreturn, 1) := by decide +kernel
theorem dX8_row_34 : decode cX8_row 34 = .ok (.aload_n 0, 1) := by decide +kernel
theorem dX8_row_35 : decode cX8_row 35 = .ok (.iconst 0, 1) := by decide +kernel
theorem dX8_row_36 : decode cX8_row 36 = .ok (.putfield 45, 3) := by decide +kernel
theorem dX8_row_39 : decode cX8_row 39 = .ok (.iload_n 3, 1) := by decide +kernel
theorem dX8_row_40 : decode cX8_row 40 = .ok (.ifCond .ge 9, 3) := by decide +kernel
theorem dX8_row_43 : decode cX8_row 43 = .ok (.aload_n 0, 1) := by decide +kernel
theorem dX8_row_44 : decode cX8_row 44 = .ok (.iconst 4, 1) := by decide +kernel
theorem dX8_row_45 : decode cX8_row 45 = .ok (.invokevirtual 64, 3) := by decide +kernel
theorem dX8_row_48 : decode cX8_row 48 = .ok (.lreturn, 1) := by decide +kernel
theorem dX8_row_49 : decode cX8_row 49 = .ok (.aload_n 0, 1) := by decide +kernel
theorem dX8_row_50 : decode cX8_row 50 = .ok (.getfield 9, 3) := by decide +kernel
theorem dX8_row_53 : decode cX8_row 53 = .ok (.iload_n 1, 1) := by decide +kernel
theorem dX8_row_54 : decode cX8_row 54 = .ok (.iload_n 2, 1) := by decide +kernel
theorem dX8_row_55 : decode cX8_row 55 = .ok (.iastore, 1) := by decide +kernel
theorem dX8_row_56 : decode cX8_row 56 = .ok (.aload_n 0, 1) := by decide +kernel
theorem dX8_row_57 : decode cX8_row 57 = .ok (.getfield 13, 3) := by decide +kernel
theorem dX8_row_60 : decode cX8_row 60 = .ok (.iload_n 1, 1) := by decide +kernel
theorem dX8_row_61 : decode cX8_row 61 = .ok (.iload_n 3, 1) := by decide +kernel
theorem dX8_row_62 : decode cX8_row 62 = .ok (.iastore, 1) := by decide +kernel
theorem dX8_row_63 : decode cX8_row 63 = .ok (.iconst 0, 1) := by decide +kernel
theorem dX8_row_64 : decode cX8_row 64 = .ok (.istore 4, 2) := by decide +kernel
theorem dX8_row_66 : decode cX8_row 66 = .ok (.iload 4, 2) := by decide +kernel
theorem dX8_row_68 : decode cX8_row 68 = .ok (.bipush 40, 2) := by decide +kernel
theorem dX8_row_70 : decode cX8_row 70 = .ok (.if_icmp .ge 22, 3) := by decide +kernel
theorem dX8_row_73 : decode cX8_row 73 = .ok (.aload_n 0, 1) := by decide +kernel
theorem dX8_row_74 : decode cX8_row 74 = .ok (.getfield 16, 3) := by decide +kernel
theorem dX8_row_77 : decode cX8_row 77 = .ok (.bipush 40, 2) := by decide +kernel
theorem dX8_row_79 : decode cX8_row 79 = .ok (.iload_n 1, 1) := by decide +kernel
theorem dX8_row_80 : decode cX8_row 80 = .ok (.imul, 1) := by decide +kernel
theorem dX8_row_81 : decode cX8_row 81 = .ok (.iload 4, 2) := by decide +kernel
theorem dX8_row_83 : decode cX8_row 83 = .ok (.iadd, 1) := by decide +kernel
theorem dX8_row_84 : decode cX8_row 84 = .ok (.iconst 0, 1) := by decide +kernel
theorem dX8_row_85 : decode cX8_row 85 = .ok (.iastore, 1) := by decide +kernel
theorem dX8_row_86 : decode cX8_row 86 = .ok (.iinc 4 1, 3) := by decide +kernel
theorem dX8_row_89 : decode cX8_row 89 = .ok (.goto (-23), 3) := by decide +kernel
theorem dX8_row_92 : decode cX8_row 92 = .ok (.iload_n 3, 1) := by decide +kernel
theorem dX8_row_93 : decode cX8_row 93 = .ok (.i2l, 1) := by decide +kernel
theorem dX8_row_94 : decode cX8_row 94 = .ok (.lreturn, 1) := by decide +kernel
set_option maxRecDepth 20000 in
theorem ggX8_set_X8_isRow : GoodIn wsX8_set wsX8_isRow := goodIn_r _ [10, 11, 12, 13, 9, 14] (by decide +kernel) (by decide +kernel)
set_option maxRecDepth 20000 in
theorem gX8_set_X8_isRow : GoodIn wsX8_set (va_wsS RX8 56 yX8_isRow wsX8_isRow) := goodIn_app (goodIn_of _ (by decide +kernel)) ggX8_set_X8_isRow
set_option maxRecDepth 20000 in
theorem ggX8_set_X8_finding : GoodIn wsX8_set wsX8_finding := goodIn_r _ [18, 3, 19, 20, 21, 22, 23, 24, 25, 26, 27, 28, 29, 30, 31, 32, 33, 34, 35, 36, 37, 38, 39, 40, 41, 42, 43, 44, 45, 46] (by decide +kernel) (by decide +kernel)
set_option maxRecDepth 20000 in
theorem gX8_set_X8_finding : GoodIn wsX8_set (wsV RX8 64 RX8 yX8_finding wsX8_finding) := goodIn_app (goodIn_of _ (by decide +kernel)) ggX8_set_X8_finding
set_option maxRecDepth 20000 in
theorem ggX8_set_X8_in : GoodIn wsX8_set wsX8_in := goodIn_r _ [14] (by decide +kernel) (by decide +kernel)
set_option maxRecDepth 20000 in
theorem gX8_set_X8_in : GoodIn wsX8_set (va_wsS RX8 52 yX8_in wsX8_in) := goodIn_app (goodIn_of _ (by decide +kernel)) ggX8_set_X8_in
theorem dX8_set_0 : decode cX8_set 0 = .ok (.aload_n 0, 1) := by decide +kernel
theorem dX8_set_1 : decode cX8_set 1 = .ok (.iconst 0, 1) := by decide +kernel
theorem dX8_set_2 : decode cX8_set 2 = .ok (.putfield 41, 3) := by decide +kernel
theorem dX8_set_5 : decode cX8_set 5 = .ok (.iload_n 1, 1) := by decide +kernel
theorem dX8_set_6 : decode cX8_set 6 = .ok (.invokestatic 56, 3) := by decide +kernel
theorem dX8_set_9 : decode cX8_set 9 = .ok (.ifCond .ne 7, 3) := by decide +kernel
theorem dX8_set_12 : decode cX8_set 12 = .ok (.ldc2_w 62, 3) := by decide +kernel
theorem dX8_set_15 : decode cX8_set 15 = .ok (.lreturn, 1) := by decide +kernel
theorem dX8_set_16 : decode cX8_set 16 = .ok (.aload_n 0, 1) := by decide +kernel
theorem dX8_set_17 : decode cX8_set 17 = .ok (.iconst 0, 1) := by decide +kernel
theorem dX8_set_18 : decode cX8_set 18 = .ok (.putfield 45, 3) := by decide +kernel
theorem dX8_set_21 : decode cX8_set 21 = .ok (.aload_n 0, 1) := by decide +kernel
theorem dX8_set_22 : decode cX8_set 22 = .ok (.getfield 9, 3) := by decide +kernel
theorem dX8_set_25 : decode cX8_set 25 = .ok (.iload_n 1, 1) := by decide +kernel
theorem dX8_set_26 : decode cX8_set 26 = .ok (.iaload, 1) := by decide +kernel
theorem dX8_set_27 : decode cX8_set 27 = .ok (.ifCond .ge 9, 3) := by decide +kernel
theorem dX8_set_30 : decode cX8_set 30 = .ok (.aload_n 0, 1) := by decide +kernel
theorem dX8_set_31 : decode cX8_set 31 = .ok (.iconst 1, 1) := by decide +kernel
theorem dX8_set_32 : decode cX8_set 32 = .ok (.invokevirtual 64, 3) := by decide +kernel
theorem dX8_set_35 : decode cX8_set 35 = .ok (.lreturn, 1) := by decide +kernel
theorem dX8_set_36 : decode cX8_set 36 = .ok (.iload_n 2, 1) := by decide +kernel
theorem dX8_set_37 : decode cX8_set 37 = .ok (.i2l, 1) := by decide +kernel
theorem dX8_set_38 : decode cX8_set 38 = .ok (.lconst 0, 1) := by decide +kernel
theorem dX8_set_39 : decode cX8_set 39 = .ok (.aload_n 0, 1) := by decide +kernel
theorem dX8_set_40 : decode cX8_set 40 = .ok (.getfield 13, 3) := by decide +kernel
theorem dX8_set_43 : decode cX8_set 43 = .ok (.iload_n 1, 1) := by decide +kernel
theorem dX8_set_44 : decode cX8_set 44 = .ok (.iaload, 1) := by decide +kernel
theorem dX8_set_45 : decode cX8_set 45 = .ok (.iconst 1, 1) := by decide +kernel
theorem dX8_set_46 : decode cX8_set 46 = .ok (.isub, 1) := by decide +kernel
theorem dX8_set_47 : decode cX8_set 47 = .ok (.i2l, 1) := by decide +kernel
theorem dX8_set_48 : decode cX8_set 48 = .ok (.invokestatic 52, 3) := by decide +kernel
theorem dX8_set_51 : decode cX8_set 51 = .ok (.ifCond .ne 9, 3) := by decide +kernel
theorem dX8_set_54 : decode cX8_set 54 = .ok (.aload_n 0, 1) := by decide +kernel
theorem dX8_set_55 : decode cX8_set 55 = .ok (.iconst 2, 1) := by decide +kernel
theorem dX8_set_56 : decode cX8_set 56 = .ok (.invokevirtual 64, 3) := by decide +kernel
theorem dX8_set_59 : decode cX8_set 59 = .ok (.lreturn, 1) := by decide +kernel
theorem dX8_set_60 : decode cX8_set 60 = .ok (.aload_n 0, 1) := by decide +kernel
theorem dX8_set_61 : decode cX8_set 61 = .ok (.getfield 16, 3) := by decide +kernel
theorem dX8_set_64 : decode cX8_set 64 = .ok (.bipush 40, 2) := by decide +kernel
theorem dX8_set_66 : decode cX8_set 66 = .ok (.iload_n 1, 1) := by decide +kernel
theorem dX8_set_67 : decode cX8_set 67 = .ok (.imul, 1) := by decide +kernel
theorem dX8_set_68 : decode cX8_set 68 = .ok (.iload_n 2, 1) := by decide +kernel
theorem dX8_set_69 : decode cX8_set 69 = .ok (.iadd, 1) := by decide +kernel
theorem dX8_set_70 : decode cX8_set 70 = .ok (.aload_n 0, 1) := by decide +kernel
theorem dX8_set_71 : decode cX8_set 71 = .ok (.getfield 9, 3) := by decide +kernel
theorem dX8_set_74 : decode cX8_set 74 = .ok (.iload_n 1, 1) := by decide +kernel
theorem dX8_set_75 : decode cX8_set 75 = .ok (.iaload, 1) := by decide +kernel
theorem dX8_set_76 : decode cX8_set 76 = .ok (.ifCond .ne 8, 3) := by decide +kernel
theorem dX8_set_79 : decode cX8_set 79 = .ok (.iload_n 3, 1) := by decide +kernel
theorem dX8_set_80 : decode cX8_set 80 = .ok (.i2b, 1) := by decide +kernel
theorem dX8_set_81 : decode cX8_set 81 = .ok (.goto 19, 3) := by decide +kernel
theorem dX8_set_84 : decode cX8_set 84 = .ok (.aload_n 0, 1) := by decide +kernel
theorem dX8_set_85 : decode cX8_set 85 = .ok (.getfield 9, 3) := by decide +kernel
theorem dX8_set_88 : decode cX8_set 88 = .ok (.iload_n 1, 1) := by decide +kernel
theorem dX8_set_89 : decode cX8_set 89 = .ok (.iaload, 1) := by decide +kernel
theorem dX8_set_90 : decode cX8_set 90 = .ok (.iconst 1, 1) := by decide +kernel
theorem dX8_set_91 : decode cX8_set 91 = .ok (.if_icmp .ne 8, 3) := by decide +kernel
theorem dX8_set_94 : decode cX8_set 94 = .ok (.iload_n 3, 1) := by decide +kernel
theorem dX8_set_95 : decode cX8_set 95 = .ok (.i2s, 1) := by decide +kernel
theorem dX8_set_96 : decode cX8_set 96 = .ok (.goto 4, 3) := by decide +kernel
theorem dX8_set_99 : decode cX8_set 99 = .ok (.iload_n 3, 1) := by decide +kernel
theorem dX8_set_100 : decode cX8_set 100 = .ok (.iastore, 1) := by decide +kernel
theorem dX8_set_101 : decode cX8_set 101 = .ok (.aload_n 0, 1) := by decide +kernel
theorem dX8_set_102 : decode cX8_set 102 = .ok (.getfield 16, 3) := by decide +kernel
theorem dX8_set_105 : decode cX8_set 105 = .ok (.bipush 40, 2) := by decide +kernel
theorem dX8_set_107 : decode cX8_set 107 = .ok (.iload_n 1, 1) := by decide +kernel
theorem dX8_set_108 : decode cX8_set 108 = .ok (.imul, 1) := by decide +kernel
theorem dX8_set_109 : decode cX8_set 109 = .ok (.iload_n 2, 1) := by decide +kernel
theorem dX8_set_110 : decode cX8_set 110 = .ok (.iadd, 1) := by decide +kernel
theorem dX8_set_111 : decode cX8_set 111 = .ok (.iaload, 1) := by decide +kernel
theorem dX8_set_112 : decode cX8_set 112 = .ok (.i2l, 1) := by decide +kernel
theorem dX8_set_113 : decode cX8_set 113 = .ok (.lreturn, 1) := by decide +kernel
set_option maxRecDepth 20000 in
theorem ggX8_copy_X8_isRow : GoodIn wsX8_copy wsX8_isRow := goodIn_r _ [10, 11, 12, 13, 9, 14] (by decide +kernel) (by decide +kernel)
set_option maxRecDepth 20000 in
theorem gX8_copy_X8_isRow : GoodIn wsX8_copy (va_wsS RX8 56 yX8_isRow wsX8_isRow) := goodIn_app (goodIn_of _ (by decide +kernel)) ggX8_copy_X8_isRow
set_option maxRecDepth 20000 in
theorem ggX8_copy_X8_finding : GoodIn wsX8_copy wsX8_finding := goodIn_r _ [18, 3, 19, 20, 21, 22, 23, 24, 25, 26, 27, 28, 29, 30, 31, 32, 33, 34, 35, 36, 37, 38, 39, 40, 41, 42, 43, 44, 45, 46] (by decide +kernel) (by decide +kernel)
set_option maxRecDepth 20000 in
theorem gX8_copy_X8_finding : GoodIn wsX8_copy (wsV RX8 64 RX8 yX8_finding wsX8_finding) := goodIn_app (goodIn_of _ (by decide +kernel)) ggX8_copy_X8_finding
theorem dX8_copy_0 : decode cX8_copy 0 = .ok (.aload_n 0, 1) := by decide +kernel
theorem dX8_copy_1 : decode cX8_copy 1 = .ok (.iconst 0, 1) := by decide +kernel
theorem dX8_copy_2 : decode cX8_copy 2 = .ok (.putfield 41, 3) := by decide +kernel
theorem dX8_copy_5 : decode cX8_copy 5 = .ok (.iload_n 1, 1) := by decide +kernel
theorem dX8_copy_6 : decode cX8_copy 6 = .ok (.invokestatic 56, 3) := by decide +kernel
theorem dX8_copy_9 : decode cX8_copy 9 = .ok (.ifCond .eq 10, 3) := by decide +kernel
theorem dX8_copy_12 : decode cX8_copy 12 = .ok (.iload_n 3, 1) := by decide +kernel
theorem dX8_copy_13 : decode cX8_copy 13 = .ok (.invokestatic 56, 3) := by decide +kernel
theorem dX8_copy_16 : decode cX8_copy 16 = .ok (.ifCond .ne 7, 3) := by decide +kernel
theorem dX8_copy_19 : decode cX8_copy 19 = .ok (.ldc2_w 62, 3) := by decide +kernel
theorem dX8_copy_22 : decode cX8_copy 22 = .ok (.lreturn, 1) := by decide +kernel
theorem dX8_copy_23 : decode cX8_copy 23 = .ok (.aload_n 0, 1) := by decide +kernel
theorem dX8_copy_24 : decode cX8_copy 24 = .ok (.iconst 0, 1) := by decide +kernel
theorem dX8_copy_25 : decode cX8_copy 25 = .ok (.putfield 45, 3) := by decide +kernel
theorem dX8_copy_28 : decode cX8_copy 28 = .ok (.aload_n 0, 1) := by decide +kernel
theorem dX8_copy_29 : decode cX8_copy 29 = .ok (.getfield 9, 3) := by decide +kernel
theorem dX8_copy_32 : decode cX8_copy 32 = .ok (.iload_n 1, 1) := by decide +kernel
theorem dX8_copy_33 : decode cX8_copy 33 = .ok (.iaload, 1) := by decide +kernel
theorem dX8_copy_34 : decode cX8_copy 34 = .ok (.ifCond .lt 12, 3) := by decide +kernel
theorem dX8_copy_37 : decode cX8_copy 37 = .ok (.aload_n 0, 1) := by decide +kernel
theorem dX8_copy_38 : decode cX8_copy 38 = .ok (.getfield 9, 3) := by decide +kernel
theorem dX8_copy_41 : decode cX8_copy 41 = .ok (.iload_n 3, 1) := by decide +kernel
theorem dX8_copy_42 : decode cX8_copy 42 = .ok (.iaload, 1) := by decide +kernel
theorem dX8_copy_43 : decode cX8_copy 43 = .ok (.ifCond .ge 9, 3) := by decide +kernel
theorem dX8_copy_46 : decode cX8_copy 46 = .ok (.aload_n 0, 1) := by decide +kernel
theorem dX8_copy_47 : decode cX8_copy 47 = .ok (.iconst 1, 1) := by decide +kernel
theorem dX8_copy_48 : decode cX8_copy 48 = .ok (.invokevirtual 64, 3) := by decide +kernel
theorem dX8_copy_51 : decode cX8_copy 51 = .ok (.lreturn, 1) := by decide +kernel
theorem dX8_copy_52 : decode cX8_copy 52 = .ok (.aload_n 0, 1) := by decide +kernel
theorem dX8_copy_53 : decode cX8_copy 53 = .ok (.getfield 9, 3) := by decide +kernel
theorem dX8_copy_56 : decode cX8_copy 56 = .ok (.iload_n 1, 1) := by decide +kernel
theorem dX8_copy_57 : decode cX8_copy 57 = .ok (.iaload, 1) := by decide +kernel
theorem dX8_copy_58 : decode cX8_copy 58 = .ok (.aload_n 0, 1) := by decide +kernel
theorem dX8_copy_59 : decode cX8_copy 59 = .ok (.getfield 9, 3) := by decide +kernel
theorem dX8_copy_62 : decode cX8_copy 62 = .ok (.iload_n 3, 1) := by decide +kernel
theorem dX8_copy_63 : decode cX8_copy 63 = .ok (.iaload, 1) := by decide +kernel
theorem dX8_copy_64 : decode cX8_copy 64 = .ok (.if_icmp .eq 9, 3) := by decide +kernel
theorem dX8_copy_67 : decode cX8_copy 67 = .ok (.aload_n 0, 1) := by decide +kernel
theorem dX8_copy_68 : decode cX8_copy 68 = .ok (.iconst 5, 1) := by decide +kernel
theorem dX8_copy_69 : decode cX8_copy 69 = .ok (.invokevirtual 64, 3) := by decide +kernel
theorem dX8_copy_72 : decode cX8_copy 72 = .ok (.lreturn, 1) := by decide +kernel
theorem dX8_copy_73 : decode cX8_copy 73 = .ok (.iload_n 2, 1) := by decide +kernel
theorem dX8_copy_74 : decode cX8_copy 74 = .ok (.ifCond .lt 48, 3) := by decide +kernel
theorem dX8_copy_77 : decode cX8_copy 77 = .ok (.iload 4, 2) := by decide +kernel
theorem dX8_copy_79 : decode cX8_copy 79 = .ok (.ifCond .lt 43, 3) := by decide +kernel
theorem dX8_copy_82 : decode cX8_copy 82 = .ok (.iload 5, 2) := by decide +kernel
theorem dX8_copy_84 : decode cX8_copy 84 = .ok (.ifCond .lt 38, 3) := by decide +kernel
theorem dX8_copy_87 : decode cX8_copy 87 = .ok (.iload_n 2, 1) := by decide +kernel
theorem dX8_copy_88 : decode cX8_copy 88 = .ok (.i2l, 1) := by decide +kernel
theorem dX8_copy_89 : decode cX8_copy 89 = .ok (.iload 5, 2) := by decide +kernel
theorem dX8_copy_91 : decode cX8_copy 91 = .ok (.i2l, 1) := by decide +kernel
theorem dX8_copy_92 : decode cX8_copy 92 = .ok (.ladd, 1) := by decide +kernel
theorem dX8_copy_93 : decode cX8_copy 93 = .ok (.aload_n 0, 1) := by decide +kernel
theorem dX8_copy_94 : decode cX8_copy 94 = .ok (.getfield 13, 3) := by decide +kernel
theorem dX8_copy_97 : decode cX8_copy 97 = .ok (.iload_n 1, 1) := by decide +kernel
theorem dX8_copy_98 : decode cX8_copy 98 = .ok (.iaload, 1) := by decide +kernel
theorem dX8_copy_99 : decode cX8_copy 99 = .ok (.i2l, 1) := by decide +kernel
theorem dX8_copy_100 : decode cX8_copy 100 = .ok (.lcmp, 1) := by decide +kernel
theorem dX8_copy_101 : decode cX8_copy 101 = .ok (.ifCond .gt 21, 3) := by decide +kernel
theorem dX8_copy_104 : decode cX8_copy 104 = .ok (.iload 4, 2) := by decide +kernel
theorem dX8_copy_106 : decode cX8_copy 106 = .ok (.i2l, 1) := by decide +kernel
theorem dX8_copy_107 : decode cX8_copy 107 = .ok (.iload 5, 2) := by decide +kernel
theorem dX8_copy_109 : decode cX8_copy 109 = .ok (.i2l, 1) := by decide +kernel
theorem dX8_copy_110 : decode cX8_copy 110 = .ok (.ladd, 1) := by decide +kernel
theorem dX8_copy_111 : decode cX8_copy 111 = .ok (.aload_n 0, 1) := by decide +kernel
theorem dX8_copy_112 : decode cX8_copy 112 = .ok (.getfield 13, 3) := by decide +kernel
theorem dX8_copy_115 : decode cX8_copy 115 = .ok (.iload_n 3, 1) := by decide +kernel
theorem dX8_copy_116 : decode cX8_copy 116 = .ok (.iaload, 1) := by decide +kernel
theorem dX8_copy_117 : decode cX8_copy 117 = .ok (.i2l, 1) := by decide +kernel
theorem dX8_copy_118 : decode cX8_copy 118 = .ok (.lcmp, 1) := by decide +kernel
theorem dX8_copy_119 : decode cX8_copy 119 = .ok (.ifCond .le 9, 3) := by decide +kernel
theorem dX8_copy_122 : decode cX8_copy 122 = .ok (.aload_n 0, 1) := by decide +kernel
theorem dX8_copy_123 : decode cX8_copy 123 = .ok (.iconst 2, 1) := by decide +kernel
theorem dX8_copy_124 : decode cX8_copy 124 = .ok (.invokevirtual 64, 3) := by decide +kernel
theorem dX8_copy_127 : decode cX8_copy 127 = .ok (.lreturn, 1) := by decide +kernel
theorem dX8_copy_128 : decode cX8_copy 128 = .ok (.iload_n 2, 1) := by decide +kernel
theorem dX8_copy_129 : decode cX8_copy 129 = .ok (.iload 4, 2) := by decide +kernel
theorem dX8_copy_131 : decode cX8_copy 131 = .ok (.if_icmp .lt 7, 3) := by decide +kernel
theorem dX8_copy_134 : decode cX8_copy 134 = .ok (.iconst 1, 1) := by decide +kernel
theorem dX8_copy_135 : decode cX8_copy 135 = .ok (.goto 4, 3) := by decide +kernel
theorem dX8_copy_138 : decode cX8_copy 138 = .ok (.iconst 0, 1) := by decide +kernel
theorem dX8_copy_139 : decode cX8_copy 139 = .ok (.istore 6, 2) := by decide +kernel
theorem dX8_copy_141 : decode cX8_copy 141 = .ok (.iconst 0, 1) := by decide +kernel
theorem dX8_copy_142 : decode cX8_copy 142 = .ok (.istore 7, 2) := by decide +kernel
theorem dX8_copy_144 : decode cX8_copy 144 = .ok (.iload 7, 2) := by decide +kernel
theorem dX8_copy_146 : decode cX8_copy 146 = .ok (.iload 5, 2) := by decide +kernel
theorem dX8_copy_148 : decode cX8_copy 148 = .ok (.if_icmp .ge 57, 3) := by decide +kernel
theorem dX8_copy_151 : decode cX8_copy 151 = .ok (.iload 6, 2) := by decide +kernel
theorem dX8_copy_153 : decode cX8_copy 153 = .ok (.ifCond .eq 8, 3) := by decide +kernel
theorem dX8_copy_156 : decode cX8_copy 156 = .ok (.iload 7, 2) := by decide +kernel
theorem dX8_copy_158 : decode cX8_copy 158 = .ok (.goto 10, 3) := by decide +kernel
theorem dX8_copy_161 : decode cX8_copy 161 = .ok (.iload 5, 2) := by decide +kernel
theorem dX8_copy_163 : decode cX8_copy 163 = .ok (.iconst 1, 1) := by decide +kernel
theorem dX8_copy_164 : decode cX8_copy 164 = .ok (.isub, 1) := by decide +kernel
theorem dX8_copy_165 : decode cX8_copy 165 = .ok (.iload 7, 2) := by decide +kernel
theorem dX8_copy_167 : decode cX8_copy 167 = .ok (.isub, 1) := by decide +kernel
theorem dX8_copy_168 : decode cX8_copy 168 = .ok (.istore 8, 2) := by decide +kernel
theorem dX8_copy_170 : decode cX8_copy 170 = .ok (.aload_n 0, 1) := by decide +kernel
theorem dX8_copy_171 : decode cX8_copy 171 = .ok (.getfield 16, 3) := by decide +kernel
theorem dX8_copy_174 : decode cX8_copy 174 = .ok (.bipush 40, 2) := by decide +kernel
theorem dX8_copy_176 : decode cX8_copy 176 = .ok (.iload_n 3, 1) := by decide +kernel
theorem dX8_copy_177 : decode cX8_copy 177 = .ok (.imul, 1) := by decide +kernel
theorem dX8_copy_178 : decode cX8_copy 178 = .ok (.iload 4, 2) := by decide +kernel
theorem dX8_copy_180 : decode cX8_copy 180 = .ok (.iadd, 1) := by decide +kernel
theorem dX8_copy_181 : decode cX8_copy 181 = .ok (.iload 8, 2) := by decide +kernel
theorem dX8_copy_183 : decode cX8_copy 183 = .ok (.iadd, 1) := by decide +kernel
theorem dX8_copy_184 : decode cX8_copy 184 = .ok (.aload_n 0, 1) := by decide +kernel
theorem dX8_copy_185 : decode cX8_copy 185 = .ok (.getfield 16, 3) := by decide +kernel
theorem dX8_copy_188 : decode cX8_copy 188 = .ok (.bipush 40, 2) := by decide +kernel
theorem dX8_copy_190 : decode cX8_copy 190 = .ok (.iload_n 1, 1) := by decide +kernel
theorem dX8_copy_191 : decode cX8_copy 191 = .ok (.imul, 1) := by decide +kernel
theorem dX8_copy_192 : decode cX8_copy 192 = .ok (.iload_n 2, 1) := by decide +kernel
theorem dX8_copy_193 : decode cX8_copy 193 = .ok (.iadd, 1) := by decide +kernel
theorem dX8_copy_194 : decode cX8_copy 194 = .ok (.iload 8, 2) := by decide +kernel
theorem dX8_copy_196 : decode cX8_copy 196 = .ok (.iadd, 1) := by decide +kernel
theorem dX8_copy_197 : decode cX8_copy 197 = .ok (.iaload, 1) := by decide +kernel
theorem dX8_copy_198 : decode cX8_copy 198 = .ok (.iastore, 1) := by decide +kernel
theorem dX8_copy_199 : decode cX8_copy 199 = .ok (.iinc 7 1, 3) := by decide +kernel
theorem dX8_copy_202 : decode cX8_copy 202 = .ok (.goto (-58), 3) := by decide +kernel
theorem dX8_copy_205 : decode cX8_copy 205 = .ok (.iload 5, 2) := by decide +kernel
theorem dX8_copy_207 : decode cX8_copy 207 = .ok (.i2l, 1) := by decide +kernel
theorem dX8_copy_208 : decode cX8_copy 208 = .ok (.lreturn, 1) := by decide +kernel
set_option maxRecDepth 20000 in
theorem ggX8_drop_X8_isRow : GoodIn wsX8_drop wsX8_isRow := goodIn_r _ [9, 10, 11, 12, 8, 13] (by decide +kernel) (by decide +kernel)
set_option maxRecDepth 20000 in
theorem gX8_drop_X8_isRow : GoodIn wsX8_drop (va_wsS RX8 56 yX8_isRow wsX8_isRow) := goodIn_app (goodIn_of _ (by decide +kernel)) ggX8_drop_X8_isRow
set_option maxRecDepth 20000 in
theorem ggX8_drop_X8_finding : GoodIn wsX8_drop wsX8_finding := goodIn_r _ [17, 3, 18, 19, 20, 21, 22, 23, 24, 25, 26, 27, 28, 29, 30, 31, 32, 33, 34, 35, 36, 37, 38, 39, 40, 41, 42, 43, 44, 45] (by decide +kernel) (by decide +kernel)
set_option maxRecDepth 20000 in
theorem gX8_drop_X8_finding : GoodIn wsX8_drop (wsV RX8 64 RX8 yX8_finding wsX8_finding) := goodIn_app (goodIn_of _ (by decide +kernel)) ggX8_drop_X8_finding
theorem dX8_drop_0 : decode cX8_drop 0 = .ok (.aload_n 0, 1) := by decide +kernel
theorem dX8_drop_1 : decode cX8_drop 1 = .ok (.iconst 0, 1) := by decide +kernel
theorem dX8_drop_2 : decode cX8_drop 2 = .ok (.putfield 41, 3) := by decide +kernel
theorem dX8_drop_5 : decode cX8_drop 5 = .ok (.iload_n 1, 1) := by decide +kernel
theorem dX8_drop_6 : decode cX8_drop 6 = .ok (.invokestatic 56, 3) := by decide +kernel
theorem dX8_drop_9 : decode cX8_drop 9 = .ok (.ifCond .ne 7, 3) := by decide +kernel
theorem dX8_drop_12 : decode cX8_drop 12 = .ok (.ldc2_w 62, 3) := by decide +kernel
theorem dX8_drop_15 : decode cX8_drop 15 = .ok (.lreturn, 1) := by decide +kernel
theorem dX8_drop_16 : decode cX8_drop 16 = .ok (.aload_n 0, 1) := by decide +kernel
theorem dX8_drop_17 : decode cX8_drop 17 = .ok (.iconst 0, 1) := by decide +kernel
theorem dX8_drop_18 : decode cX8_drop 18 = .ok (.putfield 45, 3) := by decide +kernel
theorem dX8_drop_21 : decode cX8_drop 21 = .ok (.aload_n 0, 1) := by decide +kernel
theorem dX8_drop_22 : decode cX8_drop 22 = .ok (.getfield 9, 3) := by decide +kernel
theorem dX8_drop_25 : decode cX8_drop 25 = .ok (.iload_n 1, 1) := by decide +kernel
theorem dX8_drop_26 : decode cX8_drop 26 = .ok (.iaload, 1) := by decide +kernel
theorem dX8_drop_27 : decode cX8_drop 27 = .ok (.ifCond .ge 9, 3) := by decide +kernel
theorem dX8_drop_30 : decode cX8_drop 30 = .ok (.aload_n 0, 1) := by decide +kernel
theorem dX8_drop_31 : decode cX8_drop 31 = .ok (.iconst 1, 1) := by decide +kernel
theorem dX8_drop_32 : decode cX8_drop 32 = .ok (.invokevirtual 64, 3) := by decide +kernel
theorem dX8_drop_35 : decode cX8_drop 35 = .ok (.lreturn, 1) := by decide +kernel
theorem dX8_drop_36 : decode cX8_drop 36 = .ok (.aload_n 0, 1) := by decide +kernel
theorem dX8_drop_37 : decode cX8_drop 37 = .ok (.getfield 9, 3) := by decide +kernel
theorem dX8_drop_40 : decode cX8_drop 40 = .ok (.iload_n 1, 1) := by decide +kernel
theorem dX8_drop_41 : decode cX8_drop 41 = .ok (.iconst (-1), 1) := by decide +kernel
theorem dX8_drop_42 : decode cX8_drop 42 = .ok (.iastore, 1) := by decide +kernel
theorem dX8_drop_43 : decode cX8_drop 43 = .ok (.aload_n 0, 1) := by decide +kernel
theorem dX8_drop_44 : decode cX8_drop 44 = .ok (.getfield 13, 3) := by decide +kernel
theorem dX8_drop_47 : decode cX8_drop 47 = .ok (.iload_n 1, 1) := by decide +kernel
theorem dX8_drop_48 : decode cX8_drop 48 = .ok (.iaload, 1) := by decide +kernel
theorem dX8_drop_49 : decode cX8_drop 49 = .ok (.i2l, 1) := by decide +kernel
theorem dX8_drop_50 : decode cX8_drop 50 = .ok (.lreturn, 1) := by decide +kernel
set_option maxRecDepth 20000 in
theorem ggX8_feed_X8_in : GoodIn wsX8_feed wsX8_in := goodIn_r _ [11] (by decide +kernel) (by decide +kernel)
set_option maxRecDepth 20000 in
theorem gX8_feed_X8_in : GoodIn wsX8_feed (va_wsS RX8 52 yX8_in wsX8_in) := goodIn_app (goodIn_of _ (by decide +kernel)) ggX8_feed_X8_in
theorem dX8_feed_0 : decode cX8_feed 0 = .ok (.aload_n 0, 1) := by decide +kernel
theorem dX8_feed_1 : decode cX8_feed 1 = .ok (.iconst 0, 1) := by decide +kernel
theorem dX8_feed_2 : decode cX8_feed 2 = .ok (.putfield 41, 3) := by decide +kernel
theorem dX8_feed_5 : decode cX8_feed 5 = .ok (.iload_n 3, 1) := by decide +kernel
theorem dX8_feed_6 : decode cX8_feed 6 = .ok (.i2l, 1) := by decide +kernel
theorem dX8_feed_7 : decode cX8_feed 7 = .ok (.lconst 1, 1) := by decide +kernel
theorem dX8_feed_8 : decode cX8_feed 8 = .ok (.ldc2_w 68, 3) := by decide +kernel
theorem dX8_feed_11 : decode cX8_feed 11 = .ok (.invokestatic 52, 3) := by decide +kernel
theorem dX8_feed_14 : decode cX8_feed 14 = .ok (.ifCond .ne 7, 3) := by decide +kernel
theorem dX8_feed_17 : decode cX8_feed 17 = .ok (.ldc2_w 62, 3) := by decide +kernel
theorem dX8_feed_20 : decode cX8_feed 20 = .ok (.lreturn, 1) := by decide +kernel
theorem dX8_feed_21 : decode cX8_feed 21 = .ok (.aload_n 0, 1) := by decide +kernel
theorem dX8_feed_22 : decode cX8_feed 22 = .ok (.getfield 70, 3) := by decide +kernel
theorem dX8_feed_25 : decode cX8_feed 25 = .ok (.iload_n 3, 1) := by decide +kernel
theorem dX8_feed_26 : decode cX8_feed 26 = .ok (.iadd, 1) := by decide +kernel
theorem dX8_feed_27 : decode cX8_feed 27 = .ok (.sipush 400, 3) := by decide +kernel
theorem dX8_feed_30 : decode cX8_feed 30 = .ok (.if_icmp .le 7, 3) := by decide +kernel
theorem dX8_feed_33 : decode cX8_feed 33 = .ok (.ldc2_w 73, 3) := by decide +kernel
theorem dX8_feed_36 : decode cX8_feed 36 = .ok (.lreturn, 1) := by decide +kernel
theorem dX8_feed_37 : decode cX8_feed 37 = .ok (.iload_n 3, 1) := by decide +kernel
theorem dX8_feed_38 : decode cX8_feed 38 = .ok (.iconst 1, 1) := by decide +kernel
theorem dX8_feed_39 : decode cX8_feed 39 = .ok (.isub, 1) := by decide +kernel
theorem dX8_feed_40 : decode cX8_feed 40 = .ok (.istore 4, 2) := by decide +kernel
theorem dX8_feed_42 : decode cX8_feed 42 = .ok (.iload 4, 2) := by decide +kernel
theorem dX8_feed_44 : decode cX8_feed 44 = .ok (.ifCond .lt 40, 3) := by decide +kernel
theorem dX8_feed_47 : decode cX8_feed 47 = .ok (.aload_n 0, 1) := by decide +kernel
theorem dX8_feed_48 : decode cX8_feed 48 = .ok (.getfield 28, 3) := by decide +kernel
theorem dX8_feed_51 : decode cX8_feed 51 = .ok (.aload_n 0, 1) := by decide +kernel
theorem dX8_feed_52 : decode cX8_feed 52 = .ok (.getfield 70, 3) := by decide +kernel
theorem dX8_feed_55 : decode cX8_feed 55 = .ok (.lload_n 1, 1) := by decide +kernel
theorem dX8_feed_56 : decode cX8_feed 56 = .ok (.bipush 8, 2) := by decide +kernel
theorem dX8_feed_58 : decode cX8_feed 58 = .ok (.iload 4, 2) := by decide +kernel
theorem dX8_feed_60 : decode cX8_feed 60 = .ok (.imul, 1) := by decide +kernel
theorem dX8_feed_61 : decode cX8_feed 61 = .ok (.lshr, 1) := by decide +kernel
theorem dX8_feed_62 : decode cX8_feed 62 = .ok (.ldc2_w 75, 3) := by decide +kernel
theorem dX8_feed_65 : decode cX8_feed 65 = .ok (.land, 1) := by decide +kernel
theorem dX8_feed_66 : decode cX8_feed 66 = .ok (.l2i, 1) := by decide +kernel
theorem dX8_feed_67 : decode cX8_feed 67 = .ok (.iastore, 1) := by decide +kernel
theorem dX8_feed_68 : decode cX8_feed 68 = .ok (.aload_n 0, 1) := by decide +kernel
theorem dX8_feed_69 : decode cX8_feed 69 = .ok (.dup, 1) := by decide +kernel
theorem dX8_feed_70 : decode cX8_feed 70 = .ok (.getfield 70, 3) := by decide +kernel
theorem dX8_feed_73 : decode cX8_feed 73 = .ok (.iconst 1, 1) := by decide +kernel
theorem dX8_feed_74 : decode cX8_feed 74 = .ok (.iadd, 1) := by decide +kernel
theorem dX8_feed_75 : decode cX8_feed 75 = .ok (.putfield 70, 3) := by decide +kernel
theorem dX8_feed_78 : decode cX8_feed 78 = .ok (.iinc 4 (-1), 3) := by decide +kernel
theorem dX8_feed_81 : decode cX8_feed 81 = .ok (.goto (-39), 3) := by decide +kernel
theorem dX8_feed_84 : decode cX8_feed 84 = .ok (.aload_n 0, 1) := by decide +kernel
theorem dX8_feed_85 : decode cX8_feed 85 = .ok (.getfield 70, 3) := by decide +kernel
theorem dX8_feed_88 : decode cX8_feed 88 = .ok (.i2l, 1) := by decide +kernel
theorem dX8_feed_89 : decode cX8_feed 89 = .ok (.lreturn, 1) := by decide +kernel
theorem dX8_byteAt_0 : decode cX8_byteAt 0 = .ok (.iload_n 1, 1) := by decide +kernel
theorem dX8_byteAt_1 : decode cX8_byteAt 1 = .ok (.aload_n 0, 1) := by decide +kernel
theorem dX8_byteAt_2 : decode cX8_byteAt 2 = .ok (.getfield 77, 3) := by decide +kernel
theorem dX8_byteAt_5 : decode cX8_byteAt 5 = .ok (.if_icmp .ge 12, 3) := by decide +kernel
theorem dX8_byteAt_8 : decode cX8_byteAt 8 = .ok (.aload_n 0, 1) := by decide +kernel
theorem dX8_byteAt_9 : decode cX8_byteAt 9 = .ok (.getfield 28, 3) := by decide +kernel
theorem dX8_byteAt_12 : decode cX8_byteAt 12 = .ok (.iload_n 1, 1) := by decide +kernel
theorem dX8_byteAt_13 : decode cX8_byteAt 13 = .ok (.iaload, 1) := by decide +kernel
theorem dX8_byteAt_14 : decode cX8_byteAt 14 = .ok (.goto 5, 3) := by decide +kernel
theorem dX8_byteAt_17 : decode cX8_byteAt 17 = .ok (.ldc 80, 2) := by decide +kernel
theorem dX8_byteAt_19 : decode cX8_byteAt 19 = .ok (.ireturn, 1) := by decide +kernel
theorem dX8_isLetter_0 : decode cX8_isLetter 0 = .ok (.iload_n 0, 1) := by decide +kernel
theorem dX8_isLetter_1 : decode cX8_isLetter 1 = .ok (.bipush 97, 2) := by decide +kernel
theorem dX8_isLetter_3 : decode cX8_isLetter 3 = .ok (.if_icmp .lt 13, 3) := by decide +kernel
theorem dX8_isLetter_6 : decode cX8_isLetter 6 = .ok (.iload_n 0, 1) := by decide +kernel
theorem dX8_isLetter_7 : decode cX8_isLetter 7 = .ok (.bipush 122, 2) := by decide +kernel
theorem dX8_isLetter_9 : decode cX8_isLetter 9 = .ok (.if_icmp .gt 7, 3) := by decide +kernel
theorem dX8_isLetter_12 : decode cX8_isLetter 12 = .ok (.iconst 1, 1) := by decide +kernel
theorem dX8_isLetter_13 : decode cX8_isLetter 13 = .ok (.goto 4, 3) := by decide +kernel
theorem dX8_isLetter_16 : decode cX8_isLetter 16 = .ok (.iconst 0, 1) := by decide +kernel
theorem dX8_isLetter_17 : decode cX8_isLetter 17 = .ok (.ireturn, 1) := by decide +kernel
theorem dX8_isFigure_0 : decode cX8_isFigure 0 = .ok (.iload_n 0, 1) := by decide +kernel
theorem dX8_isFigure_1 : decode cX8_isFigure 1 = .ok (.bipush 48, 2) := by decide +kernel
theorem dX8_isFigure_3 : decode cX8_isFigure 3 = .ok (.if_icmp .lt 13, 3) := by decide +kernel
theorem dX8_isFigure_6 : decode cX8_isFigure 6 = .ok (.iload_n 0, 1) := by decide +kernel
theorem dX8_isFigure_7 : decode cX8_isFigure 7 = .ok (.bipush 57, 2) := by decide +kernel
theorem dX8_isFigure_9 : decode cX8_isFigure 9 = .ok (.if_icmp .gt 7, 3) := by decide +kernel
theorem dX8_isFigure_12 : decode cX8_isFigure 12 = .ok (.iconst 1, 1) := by decide +kernel
theorem dX8_isFigure_13 : decode cX8_isFigure 13 = .ok (.goto 4, 3) := by decide +kernel
theorem dX8_isFigure_16 : decode cX8_isFigure 16 = .ok (.iconst 0, 1) := by decide +kernel
theorem dX8_isFigure_17 : decode cX8_isFigure 17 = .ok (.ireturn, 1) := by decide +kernel
set_option maxRecDepth 20000 in
theorem ggX8_next_X8_byteAt : GoodIn wsX8_next wsX8_byteAt := goodIn_r _ [10, 11, 12, 3, 19, 20, 21, 22, 23, 24, 25, 26, 27, 28, 29, 30, 31, 32, 33, 34, 35, 36, 37, 38, 39, 40, 41, 42, 43, 44, 45] (by decide +kernel) (by decide +kernel)
set_option maxRecDepth 20000 in
theorem gX8_next_X8_byteAt : GoodIn wsX8_next (wsV RX8 84 RX8 yX8_byteAt wsX8_byteAt) := goodIn_app (goodIn_of _ (by decide +kernel)) ggX8_next_X8_byteAt
set_option maxRecDepth 20000 in
theorem ggX8_next_X8_isLetter : GoodIn wsX8_next wsX8_isLetter := goodIn_r _ [15] (by decide +kernel) (by decide +kernel)
set_option maxRecDepth 20000 in
theorem gX8_next_X8_isLetter : GoodIn wsX8_next (va_wsS RX8 94 yX8_isLetter wsX8_isLetter) := goodIn_app (goodIn_of _ (by decide +kernel)) ggX8_next_X8_isLetter
set_option maxRecDepth 20000 in
theorem ggX8_next_X8_isFigure : GoodIn wsX8_next wsX8_isFigure := goodIn_r _ [18] (by decide +kernel) (by decide +kernel)
set_option maxRecDepth 20000 in
theorem gX8_next_X8_isFigure : GoodIn wsX8_next (va_wsS RX8 97 yX8_isFigure wsX8_isFigure) := goodIn_app (goodIn_of _ (by decide +kernel)) ggX8_next_X8_isFigure
theorem dX8_next_0 : decode cX8_next 0 = .ok (.aload_n 0, 1) := by decide +kernel
theorem dX8_next_1 : decode cX8_next 1 = .ok (.aload_n 0, 1) := by decide +kernel
theorem dX8_next_2 : decode cX8_next 2 = .ok (.getfield 81, 3) := by decide +kernel
theorem dX8_next_5 : decode cX8_next 5 = .ok (.invokevirtual 84, 3) := by decide +kernel
theorem dX8_next_8 : decode cX8_next 8 = .ok (.bipush 32, 2) := by decide +kernel
theorem dX8_next_10 : decode cX8_next 10 = .ok (.if_icmp .eq 16, 3) := by decide +kernel
theorem dX8_next_13 : decode cX8_next 13 = .ok (.aload_n 0, 1) := by decide +kernel
theorem dX8_next_14 : decode cX8_next 14 = .ok (.aload_n 0, 1) := by decide +kernel
theorem dX8_next_15 : decode cX8_next 15 = .ok (.getfield 81, 3) := by decide +kernel
theorem dX8_next_18 : decode cX8_next 18 = .ok (.invokevirtual 84, 3) := by decide +kernel
theorem dX8_next_21 : decode cX8_next 21 = .ok (.bipush 10, 2) := by decide +kernel
theorem dX8_next_23 : decode cX8_next 23 = .ok (.if_icmp .ne 16, 3) := by decide +kernel
theorem dX8_next_26 : decode cX8_next 26 = .ok (.aload_n 0, 1) := by decide +kernel
theorem dX8_next_27 : decode cX8_next 27 = .ok (.dup, 1) := by decide +kernel
theorem dX8_next_28 : decode cX8_next 28 = .ok (.getfield 81, 3) := by decide +kernel
theorem dX8_next_31 : decode cX8_next 31 = .ok (.iconst 1, 1) := by decide +kernel
theorem dX8_next_32 : decode cX8_next 32 = .ok (.iadd, 1) := by decide +kernel
theorem dX8_next_33 : decode cX8_next 33 = .ok (.putfield 81, 3) := by decide +kernel
theorem dX8_next_36 : decode cX8_next 36 = .ok (.goto (-36), 3) := by decide +kernel
theorem dX8_next_39 : decode cX8_next 39 = .ok (.aload_n 0, 1) := by decide +kernel
theorem dX8_next_40 : decode cX8_next 40 = .ok (.aload_n 0, 1) := by decide +kernel
theorem dX8_next_41 : decode cX8_next 41 = .ok (.getfield 81, 3) := by decide +kernel
theorem dX8_next_44 : decode cX8_next 44 = .ok (.putfield 88, 3) := by decide +kernel
theorem dX8_next_47 : decode cX8_next 47 = .ok (.aload_n 0, 1) := by decide +kernel
theorem dX8_next_48 : decode cX8_next 48 = .ok (.aload_n 0, 1) := by decide +kernel
theorem dX8_next_49 : decode cX8_next 49 = .ok (.getfield 81, 3) := by decide +kernel
theorem dX8_next_52 : decode cX8_next 52 = .ok (.invokevirtual 84, 3) := by decide +kernel
theorem dX8_next_55 : decode cX8_next 55 = .ok (.istore_n 1, 1) := by decide +kernel
theorem dX8_next_56 : decode cX8_next 56 = .ok (.iload_n 1, 1) := by decide +kernel
theorem dX8_next_57 : decode cX8_next 57 = .ok (.ldc 80, 2) := by decide +kernel
theorem dX8_next_59 : decode cX8_next 59 = .ok (.if_icmp .ne 11, 3) := by decide +kernel
theorem dX8_next_62 : decode cX8_next 62 = .ok (.aload_n 0, 1) := by decide +kernel
theorem dX8_next_63 : decode cX8_next 63 = .ok (.iconst 1, 1) := by decide +kernel
theorem dX8_next_64 : decode cX8_next 64 = .ok (.putfield 91, 3) := by decide +kernel
theorem dX8_next_67 : decode cX8_next 67 = .ok (.goto 129, 3) := by decide +kernel
theorem dX8_next_70 : decode cX8_next 70 = .ok (.iload_n 1, 1) := by decide +kernel
theorem dX8_next_71 : decode cX8_next 71 = .ok (.invokestatic 94, 3) := by decide +kernel
theorem dX8_next_74 : decode cX8_next 74 = .ok (.ifCond .eq 38, 3) := by decide +kernel
theorem dX8_next_77 : decode cX8_next 77 = .ok (.aload_n 0, 1) := by decide +kernel
theorem dX8_next_78 : decode cX8_next 78 = .ok (.aload_n 0, 1) := by decide +kernel
theorem dX8_next_79 : decode cX8_next 79 = .ok (.getfield 81, 3) := by decide +kernel
theorem dX8_next_82 : decode cX8_next 82 = .ok (.invokevirtual 84, 3) := by decide +kernel
theorem dX8_next_85 : decode cX8_next 85 = .ok (.invokestatic 94, 3) := by decide +kernel
theorem dX8_next_88 : decode cX8_next 88 = .ok (.ifCond .eq 16, 3) := by decide +kernel
theorem dX8_next_91 : decode cX8_next 91 = .ok (.aload_n 0, 1) := by decide +kernel
theorem dX8_next_92 : decode cX8_next 92 = .ok (.dup, 1) := by decide +kernel
theorem dX8_next_93 : decode cX8_next 93 = .ok (.getfield 81, 3) := by decide +kernel
theorem dX8_next_96 : decode cX8_next 96 = .ok (.iconst 1, 1) := by decide +kernel
theorem dX8_next_97 : decode cX8_next 97 = .ok (.iadd, 1) := by decide +kernel
theorem dX8_next_98 : decode cX8_next 98 = .ok (.putfield 81, 3) := by decide +kernel
theorem dX8_next_101 : decode cX8_next 101 = .ok (.goto (-24), 3) := by decide +kernel
theorem dX8_next_104 : decode cX8_next 104 = .ok (.aload_n 0, 1) := by decide +kernel
theorem dX8_next_105 : decode cX8_next 105 = .ok (.iconst 2, 1) := by decide +kernel
theorem dX8_next_106 : decode cX8_next 106 = .ok (.putfield 91, 3) := by decide +kernel
theorem dX8_next_109 : decode cX8_next 109 = .ok (.goto 87, 3) := by decide +kernel
theorem dX8_next_112 : decode cX8_next 112 = .ok (.iload_n 1, 1) := by decide +kernel
theorem dX8_next_113 : decode cX8_next 113 = .ok (.invokestatic 97, 3) := by decide +kernel
theorem dX8_next_116 : decode cX8_next 116 = .ok (.ifCond .eq 55, 3) := by decide +kernel
theorem dX8_next_119 : decode cX8_next 119 = .ok (.aload_n 0, 1) := by decide +kernel
theorem dX8_next_120 : decode cX8_next 120 = .ok (.aload_n 0, 1) := by decide +kernel
theorem dX8_next_121 : decode cX8_next 121 = .ok (.getfield 81, 3) := by decide +kernel
theorem dX8_next_124 : decode cX8_next 124 = .ok (.invokevirtual 84, 3) := by decide +kernel
theorem dX8_next_127 : decode cX8_next 127 = .ok (.invokestatic 97, 3) := by decide +kernel
theorem dX8_next_130 : decode cX8_next 130 = .ok (.ifCond .eq 16, 3) := by decide +kernel
theorem dX8_next_133 : decode cX8_next 133 = .ok (.aload_n 0, 1) := by decide +kernel
theorem dX8_next_134 : decode cX8_next 134 = .ok (.dup, 1) := by decide +kernel
theorem dX8_next_135 : decode cX8_next 135 = .ok (.getfield 81, 3) := by decide +kernel
theorem dX8_next_138 : decode cX8_next 138 = .ok (.iconst 1, 1) := by decide +kernel
theorem dX8_next_139 : decode cX8_next 139 = .ok (.iadd, 1) := by decide +kernel
theorem dX8_next_140 : decode cX8_next 140 = .ok (.putfield 81, 3) := by decide +kernel
theorem dX8_next_143 : decode cX8_next 143 = .ok (.goto (-24), 3) := by decide +kernel
theorem dX8_next_146 : decode cX8_next 146 = .ok (.aload_n 0, 1) := by decide +kernel
theorem dX8_next_147 : decode cX8_next 147 = .ok (.aload_n 0, 1) := by decide +kernel
theorem dX8_next_148 : decode cX8_next 148 = .ok (.getfield 81, 3) := by decide +kernel
theorem dX8_next_151 : decode cX8_next 151 = .ok (.aload_n 0, 1) := by decide +kernel
theorem dX8_next_152 : decode cX8_next 152 = .ok (.getfield 88, 3) := by decide +kernel
theorem dX8_next_155 : decode cX8_next 155 = .ok (.isub, 1) := by decide +kernel
theorem dX8_next_156 : decode cX8_next 156 = .ok (.iconst 3, 1) := by decide +kernel
theorem dX8_next_157 : decode cX8_next 157 = .ok (.if_icmp .le 7, 3) := by decide +kernel
theorem dX8_next_160 : decode cX8_next 160 = .ok (.iconst 0, 1) := by decide +kernel
theorem dX8_next_161 : decode cX8_next 161 = .ok (.goto 4, 3) := by decide +kernel
theorem dX8_next_164 : decode cX8_next 164 = .ok (.iconst 3, 1) := by decide +kernel
theorem dX8_next_165 : decode cX8_next 165 = .ok (.putfield 91, 3) := by decide +kernel
theorem dX8_next_168 : decode cX8_next 168 = .ok (.goto 28, 3) := by decide +kernel
theorem dX8_next_171 : decode cX8_next 171 = .ok (.aload_n 0, 1) := by decide +kernel
theorem dX8_next_172 : decode cX8_next 172 = .ok (.dup, 1) := by decide +kernel
theorem dX8_next_173 : decode cX8_next 173 = .ok (.getfield 81, 3) := by decide +kernel
theorem dX8_next_176 : decode cX8_next 176 = .ok (.iconst 1, 1) := by decide +kernel
theorem dX8_next_177 : decode cX8_next 177 = .ok (.iadd, 1) := by decide +kernel
theorem dX8_next_178 : decode cX8_next 178 = .ok (.putfield 81, 3) := by decide +kernel
theorem dX8_next_181 : decode cX8_next 181 = .ok (.aload_n 0, 1) := by decide +kernel
theorem dX8_next_182 : decode cX8_next 182 = .ok (.iload_n 1, 1) := by decide +kernel
theorem dX8_next_183 : decode cX8_next 183 = .ok (.bipush 59, 2) := by decide +kernel
theorem dX8_next_185 : decode cX8_next 185 = .ok (.if_icmp .ne 7, 3) := by decide +kernel
theorem dX8_next_188 : decode cX8_next 188 = .ok (.iconst 4, 1) := by decide +kernel
theorem dX8_next_189 : decode cX8_next 189 = .ok (.goto 4, 3) := by decide +kernel
theorem dX8_next_192 : decode cX8_next 192 = .ok (.iconst 0, 1) := by decide +kernel
theorem dX8_next_193 : decode cX8_next 193 = .ok (.putfield 91, 3) := by decide +kernel
theorem dX8_next_196 : decode cX8_next 196 = .ok (.aload_n 0, 1) := by decide +kernel
theorem dX8_next_197 : decode cX8_next 197 = .ok (.aload_n 0, 1) := by decide +kernel
theorem dX8_next_198 : decode cX8_next 198 = .ok (.getfield 81, 3) := by decide +kernel
theorem dX8_next_201 : decode cX8_next 201 = .ok (.putfield 100, 3) := by decide +kernel
theorem dX8_next_204 : decode cX8_next 204 = .ok (.return_, 1) := by decide +kernel
set_option maxRecDepth 20000 in
theorem ggX8_begin_X8_next : GoodIn wsX8_begin wsX8_next := goodIn_r _ [9, 3, 10, 11, 12, 13, 14, 15, 16, 8, 17, 2, 18, 19, 20, 21, 22, 23, 24, 25, 26, 27, 28, 29, 30, 31, 32, 33, 34, 35, 36, 37, 38, 39, 40, 41, 42, 43, 44, 45, 46, 47, 48, 49, 50, 51] (by decide +kernel) (by decide +kernel)
set_option maxRecDepth 20000 in
theorem gX8_begin_X8_next : GoodIn wsX8_begin (wsV RX8 106 RX8 yX8_next wsX8_next) := goodIn_app (goodIn_of _ (by decide +kernel)) ggX8_begin_X8_next
theorem dX8_begin_0 : decode cX8_begin 0 = .ok (.aload_n 0, 1) := by decide +kernel
theorem dX8_begin_1 : decode cX8_begin 1 = .ok (.aload_n 0, 1) := by decide +kernel
theorem dX8_begin_2 : decode cX8_begin 2 = .ok (.getfield 70, 3) := by decide +kernel
theorem dX8_begin_5 : decode cX8_begin 5 = .ok (.putfield 77, 3) := by decide +kernel
theorem dX8_begin_8 : decode cX8_begin 8 = .ok (.aload_n 0, 1) := by decide +kernel
theorem dX8_begin_9 : decode cX8_begin 9 = .ok (.iconst 0, 1) := by decide +kernel
theorem dX8_begin_10 : decode cX8_begin 10 = .ok (.putfield 70, 3) := by decide +kernel
theorem dX8_begin_13 : decode cX8_begin 13 = .ok (.aload_n 0, 1) := by decide +kernel
theorem dX8_begin_14 : decode cX8_begin 14 = .ok (.iconst 0, 1) := by decide +kernel
theorem dX8_begin_15 : decode cX8_begin 15 = .ok (.putfield 81, 3) := by decide +kernel
theorem dX8_begin_18 : decode cX8_begin 18 = .ok (.aload_n 0, 1) := by decide +kernel
theorem dX8_begin_19 : decode cX8_begin 19 = .ok (.iconst 0, 1) := by decide +kernel
theorem dX8_begin_20 : decode cX8_begin 20 = .ok (.putfield 103, 3) := by decide +kernel
theorem dX8_begin_23 : decode cX8_begin 23 = .ok (.aload_n 0, 1) := by decide +kernel
theorem dX8_begin_24 : decode cX8_begin 24 = .ok (.invokevirtual 106, 3) := by decide +kernel
theorem dX8_begin_27 : decode cX8_begin 27 = .ok (.return_, 1) := by decide +kernel
theorem dX8_bad_0 : decode cX8_bad 0 = .ok (.aload_n 0, 1) := by decide +kernel
theorem dX8_bad_1 : decode cX8_bad 1 = .ok (.getfield 103, 3) := by decide +kernel
theorem dX8_bad_4 : decode cX8_bad 4 = .ok (.ifCond .ne 16, 3) := by decide +kernel
theorem dX8_bad_7 : decode cX8_bad 7 = .ok (.aload_n 0, 1) := by decide +kernel
theorem dX8_bad_8 : decode cX8_bad 8 = .ok (.iload_n 1, 1) := by decide +kernel
theorem dX8_bad_9 : decode cX8_bad 9 = .ok (.putfield 103, 3) := by decide +kernel
theorem dX8_bad_12 : decode cX8_bad 12 = .ok (.aload_n 0, 1) := by decide +kernel
theorem dX8_bad_13 : decode cX8_bad 13 = .ok (.aload_n 0, 1) := by decide +kernel
theorem dX8_bad_14 : decode cX8_bad 14 = .ok (.getfield 88, 3) := by decide +kernel
theorem dX8_bad_17 : decode cX8_bad 17 = .ok (.putfield 109, 3) := by decide +kernel
theorem dX8_bad_20 : decode cX8_bad 20 = .ok (.return_, 1) := by decide +kernel
set_option maxRecDepth 20000 in
theorem ggX8_must_X8_bad : GoodIn wsX8_must wsX8_bad := goodIn_r _ [6, 1, 7, 8, 29, 30, 31, 32, 33, 34, 35, 36, 37, 38, 39, 40, 41, 42, 43, 44, 45, 46, 47, 48, 49, 50, 51, 52, 53, 54, 55] (by decide +kernel) (by decide +kernel)
set_option maxRecDepth 20000 in
theorem gX8_must_X8_bad : GoodIn wsX8_must (wsV RX8 112 RX8 yX8_bad wsX8_bad) := goodIn_app (goodIn_of _ (by decide +kernel)) ggX8_must_X8_bad
set_option maxRecDepth 20000 in
theorem ggX8_must_X8_next : GoodIn wsX8_must wsX8_next := goodIn_r _ [12, 13, 7, 14, 15, 16, 17, 18, 19, 5, 20, 21, 22, 23, 24, 25, 26, 27, 28, 29, 30, 31, 32, 33, 34, 35, 36, 37, 38, 39, 40, 41, 42, 43, 44, 45, 46, 47, 48, 49, 50, 51, 52, 53, 54, 55] (by decide +kernel) (by decide +kernel)
set_option maxRecDepth 20000 in
theorem gX8_must_X8_next : GoodIn wsX8_must (wsV RX8 106 RX8 yX8_next wsX8_next) := goodIn_app (goodIn_of _ (by decide +kernel)) ggX8_must_X8_next
theorem dX8_must_0 : decode cX8_must 0 = .ok (.iload_n 1, 1) := by decide +kernel
theorem dX8_must_1 : decode cX8_must 1 = .ok (.ifCond .ne 8, 3) := by decide +kernel
theorem dX8_must_4 : decode cX8_must 4 = .ok (.aload_n 0, 1) := by decide +kernel
theorem dX8_must_5 : decode cX8_must 5 = .ok (.iconst 1, 1) := by decide +kernel
theorem dX8_must_6 : decode cX8_must 6 = .ok (.invokevirtual 112, 3) := by decide +kernel
theorem dX8_must_9 : decode cX8_must 9 = .ok (.aload_n 0, 1) := by decide +kernel
theorem dX8_must_10 : decode cX8_must 10 = .ok (.getfield 103, 3) := by decide +kernel
theorem dX8_must_13 : decode cX8_must 13 = .ok (.ifCond .ne 7, 3) := by decide +kernel
theorem dX8_must_16 : decode cX8_must 16 = .ok (.aload_n 0, 1) := by decide +kernel
theorem dX8_must_17 : decode cX8_must 17 = .ok (.invokevirtual 106, 3) := by decide +kernel
theorem dX8_must_20 : decode cX8_must 20 = .ok (.return_, 1) := by decide +kernel
theorem dX8_name_0 : decode cX8_name 0 = .ok (.lconst 0, 1) := by decide +kernel
theorem dX8_name_1 : decode cX8_name 1 = .ok (.lstore_n 1, 1) := by decide +kernel
theorem dX8_name_2 : decode cX8_name 2 = .ok (.aload_n 0, 1) := by decide +kernel
theorem dX8_name_3 : decode cX8_name 3 = .ok (.getfield 88, 3) := by decide +kernel
theorem dX8_name_6 : decode cX8_name 6 = .ok (.istore_n 3, 1) := by decide +kernel
theorem dX8_name_7 : decode cX8_name 7 = .ok (.iload_n 3, 1) := by decide +kernel
theorem dX8_name_8 : decode cX8_name 8 = .ok (.aload_n 0, 1) := by decide +kernel
theorem dX8_name_9 : decode cX8_name 9 = .ok (.getfield 100, 3) := by decide +kernel
theorem dX8_name_12 : decode cX8_name 12 = .ok (.if_icmp .ge 44, 3) := by decide +kernel
theorem dX8_name_15 : decode cX8_name 15 = .ok (.aload_n 0, 1) := by decide +kernel
theorem dX8_name_16 : decode cX8_name 16 = .ok (.getfield 91, 3) := by decide +kernel
theorem dX8_name_19 : decode cX8_name 19 = .ok (.iconst 2, 1) := by decide +kernel
theorem dX8_name_20 : decode cX8_name 20 = .ok (.if_icmp .ne 36, 3) := by decide +kernel
theorem dX8_name_23 : decode cX8_name 23 = .ok (.aload_n 0, 1) := by decide +kernel
theorem dX8_name_24 : decode cX8_name 24 = .ok (.getfield 100, 3) := by decide +kernel
theorem dX8_name_27 : decode cX8_name 27 = .ok (.aload_n 0, 1) := by decide +kernel
theorem dX8_name_28 : decode cX8_name 28 = .ok (.getfield 88, 3) := by decide +kernel
theorem dX8_name_31 : decode cX8_name 31 = .ok (.isub, 1) := by decide +kernel
theorem dX8_name_32 : decode cX8_name 32 = .ok (.bipush 8, 2) := by decide +kernel
theorem dX8_name_34 : decode cX8_name 34 = .ok (.if_icmp .ge 22, 3) := by decide +kernel
theorem dX8_name_37 : decode cX8_name 37 = .ok (.lload_n 1, 1) := by decide +kernel
theorem dX8_name_38 : decode cX8_name 38 = .ok (.bipush 8, 2) := by decide +kernel
theorem dX8_name_40 : decode cX8_name 40 = .ok (.lshl, 1) := by decide +kernel
theorem dX8_name_41 : decode cX8_name 41 = .ok (.aload_n 0, 1) := by decide +kernel
theorem dX8_name_42 : decode cX8_name 42 = .ok (.getfield 28, 3) := by decide +kernel
theorem dX8_name_45 : decode cX8_name 45 = .ok (.iload_n 3, 1) := by decide +kernel
theorem dX8_name_46 : decode cX8_name 46 = .ok (.iaload, 1) := by decide +kernel
theorem dX8_name_47 : decode cX8_name 47 = .ok (.i2l, 1) := by decide +kernel
theorem dX8_name_48 : decode cX8_name 48 = .ok (.lor, 1) := by decide +kernel
theorem dX8_name_49 : decode cX8_name 49 = .ok (.lstore_n 1, 1) := by decide +kernel
theorem dX8_name_50 : decode cX8_name 50 = .ok (.iinc 3 1, 3) := by decide +kernel
theorem dX8_name_53 : decode cX8_name 53 = .ok (.goto (-46), 3) := by decide +kernel
theorem dX8_name_56 : decode cX8_name 56 = .ok (.aload_n 0, 1) := by decide +kernel
theorem dX8_name_57 : decode cX8_name 57 = .ok (.getfield 103, 3) := by decide +kernel
theorem dX8_name_60 : decode cX8_name 60 = .ok (.ifCond .ne 7, 3) := by decide +kernel
theorem dX8_name_63 : decode cX8_name 63 = .ok (.lload_n 1, 1) := by decide +kernel
theorem dX8_name_64 : decode cX8_name 64 = .ok (.goto 4, 3) := by decide +kernel
theorem dX8_name_67 : decode cX8_name 67 = .ok (.lconst 0, 1) := by decide +kernel
theorem dX8_name_68 : decode cX8_name 68 = .ok (.lreturn, 1) := by decide +kernel
theorem dX8_figures_0 : decode cX8_figures 0 = .ok (.iconst 0, 1) := by decide +kernel
theorem dX8_figures_1 : decode cX8_figures 1 = .ok (.istore_n 1, 1) := by decide +kernel
theorem dX8_figures_2 : decode cX8_figures 2 = .ok (.aload_n 0, 1) := by decide +kernel
theorem dX8_figures_3 : decode cX8_figures 3 = .ok (.getfield 88, 3) := by decide +kernel
theorem dX8_figures_6 : decode cX8_figures 6 = .ok (.istore_n 2, 1) := by decide +kernel
theorem dX8_figures_7 : decode cX8_figures 7 = .ok (.iload_n 2, 1) := by decide +kernel
theorem dX8_figures_8 : decode cX8_figures 8 = .ok (.aload_n 0, 1) := by decide +kernel
theorem dX8_figures_9 : decode cX8_figures 9 = .ok (.getfield 100, 3) := by decide +kernel
theorem dX8_figures_12 : decode cX8_figures 12 = .ok (.if_icmp .ge 32, 3) := by decide +kernel
theorem dX8_figures_15 : decode cX8_figures 15 = .ok (.aload_n 0, 1) := by decide +kernel
theorem dX8_figures_16 : decode cX8_figures 16 = .ok (.getfield 91, 3) := by decide +kernel
theorem dX8_figures_19 : decode cX8_figures 19 = .ok (.iconst 3, 1) := by decide +kernel
theorem dX8_figures_20 : decode cX8_figures 20 = .ok (.if_icmp .ne 24, 3) := by decide +kernel
theorem dX8_figures_23 : decode cX8_figures 23 = .ok (.bipush 10, 2) := by decide +kernel
theorem dX8_figures_25 : decode cX8_figures 25 = .ok (.iload_n 1, 1) := by decide +kernel
theorem dX8_figures_26 : decode cX8_figures 26 = .ok (.imul, 1) := by decide +kernel
theorem dX8_figures_27 : decode cX8_figures 27 = .ok (.aload_n 0, 1) := by decide +kernel
theorem dX8_figures_28 : decode cX8_figures 28 = .ok (.getfield 28, 3) := by decide +kernel
theorem dX8_figures_31 : decode cX8_figures 31 = .ok (.iload_n 2, 1) := by decide +kernel
theorem dX8_figures_32 : decode cX8_figures 32 = .ok (.iaload, 1) := by decide +kernel
theorem dX8_figures_33 : decode cX8_figures 33 = .ok (.iadd, 1) := by decide +kernel
theorem dX8_figures_34 : decode cX8_figures 34 = .ok (.bipush 48, 2) := by decide +kernel
theorem dX8_figures_36 : decode cX8_figures 36 = .ok (.isub, 1) := by decide +kernel
theorem dX8_figures_37 : decode cX8_figures 37 = .ok (.istore_n 1, 1) := by decide +kernel
theorem dX8_figures_38 : decode cX8_figures 38 = .ok (.iinc 2 1, 3) := by decide +kernel
theorem dX8_figures_41 : decode cX8_figures 41 = .ok (.goto (-34), 3) := by decide +kernel
theorem dX8_figures_44 : decode cX8_figures 44 = .ok (.iload_n 1, 1) := by decide +kernel
theorem dX8_figures_45 : decode cX8_figures 45 = .ok (.ireturn, 1) := by decide +kernel
set_option maxRecDepth 20000 in
theorem ggX8_number_X8_figures : GoodIn wsX8_number wsX8_figures := goodIn_r _ [7, 8, 9, 2, 10, 40, 41, 42, 43, 44, 45, 46, 47, 48, 49, 50, 51, 52, 53, 54, 55, 56, 57, 58, 59, 60, 61, 62, 63, 64, 65, 66] (by decide +kernel) (by decide +kernel)
set_option maxRecDepth 20000 in
theorem gX8_number_X8_figures : GoodIn wsX8_number (wsV RX8 116 RX8 yX8_figures wsX8_figures) := goodIn_app (goodIn_of _ (by decide +kernel)) ggX8_number_X8_figures
set_option maxRecDepth 20000 in
theorem ggX8_number_X8_in : GoodIn wsX8_number wsX8_in := goodIn_r _ [13] (by decide +kernel) (by decide +kernel)
set_option maxRecDepth 20000 in
theorem gX8_number_X8_in : GoodIn wsX8_number (va_wsS RX8 52 yX8_in wsX8_in) := goodIn_app (goodIn_of _ (by decide +kernel)) ggX8_number_X8_in
set_option maxRecDepth 20000 in
theorem ggX8_number_X8_bad : GoodIn wsX8_number wsX8_bad := goodIn_r _ [17, 1, 8, 18, 40, 41, 42, 43, 44, 45, 46, 47, 48, 49, 50, 51, 52, 53, 54, 55, 56, 57, 58, 59, 60, 61, 62, 63, 64, 65, 66] (by decide +kernel) (by decide +kernel)
set_option maxRecDepth 20000 in
theorem gX8_number_X8_bad : GoodIn wsX8_number (wsV RX8 112 RX8 yX8_bad wsX8_bad) := goodIn_app (goodIn_of _ (by decide +kernel)) ggX8_number_X8_bad
set_option maxRecDepth 20000 in
theorem ggX8_number_X8_must : GoodIn wsX8_number wsX8_must := goodIn_r _ [22, 1, 14, 15, 16, 6, 17, 8, 18, 23, 24, 25, 26, 27, 28, 2, 9, 29, 30, 31, 32, 33, 10, 34, 35, 36, 37, 38, 39, 40, 41, 42, 43, 44, 45, 46, 47, 48, 49, 50, 51, 52, 53, 54, 55, 56, 57, 58, 59, 60, 61, 62, 63, 64, 65, 66] (by decide +kernel) (by decide +kernel)
set_option maxRecDepth 20000 in
theorem gX8_number_X8_must : GoodIn wsX8_number (wsV RX8 120 RX8 yX8_must wsX8_must) := goodIn_app (goodIn_of _ (by decide +kernel)) ggX8_number_X8_must
theorem dX8_number_0 : decode cX8_number 0 = .ok (.aload_n 0, 1) := by decide +kernel
theorem dX8_number_1 : decode cX8_number 1 = .ok (.getfield 103, 3) := by decide +kernel
theorem dX8_number_4 : decode cX8_number 4 = .ok (.ifCond .le 5, 3) := by decide +kernel
theorem dX8_number_7 : decode cX8_number 7 = .ok (.iconst 0, 1) := by decide +kernel
theorem dX8_number_8 : decode cX8_number 8 = .ok (.ireturn, 1) := by decide +kernel
theorem dX8_number_9 : decode cX8_number 9 = .ok (.aload_n 0, 1) := by decide +kernel
theorem dX8_number_10 : decode cX8_number 10 = .ok (.invokevirtual 116, 3) := by decide +kernel
theorem dX8_number_13 : decode cX8_number 13 = .ok (.istore_n 3, 1) := by decide +kernel
theorem dX8_number_14 : decode cX8_number 14 = .ok (.aload_n 0, 1) := by decide +kernel
theorem dX8_number_15 : decode cX8_number 15 = .ok (.getfield 91, 3) := by decide +kernel
theorem dX8_number_18 : decode cX8_number 18 = .ok (.iconst 3, 1) := by decide +kernel
theorem dX8_number_19 : decode cX8_number 19 = .ok (.if_icmp .ne 20, 3) := by decide +kernel
theorem dX8_number_22 : decode cX8_number 22 = .ok (.iload_n 3, 1) := by decide +kernel
theorem dX8_number_23 : decode cX8_number 23 = .ok (.i2l, 1) := by decide +kernel
theorem dX8_number_24 : decode cX8_number 24 = .ok (.iload_n 1, 1) := by decide +kernel
theorem dX8_number_25 : decode cX8_number 25 = .ok (.i2l, 1) := by decide +kernel
theorem dX8_number_26 : decode cX8_number 26 = .ok (.iload_n 2, 1) := by decide +kernel
theorem dX8_number_27 : decode cX8_number 27 = .ok (.i2l, 1) := by decide +kernel
theorem dX8_number_28 : decode cX8_number 28 = .ok (.invokestatic 52, 3) := by decide +kernel
theorem dX8_number_31 : decode cX8_number 31 = .ok (.ifCond .ne 8, 3) := by decide +kernel
theorem dX8_number_34 : decode cX8_number 34 = .ok (.aload_n 0, 1) := by decide +kernel
theorem dX8_number_35 : decode cX8_number 35 = .ok (.iconst 2, 1) := by decide +kernel
theorem dX8_number_36 : decode cX8_number 36 = .ok (.invokevirtual 112, 3) := by decide +kernel
theorem dX8_number_39 : decode cX8_number 39 = .ok (.aload_n 0, 1) := by decide +kernel
theorem dX8_number_40 : decode cX8_number 40 = .ok (.aload_n 0, 1) := by decide +kernel
theorem dX8_number_41 : decode cX8_number 41 = .ok (.getfield 91, 3) := by decide +kernel
theorem dX8_number_44 : decode cX8_number 44 = .ok (.iconst 3, 1) := by decide +kernel
theorem dX8_number_45 : decode cX8_number 45 = .ok (.if_icmp .ne 7, 3) := by decide +kernel
theorem dX8_number_48 : decode cX8_number 48 = .ok (.iconst 1, 1) := by decide +kernel
theorem dX8_number_49 : decode cX8_number 49 = .ok (.goto 4, 3) := by decide +kernel
theorem dX8_number_52 : decode cX8_number 52 = .ok (.iconst 0, 1) := by decide +kernel
theorem dX8_number_53 : decode cX8_number 53 = .ok (.invokevirtual 120, 3) := by decide +kernel
theorem dX8_number_56 : decode cX8_number 56 = .ok (.iload_n 3, 1) := by decide +kernel
theorem dX8_number_57 : decode cX8_number 57 = .ok (.ireturn, 1) := by decide +kernel
theorem dX8_kindBy_0 : decode cX8_kindBy 0 = .ok (.lload_n 0, 1) := by decide +kernel
theorem dX8_kindBy_1 : decode cX8_kindBy 1 = .ok (.ldc2_w 124, 3) := by decide +kernel
theorem dX8_kindBy_4 : decode cX8_kindBy 4 = .ok (.lcmp, 1) := by decide +kernel
theorem dX8_kindBy_5 : decode cX8_kindBy 5 = .ok (.ifCond .ne 7, 3) := by decide +kernel
theorem dX8_kindBy_8 : decode cX8_kindBy 8 = .ok (.iconst 1, 1) := by decide +kernel
theorem dX8_kindBy_9 : decode cX8_kindBy 9 = .ok (.goto 53, 3) := by decide +kernel
theorem dX8_kindBy_12 : decode cX8_kindBy 12 = .ok (.lload_n 0, 1) := by decide +kernel
theorem dX8_kindBy_13 : decode cX8_kindBy 13 = .ok (.ldc2_w 126, 3) := by decide +kernel
theorem dX8_kindBy_16 : decode cX8_kindBy 16 = .ok (.lcmp, 1) := by decide +kernel
theorem dX8_kindBy_17 : decode cX8_kindBy 17 = .ok (.ifCond .ne 7, 3) := by decide +kernel
theorem dX8_kindBy_20 : decode cX8_kindBy 20 = .ok (.iconst 2, 1) := by decide +kernel
theorem dX8_kindBy_21 : decode cX8_kindBy 21 = .ok (.goto 41, 3) := by decide +kernel
theorem dX8_kindBy_24 : decode cX8_kindBy 24 = .ok (.lload_n 0, 1) := by decide +kernel
theorem dX8_kindBy_25 : decode cX8_kindBy 25 = .ok (.ldc2_w 128, 3) := by decide +kernel
theorem dX8_kindBy_28 : decode cX8_kindBy 28 = .ok (.lcmp, 1) := by decide +kernel
theorem dX8_kindBy_29 : decode cX8_kindBy 29 = .ok (.ifCond .ne 7, 3) := by decide +kernel
theorem dX8_kindBy_32 : decode cX8_kindBy 32 = .ok (.iconst 3, 1) := by decide +kernel
theorem dX8_kindBy_33 : decode cX8_kindBy 33 = .ok (.goto 29, 3) := by decide +kernel
theorem dX8_kindBy_36 : decode cX8_kindBy 36 = .ok (.lload_n 0, 1) := by decide +kernel
theorem dX8_kindBy_37 : decode cX8_kindBy 37 = .ok (.ldc2_w 130, 3) := by decide +kernel
theorem dX8_kindBy_40 : decode cX8_kindBy 40 = .ok (.lcmp, 1) := by decide +kernel
theorem dX8_kindBy_41 : decode cX8_kindBy 41 = .ok (.ifCond .ne 7, 3) := by decide +kernel
theorem dX8_kindBy_44 : decode cX8_kindBy 44 = .ok (.iconst 4, 1) := by decide +kernel
theorem dX8_kindBy_45 : decode cX8_kindBy 45 = .ok (.goto 17, 3) := by decide +kernel
theorem dX8_kindBy_48 : decode cX8_kindBy 48 = .ok (.lload_n 0, 1) := by decide +kernel
theorem dX8_kindBy_49 : decode cX8_kindBy 49 = .ok (.ldc2_w 132, 3) := by decide +kernel
theorem dX8_kindBy_52 : decode cX8_kindBy 52 = .ok (.lcmp, 1) := by decide +kernel
theorem dX8_kindBy_53 : decode cX8_kindBy 53 = .ok (.ifCond .ne 7, 3) := by decide +kernel
theorem dX8_kindBy_56 : decode cX8_kindBy 56 = .ok (.iconst 5, 1) := by decide +kernel
theorem dX8_kindBy_57 : decode cX8_kindBy 57 = .ok (.goto 5, 3) := by decide +kernel
theorem dX8_kindBy_60 : decode cX8_kindBy 60 = .ok (.ldc 80, 2) := by decide +kernel
theorem dX8_kindBy_62 : decode cX8_kindBy 62 = .ok (.ireturn, 1) := by decide +kernel
set_option maxRecDepth 20000 in
theorem ggX8_mustEnd_X8_must : GoodIn wsX8_mustEnd wsX8_must := goodIn_r _ [7, 1, 8, 9, 10, 6, 11, 12, 13, 14, 15, 16, 17, 18, 19, 2, 20, 21, 22, 23, 24, 25, 26, 27, 28, 29, 30, 31, 32, 33, 34, 35, 36, 37, 38, 39, 40, 41, 42, 43, 44, 45, 46, 47, 48, 49, 50, 51, 52, 53, 54, 55, 56, 57, 58, 59] (by decide +kernel) (by decide +kernel)
set_option maxRecDepth 20000 in
theorem gX8_mustEnd_X8_must : GoodIn wsX8_mustEnd (wsV RX8 120 RX8 yX8_must wsX8_must) := goodIn_app (goodIn_of _ (by decide +kernel)) ggX8_mustEnd_X8_must
theorem dX8_mustEnd_0 : decode cX8_mustEnd 0 = .ok (.aload_n 0, 1) := by decide +kernel
theorem dX8_mustEnd_1 : decode cX8_mustEnd 1 = .ok (.getfield 103, 3) := by decide +kernel
theorem dX8_mustEnd_4 : decode cX8_mustEnd 4 = .ok (.ifCond .ne 20, 3) := by decide +kernel
theorem dX8_mustEnd_7 : decode cX8_mustEnd 7 = .ok (.aload_n 0, 1) := by decide +kernel
theorem dX8_mustEnd_8 : decode cX8_mustEnd 8 = .ok (.aload_n 0, 1) := by decide +kernel
theorem dX8_mustEnd_9 : decode cX8_mustEnd 9 = .ok (.getfield 91, 3) := by decide +kernel
theorem dX8_mustEnd_12 : decode cX8_mustEnd 12 = .ok (.iconst 4, 1) := by decide +kernel
theorem dX8_mustEnd_13 : decode cX8_mustEnd 13 = .ok (.if_icmp .ne 7, 3) := by decide +kernel
theorem dX8_mustEnd_16 : decode cX8_mustEnd 16 = .ok (.iconst 1, 1) := by decide +kernel
theorem dX8_mustEnd_17 : decode cX8_mustEnd 17 = .ok (.goto 4, 3) := by decide +kernel
theorem dX8_mustEnd_20 : decode cX8_mustEnd 20 = .ok (.iconst 0, 1) := by decide +kernel
theorem dX8_mustEnd_21 : decode cX8_mustEnd 21 = .ok (.invokevirtual 120, 3) := by decide +kernel
theorem dX8_mustEnd_24 : decode cX8_mustEnd 24 = .ok (.return_, 1) := by decide +kernel
set_option maxRecDepth 20000 in
theorem ggX8_begins_X8_bad : GoodIn wsX8_begins wsX8_bad := goodIn_r _ [6, 7, 8, 9, 34, 35, 36, 37, 38, 39, 40, 41, 42, 43, 44, 45, 46, 47, 48, 49, 50, 51, 52, 53, 54, 55, 56, 57, 58, 59, 60] (by decide +kernel) (by decide +kernel)
set_option maxRecDepth 20000 in
theorem gX8_begins_X8_bad : GoodIn wsX8_begins (wsV RX8 112 RX8 yX8_bad wsX8_bad) := goodIn_app (goodIn_of _ (by decide +kernel)) ggX8_begins_X8_bad
set_option maxRecDepth 20000 in
theorem ggX8_begins_X8_must : GoodIn wsX8_begins wsX8_must := goodIn_r _ [13, 7, 2, 3, 4, 5, 6, 8, 9, 14, 15, 16, 17, 18, 19, 20, 21, 22, 23, 24, 25, 26, 27, 28, 29, 30, 31, 32, 33, 34, 35, 36, 37, 38, 39, 40, 41, 42, 43, 44, 45, 46, 47, 48, 49, 50, 51, 52, 53, 54, 55, 56, 57, 58, 59, 60] (by decide +kernel) (by decide +kernel)
set_option maxRecDepth 20000 in
theorem gX8_begins_X8_must : GoodIn wsX8_begins (wsV RX8 120 RX8 yX8_must wsX8_must) := goodIn_app (goodIn_of _ (by decide +kernel)) ggX8_begins_X8_must
theorem dX8_begins_0 : decode cX8_begins 0 = .ok (.aload_n 0, 1) := by decide +kernel
theorem dX8_begins_1 : decode cX8_begins 1 = .ok (.getfield 22, 3) := by decide +kernel
theorem dX8_begins_4 : decode cX8_begins 4 = .ok (.iload_n 1, 1) := by decide +kernel
theorem dX8_begins_5 : decode cX8_begins 5 = .ok (.iaload, 1) := by decide +kernel
theorem dX8_begins_6 : decode cX8_begins 6 = .ok (.iload_n 2, 1) := by decide +kernel
theorem dX8_begins_7 : decode cX8_begins 7 = .ok (.if_icmp .ne 8, 3) := by decide +kernel
theorem dX8_begins_10 : decode cX8_begins 10 = .ok (.aload_n 0, 1) := by decide +kernel
theorem dX8_begins_11 : decode cX8_begins 11 = .ok (.iconst 3, 1) := by decide +kernel
theorem dX8_begins_12 : decode cX8_begins 12 = .ok (.invokevirtual 112, 3) := by decide +kernel
theorem dX8_begins_15 : decode cX8_begins 15 = .ok (.aload_n 0, 1) := by decide +kernel
theorem dX8_begins_16 : decode cX8_begins 16 = .ok (.iconst 1, 1) := by decide +kernel
theorem dX8_begins_17 : decode cX8_begins 17 = .ok (.invokevirtual 120, 3) := by decide +kernel
theorem dX8_begins_20 : decode cX8_begins 20 = .ok (.return_, 1) := by decide +kernel
set_option maxRecDepth 20000 in
theorem ggX8_readWinds_X8_name : GoodIn wsX8_readWinds wsX8_name := goodIn_r _ [7, 8, 9, 10, 11, 12, 54, 55, 56, 57, 58, 59, 60, 61, 62, 63, 64, 65, 66, 67, 68, 69, 70, 71, 72, 73, 74, 75, 76, 77, 78, 79, 80] (by decide +kernel) (by decide +kernel)
set_option maxRecDepth 20000 in
theorem gX8_readWinds_X8_name : GoodIn wsX8_readWinds (wsV RX8 134 RX8 yX8_name wsX8_name) := goodIn_app (goodIn_of _ (by decide +kernel)) ggX8_readWinds_X8_name
set_option maxRecDepth 20000 in
theorem ggX8_readWinds_X8_must : GoodIn wsX8_readWinds wsX8_must := goodIn_r _ [16, 12, 17, 18, 19, 6, 20, 8, 21, 22, 23, 24, 25, 26, 27, 10, 9, 28, 29, 30, 31, 32, 11, 33, 34, 35, 36, 37, 38, 54, 55, 56, 57, 58, 59, 60, 61, 62, 63, 64, 65, 66, 67, 68, 69, 70, 71, 72, 73, 74, 75, 76, 77, 78, 79, 80] (by decide +kernel) (by decide +kernel)
set_option maxRecDepth 20000 in
theorem gX8_readWinds_X8_must : GoodIn wsX8_readWinds (wsV RX8 120 RX8 yX8_must wsX8_must) := goodIn_app (goodIn_of _ (by decide +kernel)) ggX8_readWinds_X8_must
set_option maxRecDepth 20000 in
theorem ggX8_readWinds_X8_number : GoodIn wsX8_readWinds wsX8_number := goodIn_r _ [42, 12, 10, 43, 44, 45, 6, 46, 8, 9, 11, 47, 48, 49, 17, 18, 19, 20, 21, 13, 14, 15, 16, 22, 23, 24, 25, 26, 27, 28, 29, 30, 31, 32, 33, 34, 35, 36, 37, 38, 54, 55, 56, 57, 58, 59, 60, 61, 62, 63, 64, 65, 66, 67, 68, 69, 70, 71, 72, 73, 74, 75, 76, 77, 78, 79, 80] (by decide +kernel) (by decide +kernel)
set_option maxRecDepth 20000 in
theorem gX8_readWinds_X8_number : GoodIn wsX8_readWinds (wsV RX8 140 RX8 yX8_number wsX8_number) := goodIn_app (goodIn_of _ (by decide +kernel)) ggX8_readWinds_X8_number
set_option maxRecDepth 20000 in
theorem ggX8_readWinds_X8_mustEnd : GoodIn wsX8_readWinds wsX8_mustEnd := goodIn_r _ [53, 12, 10, 13, 14, 15, 6, 16, 17, 18, 19, 20, 8, 21, 22, 23, 24, 25, 26, 27, 9, 28, 29, 30, 31, 32, 11, 33, 34, 35, 36, 37, 38, 54, 55, 56, 57, 58, 59, 60, 61, 62, 63, 64, 65, 66, 67, 68, 69, 70, 71, 72, 73, 74, 75, 76, 77, 78, 79, 80] (by decide +kernel) (by decide +kernel)
set_option maxRecDepth 20000 in
theorem gX8_readWinds_X8_mustEnd : GoodIn wsX8_readWinds (wsV RX8 144 RX8 yX8_mustEnd wsX8_mustEnd) := goodIn_app (goodIn_of _ (by decide +kernel)) ggX8_readWinds_X8_mustEnd
theorem dX8_readWinds_0 : decode cX8_readWinds 0 = .ok (.aload_n 0, 1) := by decide +kernel
theorem dX8_readWinds_1 : decode cX8_readWinds 1 = .ok (.aload_n 0, 1) := by decide +kernel
theorem dX8_readWinds_2 : decode cX8_readWinds 2 = .ok (.invokevirtual 134, 3) := by decide +kernel
theorem dX8_readWinds_5 : decode cX8_readWinds 5 = .ok (.ldc2_w 138, 3) := by decide +kernel
theorem dX8_readWinds_8 : decode cX8_readWinds 8 = .ok (.lcmp, 1) := by decide +kernel
theorem dX8_readWinds_9 : decode cX8_readWinds 9 = .ok (.ifCond .ne 7, 3) := by decide +kernel
theorem dX8_readWinds_12 : decode cX8_readWinds 12 = .ok (.iconst 1, 1) := by decide +kernel
theorem dX8_readWinds_13 : decode cX8_readWinds 13 = .ok (.goto 4, 3) := by decide +kernel
theorem dX8_readWinds_16 : decode cX8_readWinds 16 = .ok (.iconst 0, 1) := by decide +kernel
theorem dX8_readWinds_17 : decode cX8_readWinds 17 = .ok (.invokevirtual 120, 3) := by decide +kernel
theorem dX8_readWinds_20 : decode cX8_readWinds 20 = .ok (.iconst 0, 1) := by decide +kernel
theorem dX8_readWinds_21 : decode cX8_readWinds 21 = .ok (.istore_n 1, 1) := by decide +kernel
theorem dX8_readWinds_22 : decode cX8_readWinds 22 = .ok (.iload_n 1, 1) := by decide +kernel
theorem dX8_readWinds_23 : decode cX8_readWinds 23 = .ok (.bipush 12, 2) := by decide +kernel
theorem dX8_readWinds_25 : decode cX8_readWinds 25 = .ok (.if_icmp .ge 23, 3) := by decide +kernel
theorem dX8_readWinds_28 : decode cX8_readWinds 28 = .ok (.aload_n 0, 1) := by decide +kernel
theorem dX8_readWinds_29 : decode cX8_readWinds 29 = .ok (.getfield 22, 3) := by decide +kernel
theorem dX8_readWinds_32 : decode cX8_readWinds 32 = .ok (.iconst 3, 1) := by decide +kernel
theorem dX8_readWinds_33 : decode cX8_readWinds 33 = .ok (.iload_n 1, 1) := by decide +kernel
theorem dX8_readWinds_34 : decode cX8_readWinds 34 = .ok (.iadd, 1) := by decide +kernel
theorem dX8_readWinds_35 : decode cX8_readWinds 35 = .ok (.aload_n 0, 1) := by decide +kernel
theorem dX8_readWinds_36 : decode cX8_readWinds 36 = .ok (.iconst 0, 1) := by decide +kernel
theorem dX8_readWinds_37 : decode cX8_readWinds 37 = .ok (.iconst 3, 1) := by decide +kernel
theorem dX8_readWinds_38 : decode cX8_readWinds 38 = .ok (.invokevirtual 140, 3) := by decide +kernel
theorem dX8_readWinds_41 : decode cX8_readWinds 41 = .ok (.iastore, 1) := by decide +kernel
theorem dX8_readWinds_42 : decode cX8_readWinds 42 = .ok (.iinc 1 1, 3) := by decide +kernel
theorem dX8_readWinds_45 : decode cX8_readWinds 45 = .ok (.goto (-23), 3) := by decide +kernel
theorem dX8_readWinds_48 : decode cX8_readWinds 48 = .ok (.aload_n 0, 1) := by decide +kernel
theorem dX8_readWinds_49 : decode cX8_readWinds 49 = .ok (.invokevirtual 144, 3) := by decide +kernel
theorem dX8_readWinds_52 : decode cX8_readWinds 52 = .ok (.return_, 1) := by decide +kernel
set_option maxRecDepth 20000 in
theorem ggX8_readGrave_X8_begins : GoodIn wsX8_readGrave wsX8_begins := goodIn_r _ [7, 2, 8, 9, 10, 6, 11, 1, 12, 13, 14, 15, 16, 17, 18, 19, 20, 21, 22, 23, 24, 25, 26, 27, 28, 29, 30, 31, 32, 33, 34, 35, 36, 37, 53, 54, 55, 56, 57, 58, 59, 60, 61, 62, 63, 64, 65, 66, 67, 68, 69, 70, 71, 72, 73, 74, 75, 76, 77, 78, 79] (by decide +kernel) (by decide +kernel)
set_option maxRecDepth 20000 in
theorem gX8_readGrave_X8_begins : GoodIn wsX8_readGrave (wsV RX8 147 RX8 yX8_begins wsX8_begins) := goodIn_app (goodIn_of _ (by decide +kernel)) ggX8_readGrave_X8_begins
set_option maxRecDepth 20000 in
theorem ggX8_readGrave_X8_number : GoodIn wsX8_readGrave wsX8_number := goodIn_r _ [41, 1, 24, 42, 43, 44, 6, 45, 12, 25, 31, 46, 47, 48, 8, 9, 10, 11, 13, 14, 15, 16, 17, 18, 19, 20, 21, 22, 23, 26, 27, 28, 29, 30, 32, 33, 34, 35, 36, 37, 53, 54, 55, 56, 57, 58, 59, 60, 61, 62, 63, 64, 65, 66, 67, 68, 69, 70, 71, 72, 73, 74, 75, 76, 77, 78, 79] (by decide +kernel) (by decide +kernel)
set_option maxRecDepth 20000 in
theorem gX8_readGrave_X8_number : GoodIn wsX8_readGrave (wsV RX8 140 RX8 yX8_number wsX8_number) := goodIn_app (goodIn_of _ (by decide +kernel)) ggX8_readGrave_X8_number
set_option maxRecDepth 20000 in
theorem ggX8_readGrave_X8_mustEnd : GoodIn wsX8_readGrave wsX8_mustEnd := goodIn_r _ [52, 1, 24, 14, 15, 16, 6, 17, 8, 9, 10, 11, 12, 13, 18, 19, 20, 21, 22, 23, 25, 26, 27, 28, 29, 30, 31, 32, 33, 34, 35, 36, 37, 53, 54, 55, 56, 57, 58, 59, 60, 61, 62, 63, 64, 65, 66, 67, 68, 69, 70, 71, 72, 73, 74, 75, 76, 77, 78, 79] (by decide +kernel) (by decide +kernel)
set_option maxRecDepth 20000 in
theorem gX8_readGrave_X8_mustEnd : GoodIn wsX8_readGrave (wsV RX8 144 RX8 yX8_mustEnd wsX8_mustEnd) := goodIn_app (goodIn_of _ (by decide +kernel)) ggX8_readGrave_X8_mustEnd
theorem dX8_readGrave_0 : decode cX8_readGrave 0 = .ok (.aload_n 0, 1) := by decide +kernel
theorem dX8_readGrave_1 : decode cX8_readGrave 1 = .ok (.iconst 0, 1) := by decide +kernel
theorem dX8_readGrave_2 : decode cX8_readGrave 2 = .ok (.iconst 5, 1) := by decide +kernel
theorem dX8_readGrave_3 : decode cX8_readGrave 3 = .ok (.invokevirtual 147, 3) := by decide +kernel
theorem dX8_readGrave_6 : decode cX8_readGrave 6 = .ok (.aload_n 0, 1) := by decide +kernel
theorem dX8_readGrave_7 : decode cX8_readGrave 7 = .ok (.iconst 0, 1) := by decide +kernel
theorem dX8_readGrave_8 : decode cX8_readGrave 8 = .ok (.bipush 30, 2) := by decide +kernel
theorem dX8_readGrave_10 : decode cX8_readGrave 10 = .ok (.invokevirtual 140, 3) := by decide +kernel
theorem dX8_readGrave_13 : decode cX8_readGrave 13 = .ok (.istore_n 1, 1) := by decide +kernel
theorem dX8_readGrave_14 : decode cX8_readGrave 14 = .ok (.aload_n 0, 1) := by decide +kernel
theorem dX8_readGrave_15 : decode cX8_readGrave 15 = .ok (.iconst 0, 1) := by decide +kernel
theorem dX8_readGrave_16 : decode cX8_readGrave 16 = .ok (.bipush 9, 2) := by decide +kernel
theorem dX8_readGrave_18 : decode cX8_readGrave 18 = .ok (.invokevirtual 140, 3) := by decide +kernel
theorem dX8_readGrave_21 : decode cX8_readGrave 21 = .ok (.istore_n 2, 1) := by decide +kernel
theorem dX8_readGrave_22 : decode cX8_readGrave 22 = .ok (.aload_n 0, 1) := by decide +kernel
theorem dX8_readGrave_23 : decode cX8_readGrave 23 = .ok (.iconst 0, 1) := by decide +kernel
theorem dX8_readGrave_24 : decode cX8_readGrave 24 = .ok (.bipush 9, 2) := by decide +kernel
theorem dX8_readGrave_26 : decode cX8_readGrave 26 = .ok (.invokevirtual 140, 3) := by decide +kernel
theorem dX8_readGrave_29 : decode cX8_readGrave 29 = .ok (.istore_n 3, 1) := by decide +kernel
theorem dX8_readGrave_30 : decode cX8_readGrave 30 = .ok (.aload_n 0, 1) := by decide +kernel
theorem dX8_readGrave_31 : decode cX8_readGrave 31 = .ok (.iconst 0, 1) := by decide +kernel
theorem dX8_readGrave_32 : decode cX8_readGrave 32 = .ok (.bipush 15, 2) := by decide +kernel
theorem dX8_readGrave_34 : decode cX8_readGrave 34 = .ok (.invokevirtual 140, 3) := by decide +kernel
theorem dX8_readGrave_37 : decode cX8_readGrave 37 = .ok (.istore 4, 2) := by decide +kernel
theorem dX8_readGrave_39 : decode cX8_readGrave 39 = .ok (.aload_n 0, 1) := by decide +kernel
theorem dX8_readGrave_40 : decode cX8_readGrave 40 = .ok (.invokevirtual 144, 3) := by decide +kernel
theorem dX8_readGrave_43 : decode cX8_readGrave 43 = .ok (.aload_n 0, 1) := by decide +kernel
theorem dX8_readGrave_44 : decode cX8_readGrave 44 = .ok (.getfield 103, 3) := by decide +kernel
theorem dX8_readGrave_47 : decode cX8_readGrave 47 = .ok (.ifCond .ne 65, 3) := by decide +kernel
theorem dX8_readGrave_50 : decode cX8_readGrave 50 = .ok (.bipush 15, 2) := by decide +kernel
theorem dX8_readGrave_52 : decode cX8_readGrave 52 = .ok (.iconst 4, 1) := by decide +kernel
theorem dX8_readGrave_53 : decode cX8_readGrave 53 = .ok (.aload_n 0, 1) := by decide +kernel
theorem dX8_readGrave_54 : decode cX8_readGrave 54 = .ok (.getfield 22, 3) := by decide +kernel
theorem dX8_readGrave_57 : decode cX8_readGrave 57 = .ok (.iconst 0, 1) := by decide +kernel
theorem dX8_readGrave_58 : decode cX8_readGrave 58 = .ok (.iaload, 1) := by decide +kernel
theorem dX8_readGrave_59 : decode cX8_readGrave 59 = .ok (.imul, 1) := by decide +kernel
theorem dX8_readGrave_60 : decode cX8_readGrave 60 = .ok (.iadd, 1) := by decide +kernel
theorem dX8_readGrave_61 : decode cX8_readGrave 61 = .ok (.istore 5, 2) := by decide +kernel
theorem dX8_readGrave_63 : decode cX8_readGrave 63 = .ok (.aload_n 0, 1) := by decide +kernel
theorem dX8_readGrave_64 : decode cX8_readGrave 64 = .ok (.getfield 22, 3) := by decide +kernel
theorem dX8_readGrave_67 : decode cX8_readGrave 67 = .ok (.iload 5, 2) := by decide +kernel
theorem dX8_readGrave_69 : decode cX8_readGrave 69 = .ok (.iload_n 1, 1) := by decide +kernel
theorem dX8_readGrave_70 : decode cX8_readGrave 70 = .ok (.iastore, 1) := by decide +kernel
theorem dX8_readGrave_71 : decode cX8_readGrave 71 = .ok (.aload_n 0, 1) := by decide +kernel
theorem dX8_readGrave_72 : decode cX8_readGrave 72 = .ok (.getfield 22, 3) := by decide +kernel
theorem dX8_readGrave_75 : decode cX8_readGrave 75 = .ok (.iload 5, 2) := by decide +kernel
theorem dX8_readGrave_77 : decode cX8_readGrave 77 = .ok (.iconst 1, 1) := by decide +kernel
theorem dX8_readGrave_78 : decode cX8_readGrave 78 = .ok (.iadd, 1) := by decide +kernel
theorem dX8_readGrave_79 : decode cX8_readGrave 79 = .ok (.iload_n 2, 1) := by decide +kernel
theorem dX8_readGrave_80 : decode cX8_readGrave 80 = .ok (.iastore, 1) := by decide +kernel
theorem dX8_readGrave_81 : decode cX8_readGrave 81 = .ok (.aload_n 0, 1) := by decide +kernel
theorem dX8_readGrave_82 : decode cX8_readGrave 82 = .ok (.getfield 22, 3) := by decide +kernel
theorem dX8_readGrave_85 : decode cX8_readGrave 85 = .ok (.iload 5, 2) := by decide +kernel
theorem dX8_readGrave_87 : decode cX8_readGrave 87 = .ok (.iconst 2, 1) := by decide +kernel
theorem dX8_readGrave_88 : decode cX8_readGrave 88 = .ok (.iadd, 1) := by decide +kernel
theorem dX8_readGrave_89 : decode cX8_readGrave 89 = .ok (.iload_n 3, 1) := by decide +kernel
theorem dX8_readGrave_90 : decode cX8_readGrave 90 = .ok (.iastore, 1) := by decide +kernel
theorem dX8_readGrave_91 : decode cX8_readGrave 91 = .ok (.aload_n 0, 1) := by decide +kernel
theorem dX8_readGrave_92 : decode cX8_readGrave 92 = .ok (.getfield 22, 3) := by decide +kernel
theorem dX8_readGrave_95 : decode cX8_readGrave 95 = .ok (.iload 5, 2) := by decide +kernel
theorem dX8_readGrave_97 : decode cX8_readGrave 97 = .ok (.iconst 3, 1) := by decide +kernel
theorem dX8_readGrave_98 : decode cX8_readGrave 98 = .ok (.iadd, 1) := by decide +kernel
theorem dX8_readGrave_99 : decode cX8_readGrave 99 = .ok (.iload 4, 2) := by decide +kernel
theorem dX8_readGrave_101 : decode cX8_readGrave 101 = .ok (.iastore, 1) := by decide +kernel
theorem dX8_readGrave_102 : decode cX8_readGrave 102 = .ok (.aload_n 0, 1) := by decide +kernel
theorem dX8_readGrave_103 : decode cX8_readGrave 103 = .ok (.getfield 22, 3) := by decide +kernel
theorem dX8_readGrave_106 : decode cX8_readGrave 106 = .ok (.iconst 0, 1) := by decide +kernel
theorem dX8_readGrave_107 : decode cX8_readGrave 107 = .ok (.dup2, 1) := by decide +kernel
theorem dX8_readGrave_108 : decode cX8_readGrave 108 = .ok (.iaload, 1) := by decide +kernel
theorem dX8_readGrave_109 : decode cX8_readGrave 109 = .ok (.iconst 1, 1) := by decide +kernel
theorem dX8_readGrave_110 : decode cX8_readGrave 110 = .ok (.iadd, 1) := by decide +kernel
theorem dX8_readGrave_111 : decode cX8_readGrave 111 = .ok (.iastore, 1) := by decide +kernel
theorem dX8_readGrave_112 : decode cX8_readGrave 112 = .ok (.return_, 1) := by decide +kernel
set_option maxRecDepth 20000 in
theorem ggX8_readHorn_X8_begins : GoodIn wsX8_readHorn wsX8_begins := goodIn_r _ [7, 2, 8, 9, 10, 6, 11, 1, 12, 13, 14, 15, 16, 17, 18, 19, 20, 21, 22, 23, 24, 25, 26, 27, 28, 29, 30, 31, 32, 33, 34, 35, 36, 37, 53, 54, 55, 56, 57, 58, 59, 60, 61, 62, 63, 64, 65, 66, 67, 68, 69, 70, 71, 72, 73, 74, 75, 76, 77, 78, 79] (by decide +kernel) (by decide +kernel)
set_option maxRecDepth 20000 in
theorem gX8_readHorn_X8_begins : GoodIn wsX8_readHorn (wsV RX8 147 RX8 yX8_begins wsX8_begins) := goodIn_app (goodIn_of _ (by decide +kernel)) ggX8_readHorn_X8_begins
set_option maxRecDepth 20000 in
theorem ggX8_readHorn_X8_number : GoodIn wsX8_readHorn wsX8_number := goodIn_r _ [41, 1, 24, 42, 43, 44, 6, 45, 12, 25, 31, 46, 47, 48, 8, 9, 10, 11, 13, 14, 15, 16, 17, 18, 19, 20, 21, 22, 23, 26, 27, 28, 29, 30, 32, 33, 34, 35, 36, 37, 53, 54, 55, 56, 57, 58, 59, 60, 61, 62, 63, 64, 65, 66, 67, 68, 69, 70, 71, 72, 73, 74, 75, 76, 77, 78, 79] (by decide +kernel) (by decide +kernel)
set_option maxRecDepth 20000 in
theorem gX8_readHorn_X8_number : GoodIn wsX8_readHorn (wsV RX8 140 RX8 yX8_number wsX8_number) := goodIn_app (goodIn_of _ (by decide +kernel)) ggX8_readHorn_X8_number
set_option maxRecDepth 20000 in
theorem ggX8_readHorn_X8_mustEnd : GoodIn wsX8_readHorn wsX8_mustEnd := goodIn_r _ [52, 1, 24, 14, 15, 16, 6, 17, 8, 9, 10, 11, 12, 13, 18, 19, 20, 21, 22, 23, 25, 26, 27, 28, 29, 30, 31, 32, 33, 34, 35, 36, 37, 53, 54, 55, 56, 57, 58, 59, 60, 61, 62, 63, 64, 65, 66, 67, 68, 69, 70, 71, 72, 73, 74, 75, 76, 77, 78, 79] (by decide +kernel) (by decide +kernel)
set_option maxRecDepth 20000 in
theorem gX8_readHorn_X8_mustEnd : GoodIn wsX8_readHorn (wsV RX8 144 RX8 yX8_mustEnd wsX8_mustEnd) := goodIn_app (goodIn_of _ (by decide +kernel)) ggX8_readHorn_X8_mustEnd
