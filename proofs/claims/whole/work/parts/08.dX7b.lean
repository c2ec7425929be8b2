theorem dX7_odds_12 : decode cX7_odds 12 = .ok (.iload_n 2, 1) := by decide +kernel
theorem dX7_odds_13 : decode cX7_odds 13 = .ok (.iload_n 3, 1) := by decide +kernel
theorem dX7_odds_14 : decode cX7_odds 14 = .ok (.invokestatic 157, 3) := by decide +kernel
theorem dX7_odds_17 : decode cX7_odds 17 = .ok (.ifCond .eq 11, 3) := by decide +kernel
theorem dX7_odds_20 : decode cX7_odds 20 = .ok (.iload 4, 2) := by decide +kernel
theorem dX7_odds_22 : decode cX7_odds 22 = .ok (.invokestatic 234, 3) := by decide +kernel
theorem dX7_odds_25 : decode cX7_odds 25 = .ok (.ifCond .ne 7, 3) := by decide +kernel
theorem dX7_odds_28 : decode cX7_odds 28 = .ok (.ldc2_w 76, 3) := by decide +kernel
theorem dX7_odds_31 : decode cX7_odds 31 = .ok (.lreturn, 1) := by decide +kernel
theorem dX7_odds_32 : decode cX7_odds 32 = .ok (.aload_n 0, 1) := by decide +kernel
theorem dX7_odds_33 : decode cX7_odds 33 = .ok (.getfield 63, 3) := by decide +kernel
theorem dX7_odds_36 : decode cX7_odds 36 = .ok (.iload_n 1, 1) := by decide +kernel
theorem dX7_odds_37 : decode cX7_odds 37 = .ok (.iload_n 2, 1) := by decide +kernel
theorem dX7_odds_38 : decode cX7_odds 38 = .ok (.iconst 0, 1) := by decide +kernel
theorem dX7_odds_39 : decode cX7_odds 39 = .ok (.invokevirtual 161, 3) := by decide +kernel
theorem dX7_odds_42 : decode cX7_odds 42 = .ok (.istore 5, 2) := by decide +kernel
theorem dX7_odds_44 : decode cX7_odds 44 = .ok (.aload_n 0, 1) := by decide +kernel
theorem dX7_odds_45 : decode cX7_odds 45 = .ok (.getfield 49, 3) := by decide +kernel
theorem dX7_odds_48 : decode cX7_odds 48 = .ok (.aload_n 0, 1) := by decide +kernel
theorem dX7_odds_49 : decode cX7_odds 49 = .ok (.getfield 63, 3) := by decide +kernel
theorem dX7_odds_52 : decode cX7_odds 52 = .ok (.iload 5, 2) := by decide +kernel
theorem dX7_odds_54 : decode cX7_odds 54 = .ok (.iload_n 3, 1) := by decide +kernel
theorem dX7_odds_55 : decode cX7_odds 55 = .ok (.iconst 0, 1) := by decide +kernel
theorem dX7_odds_56 : decode cX7_odds 56 = .ok (.invokevirtual 237, 3) := by decide +kernel
theorem dX7_odds_59 : decode cX7_odds 59 = .ok (.ldc2_w 241, 3) := by decide +kernel
theorem dX7_odds_62 : decode cX7_odds 62 = .ok (.invokevirtual 243, 3) := by decide +kernel
theorem dX7_odds_65 : decode cX7_odds 65 = .ok (.aload_n 0, 1) := by decide +kernel
theorem dX7_odds_66 : decode cX7_odds 66 = .ok (.getfield 49, 3) := by decide +kernel
theorem dX7_odds_69 : decode cX7_odds 69 = .ok (.iload 4, 2) := by decide +kernel
theorem dX7_odds_71 : decode cX7_odds 71 = .ok (.invokevirtual 247, 3) := by decide +kernel
theorem dX7_odds_74 : decode cX7_odds 74 = .ok (.lreturn, 1) := by decide +kernel
set_option maxRecDepth 20000 in
theorem ggX7_how_X7_isMatter : GoodIn wsX7_how wsX7_isMatter := goodIn_r _ [8] (by decide +kernel) (by decide +kernel)
set_option maxRecDepth 20000 in
theorem gX7_how_X7_isMatter : GoodIn wsX7_how (va_wsS RX7 228 yX7_isMatter wsX7_isMatter) := goodIn_app (goodIn_of _ (by decide +kernel)) ggX7_how_X7_isMatter
set_option maxRecDepth 20000 in
theorem ggX7_how_X7_isHour : GoodIn wsX7_how wsX7_isHour := goodIn_r _ [11] (by decide +kernel) (by decide +kernel)
set_option maxRecDepth 20000 in
theorem gX7_how_X7_isHour : GoodIn wsX7_how (va_wsS RX7 250 yX7_isHour wsX7_isHour) := goodIn_app (goodIn_of _ (by decide +kernel)) ggX7_how_X7_isHour
set_option maxRecDepth 20000 in
theorem ggX7_how_X3_bestWay : GoodIn wsX7_how wsX3_bestWay := goodIn_r _ [16, 17, 18, 19, 20, 21, 22, 15, 23, 24, 25, 26, 27, 28, 29, 30, 31, 32, 33, 34, 35, 36, 37, 38, 39, 40, 41, 42, 43, 44, 45, 46, 47, 48, 49, 50, 51, 52, 53, 54, 55, 56, 57, 58, 59, 60, 61, 62, 63, 64, 65, 66, 67, 68, 69, 70, 71, 72, 73, 74, 75, 76, 77, 78, 79, 80, 81, 82, 83, 84, 85, 86, 87, 88, 89, 90, 91, 92, 93, 94, 95, 96, 111, 112, 113, 114, 115, 116, 117, 118, 119, 120, 121, 122, 123, 124] (by decide +kernel) (by decide +kernel)
set_option maxRecDepth 20000 in
theorem gX7_how_X3_bestWay : GoodIn wsX7_how (wsV RX7 253 RX3 yX3_bestWay wsX3_bestWay) := goodIn_app (goodIn_of _ (by decide +kernel)) ggX7_how_X3_bestWay
theorem dX7_how_0 : decode cX7_how 0 = .ok (.aload_n 0, 1) := by decide +kernel
theorem dX7_how_1 : decode cX7_how 1 = .ok (.getfield 145, 3) := by decide +kernel
theorem dX7_how_4 : decode cX7_how 4 = .ok (.ifCond .ne 7, 3) := by decide +kernel
theorem dX7_how_7 : decode cX7_how 7 = .ok (.ldc2_w 155, 3) := by decide +kernel
theorem dX7_how_10 : decode cX7_how 10 = .ok (.lreturn, 1) := by decide +kernel
theorem dX7_how_11 : decode cX7_how 11 = .ok (.iload_n 1, 1) := by decide +kernel
theorem dX7_how_12 : decode cX7_how 12 = .ok (.invokestatic 228, 3) := by decide +kernel
theorem dX7_how_15 : decode cX7_how 15 = .ok (.ifCond .eq 33, 3) := by decide +kernel
theorem dX7_how_18 : decode cX7_how 18 = .ok (.iload_n 2, 1) := by decide +kernel
theorem dX7_how_19 : decode cX7_how 19 = .ok (.ifCond .lt 29, 3) := by decide +kernel
theorem dX7_how_22 : decode cX7_how 22 = .ok (.iload_n 2, 1) := by decide +kernel
theorem dX7_how_23 : decode cX7_how 23 = .ok (.iconst 5, 1) := by decide +kernel
theorem dX7_how_24 : decode cX7_how 24 = .ok (.if_icmp .gt 24, 3) := by decide +kernel
theorem dX7_how_27 : decode cX7_how 27 = .ok (.iload_n 3, 1) := by decide +kernel
theorem dX7_how_28 : decode cX7_how 28 = .ok (.invokestatic 250, 3) := by decide +kernel
theorem dX7_how_31 : decode cX7_how 31 = .ok (.ifCond .eq 17, 3) := by decide +kernel
theorem dX7_how_34 : decode cX7_how 34 = .ok (.iload 4, 2) := by decide +kernel
theorem dX7_how_36 : decode cX7_how 36 = .ok (.invokestatic 250, 3) := by decide +kernel
theorem dX7_how_39 : decode cX7_how 39 = .ok (.ifCond .eq 9, 3) := by decide +kernel
theorem dX7_how_42 : decode cX7_how 42 = .ok (.iload_n 3, 1) := by decide +kernel
theorem dX7_how_43 : decode cX7_how 43 = .ok (.iload 4, 2) := by decide +kernel
theorem dX7_how_45 : decode cX7_how 45 = .ok (.if_icmp .le 7, 3) := by decide +kernel
theorem dX7_how_48 : decode cX7_how 48 = .ok (.ldc2_w 76, 3) := by decide +kernel
theorem dX7_how_51 : decode cX7_how 51 = .ok (.lreturn, 1) := by decide +kernel
theorem dX7_how_52 : decode cX7_how 52 = .ok (.aload_n 0, 1) := by decide +kernel
theorem dX7_how_53 : decode cX7_how 53 = .ok (.getfield 63, 3) := by decide +kernel
theorem dX7_how_56 : decode cX7_how 56 = .ok (.iload_n 1, 1) := by decide +kernel
theorem dX7_how_57 : decode cX7_how 57 = .ok (.iload_n 2, 1) := by decide +kernel
theorem dX7_how_58 : decode cX7_how 58 = .ok (.iload_n 3, 1) := by decide +kernel
theorem dX7_how_59 : decode cX7_how 59 = .ok (.iload 4, 2) := by decide +kernel
theorem dX7_how_61 : decode cX7_how 61 = .ok (.invokevirtual 253, 3) := by decide +kernel
theorem dX7_how_64 : decode cX7_how 64 = .ok (.i2l, 1) := by decide +kernel
theorem dX7_how_65 : decode cX7_how 65 = .ok (.lreturn, 1) := by decide +kernel
set_option maxRecDepth 20000 in
theorem ggX7_fell_X7_isAsked : GoodIn wsX7_fell wsX7_isAsked := goodIn_r _ [9, 10, 11, 8, 12, 13, 14, 15, 16, 17, 18] (by decide +kernel) (by decide +kernel)
set_option maxRecDepth 20000 in
theorem gX7_fell_X7_isAsked : GoodIn wsX7_fell (va_wsS RX7 157 yX7_isAsked wsX7_isAsked) := goodIn_app (goodIn_of _ (by decide +kernel)) ggX7_fell_X7_isAsked
set_option maxRecDepth 20000 in
theorem ggX7_fell_X3_isTree : GoodIn wsX7_fell wsX3_isTree := goodIn_r _ [23, 24, 133, 134, 135, 136, 137, 138, 139, 140, 141, 142, 143, 144, 145, 146] (by decide +kernel) (by decide +kernel)
set_option maxRecDepth 20000 in
theorem gX7_fell_X3_isTree : GoodIn wsX7_fell (wsV RX7 174 RX3 yX3_isTree wsX3_isTree) := goodIn_app (goodIn_of _ (by decide +kernel)) ggX7_fell_X3_isTree
set_option maxRecDepth 20000 in
theorem ggX7_fell_X3_gravesOf : GoodIn wsX7_fell wsX3_gravesOf := goodIn_r _ [28, 29, 30, 31, 32, 22, 33, 34, 24, 35, 36, 37, 38, 39, 40, 41, 42, 43, 44, 45, 46, 47, 48, 49, 50, 20, 21, 23, 51, 52, 53, 133, 134, 135, 136, 137, 138, 139, 140, 141, 142, 143, 144, 145, 146] (by decide +kernel) (by decide +kernel)
set_option maxRecDepth 20000 in
theorem gX7_fell_X3_gravesOf : GoodIn wsX7_fell (wsV RX7 225 RX3 yX3_gravesOf wsX3_gravesOf) := goodIn_app (goodIn_of _ (by decide +kernel)) ggX7_fell_X3_gravesOf
set_option maxRecDepth 20000 in
theorem ggX7_fell_X3_minding : GoodIn wsX7_fell wsX3_minding := goodIn_r _ [57, 29, 58, 34, 59, 60, 61, 22, 62, 63, 41, 42, 43, 44, 64, 65, 66, 67, 68, 51, 52, 53, 69, 70, 71, 72, 73, 74, 36, 37, 38, 39, 40, 75, 30, 31, 32, 33, 24, 35, 45, 46, 47, 48, 49, 50, 20, 21, 23, 133, 134, 135, 136, 137, 138, 139, 140, 141, 142, 143, 144, 145, 146] (by decide +kernel) (by decide +kernel)
set_option maxRecDepth 20000 in
theorem gX7_fell_X3_minding : GoodIn wsX7_fell (wsV RX7 161 RX3 yX3_minding wsX3_minding) := goodIn_app (goodIn_of _ (by decide +kernel)) ggX7_fell_X3_minding
set_option maxRecDepth 20000 in
theorem ggX7_fell_X3_withTemper : GoodIn wsX7_fell wsX3_withTemper := goodIn_r _ [79, 29, 80, 51, 52, 22, 53, 133, 134, 135, 136, 137, 138, 139, 140, 141, 142, 143, 144, 145, 146] (by decide +kernel) (by decide +kernel)
set_option maxRecDepth 20000 in
theorem gX7_fell_X3_withTemper : GoodIn wsX7_fell (wsV RX7 257 RX3 yX3_withTemper wsX3_withTemper) := goodIn_app (goodIn_of _ (by decide +kernel)) ggX7_fell_X3_withTemper
set_option maxRecDepth 20000 in
theorem ggX7_fell_X3_blown : GoodIn wsX7_fell wsX3_blown := goodIn_r _ [84, 85, 45, 46, 47, 22, 48, 49, 50, 20, 21, 23, 24, 51, 52, 53, 86, 87, 88, 89, 90, 133, 134, 135, 136, 137, 138, 139, 140, 141, 142, 143, 144, 145, 146] (by decide +kernel) (by decide +kernel)
set_option maxRecDepth 20000 in
theorem gX7_fell_X3_blown : GoodIn wsX7_fell (wsV RX7 260 RX3 yX3_blown wsX3_blown) := goodIn_app (goodIn_of _ (by decide +kernel)) ggX7_fell_X3_blown
set_option maxRecDepth 20000 in
theorem ggX7_fell_X7_setObjection : GoodIn wsX7_fell wsX7_setObjection := goodIn_r _ [94, 3, 95, 5, 96, 97, 98, 22, 99, 29, 80, 51, 52, 53, 100, 101, 102, 103, 104, 105, 106, 107, 108, 109, 110, 111, 112, 113, 114, 119, 120, 121, 122, 123, 124, 125, 126, 127, 128, 129, 130, 131, 132, 133, 134, 135, 136, 137, 138, 139, 140, 141, 142, 143, 144, 145, 146, 147, 148] (by decide +kernel) (by decide +kernel)
set_option maxRecDepth 20000 in
theorem gX7_fell_X7_setObjection : GoodIn wsX7_fell (wsV RX7 263 RX7 yX7_setObjection wsX7_setObjection) := goodIn_app (goodIn_of _ (by decide +kernel)) ggX7_fell_X7_setObjection
set_option maxRecDepth 20000 in
theorem ggX7_fell_X2_part : GoodIn wsX7_fell wsX2_part := goodIn_r _ [118, 110, 111, 147, 148] (by decide +kernel) (by decide +kernel)
set_option maxRecDepth 20000 in
theorem gX7_fell_X2_part : GoodIn wsX7_fell (wsV RX7 247 RX2 yX2_part wsX2_part) := goodIn_app (goodIn_of _ (by decide +kernel)) ggX7_fell_X2_part
theorem dX7_fell_0 : decode cX7_fell 0 = .ok (.aload_n 0, 1) := by decide +kernel
theorem dX7_fell_1 : decode cX7_fell 1 = .ok (.getfield 145, 3) := by decide +kernel
theorem dX7_fell_4 : decode cX7_fell 4 = .ok (.ifCond .ne 7, 3) := by decide +kernel
theorem dX7_fell_7 : decode cX7_fell 7 = .ok (.ldc2_w 155, 3) := by decide +kernel
theorem dX7_fell_10 : decode cX7_fell 10 = .ok (.lreturn, 1) := by decide +kernel
theorem dX7_fell_11 : decode cX7_fell 11 = .ok (.iload_n 1, 1) := by decide +kernel
theorem dX7_fell_12 : decode cX7_fell 12 = .ok (.iload_n 2, 1) := by decide +kernel
theorem dX7_fell_13 : decode cX7_fell 13 = .ok (.iload_n 3, 1) := by decide +kernel
theorem dX7_fell_14 : decode cX7_fell 14 = .ok (.invokestatic 157, 3) := by decide +kernel
theorem dX7_fell_17 : decode cX7_fell 17 = .ok (.ifCond .eq 26, 3) := by decide +kernel
theorem dX7_fell_20 : decode cX7_fell 20 = .ok (.aload_n 0, 1) := by decide +kernel
theorem dX7_fell_21 : decode cX7_fell 21 = .ok (.getfield 63, 3) := by decide +kernel
theorem dX7_fell_24 : decode cX7_fell 24 = .ok (.iload 4, 2) := by decide +kernel
theorem dX7_fell_26 : decode cX7_fell 26 = .ok (.invokevirtual 174, 3) := by decide +kernel
theorem dX7_fell_29 : decode cX7_fell 29 = .ok (.ifCond .eq 14, 3) := by decide +kernel
theorem dX7_fell_32 : decode cX7_fell 32 = .ok (.iload 5, 2) := by decide +kernel
theorem dX7_fell_34 : decode cX7_fell 34 = .ok (.ifCond .lt 9, 3) := by decide +kernel
theorem dX7_fell_37 : decode cX7_fell 37 = .ok (.iload 5, 2) := by decide +kernel
theorem dX7_fell_39 : decode cX7_fell 39 = .ok (.iconst 2, 1) := by decide +kernel
theorem dX7_fell_40 : decode cX7_fell 40 = .ok (.if_icmp .le 7, 3) := by decide +kernel
theorem dX7_fell_43 : decode cX7_fell 43 = .ok (.ldc2_w 76, 3) := by decide +kernel
theorem dX7_fell_46 : decode cX7_fell 46 = .ok (.lreturn, 1) := by decide +kernel
theorem dX7_fell_47 : decode cX7_fell 47 = .ok (.aload_n 0, 1) := by decide +kernel
theorem dX7_fell_48 : decode cX7_fell 48 = .ok (.getfield 63, 3) := by decide +kernel
theorem dX7_fell_51 : decode cX7_fell 51 = .ok (.iload 4, 2) := by decide +kernel
theorem dX7_fell_53 : decode cX7_fell 53 = .ok (.invokevirtual 225, 3) := by decide +kernel
theorem dX7_fell_56 : decode cX7_fell 56 = .ok (.aload_n 0, 1) := by decide +kernel
theorem dX7_fell_57 : decode cX7_fell 57 = .ok (.getfield 63, 3) := by decide +kernel
theorem dX7_fell_60 : decode cX7_fell 60 = .ok (.iload_n 1, 1) := by decide +kernel
theorem dX7_fell_61 : decode cX7_fell 61 = .ok (.iload_n 2, 1) := by decide +kernel
theorem dX7_fell_62 : decode cX7_fell 62 = .ok (.iconst 0, 1) := by decide +kernel
theorem dX7_fell_63 : decode cX7_fell 63 = .ok (.invokevirtual 161, 3) := by decide +kernel
theorem dX7_fell_66 : decode cX7_fell 66 = .ok (.iand, 1) := by decide +kernel
theorem dX7_fell_67 : decode cX7_fell 67 = .ok (.istore 6, 2) := by decide +kernel
theorem dX7_fell_69 : decode cX7_fell 69 = .ok (.iload 5, 2) := by decide +kernel
theorem dX7_fell_71 : decode cX7_fell 71 = .ok (.iconst 2, 1) := by decide +kernel
theorem dX7_fell_72 : decode cX7_fell 72 = .ok (.if_icmp .ne 14, 3) := by decide +kernel
theorem dX7_fell_75 : decode cX7_fell 75 = .ok (.aload_n 0, 1) := by decide +kernel
theorem dX7_fell_76 : decode cX7_fell 76 = .ok (.getfield 63, 3) := by decide +kernel
theorem dX7_fell_79 : decode cX7_fell 79 = .ok (.iload 6, 2) := by decide +kernel
theorem dX7_fell_81 : decode cX7_fell 81 = .ok (.invokevirtual 257, 3) := by decide +kernel
theorem dX7_fell_84 : decode cX7_fell 84 = .ok (.i2l, 1) := by decide +kernel
theorem dX7_fell_85 : decode cX7_fell 85 = .ok (.lreturn, 1) := by decide +kernel
theorem dX7_fell_86 : decode cX7_fell 86 = .ok (.aload_n 0, 1) := by decide +kernel
theorem dX7_fell_87 : decode cX7_fell 87 = .ok (.iload 6, 2) := by decide +kernel
theorem dX7_fell_89 : decode cX7_fell 89 = .ok (.aload_n 0, 1) := by decide +kernel
theorem dX7_fell_90 : decode cX7_fell 90 = .ok (.getfield 63, 3) := by decide +kernel
theorem dX7_fell_93 : decode cX7_fell 93 = .ok (.iload 4, 2) := by decide +kernel
theorem dX7_fell_95 : decode cX7_fell 95 = .ok (.iload_n 3, 1) := by decide +kernel
theorem dX7_fell_96 : decode cX7_fell 96 = .ok (.invokevirtual 260, 3) := by decide +kernel
theorem dX7_fell_99 : decode cX7_fell 99 = .ok (.invokevirtual 263, 3) := by decide +kernel
theorem dX7_fell_102 : decode cX7_fell 102 = .ok (.aload_n 0, 1) := by decide +kernel
theorem dX7_fell_103 : decode cX7_fell 103 = .ok (.getfield 49, 3) := by decide +kernel
theorem dX7_fell_106 : decode cX7_fell 106 = .ok (.iload 5, 2) := by decide +kernel
theorem dX7_fell_108 : decode cX7_fell 108 = .ok (.invokevirtual 247, 3) := by decide +kernel
theorem dX7_fell_111 : decode cX7_fell 111 = .ok (.lreturn, 1) := by decide +kernel
set_option maxRecDepth 20000 in
theorem ggX7_picks_X7_isAsked : GoodIn wsX7_picks wsX7_isAsked := goodIn_r _ [8, 9, 10, 7, 11, 12, 13, 14, 15, 16, 17] (by decide +kernel) (by decide +kernel)
set_option maxRecDepth 20000 in
theorem gX7_picks_X7_isAsked : GoodIn wsX7_picks (va_wsS RX7 157 yX7_isAsked wsX7_isAsked) := goodIn_app (goodIn_of _ (by decide +kernel)) ggX7_picks_X7_isAsked
set_option maxRecDepth 20000 in
theorem ggX7_picks_X3_fewestGone : GoodIn wsX7_picks wsX3_fewestGone := goodIn_r _ [22, 23, 24, 25, 26, 27, 28, 29, 30, 31, 32, 33, 34, 35, 21, 36, 37, 38, 39, 40, 41, 42, 43, 44, 45, 46, 47, 48, 49, 50, 51, 52, 53, 54, 55, 56, 57, 58, 59, 60, 61, 62, 63, 64, 65, 66, 67, 68, 69, 70, 71, 72, 73, 74, 75, 76, 77, 78, 79, 80, 81, 82, 83, 84, 85, 86, 87, 88, 89, 90, 91, 92, 93, 94, 95, 96, 97, 98, 99, 100, 101, 102, 103, 104, 105, 120, 121, 122, 123, 124, 125, 126, 127, 128, 129, 130, 131, 132, 133] (by decide +kernel) (by decide +kernel)
set_option maxRecDepth 20000 in
theorem gX7_picks_X3_fewestGone : GoodIn wsX7_picks (wsV RX7 266 RX3 yX3_fewestGone wsX3_fewestGone) := goodIn_app (goodIn_of _ (by decide +kernel)) ggX7_picks_X3_fewestGone
theorem dX7_picks_0 : decode cX7_picks 0 = .ok (.aload_n 0, 1) := by decide +kernel
theorem dX7_picks_1 : decode cX7_picks 1 = .ok (.getfield 145, 3) := by decide +kernel
theorem dX7_picks_4 : decode cX7_picks 4 = .ok (.ifCond .ne 7, 3) := by decide +kernel
theorem dX7_picks_7 : decode cX7_picks 7 = .ok (.ldc2_w 155, 3) := by decide +kernel
theorem dX7_picks_10 : decode cX7_picks 10 = .ok (.lreturn, 1) := by decide +kernel
theorem dX7_picks_11 : decode cX7_picks 11 = .ok (.iload_n 1, 1) := by decide +kernel
theorem dX7_picks_12 : decode cX7_picks 12 = .ok (.iload_n 2, 1) := by decide +kernel
theorem dX7_picks_13 : decode cX7_picks 13 = .ok (.iload_n 3, 1) := by decide +kernel
theorem dX7_picks_14 : decode cX7_picks 14 = .ok (.invokestatic 157, 3) := by decide +kernel
theorem dX7_picks_17 : decode cX7_picks 17 = .ok (.ifCond .eq 16, 3) := by decide +kernel
theorem dX7_picks_20 : decode cX7_picks 20 = .ok (.iload 4, 2) := by decide +kernel
theorem dX7_picks_22 : decode cX7_picks 22 = .ok (.ifCond .lt 11, 3) := by decide +kernel
theorem dX7_picks_25 : decode cX7_picks 25 = .ok (.iload 4, 2) := by decide +kernel
theorem dX7_picks_27 : decode cX7_picks 27 = .ok (.sipush 1000, 3) := by decide +kernel
theorem dX7_picks_30 : decode cX7_picks 30 = .ok (.if_icmp .le 7, 3) := by decide +kernel
theorem dX7_picks_33 : decode cX7_picks 33 = .ok (.ldc2_w 76, 3) := by decide +kernel
theorem dX7_picks_36 : decode cX7_picks 36 = .ok (.lreturn, 1) := by decide +kernel
theorem dX7_picks_37 : decode cX7_picks 37 = .ok (.aload_n 0, 1) := by decide +kernel
theorem dX7_picks_38 : decode cX7_picks 38 = .ok (.getfield 63, 3) := by decide +kernel
theorem dX7_picks_41 : decode cX7_picks 41 = .ok (.iload_n 1, 1) := by decide +kernel
theorem dX7_picks_42 : decode cX7_picks 42 = .ok (.iload_n 2, 1) := by decide +kernel
theorem dX7_picks_43 : decode cX7_picks 43 = .ok (.iload_n 3, 1) := by decide +kernel
theorem dX7_picks_44 : decode cX7_picks 44 = .ok (.iload 4, 2) := by decide +kernel
theorem dX7_picks_46 : decode cX7_picks 46 = .ok (.invokevirtual 266, 3) := by decide +kernel
theorem dX7_picks_49 : decode cX7_picks 49 = .ok (.i2l, 1) := by decide +kernel
theorem dX7_picks_50 : decode cX7_picks 50 = .ok (.lreturn, 1) := by decide +kernel
set_option maxRecDepth 20000 in
theorem ggX7_council_X7_isHorns : GoodIn wsX7_council wsX7_isHorns := goodIn_r _ [9] (by decide +kernel) (by decide +kernel)
set_option maxRecDepth 20000 in
theorem gX7_council_X7_isHorns : GoodIn wsX7_council (va_wsS RX7 231 yX7_isHorns wsX7_isHorns) := goodIn_app (goodIn_of _ (by decide +kernel)) ggX7_council_X7_isHorns
set_option maxRecDepth 20000 in
theorem ggX7_council_X7_isHour : GoodIn wsX7_council wsX7_isHour := goodIn_r _ [12] (by decide +kernel) (by decide +kernel)
set_option maxRecDepth 20000 in
theorem gX7_council_X7_isHour : GoodIn wsX7_council (va_wsS RX7 250 yX7_isHour wsX7_isHour) := goodIn_app (goodIn_of _ (by decide +kernel)) ggX7_council_X7_isHour
set_option maxRecDepth 20000 in
theorem ggX7_council_X5_isRow : GoodIn wsX7_council wsX5_isRow := goodIn_r _ [17] (by decide +kernel) (by decide +kernel)
set_option maxRecDepth 20000 in
theorem gX7_council_X5_isRow : GoodIn wsX7_council (wsV RX7 69 RX5 yX5_isRow wsX5_isRow) := goodIn_app (goodIn_of _ (by decide +kernel)) ggX7_council_X5_isRow
set_option maxRecDepth 20000 in
theorem ggX7_council_X7_isPart : GoodIn wsX7_council wsX7_isPart := goodIn_r _ [20] (by decide +kernel) (by decide +kernel)
set_option maxRecDepth 20000 in
theorem gX7_council_X7_isPart : GoodIn wsX7_council (va_wsS RX7 234 yX7_isPart wsX7_isPart) := goodIn_app (goodIn_of _ (by decide +kernel)) ggX7_council_X7_isPart
set_option maxRecDepth 20000 in
theorem ggX7_council_X5_isMissing : GoodIn wsX7_council wsX5_isMissing := goodIn_r _ [24, 25, 26, 14, 15, 16, 17, 166, 167, 168] (by decide +kernel) (by decide +kernel)
set_option maxRecDepth 20000 in
theorem gX7_council_X5_isMissing : GoodIn wsX7_council (wsV RX7 90 RX5 yX5_isMissing wsX5_isMissing) := goodIn_app (goodIn_of _ (by decide +kernel)) ggX7_council_X5_isMissing
set_option maxRecDepth 20000 in
theorem ggX7_council_X7_finding : GoodIn wsX7_council wsX7_finding := goodIn_r _ [30, 31, 32, 152, 153, 154, 155, 156, 157, 158, 159, 160, 161, 162, 163, 164, 165] (by decide +kernel) (by decide +kernel)
set_option maxRecDepth 20000 in
theorem gX7_council_X7_finding : GoodIn wsX7_council (wsV RX7 78 RX7 yX7_finding wsX7_finding) := goodIn_app (goodIn_of _ (by decide +kernel)) ggX7_council_X7_finding
set_option maxRecDepth 20000 in
theorem ggX7_council_X5_holds : GoodIn wsX7_council wsX5_holds := goodIn_r _ [36, 37, 38, 22, 23, 16, 24, 25, 26, 14, 15, 17, 166, 167, 168] (by decide +kernel) (by decide +kernel)
set_option maxRecDepth 20000 in
theorem gX7_council_X5_holds : GoodIn wsX7_council (wsV RX7 93 RX5 yX5_holds wsX5_holds) := goodIn_app (goodIn_of _ (by decide +kernel)) ggX7_council_X5_holds
set_option maxRecDepth 20000 in
theorem ggX7_council_X7_areMatters : GoodIn wsX7_council wsX7_areMatters := goodIn_r _ [42, 3, 43, 44, 45, 16, 46, 47, 48, 34, 35, 36, 37, 38, 22, 23, 24, 25, 26, 14, 15, 17, 49, 50, 8, 51, 152, 153, 154, 155, 156, 157, 158, 159, 160, 161, 162, 163, 164, 165, 166, 167, 168] (by decide +kernel) (by decide +kernel)
set_option maxRecDepth 20000 in
theorem gX7_council_X7_areMatters : GoodIn wsX7_council (wsV RX7 269 RX7 yX7_areMatters wsX7_areMatters) := goodIn_app (goodIn_of _ (by decide +kernel)) ggX7_council_X7_areMatters
set_option maxRecDepth 20000 in
theorem ggX7_council_X7_setCouncil : GoodIn wsX7_council wsX7_setCouncil := goodIn_r _ [55, 56, 3, 57, 5, 43, 44, 45, 16, 46, 47, 48, 34, 35, 36, 37, 38, 22, 23, 24, 25, 26, 14, 15, 17, 58, 59, 60, 61, 62, 63, 64, 65, 66, 67, 68, 69, 70, 71, 72, 73, 74, 75, 76, 77, 78, 79, 80, 81, 82, 83, 84, 85, 86, 87, 88, 89, 90, 91, 92, 93, 94, 95, 96, 97, 98, 99, 100, 101, 102, 103, 104, 105, 106, 107, 108, 109, 110, 111, 112, 113, 114, 115, 116, 117, 118, 119, 120, 121, 122, 123, 124, 125, 126, 127, 128, 129, 130, 131, 132, 133, 134, 135, 136, 137, 138, 139, 140, 141, 142, 143, 152, 153, 154, 155, 156, 157, 158, 159, 160, 161, 162, 163, 164, 165, 166, 167, 168, 169, 170, 171, 172, 173, 174, 175, 176, 177, 178, 179, 180, 181, 182, 183, 184] (by decide +kernel) (by decide +kernel)
set_option maxRecDepth 20000 in
theorem gX7_council_X7_setCouncil : GoodIn wsX7_council (wsV RX7 272 RX7 yX7_setCouncil wsX7_setCouncil) := goodIn_app (goodIn_of _ (by decide +kernel)) ggX7_council_X7_setCouncil
set_option maxRecDepth 20000 in
theorem ggX7_council_X2_part : GoodIn wsX7_council wsX2_part := goodIn_r _ [147, 139, 140, 183, 184] (by decide +kernel) (by decide +kernel)
set_option maxRecDepth 20000 in
theorem gX7_council_X2_part : GoodIn wsX7_council (wsV RX7 247 RX2 yX2_part wsX2_part) := goodIn_app (goodIn_of _ (by decide +kernel)) ggX7_council_X2_part
set_option maxRecDepth 20000 in
theorem ggX7_council_X7_withoutFinding : GoodIn wsX7_council wsX7_withoutFinding := goodIn_r _ [151, 31, 152, 153, 154, 155, 156, 157, 158, 159, 160, 161, 162, 163, 164, 165] (by decide +kernel) (by decide +kernel)
set_option maxRecDepth 20000 in
theorem gX7_council_X7_withoutFinding : GoodIn wsX7_council (wsV RX7 86 RX7 yX7_withoutFinding wsX7_withoutFinding) := goodIn_app (goodIn_of _ (by decide +kernel)) ggX7_council_X7_withoutFinding
theorem dX7_council_0 : decode cX7_council 0 = .ok (.aload_n 0, 1) := by decide +kernel
theorem dX7_council_1 : decode cX7_council 1 = .ok (.getfield 145, 3) := by decide +kernel
theorem dX7_council_4 : decode cX7_council 4 = .ok (.ifCond .ne 7, 3) := by decide +kernel
theorem dX7_council_7 : decode cX7_council 7 = .ok (.ldc2_w 155, 3) := by decide +kernel
theorem dX7_council_10 : decode cX7_council 10 = .ok (.lreturn, 1) := by decide +kernel
theorem dX7_council_11 : decode cX7_council 11 = .ok (.iload_n 1, 1) := by decide +kernel
theorem dX7_council_12 : decode cX7_council 12 = .ok (.invokestatic 231, 3) := by decide +kernel
theorem dX7_council_15 : decode cX7_council 15 = .ok (.ifCond .eq 53, 3) := by decide +kernel
theorem dX7_council_18 : decode cX7_council 18 = .ok (.iload_n 2, 1) := by decide +kernel
theorem dX7_council_19 : decode cX7_council 19 = .ok (.invokestatic 250, 3) := by decide +kernel
theorem dX7_council_22 : decode cX7_council 22 = .ok (.ifCond .eq 46, 3) := by decide +kernel
theorem dX7_council_25 : decode cX7_council 25 = .ok (.aload_n 0, 1) := by decide +kernel
theorem dX7_council_26 : decode cX7_council 26 = .ok (.getfield 12, 3) := by decide +kernel
theorem dX7_council_29 : decode cX7_council 29 = .ok (.iload_n 3, 1) := by decide +kernel
theorem dX7_council_30 : decode cX7_council 30 = .ok (.invokevirtual 69, 3) := by decide +kernel
theorem dX7_council_33 : decode cX7_council 33 = .ok (.ifCond .eq 35, 3) := by decide +kernel
theorem dX7_council_36 : decode cX7_council 36 = .ok (.iload 5, 2) := by decide +kernel
theorem dX7_council_38 : decode cX7_council 38 = .ok (.iconst 1, 1) := by decide +kernel
theorem dX7_council_39 : decode cX7_council 39 = .ok (.if_icmp .lt 29, 3) := by decide +kernel
theorem dX7_council_42 : decode cX7_council 42 = .ok (.iload 5, 2) := by decide +kernel
theorem dX7_council_44 : decode cX7_council 44 = .ok (.iconst 2, 1) := by decide +kernel
theorem dX7_council_45 : decode cX7_council 45 = .ok (.if_icmp .gt 23, 3) := by decide +kernel
theorem dX7_council_48 : decode cX7_council 48 = .ok (.iload_n 2, 1) := by decide +kernel
theorem dX7_council_49 : decode cX7_council 49 = .ok (.iload 5, 2) := by decide +kernel
theorem dX7_council_51 : decode cX7_council 51 = .ok (.iadd, 1) := by decide +kernel
theorem dX7_council_52 : decode cX7_council 52 = .ok (.iconst 1, 1) := by decide +kernel
theorem dX7_council_53 : decode cX7_council 53 = .ok (.isub, 1) := by decide +kernel
theorem dX7_council_54 : decode cX7_council 54 = .ok (.invokestatic 250, 3) := by decide +kernel
theorem dX7_council_57 : decode cX7_council 57 = .ok (.ifCond .eq 11, 3) := by decide +kernel
theorem dX7_council_60 : decode cX7_council 60 = .ok (.iload 6, 2) := by decide +kernel
theorem dX7_council_62 : decode cX7_council 62 = .ok (.invokestatic 234, 3) := by decide +kernel
theorem dX7_council_65 : decode cX7_council 65 = .ok (.ifCond .ne 7, 3) := by decide +kernel
theorem dX7_council_68 : decode cX7_council 68 = .ok (.ldc2_w 76, 3) := by decide +kernel
theorem dX7_council_71 : decode cX7_council 71 = .ok (.lreturn, 1) := by decide +kernel
theorem dX7_council_72 : decode cX7_council 72 = .ok (.aload_n 0, 1) := by decide +kernel
theorem dX7_council_73 : decode cX7_council 73 = .ok (.getfield 12, 3) := by decide +kernel
theorem dX7_council_76 : decode cX7_council 76 = .ok (.iload_n 3, 1) := by decide +kernel
theorem dX7_council_77 : decode cX7_council 77 = .ok (.invokevirtual 90, 3) := by decide +kernel
theorem dX7_council_80 : decode cX7_council 80 = .ok (.ifCond .eq 9, 3) := by decide +kernel
theorem dX7_council_83 : decode cX7_council 83 = .ok (.aload_n 0, 1) := by decide +kernel
theorem dX7_council_84 : decode cX7_council 84 = .ok (.iconst 1, 1) := by decide +kernel
theorem dX7_council_85 : decode cX7_council 85 = .ok (.invokevirtual 78, 3) := by decide +kernel
theorem dX7_council_88 : decode cX7_council 88 = .ok (.lreturn, 1) := by decide +kernel
theorem dX7_council_89 : decode cX7_council 89 = .ok (.aload_n 0, 1) := by decide +kernel
theorem dX7_council_90 : decode cX7_council 90 = .ok (.getfield 12, 3) := by decide +kernel
theorem dX7_council_93 : decode cX7_council 93 = .ok (.iload_n 3, 1) := by decide +kernel
theorem dX7_council_94 : decode cX7_council 94 = .ok (.iload 4, 2) := by decide +kernel
theorem dX7_council_96 : decode cX7_council 96 = .ok (.iload 5, 2) := by decide +kernel
theorem dX7_council_98 : decode cX7_council 98 = .ok (.invokevirtual 93, 3) := by decide +kernel
theorem dX7_council_101 : decode cX7_council 101 = .ok (.ifCond .ne 9, 3) := by decide +kernel
theorem dX7_council_104 : decode cX7_council 104 = .ok (.aload_n 0, 1) := by decide +kernel
theorem dX7_council_105 : decode cX7_council 105 = .ok (.iconst 2, 1) := by decide +kernel
theorem dX7_council_106 : decode cX7_council 106 = .ok (.invokevirtual 78, 3) := by decide +kernel
theorem dX7_council_109 : decode cX7_council 109 = .ok (.lreturn, 1) := by decide +kernel
theorem dX7_council_110 : decode cX7_council 110 = .ok (.aload_n 0, 1) := by decide +kernel
theorem dX7_council_111 : decode cX7_council 111 = .ok (.iload_n 3, 1) := by decide +kernel
theorem dX7_council_112 : decode cX7_council 112 = .ok (.iload 4, 2) := by decide +kernel
theorem dX7_council_114 : decode cX7_council 114 = .ok (.iload 5, 2) := by decide +kernel
theorem dX7_council_116 : decode cX7_council 116 = .ok (.invokevirtual 269, 3) := by decide +kernel
theorem dX7_council_119 : decode cX7_council 119 = .ok (.ifCond .ne 7, 3) := by decide +kernel
theorem dX7_council_122 : decode cX7_council 122 = .ok (.ldc2_w 76, 3) := by decide +kernel
theorem dX7_council_125 : decode cX7_council 125 = .ok (.lreturn, 1) := by decide +kernel
theorem dX7_council_126 : decode cX7_council 126 = .ok (.aload_n 0, 1) := by decide +kernel
theorem dX7_council_127 : decode cX7_council 127 = .ok (.iload_n 1, 1) := by decide +kernel
theorem dX7_council_128 : decode cX7_council 128 = .ok (.iload_n 2, 1) := by decide +kernel
theorem dX7_council_129 : decode cX7_council 129 = .ok (.iload_n 3, 1) := by decide +kernel
theorem dX7_council_130 : decode cX7_council 130 = .ok (.iload 4, 2) := by decide +kernel
theorem dX7_council_132 : decode cX7_council 132 = .ok (.iload 5, 2) := by decide +kernel
theorem dX7_council_134 : decode cX7_council 134 = .ok (.invokevirtual 272, 3) := by decide +kernel
theorem dX7_council_137 : decode cX7_council 137 = .ok (.aload_n 0, 1) := by decide +kernel
theorem dX7_council_138 : decode cX7_council 138 = .ok (.aload_n 0, 1) := by decide +kernel
theorem dX7_council_139 : decode cX7_council 139 = .ok (.getfield 49, 3) := by decide +kernel
theorem dX7_council_142 : decode cX7_council 142 = .ok (.iload 6, 2) := by decide +kernel
theorem dX7_council_144 : decode cX7_council 144 = .ok (.invokevirtual 247, 3) := by decide +kernel
theorem dX7_council_147 : decode cX7_council 147 = .ok (.invokevirtual 86, 3) := by decide +kernel
theorem dX7_council_150 : decode cX7_council 150 = .ok (.lreturn, 1) := by decide +kernel
set_option maxRecDepth 20000 in
theorem ggX7_image_X7_isImage : GoodIn wsX7_image wsX7_isImage := goodIn_r _ [9] (by decide +kernel) (by decide +kernel)
set_option maxRecDepth 20000 in
theorem gX7_image_X7_isImage : GoodIn wsX7_image (va_wsS RX7 275 yX7_isImage wsX7_isImage) := goodIn_app (goodIn_of _ (by decide +kernel)) ggX7_image_X7_isImage
set_option maxRecDepth 20000 in
theorem ggX7_image_X7_imageOf : GoodIn wsX7_image wsX7_imageOf := goodIn_r _ [13, 14, 15, 39, 40, 41, 42, 43, 44, 45, 46, 47, 48, 49, 50, 51, 52] (by decide +kernel) (by decide +kernel)
set_option maxRecDepth 20000 in
theorem gX7_image_X7_imageOf : GoodIn wsX7_image (wsV RX7 278 RX7 yX7_imageOf wsX7_imageOf) := goodIn_app (goodIn_of _ (by decide +kernel)) ggX7_image_X7_imageOf
set_option maxRecDepth 20000 in
theorem ggX7_image_X3_become : GoodIn wsX7_image wsX3_become := goodIn_r _ [20, 21, 22, 23, 24, 25, 26, 27, 28, 29, 30, 31, 32, 33, 34, 35, 36, 37, 38, 53, 54, 55, 56, 57, 58, 59, 60, 61, 62, 63, 64, 65, 66] (by decide +kernel) (by decide +kernel)
set_option maxRecDepth 20000 in
theorem gX7_image_X3_become : GoodIn wsX7_image (wsV RX7 282 RX3 yX3_become wsX3_become) := goodIn_app (goodIn_of _ (by decide +kernel)) ggX7_image_X3_become
theorem dX7_image_0 : decode cX7_image 0 = .ok (.iload_n 1, 1) := by decide +kernel
theorem dX7_image_1 : decode cX7_image 1 = .ok (.invokestatic 275, 3) := by decide +kernel
theorem dX7_image_4 : decode cX7_image 4 = .ok (.ifCond .ne 7, 3) := by decide +kernel
theorem dX7_image_7 : decode cX7_image 7 = .ok (.ldc2_w 76, 3) := by decide +kernel
theorem dX7_image_10 : decode cX7_image 10 = .ok (.lreturn, 1) := by decide +kernel
theorem dX7_image_11 : decode cX7_image 11 = .ok (.aload_n 0, 1) := by decide +kernel
theorem dX7_image_12 : decode cX7_image 12 = .ok (.getfield 145, 3) := by decide +kernel
theorem dX7_image_15 : decode cX7_image 15 = .ok (.ifCond .ne 7, 3) := by decide +kernel
theorem dX7_image_18 : decode cX7_image 18 = .ok (.ldc2_w 155, 3) := by decide +kernel
theorem dX7_image_21 : decode cX7_image 21 = .ok (.lreturn, 1) := by decide +kernel
theorem dX7_image_22 : decode cX7_image 22 = .ok (.aload_n 0, 1) := by decide +kernel
theorem dX7_image_23 : decode cX7_image 23 = .ok (.iload_n 1, 1) := by decide +kernel
theorem dX7_image_24 : decode cX7_image 24 = .ok (.invokevirtual 278, 3) := by decide +kernel
theorem dX7_image_27 : decode cX7_image 27 = .ok (.aload_n 0, 1) := by decide +kernel
theorem dX7_image_28 : decode cX7_image 28 = .ok (.getfield 63, 3) := by decide +kernel
theorem dX7_image_31 : decode cX7_image 31 = .ok (.invokevirtual 282, 3) := by decide +kernel
theorem dX7_image_34 : decode cX7_image 34 = .ok (.aload_n 0, 1) := by decide +kernel
theorem dX7_image_35 : decode cX7_image 35 = .ok (.dup, 1) := by decide +kernel
theorem dX7_image_36 : decode cX7_image 36 = .ok (.getfield 284, 3) := by decide +kernel
theorem dX7_image_39 : decode cX7_image 39 = .ok (.iconst 1, 1) := by decide +kernel
theorem dX7_image_40 : decode cX7_image 40 = .ok (.iload_n 1, 1) := by decide +kernel
theorem dX7_image_41 : decode cX7_image 41 = .ok (.ishl, 1) := by decide +kernel
theorem dX7_image_42 : decode cX7_image 42 = .ok (.ior, 1) := by decide +kernel
theorem dX7_image_43 : decode cX7_image 43 = .ok (.putfield 284, 3) := by decide +kernel
theorem dX7_image_46 : decode cX7_image 46 = .ok (.lconst 1, 1) := by decide +kernel
theorem dX7_image_47 : decode cX7_image 47 = .ok (.lreturn, 1) := by decide +kernel
set_option maxRecDepth 20000 in
theorem ggX7_restore_X7_isImage : GoodIn wsX7_restore wsX7_isImage := goodIn_r _ [9] (by decide +kernel) (by decide +kernel)
set_option maxRecDepth 20000 in
theorem gX7_restore_X7_isImage : GoodIn wsX7_restore (va_wsS RX7 275 yX7_isImage wsX7_isImage) := goodIn_app (goodIn_of _ (by decide +kernel)) ggX7_restore_X7_isImage
set_option maxRecDepth 20000 in
theorem ggX7_restore_X7_imageOf : GoodIn wsX7_restore wsX7_imageOf := goodIn_r _ [13, 14, 15, 45, 46, 47, 48, 49, 50, 51, 52, 53, 54, 55, 56, 57, 58] (by decide +kernel) (by decide +kernel)
set_option maxRecDepth 20000 in
theorem gX7_restore_X7_imageOf : GoodIn wsX7_restore (wsV RX7 278 RX7 yX7_imageOf wsX7_imageOf) := goodIn_app (goodIn_of _ (by decide +kernel)) ggX7_restore_X7_imageOf
set_option maxRecDepth 20000 in
theorem ggX7_restore_X3_become : GoodIn wsX7_restore wsX3_become := goodIn_r _ [20, 21, 22, 23, 24, 25, 26, 27, 28, 29, 30, 31, 32, 33, 34, 35, 36, 37, 38, 59, 60, 61, 62, 63, 64, 65, 66, 67, 68, 69, 70, 71, 72] (by decide +kernel) (by decide +kernel)
set_option maxRecDepth 20000 in
theorem gX7_restore_X3_become : GoodIn wsX7_restore (wsV RX7 282 RX3 yX3_become wsX3_become) := goodIn_app (goodIn_of _ (by decide +kernel)) ggX7_restore_X3_become
set_option maxRecDepth 20000 in
theorem ggX7_restore_X0_forgetAll : GoodIn wsX7_restore wsX0_forgetAll := goodIn_r _ [43, 44, 73, 74, 75, 76, 77] (by decide +kernel) (by decide +kernel)
set_option maxRecDepth 20000 in
theorem gX7_restore_X0_forgetAll : GoodIn wsX7_restore (wsV RX7 149 RX0 yX0_forgetAll wsX0_forgetAll) := goodIn_app (goodIn_of _ (by decide +kernel)) ggX7_restore_X0_forgetAll
theorem dX7_restore_0 : decode cX7_restore 0 = .ok (.iload_n 1, 1) := by decide +kernel
theorem dX7_restore_1 : decode cX7_restore 1 = .ok (.invokestatic 275, 3) := by decide +kernel
theorem dX7_restore_4 : decode cX7_restore 4 = .ok (.ifCond .ne 7, 3) := by decide +kernel
theorem dX7_restore_7 : decode cX7_restore 7 = .ok (.ldc2_w 76, 3) := by decide +kernel
theorem dX7_restore_10 : decode cX7_restore 10 = .ok (.lreturn, 1) := by decide +kernel
theorem dX7_restore_11 : decode cX7_restore 11 = .ok (.aload_n 0, 1) := by decide +kernel
theorem dX7_restore_12 : decode cX7_restore 12 = .ok (.getfield 284, 3) := by decide +kernel
theorem dX7_restore_15 : decode cX7_restore 15 = .ok (.iload_n 1, 1) := by decide +kernel
theorem dX7_restore_16 : decode cX7_restore 16 = .ok (.ishr, 1) := by decide +kernel
theorem dX7_restore_17 : decode cX7_restore 17 = .ok (.iconst 1, 1) := by decide +kernel
theorem dX7_restore_18 : decode cX7_restore 18 = .ok (.iand, 1) := by decide +kernel
theorem dX7_restore_19 : decode cX7_restore 19 = .ok (.ifCond .ne 7, 3) := by decide +kernel
theorem dX7_restore_22 : decode cX7_restore 22 = .ok (.ldc2_w 155, 3) := by decide +kernel
theorem dX7_restore_25 : decode cX7_restore 25 = .ok (.lreturn, 1) := by decide +kernel
theorem dX7_restore_26 : decode cX7_restore 26 = .ok (.aload_n 0, 1) := by decide +kernel
theorem dX7_restore_27 : decode cX7_restore 27 = .ok (.getfield 63, 3) := by decide +kernel
theorem dX7_restore_30 : decode cX7_restore 30 = .ok (.aload_n 0, 1) := by decide +kernel
theorem dX7_restore_31 : decode cX7_restore 31 = .ok (.iload_n 1, 1) := by decide +kernel
theorem dX7_restore_32 : decode cX7_restore 32 = .ok (.invokevirtual 278, 3) := by decide +kernel
theorem dX7_restore_35 : decode cX7_restore 35 = .ok (.invokevirtual 282, 3) := by decide +kernel
theorem dX7_restore_38 : decode cX7_restore 38 = .ok (.aload_n 0, 1) := by decide +kernel
theorem dX7_restore_39 : decode cX7_restore 39 = .ok (.getfield 35, 3) := by decide +kernel
theorem dX7_restore_42 : decode cX7_restore 42 = .ok (.invokevirtual 149, 3) := by decide +kernel
theorem dX7_restore_45 : decode cX7_restore 45 = .ok (.lconst 1, 1) := by decide +kernel
theorem dX7_restore_46 : decode cX7_restore 46 = .ok (.lreturn, 1) := by decide +kernel
set_option maxRecDepth 20000 in
theorem ggX7_kind_X3_isTree : GoodIn wsX7_kind wsX3_isTree := goodIn_r _ [8, 9, 24, 25, 26, 27, 28, 29, 30, 31, 32, 33, 34, 35, 36, 37] (by decide +kernel) (by decide +kernel)
set_option maxRecDepth 20000 in
theorem gX7_kind_X3_isTree : GoodIn wsX7_kind (wsV RX7 174 RX3 yX3_isTree wsX3_isTree) := goodIn_app (goodIn_of _ (by decide +kernel)) ggX7_kind_X3_isTree
theorem dX7_kind_0 : decode cX7_kind 0 = .ok (.aload_n 0, 1) := by decide +kernel
theorem dX7_kind_1 : decode cX7_kind 1 = .ok (.getfield 63, 3) := by decide +kernel
theorem dX7_kind_4 : decode cX7_kind 4 = .ok (.iload_n 1, 1) := by decide +kernel
theorem dX7_kind_5 : decode cX7_kind 5 = .ok (.invokevirtual 174, 3) := by decide +kernel
theorem dX7_kind_8 : decode cX7_kind 8 = .ok (.ifCond .eq 16, 3) := by decide +kernel
theorem dX7_kind_11 : decode cX7_kind 11 = .ok (.aload_n 0, 1) := by decide +kernel
theorem dX7_kind_12 : decode cX7_kind 12 = .ok (.getfield 63, 3) := by decide +kernel
theorem dX7_kind_15 : decode cX7_kind 15 = .ok (.getfield 287, 3) := by decide +kernel
theorem dX7_kind_18 : decode cX7_kind 18 = .ok (.iload_n 1, 1) := by decide +kernel
theorem dX7_kind_19 : decode cX7_kind 19 = .ok (.iaload, 1) := by decide +kernel
theorem dX7_kind_20 : decode cX7_kind 20 = .ok (.i2l, 1) := by decide +kernel
theorem dX7_kind_21 : decode cX7_kind 21 = .ok (.goto 6, 3) := by decide +kernel
theorem dX7_kind_24 : decode cX7_kind 24 = .ok (.ldc2_w 76, 3) := by decide +kernel
theorem dX7_kind_27 : decode cX7_kind 27 = .ok (.lreturn, 1) := by decide +kernel
set_option maxRecDepth 20000 in
theorem ggX7_as_X3_isTree : GoodIn wsX7_as wsX3_isTree := goodIn_r _ [8, 9, 38, 39, 40, 41, 42, 43, 44, 45, 46, 47, 48, 49, 50, 51] (by decide +kernel) (by decide +kernel)
set_option maxRecDepth 20000 in
theorem gX7_as_X3_isTree : GoodIn wsX7_as (wsV RX7 174 RX3 yX3_isTree wsX3_isTree) := goodIn_app (goodIn_of _ (by decide +kernel)) ggX7_as_X3_isTree
set_option maxRecDepth 20000 in
theorem ggX7_as_X7_isSuch : GoodIn wsX7_as wsX7_isSuch := goodIn_r _ [13] (by decide +kernel) (by decide +kernel)
set_option maxRecDepth 20000 in
theorem gX7_as_X7_isSuch : GoodIn wsX7_as (va_wsS RX7 290 yX7_isSuch wsX7_isSuch) := goodIn_app (goodIn_of _ (by decide +kernel)) ggX7_as_X7_isSuch
set_option maxRecDepth 20000 in
theorem ggX7_as_X7_finding : GoodIn wsX7_as wsX7_finding := goodIn_r _ [17, 18, 19, 24, 25, 26, 27, 28, 29, 30, 31, 32, 33, 34, 35, 36, 37] (by decide +kernel) (by decide +kernel)
set_option maxRecDepth 20000 in
theorem gX7_as_X7_finding : GoodIn wsX7_as (wsV RX7 78 RX7 yX7_finding wsX7_finding) := goodIn_app (goodIn_of _ (by decide +kernel)) ggX7_as_X7_finding
set_option maxRecDepth 20000 in
theorem ggX7_as_X7_withoutFinding : GoodIn wsX7_as wsX7_withoutFinding := goodIn_r _ [23, 18, 24, 25, 26, 27, 28, 29, 30, 31, 32, 33, 34, 35, 36, 37] (by decide +kernel) (by decide +kernel)
set_option maxRecDepth 20000 in
theorem gX7_as_X7_withoutFinding : GoodIn wsX7_as (wsV RX7 86 RX7 yX7_withoutFinding wsX7_withoutFinding) := goodIn_app (goodIn_of _ (by decide +kernel)) ggX7_as_X7_withoutFinding
theorem dX7_as_0 : decode cX7_as 0 = .ok (.aload_n 0, 1) := by decide +kernel
theorem dX7_as_1 : decode cX7_as 1 = .ok (.getfield 63, 3) := by decide +kernel
theorem dX7_as_4 : decode cX7_as 4 = .ok (.iload_n 1, 1) := by decide +kernel
theorem dX7_as_5 : decode cX7_as 5 = .ok (.invokevirtual 174, 3) := by decide +kernel
theorem dX7_as_8 : decode cX7_as 8 = .ok (.ifCond .eq 12, 3) := by decide +kernel
theorem dX7_as_11 : decode cX7_as 11 = .ok (.iload_n 2, 1) := by decide +kernel
theorem dX7_as_12 : decode cX7_as 12 = .ok (.ifCond .lt 8, 3) := by decide +kernel
theorem dX7_as_15 : decode cX7_as 15 = .ok (.iload_n 2, 1) := by decide +kernel
theorem dX7_as_16 : decode cX7_as 16 = .ok (.iconst 5, 1) := by decide +kernel
theorem dX7_as_17 : decode cX7_as 17 = .ok (.if_icmp .le 7, 3) := by decide +kernel
theorem dX7_as_20 : decode cX7_as 20 = .ok (.ldc2_w 76, 3) := by decide +kernel
theorem dX7_as_23 : decode cX7_as 23 = .ok (.lreturn, 1) := by decide +kernel
theorem dX7_as_24 : decode cX7_as 24 = .ok (.aload_n 0, 1) := by decide +kernel
theorem dX7_as_25 : decode cX7_as 25 = .ok (.getfield 63, 3) := by decide +kernel
theorem dX7_as_28 : decode cX7_as 28 = .ok (.getfield 287, 3) := by decide +kernel
theorem dX7_as_31 : decode cX7_as 31 = .ok (.iload_n 1, 1) := by decide +kernel
theorem dX7_as_32 : decode cX7_as 32 = .ok (.iaload, 1) := by decide +kernel
theorem dX7_as_33 : decode cX7_as 33 = .ok (.iload_n 2, 1) := by decide +kernel
theorem dX7_as_34 : decode cX7_as 34 = .ok (.invokestatic 290, 3) := by decide +kernel
theorem dX7_as_37 : decode cX7_as 37 = .ok (.ifCond .ne 9, 3) := by decide +kernel
theorem dX7_as_40 : decode cX7_as 40 = .ok (.aload_n 0, 1) := by decide +kernel
theorem dX7_as_41 : decode cX7_as 41 = .ok (.iconst 3, 1) := by decide +kernel
theorem dX7_as_42 : decode cX7_as 42 = .ok (.invokevirtual 78, 3) := by decide +kernel
theorem dX7_as_45 : decode cX7_as 45 = .ok (.lreturn, 1) := by decide +kernel
theorem dX7_as_46 : decode cX7_as 46 = .ok (.aload_n 0, 1) := by decide +kernel
theorem dX7_as_47 : decode cX7_as 47 = .ok (.iload_n 1, 1) := by decide +kernel
theorem dX7_as_48 : decode cX7_as 48 = .ok (.i2l, 1) := by decide +kernel
theorem dX7_as_49 : decode cX7_as 49 = .ok (.invokevirtual 86, 3) := by decide +kernel
theorem dX7_as_52 : decode cX7_as 52 = .ok (.lreturn, 1) := by decide +kernel
set_option maxRecDepth 20000 in
theorem ggX7_shape_X3_isTree : GoodIn wsX7_shape wsX3_isTree := goodIn_r _ [8, 9, 87, 88, 89, 90, 91, 92, 93, 94, 95, 96, 97, 98, 99, 100] (by decide +kernel) (by decide +kernel)
set_option maxRecDepth 20000 in
theorem gX7_shape_X3_isTree : GoodIn wsX7_shape (wsV RX7 174 RX3 yX3_isTree wsX3_isTree) := goodIn_app (goodIn_of _ (by decide +kernel)) ggX7_shape_X3_isTree
set_option maxRecDepth 20000 in
theorem ggX7_shape_X1_begin : GoodIn wsX7_shape wsX1_begin := goodIn_r _ [14, 15, 16, 17, 18, 19, 20, 21, 22, 23, 24, 5, 6, 7, 8, 9, 25, 26, 27, 28, 29, 30, 101, 102, 103, 104, 105, 106, 107, 87, 88, 89, 90, 91, 92, 93, 94, 95, 96, 97, 98, 99, 100] (by decide +kernel) (by decide +kernel)
set_option maxRecDepth 20000 in
theorem gX7_shape_X1_begin : GoodIn wsX7_shape (wsV RX7 293 RX1 yX1_begin wsX1_begin) := goodIn_app (goodIn_of _ (by decide +kernel)) ggX7_shape_X1_begin
set_option maxRecDepth 20000 in
theorem ggX7_shape_X1_size : GoodIn wsX7_shape wsX1_size := goodIn_r _ [34, 18, 35, 36, 37, 13, 38, 39, 40, 41, 42, 15, 43, 44, 45, 46, 47, 22, 48, 49, 50, 51, 52, 53, 54, 55, 20, 56, 57, 58, 59, 16, 60, 61, 62, 63, 64, 65, 66, 67, 23, 68, 69, 70, 71, 101, 102, 103, 104, 105, 106, 107] (by decide +kernel) (by decide +kernel)
set_option maxRecDepth 20000 in
theorem gX7_shape_X1_size : GoodIn wsX7_shape (wsV RX7 297 RX1 yX1_size wsX1_size) := goodIn_app (goodIn_of _ (by decide +kernel)) ggX7_shape_X1_size
set_option maxRecDepth 20000 in
theorem ggX7_shape_X1_mark : GoodIn wsX7_shape wsX1_mark := goodIn_r _ [51, 18, 52, 53, 54, 13, 55, 20, 39, 40, 41, 42, 15, 43, 56, 57, 58, 59, 16, 60, 61, 62, 63, 64, 65, 66, 67, 23, 101, 102, 103, 104, 105, 106, 107] (by decide +kernel) (by decide +kernel)
set_option maxRecDepth 20000 in
theorem gX7_shape_X1_mark : GoodIn wsX7_shape (wsV RX7 300 RX1 yX1_mark wsX1_mark) := goodIn_app (goodIn_of _ (by decide +kernel)) ggX7_shape_X1_mark
theorem dX7_shape_0 : decode cX7_shape 0 = .ok (.aload_n 0, 1) := by decide +kernel
theorem dX7_shape_1 : decode cX7_shape 1 = .ok (.getfield 63, 3) := by decide +kernel
theorem dX7_shape_4 : decode cX7_shape 4 = .ok (.iload_n 1, 1) := by decide +kernel
theorem dX7_shape_5 : decode cX7_shape 5 = .ok (.invokevirtual 174, 3) := by decide +kernel
theorem dX7_shape_8 : decode cX7_shape 8 = .ok (.ifCond .eq 12, 3) := by decide +kernel
theorem dX7_shape_11 : decode cX7_shape 11 = .ok (.iload_n 2, 1) := by decide +kernel
theorem dX7_shape_12 : decode cX7_shape 12 = .ok (.ifCond .lt 8, 3) := by decide +kernel
theorem dX7_shape_15 : decode cX7_shape 15 = .ok (.iload_n 2, 1) := by decide +kernel
theorem dX7_shape_16 : decode cX7_shape 16 = .ok (.iconst 1, 1) := by decide +kernel
theorem dX7_shape_17 : decode cX7_shape 17 = .ok (.if_icmp .le 7, 3) := by decide +kernel
theorem dX7_shape_20 : decode cX7_shape 20 = .ok (.ldc2_w 76, 3) := by decide +kernel
theorem dX7_shape_23 : decode cX7_shape 23 = .ok (.lreturn, 1) := by decide +kernel
theorem dX7_shape_24 : decode cX7_shape 24 = .ok (.aload_n 0, 1) := by decide +kernel
theorem dX7_shape_25 : decode cX7_shape 25 = .ok (.getfield 42, 3) := by decide +kernel
theorem dX7_shape_28 : decode cX7_shape 28 = .ok (.aload_n 0, 1) := by decide +kernel
theorem dX7_shape_29 : decode cX7_shape 29 = .ok (.getfield 63, 3) := by decide +kernel
theorem dX7_shape_32 : decode cX7_shape 32 = .ok (.iload_n 1, 1) := by decide +kernel
theorem dX7_shape_33 : decode cX7_shape 33 = .ok (.invokevirtual 293, 3) := by decide +kernel
theorem dX7_shape_36 : decode cX7_shape 36 = .ok (.iload_n 2, 1) := by decide +kernel
theorem dX7_shape_37 : decode cX7_shape 37 = .ok (.ifCond .ne 14, 3) := by decide +kernel
theorem dX7_shape_40 : decode cX7_shape 40 = .ok (.aload_n 0, 1) := by decide +kernel
theorem dX7_shape_41 : decode cX7_shape 41 = .ok (.getfield 42, 3) := by decide +kernel
theorem dX7_shape_44 : decode cX7_shape 44 = .ok (.invokevirtual 297, 3) := by decide +kernel
theorem dX7_shape_47 : decode cX7_shape 47 = .ok (.i2l, 1) := by decide +kernel
theorem dX7_shape_48 : decode cX7_shape 48 = .ok (.goto 11, 3) := by decide +kernel
theorem dX7_shape_51 : decode cX7_shape 51 = .ok (.aload_n 0, 1) := by decide +kernel
theorem dX7_shape_52 : decode cX7_shape 52 = .ok (.getfield 42, 3) := by decide +kernel
theorem dX7_shape_55 : decode cX7_shape 55 = .ok (.invokevirtual 300, 3) := by decide +kernel
theorem dX7_shape_58 : decode cX7_shape 58 = .ok (.i2l, 1) := by decide +kernel
theorem dX7_shape_59 : decode cX7_shape 59 = .ok (.lreturn, 1) := by decide +kernel
set_option maxRecDepth 20000 in
theorem ggX7_trace_X1_traced : GoodIn wsX7_trace wsX1_traced := goodIn_r _ [6, 7, 8, 9, 24, 25, 26, 27, 28, 29, 30] (by decide +kernel) (by decide +kernel)
set_option maxRecDepth 20000 in
theorem gX7_trace_X1_traced : GoodIn wsX7_trace (wsV RX7 303 RX1 yX1_traced wsX1_traced) := goodIn_app (goodIn_of _ (by decide +kernel)) ggX7_trace_X1_traced
theorem dX7_trace_0 : decode cX7_trace 0 = .ok (.aload_n 0, 1) := by decide +kernel
theorem dX7_trace_1 : decode cX7_trace 1 = .ok (.getfield 42, 3) := by decide +kernel
theorem dX7_trace_4 : decode cX7_trace 4 = .ok (.iload_n 1, 1) := by decide +kernel
theorem dX7_trace_5 : decode cX7_trace 5 = .ok (.invokevirtual 303, 3) := by decide +kernel
theorem dX7_trace_8 : decode cX7_trace 8 = .ok (.ireturn, 1) := by decide +kernel
set_option maxRecDepth 20000 in
theorem ggX7_count_X5_present : GoodIn wsX7_count wsX5_present := goodIn_r _ [14, 15, 70, 71, 72] (by decide +kernel) (by decide +kernel)
set_option maxRecDepth 20000 in
theorem gX7_count_X5_present : GoodIn wsX7_count (wsV RX7 306 RX5 yX5_present wsX5_present) := goodIn_app (goodIn_of _ (by decide +kernel)) ggX7_count_X5_present
set_option maxRecDepth 20000 in
theorem ggX7_count_J6_bitCount_0f7a4 : GoodIn wsX7_count wsJ6_bitCount_0f7a4 := goodIn_r _ [19, 20, 21, 22] (by decide +kernel) (by decide +kernel)
set_option maxRecDepth 20000 in
theorem gX7_count_J6_bitCount_0f7a4 : GoodIn wsX7_count (va_wsS RX7 312 yJ6_bitCount_0f7a4 wsJ6_bitCount_0f7a4) := goodIn_app (goodIn_of _ (by decide +kernel)) ggX7_count_J6_bitCount_0f7a4
set_option maxRecDepth 20000 in
theorem ggX7_count_X0_kept : GoodIn wsX7_count wsX0_kept := goodIn_r _ [27, 28, 73, 74, 75, 76, 77] (by decide +kernel) (by decide +kernel)
set_option maxRecDepth 20000 in
theorem gX7_count_X0_kept : GoodIn wsX7_count (wsV RX7 196 RX0 yX0_kept wsX0_kept) := goodIn_app (goodIn_of _ (by decide +kernel)) ggX7_count_X0_kept
set_option maxRecDepth 20000 in
theorem ggX7_count_X3_fruitInAll : GoodIn wsX7_count wsX3_fruitInAll := goodIn_r _ [33, 34, 35, 56, 57, 58, 59, 60, 61, 62, 63, 64, 65, 66, 67, 68, 69] (by decide +kernel) (by decide +kernel)
set_option maxRecDepth 20000 in
theorem gX7_count_X3_fruitInAll : GoodIn wsX7_count (wsV RX7 320 RX3 yX3_fruitInAll wsX3_fruitInAll) := goodIn_app (goodIn_of _ (by decide +kernel)) ggX7_count_X3_fruitInAll
set_option maxRecDepth 20000 in
theorem ggX7_count_X6_length : GoodIn wsX7_count wsX6_length := goodIn_r _ [40, 41, 78, 79, 80, 81, 82] (by decide +kernel) (by decide +kernel)
set_option maxRecDepth 20000 in
theorem gX7_count_X6_length : GoodIn wsX7_count (wsV RX7 122 RX6 yX6_length wsX6_length) := goodIn_app (goodIn_of _ (by decide +kernel)) ggX7_count_X6_length
theorem dX7_count_0 : decode cX7_count 0 = .ok (.iload_n 1, 1) := by decide +kernel
theorem dX7_count_1 : decode cX7_count 1 = .ok (.tableswitch 117 0 6 #[43, 52, 61, 81, 90, 99, 108], 43) := by decide +kernel
theorem dX7_count_44 : decode cX7_count 44 = .ok (.aload_n 0, 1) := by decide +kernel
theorem dX7_count_45 : decode cX7_count 45 = .ok (.getfield 12, 3) := by decide +kernel
theorem dX7_count_48 : decode cX7_count 48 = .ok (.invokevirtual 306, 3) := by decide +kernel
theorem dX7_count_51 : decode cX7_count 51 = .ok (.i2l, 1) := by decide +kernel
theorem dX7_count_52 : decode cX7_count 52 = .ok (.lreturn, 1) := by decide +kernel
theorem dX7_count_53 : decode cX7_count 53 = .ok (.aload_n 0, 1) := by decide +kernel
theorem dX7_count_54 : decode cX7_count 54 = .ok (.getfield 63, 3) := by decide +kernel
theorem dX7_count_57 : decode cX7_count 57 = .ok (.getfield 152, 3) := by decide +kernel
theorem dX7_count_60 : decode cX7_count 60 = .ok (.i2l, 1) := by decide +kernel
theorem dX7_count_61 : decode cX7_count 61 = .ok (.lreturn, 1) := by decide +kernel
theorem dX7_count_62 : decode cX7_count 62 = .ok (.aload_n 0, 1) := by decide +kernel
theorem dX7_count_63 : decode cX7_count 63 = .ok (.getfield 63, 3) := by decide +kernel
theorem dX7_count_66 : decode cX7_count 66 = .ok (.getfield 309, 3) := by decide +kernel
theorem dX7_count_69 : decode cX7_count 69 = .ok (.aload_n 0, 1) := by decide +kernel
theorem dX7_count_70 : decode cX7_count 70 = .ok (.getfield 63, 3) := by decide +kernel
theorem dX7_count_73 : decode cX7_count 73 = .ok (.getfield 193, 3) := by decide +kernel
theorem dX7_count_76 : decode cX7_count 76 = .ok (.invokestatic 312, 3) := by decide +kernel
theorem dX7_count_79 : decode cX7_count 79 = .ok (.isub, 1) := by decide +kernel
theorem dX7_count_80 : decode cX7_count 80 = .ok (.i2l, 1) := by decide +kernel
theorem dX7_count_81 : decode cX7_count 81 = .ok (.lreturn, 1) := by decide +kernel
theorem dX7_count_82 : decode cX7_count 82 = .ok (.aload_n 0, 1) := by decide +kernel
theorem dX7_count_83 : decode cX7_count 83 = .ok (.getfield 63, 3) := by decide +kernel
theorem dX7_count_86 : decode cX7_count 86 = .ok (.getfield 317, 3) := by decide +kernel
theorem dX7_count_89 : decode cX7_count 89 = .ok (.i2l, 1) := by decide +kernel
theorem dX7_count_90 : decode cX7_count 90 = .ok (.lreturn, 1) := by decide +kernel
theorem dX7_count_91 : decode cX7_count 91 = .ok (.aload_n 0, 1) := by decide +kernel
theorem dX7_count_92 : decode cX7_count 92 = .ok (.getfield 35, 3) := by decide +kernel
theorem dX7_count_95 : decode cX7_count 95 = .ok (.invokevirtual 196, 3) := by decide +kernel
theorem dX7_count_98 : decode cX7_count 98 = .ok (.i2l, 1) := by decide +kernel
theorem dX7_count_99 : decode cX7_count 99 = .ok (.lreturn, 1) := by decide +kernel
theorem dX7_count_100 : decode cX7_count 100 = .ok (.aload_n 0, 1) := by decide +kernel
theorem dX7_count_101 : decode cX7_count 101 = .ok (.getfield 63, 3) := by decide +kernel
theorem dX7_count_104 : decode cX7_count 104 = .ok (.invokevirtual 320, 3) := by decide +kernel
theorem dX7_count_107 : decode cX7_count 107 = .ok (.i2l, 1) := by decide +kernel
theorem dX7_count_108 : decode cX7_count 108 = .ok (.lreturn, 1) := by decide +kernel
theorem dX7_count_109 : decode cX7_count 109 = .ok (.aload_n 0, 1) := by decide +kernel
theorem dX7_count_110 : decode cX7_count 110 = .ok (.getfield 19, 3) := by decide +kernel
theorem dX7_count_113 : decode cX7_count 113 = .ok (.invokevirtual 122, 3) := by decide +kernel
theorem dX7_count_116 : decode cX7_count 116 = .ok (.i2l, 1) := by decide +kernel
theorem dX7_count_117 : decode cX7_count 117 = .ok (.lreturn, 1) := by decide +kernel
theorem dX7_count_118 : decode cX7_count 118 = .ok (.ldc2_w 76, 3) := by decide +kernel
theorem dX7_count_121 : decode cX7_count 121 = .ok (.lreturn, 1) := by decide +kernel
theorem dX7_status_0 : decode cX7_status 0 = .ok (.aload_n 0, 1) := by decide +kernel
theorem dX7_status_1 : decode cX7_status 1 = .ok (.getfield 323, 3) := by decide +kernel
theorem dX7_status_4 : decode cX7_status 4 = .ok (.ireturn, 1) := by decide +kernel
theorem dX7_finding_0 : decode cX7_finding 0 = .ok (.aload_n 0, 1) := by decide +kernel
theorem dX7_finding_1 : decode cX7_finding 1 = .ok (.iload_n 1, 1) := by decide +kernel
theorem dX7_finding_2 : decode cX7_finding 2 = .ok (.putfield 323, 3) := by decide +kernel
theorem dX7_finding_5 : decode cX7_finding 5 = .ok (.ldc2_w 326, 3) := by decide +kernel
theorem dX7_finding_8 : decode cX7_finding 8 = .ok (.iload_n 1, 1) := by decide +kernel
theorem dX7_finding_9 : decode cX7_finding 9 = .ok (.i2l, 1) := by decide +kernel
theorem dX7_finding_10 : decode cX7_finding 10 = .ok (.lsub, 1) := by decide +kernel
theorem dX7_finding_11 : decode cX7_finding 11 = .ok (.lreturn, 1) := by decide +kernel
theorem dX7_withoutFinding_0 : decode cX7_withoutFinding 0 = .ok (.aload_n 0, 1) := by decide +kernel
theorem dX7_withoutFinding_1 : decode cX7_withoutFinding 1 = .ok (.iconst 0, 1) := by decide +kernel
theorem dX7_withoutFinding_2 : decode cX7_withoutFinding 2 = .ok (.putfield 323, 3) := by decide +kernel
theorem dX7_withoutFinding_5 : decode cX7_withoutFinding 5 = .ok (.lload_n 1, 1) := by decide +kernel
theorem dX7_withoutFinding_6 : decode cX7_withoutFinding 6 = .ok (.lreturn, 1) := by decide +kernel
theorem dX7_imageOf_0 : decode cX7_imageOf 0 = .ok (.iload_n 1, 1) := by decide +kernel
theorem dX7_imageOf_1 : decode cX7_imageOf 1 = .ok (.ifCond .ne 10, 3) := by decide +kernel
theorem dX7_imageOf_4 : decode cX7_imageOf 4 = .ok (.aload_n 0, 1) := by decide +kernel
theorem dX7_imageOf_5 : decode cX7_imageOf 5 = .ok (.getfield 56, 3) := by decide +kernel
theorem dX7_imageOf_8 : decode cX7_imageOf 8 = .ok (.goto 7, 3) := by decide +kernel
theorem dX7_imageOf_11 : decode cX7_imageOf 11 = .ok (.aload_n 0, 1) := by decide +kernel
theorem dX7_imageOf_12 : decode cX7_imageOf 12 = .ok (.getfield 60, 3) := by decide +kernel
theorem dX7_imageOf_15 : decode cX7_imageOf 15 = .ok (.areturn, 1) := by decide +kernel
set_option maxRecDepth 20000 in
theorem ggX7_areMatters_X5_item : GoodIn wsX7_areMatters wsX5_item := goodIn_r _ [6, 7, 8, 9, 10, 5, 11, 12, 13, 14, 15, 16, 17, 18, 19, 20, 21, 40, 41, 42] (by decide +kernel) (by decide +kernel)
set_option maxRecDepth 20000 in
theorem gX7_areMatters_X5_item : GoodIn wsX7_areMatters (wsV RX7 328 RX5 yX5_item wsX5_item) := goodIn_app (goodIn_of _ (by decide +kernel)) ggX7_areMatters_X5_item
set_option maxRecDepth 20000 in
theorem ggX7_areMatters_X7_isMatter : GoodIn wsX7_areMatters wsX7_isMatter := goodIn_r _ [25] (by decide +kernel) (by decide +kernel)
set_option maxRecDepth 20000 in
theorem gX7_areMatters_X7_isMatter : GoodIn wsX7_areMatters (va_wsS RX7 228 yX7_isMatter wsX7_isMatter) := goodIn_app (goodIn_of _ (by decide +kernel)) ggX7_areMatters_X7_isMatter
theorem dX7_areMatters_0 : decode cX7_areMatters 0 = .ok (.iconst 0, 1) := by decide +kernel
theorem dX7_areMatters_1 : decode cX7_areMatters 1 = .ok (.istore 4, 2) := by decide +kernel
theorem dX7_areMatters_3 : decode cX7_areMatters 3 = .ok (.iload 4, 2) := by decide +kernel
theorem dX7_areMatters_5 : decode cX7_areMatters 5 = .ok (.iload_n 3, 1) := by decide +kernel
theorem dX7_areMatters_6 : decode cX7_areMatters 6 = .ok (.if_icmp .ge 29, 3) := by decide +kernel
theorem dX7_areMatters_9 : decode cX7_areMatters 9 = .ok (.aload_n 0, 1) := by decide +kernel
theorem dX7_areMatters_10 : decode cX7_areMatters 10 = .ok (.getfield 12, 3) := by decide +kernel
theorem dX7_areMatters_13 : decode cX7_areMatters 13 = .ok (.iload_n 1, 1) := by decide +kernel
theorem dX7_areMatters_14 : decode cX7_areMatters 14 = .ok (.iload_n 2, 1) := by decide +kernel
theorem dX7_areMatters_15 : decode cX7_areMatters 15 = .ok (.iload 4, 2) := by decide +kernel
theorem dX7_areMatters_17 : decode cX7_areMatters 17 = .ok (.iadd, 1) := by decide +kernel
theorem dX7_areMatters_18 : decode cX7_areMatters 18 = .ok (.invokevirtual 328, 3) := by decide +kernel
theorem dX7_areMatters_21 : decode cX7_areMatters 21 = .ok (.invokestatic 228, 3) := by decide +kernel
theorem dX7_areMatters_24 : decode cX7_areMatters 24 = .ok (.ifCond .ne 5, 3) := by decide +kernel
theorem dX7_areMatters_27 : decode cX7_areMatters 27 = .ok (.iconst 0, 1) := by decide +kernel
theorem dX7_areMatters_28 : decode cX7_areMatters 28 = .ok (.ireturn, 1) := by decide +kernel
theorem dX7_areMatters_29 : decode cX7_areMatters 29 = .ok (.iinc 4 1, 3) := by decide +kernel
theorem dX7_areMatters_32 : decode cX7_areMatters 32 = .ok (.goto (-29), 3) := by decide +kernel
theorem dX7_areMatters_35 : decode cX7_areMatters 35 = .ok (.iconst 1, 1) := by decide +kernel
theorem dX7_areMatters_36 : decode cX7_areMatters 36 = .ok (.ireturn, 1) := by decide +kernel
set_option maxRecDepth 20000 in
theorem ggX7_setCouncil_X5_item : GoodIn wsX7_setCouncil wsX5_item := goodIn_r _ [9, 10, 11, 12, 13, 8, 14, 15, 16, 17, 18, 19, 20, 21, 22, 23, 24, 125, 126, 127] (by decide +kernel) (by decide +kernel)
set_option maxRecDepth 20000 in
theorem gX7_setCouncil_X5_item : GoodIn wsX7_setCouncil (wsV RX7 328 RX5 yX5_item wsX5_item) := goodIn_app (goodIn_of _ (by decide +kernel)) ggX7_setCouncil_X5_item
set_option maxRecDepth 20000 in
theorem ggX7_setCouncil_X3_minding : GoodIn wsX7_setCouncil wsX3_minding := goodIn_r _ [29, 30, 31, 32, 33, 34, 35, 28, 36, 37, 38, 39, 40, 41, 42, 43, 44, 45, 46, 47, 48, 49, 50, 51, 52, 53, 54, 55, 56, 57, 58, 59, 60, 61, 62, 63, 64, 65, 66, 67, 68, 69, 70, 71, 72, 73, 74, 75, 76, 128, 129, 130, 131, 132, 133, 134, 135, 136, 137, 138, 139, 140, 141] (by decide +kernel) (by decide +kernel)
set_option maxRecDepth 20000 in
theorem gX7_setCouncil_X3_minding : GoodIn wsX7_setCouncil (wsV RX7 161 RX3 yX3_minding wsX3_minding) := goodIn_app (goodIn_of _ (by decide +kernel)) ggX7_setCouncil_X3_minding
set_option maxRecDepth 20000 in
theorem ggX7_setCouncil_X3_passing : GoodIn wsX7_setCouncil wsX3_passing := goodIn_r _ [80, 81, 66, 82, 83, 84, 28, 85, 30, 86, 47, 48, 49, 87, 88, 89, 90, 68, 69, 70, 71, 72, 73, 74, 75, 76, 91, 92, 93, 94, 95, 96, 97, 98, 99, 100, 128, 129, 130, 131, 132, 133, 134, 135, 136, 137, 138, 139, 140, 141] (by decide +kernel) (by decide +kernel)
set_option maxRecDepth 20000 in
theorem gX7_setCouncil_X3_passing : GoodIn wsX7_setCouncil (wsV RX7 237 RX3 yX3_passing wsX3_passing) := goodIn_app (goodIn_of _ (by decide +kernel)) ggX7_setCouncil_X3_passing
set_option maxRecDepth 20000 in
theorem ggX7_setCouncil_X2_become : GoodIn wsX7_setCouncil wsX2_become := goodIn_r _ [105, 106, 107, 108, 109, 104, 110, 142, 143] (by decide +kernel) (by decide +kernel)
set_option maxRecDepth 20000 in
theorem gX7_setCouncil_X2_become : GoodIn wsX7_setCouncil (wsV RX7 243 RX2 yX2_become wsX2_become) := goodIn_app (goodIn_of _ (by decide +kernel)) ggX7_setCouncil_X2_become
theorem dX7_setCouncil_0 : decode cX7_setCouncil 0 = .ok (.lconst 1, 1) := by decide +kernel
theorem dX7_setCouncil_1 : decode cX7_setCouncil 1 = .ok (.lstore 6, 2) := by decide +kernel
theorem dX7_setCouncil_3 : decode cX7_setCouncil 3 = .ok (.lconst 1, 1) := by decide +kernel
theorem dX7_setCouncil_4 : decode cX7_setCouncil 4 = .ok (.lstore 8, 2) := by decide +kernel
theorem dX7_setCouncil_6 : decode cX7_setCouncil 6 = .ok (.iconst 0, 1) := by decide +kernel
theorem dX7_setCouncil_7 : decode cX7_setCouncil 7 = .ok (.istore 10, 2) := by decide +kernel
theorem dX7_setCouncil_9 : decode cX7_setCouncil 9 = .ok (.iload 10, 2) := by decide +kernel
theorem dX7_setCouncil_11 : decode cX7_setCouncil 11 = .ok (.iload 5, 2) := by decide +kernel
theorem dX7_setCouncil_13 : decode cX7_setCouncil 13 = .ok (.if_icmp .ge 60, 3) := by decide +kernel
theorem dX7_setCouncil_16 : decode cX7_setCouncil 16 = .ok (.aload_n 0, 1) := by decide +kernel
theorem dX7_setCouncil_17 : decode cX7_setCouncil 17 = .ok (.getfield 63, 3) := by decide +kernel
theorem dX7_setCouncil_20 : decode cX7_setCouncil 20 = .ok (.aload_n 0, 1) := by decide +kernel
theorem dX7_setCouncil_21 : decode cX7_setCouncil 21 = .ok (.getfield 12, 3) := by decide +kernel
theorem dX7_setCouncil_24 : decode cX7_setCouncil 24 = .ok (.iload_n 3, 1) := by decide +kernel
theorem dX7_setCouncil_25 : decode cX7_setCouncil 25 = .ok (.iload 4, 2) := by decide +kernel
theorem dX7_setCouncil_27 : decode cX7_setCouncil 27 = .ok (.iload 10, 2) := by decide +kernel
theorem dX7_setCouncil_29 : decode cX7_setCouncil 29 = .ok (.iadd, 1) := by decide +kernel
theorem dX7_setCouncil_30 : decode cX7_setCouncil 30 = .ok (.invokevirtual 328, 3) := by decide +kernel
theorem dX7_setCouncil_33 : decode cX7_setCouncil 33 = .ok (.iload_n 1, 1) := by decide +kernel
theorem dX7_setCouncil_34 : decode cX7_setCouncil 34 = .ok (.iconst 0, 1) := by decide +kernel
theorem dX7_setCouncil_35 : decode cX7_setCouncil 35 = .ok (.invokevirtual 161, 3) := by decide +kernel
theorem dX7_setCouncil_38 : decode cX7_setCouncil 38 = .ok (.istore 11, 2) := by decide +kernel
theorem dX7_setCouncil_40 : decode cX7_setCouncil 40 = .ok (.lload 6, 2) := by decide +kernel
theorem dX7_setCouncil_42 : decode cX7_setCouncil 42 = .ok (.aload_n 0, 1) := by decide +kernel
theorem dX7_setCouncil_43 : decode cX7_setCouncil 43 = .ok (.getfield 63, 3) := by decide +kernel
theorem dX7_setCouncil_46 : decode cX7_setCouncil 46 = .ok (.iload 11, 2) := by decide +kernel
theorem dX7_setCouncil_48 : decode cX7_setCouncil 48 = .ok (.iload_n 2, 1) := by decide +kernel
theorem dX7_setCouncil_49 : decode cX7_setCouncil 49 = .ok (.iload 10, 2) := by decide +kernel
theorem dX7_setCouncil_51 : decode cX7_setCouncil 51 = .ok (.iadd, 1) := by decide +kernel
theorem dX7_setCouncil_52 : decode cX7_setCouncil 52 = .ok (.iconst 0, 1) := by decide +kernel
theorem dX7_setCouncil_53 : decode cX7_setCouncil 53 = .ok (.invokevirtual 237, 3) := by decide +kernel
theorem dX7_setCouncil_56 : decode cX7_setCouncil 56 = .ok (.lmul, 1) := by decide +kernel
theorem dX7_setCouncil_57 : decode cX7_setCouncil 57 = .ok (.lstore 6, 2) := by decide +kernel
theorem dX7_setCouncil_59 : decode cX7_setCouncil 59 = .ok (.lload 8, 2) := by decide +kernel
theorem dX7_setCouncil_61 : decode cX7_setCouncil 61 = .ok (.ldc2_w 241, 3) := by decide +kernel
theorem dX7_setCouncil_64 : decode cX7_setCouncil 64 = .ok (.lmul, 1) := by decide +kernel
theorem dX7_setCouncil_65 : decode cX7_setCouncil 65 = .ok (.lstore 8, 2) := by decide +kernel
theorem dX7_setCouncil_67 : decode cX7_setCouncil 67 = .ok (.iinc 10 1, 3) := by decide +kernel
theorem dX7_setCouncil_70 : decode cX7_setCouncil 70 = .ok (.goto (-61), 3) := by decide +kernel
theorem dX7_setCouncil_73 : decode cX7_setCouncil 73 = .ok (.aload_n 0, 1) := by decide +kernel
theorem dX7_setCouncil_74 : decode cX7_setCouncil 74 = .ok (.getfield 49, 3) := by decide +kernel
theorem dX7_setCouncil_77 : decode cX7_setCouncil 77 = .ok (.lload 6, 2) := by decide +kernel
theorem dX7_setCouncil_79 : decode cX7_setCouncil 79 = .ok (.lload 8, 2) := by decide +kernel
theorem dX7_setCouncil_81 : decode cX7_setCouncil 81 = .ok (.invokevirtual 243, 3) := by decide +kernel
theorem dX7_setCouncil_84 : decode cX7_setCouncil 84 = .ok (.return_, 1) := by decide +kernel
set_option maxRecDepth 20000 in
theorem ggX7_setObjection_X3_keptBy : GoodIn wsX7_setObjection wsX3_keptBy := goodIn_r _ [8, 9, 10, 11, 12, 7, 13, 14, 15, 16, 17, 43, 44, 45, 46, 47, 48, 49, 50, 51, 52, 53, 54, 55, 56] (by decide +kernel) (by decide +kernel)
set_option maxRecDepth 20000 in
theorem gX7_setObjection_X3_keptBy : GoodIn wsX7_setObjection (wsV RX7 331 RX3 yX3_keptBy wsX3_keptBy) := goodIn_app (goodIn_of _ (by decide +kernel)) ggX7_setObjection_X3_keptBy
set_option maxRecDepth 20000 in
theorem ggX7_setObjection_X3_kept : GoodIn wsX7_setObjection wsX3_kept := goodIn_r _ [16, 17] (by decide +kernel) (by decide +kernel)
set_option maxRecDepth 20000 in
theorem gX7_setObjection_X3_kept : GoodIn wsX7_setObjection (va_wsS RX7 335 yX3_kept wsX3_kept) := goodIn_app (goodIn_of _ (by decide +kernel)) ggX7_setObjection_X3_kept
set_option maxRecDepth 20000 in
theorem ggX7_setObjection_X2_become : GoodIn wsX7_setObjection wsX2_become := goodIn_r _ [23, 24, 25, 26, 27, 22, 28, 57, 58] (by decide +kernel) (by decide +kernel)
set_option maxRecDepth 20000 in
theorem gX7_setObjection_X2_become : GoodIn wsX7_setObjection (wsV RX7 243 RX2 yX2_become wsX2_become) := goodIn_app (goodIn_of _ (by decide +kernel)) ggX7_setObjection_X2_become
theorem dX7_setObjection_0 : decode cX7_setObjection 0 = .ok (.aload_n 0, 1) := by decide +kernel
theorem dX7_setObjection_1 : decode cX7_setObjection 1 = .ok (.getfield 63, 3) := by decide +kernel
theorem dX7_setObjection_4 : decode cX7_setObjection 4 = .ok (.iload_n 1, 1) := by decide +kernel
theorem dX7_setObjection_5 : decode cX7_setObjection 5 = .ok (.ldc2_w 241, 3) := by decide +kernel
theorem dX7_setObjection_8 : decode cX7_setObjection 8 = .ok (.invokevirtual 331, 3) := by decide +kernel
theorem dX7_setObjection_11 : decode cX7_setObjection 11 = .ok (.lstore_n 3, 1) := by decide +kernel
theorem dX7_setObjection_12 : decode cX7_setObjection 12 = .ok (.lload_n 3, 1) := by decide +kernel
theorem dX7_setObjection_13 : decode cX7_setObjection 13 = .ok (.iload_n 2, 1) := by decide +kernel
theorem dX7_setObjection_14 : decode cX7_setObjection 14 = .ok (.invokestatic 335, 3) := by decide +kernel
theorem dX7_setObjection_17 : decode cX7_setObjection 17 = .ok (.lstore 5, 2) := by decide +kernel
theorem dX7_setObjection_19 : decode cX7_setObjection 19 = .ok (.lload 5, 2) := by decide +kernel
theorem dX7_setObjection_21 : decode cX7_setObjection 21 = .ok (.ldc2_w 241, 3) := by decide +kernel
theorem dX7_setObjection_24 : decode cX7_setObjection 24 = .ok (.lcmp, 1) := by decide +kernel
theorem dX7_setObjection_25 : decode cX7_setObjection 25 = .ok (.ifCond .ne 15, 3) := by decide +kernel
theorem dX7_setObjection_28 : decode cX7_setObjection 28 = .ok (.aload_n 0, 1) := by decide +kernel
theorem dX7_setObjection_29 : decode cX7_setObjection 29 = .ok (.getfield 49, 3) := by decide +kernel
theorem dX7_setObjection_32 : decode cX7_setObjection 32 = .ok (.lconst 0, 1) := by decide +kernel
theorem dX7_setObjection_33 : decode cX7_setObjection 33 = .ok (.lconst 1, 1) := by decide +kernel
theorem dX7_setObjection_34 : decode cX7_setObjection 34 = .ok (.invokevirtual 243, 3) := by decide +kernel
theorem dX7_setObjection_37 : decode cX7_setObjection 37 = .ok (.goto 21, 3) := by decide +kernel
theorem dX7_setObjection_40 : decode cX7_setObjection 40 = .ok (.aload_n 0, 1) := by decide +kernel
theorem dX7_setObjection_41 : decode cX7_setObjection 41 = .ok (.getfield 49, 3) := by decide +kernel
theorem dX7_setObjection_44 : decode cX7_setObjection 44 = .ok (.ldc2_w 241, 3) := by decide +kernel
theorem dX7_setObjection_47 : decode cX7_setObjection 47 = .ok (.lload_n 3, 1) := by decide +kernel
theorem dX7_setObjection_48 : decode cX7_setObjection 48 = .ok (.lsub, 1) := by decide +kernel
theorem dX7_setObjection_49 : decode cX7_setObjection 49 = .ok (.ldc2_w 241, 3) := by decide +kernel
theorem dX7_setObjection_52 : decode cX7_setObjection 52 = .ok (.lload 5, 2) := by decide +kernel
theorem dX7_setObjection_54 : decode cX7_setObjection 54 = .ok (.lsub, 1) := by decide +kernel
theorem dX7_setObjection_55 : decode cX7_setObjection 55 = .ok (.invokevirtual 243, 3) := by decide +kernel
theorem dX7_setObjection_58 : decode cX7_setObjection 58 = .ok (.return_, 1) := by decide +kernel
theorem dX7_isMatter_0 : decode cX7_isMatter 0 = .ok (.iload_n 0, 1) := by decide +kernel
theorem dX7_isMatter_1 : decode cX7_isMatter 1 = .ok (.iconst 1, 1) := by decide +kernel
theorem dX7_isMatter_2 : decode cX7_isMatter 2 = .ok (.if_icmp .lt 13, 3) := by decide +kernel
theorem dX7_isMatter_5 : decode cX7_isMatter 5 = .ok (.iload_n 0, 1) := by decide +kernel
theorem dX7_isMatter_6 : decode cX7_isMatter 6 = .ok (.bipush 15, 2) := by decide +kernel
theorem dX7_isMatter_8 : decode cX7_isMatter 8 = .ok (.if_icmp .gt 7, 3) := by decide +kernel
theorem dX7_isMatter_11 : decode cX7_isMatter 11 = .ok (.iconst 1, 1) := by decide +kernel
theorem dX7_isMatter_12 : decode cX7_isMatter 12 = .ok (.goto 4, 3) := by decide +kernel
theorem dX7_isMatter_15 : decode cX7_isMatter 15 = .ok (.iconst 0, 1) := by decide +kernel
theorem dX7_isMatter_16 : decode cX7_isMatter 16 = .ok (.ireturn, 1) := by decide +kernel
theorem dX7_isHorns_0 : decode cX7_isHorns 0 = .ok (.iload_n 0, 1) := by decide +kernel
theorem dX7_isHorns_1 : decode cX7_isHorns 1 = .ok (.ifCond .lt 13, 3) := by decide +kernel
theorem dX7_isHorns_4 : decode cX7_isHorns 4 = .ok (.iload_n 0, 1) := by decide +kernel
theorem dX7_isHorns_5 : decode cX7_isHorns 5 = .ok (.bipush 15, 2) := by decide +kernel
theorem dX7_isHorns_7 : decode cX7_isHorns 7 = .ok (.if_icmp .gt 7, 3) := by decide +kernel
theorem dX7_isHorns_10 : decode cX7_isHorns 10 = .ok (.iconst 1, 1) := by decide +kernel
theorem dX7_isHorns_11 : decode cX7_isHorns 11 = .ok (.goto 4, 3) := by decide +kernel
theorem dX7_isHorns_14 : decode cX7_isHorns 14 = .ok (.iconst 0, 1) := by decide +kernel
theorem dX7_isHorns_15 : decode cX7_isHorns 15 = .ok (.ireturn, 1) := by decide +kernel
theorem dX7_isHour_0 : decode cX7_isHour 0 = .ok (.iload_n 0, 1) := by decide +kernel
theorem dX7_isHour_1 : decode cX7_isHour 1 = .ok (.ifCond .lt 13, 3) := by decide +kernel
theorem dX7_isHour_4 : decode cX7_isHour 4 = .ok (.iload_n 0, 1) := by decide +kernel
theorem dX7_isHour_5 : decode cX7_isHour 5 = .ok (.bipush 12, 2) := by decide +kernel
theorem dX7_isHour_7 : decode cX7_isHour 7 = .ok (.if_icmp .ge 7, 3) := by decide +kernel
theorem dX7_isHour_10 : decode cX7_isHour 10 = .ok (.iconst 1, 1) := by decide +kernel
theorem dX7_isHour_11 : decode cX7_isHour 11 = .ok (.goto 4, 3) := by decide +kernel
theorem dX7_isHour_14 : decode cX7_isHour 14 = .ok (.iconst 0, 1) := by decide +kernel
theorem dX7_isHour_15 : decode cX7_isHour 15 = .ok (.ireturn, 1) := by decide +kernel
set_option maxRecDepth 20000 in
theorem ggX7_isAsked_X7_isMatter : GoodIn wsX7_isAsked wsX7_isMatter := goodIn_r _ [4] (by decide +kernel) (by decide +kernel)
set_option maxRecDepth 20000 in
theorem gX7_isAsked_X7_isMatter : GoodIn wsX7_isAsked (va_wsS RX7 228 yX7_isMatter wsX7_isMatter) := goodIn_app (goodIn_of _ (by decide +kernel)) ggX7_isAsked_X7_isMatter
set_option maxRecDepth 20000 in
theorem ggX7_isAsked_X7_isHorns : GoodIn wsX7_isAsked wsX7_isHorns := goodIn_r _ [7] (by decide +kernel) (by decide +kernel)
set_option maxRecDepth 20000 in
theorem gX7_isAsked_X7_isHorns : GoodIn wsX7_isAsked (va_wsS RX7 231 yX7_isHorns wsX7_isHorns) := goodIn_app (goodIn_of _ (by decide +kernel)) ggX7_isAsked_X7_isHorns
set_option maxRecDepth 20000 in
theorem ggX7_isAsked_X7_isHour : GoodIn wsX7_isAsked wsX7_isHour := goodIn_r _ [10] (by decide +kernel) (by decide +kernel)
set_option maxRecDepth 20000 in
theorem gX7_isAsked_X7_isHour : GoodIn wsX7_isAsked (va_wsS RX7 250 yX7_isHour wsX7_isHour) := goodIn_app (goodIn_of _ (by decide +kernel)) ggX7_isAsked_X7_isHour
theorem dX7_isAsked_0 : decode cX7_isAsked 0 = .ok (.iload_n 0, 1) := by decide +kernel
theorem dX7_isAsked_1 : decode cX7_isAsked 1 = .ok (.invokestatic 228, 3) := by decide +kernel
theorem dX7_isAsked_4 : decode cX7_isAsked 4 = .ok (.ifCond .eq 21, 3) := by decide +kernel
theorem dX7_isAsked_7 : decode cX7_isAsked 7 = .ok (.iload_n 1, 1) := by decide +kernel
theorem dX7_isAsked_8 : decode cX7_isAsked 8 = .ok (.invokestatic 231, 3) := by decide +kernel
theorem dX7_isAsked_11 : decode cX7_isAsked 11 = .ok (.ifCond .eq 14, 3) := by decide +kernel
theorem dX7_isAsked_14 : decode cX7_isAsked 14 = .ok (.iload_n 2, 1) := by decide +kernel
theorem dX7_isAsked_15 : decode cX7_isAsked 15 = .ok (.invokestatic 250, 3) := by decide +kernel
theorem dX7_isAsked_18 : decode cX7_isAsked 18 = .ok (.ifCond .eq 7, 3) := by decide +kernel
theorem dX7_isAsked_21 : decode cX7_isAsked 21 = .ok (.iconst 1, 1) := by decide +kernel
theorem dX7_isAsked_22 : decode cX7_isAsked 22 = .ok (.goto 4, 3) := by decide +kernel
theorem dX7_isAsked_25 : decode cX7_isAsked 25 = .ok (.iconst 0, 1) := by decide +kernel
theorem dX7_isAsked_26 : decode cX7_isAsked 26 = .ok (.ireturn, 1) := by decide +kernel
theorem dX7_isPart_0 : decode cX7_isPart 0 = .ok (.iload_n 0, 1) := by decide +kernel
theorem dX7_isPart_1 : decode cX7_isPart 1 = .ok (.ifCond .eq 8, 3) := by decide +kernel
theorem dX7_isPart_4 : decode cX7_isPart 4 = .ok (.iload_n 0, 1) := by decide +kernel
theorem dX7_isPart_5 : decode cX7_isPart 5 = .ok (.iconst 1, 1) := by decide +kernel
theorem dX7_isPart_6 : decode cX7_isPart 6 = .ok (.if_icmp .ne 7, 3) := by decide +kernel
theorem dX7_isPart_9 : decode cX7_isPart 9 = .ok (.iconst 1, 1) := by decide +kernel
theorem dX7_isPart_10 : decode cX7_isPart 10 = .ok (.goto 4, 3) := by decide +kernel
theorem dX7_isPart_13 : decode cX7_isPart 13 = .ok (.iconst 0, 1) := by decide +kernel
theorem dX7_isPart_14 : decode cX7_isPart 14 = .ok (.ireturn, 1) := by decide +kernel
theorem dX7_isImage_0 : decode cX7_isImage 0 = .ok (.iload_n 0, 1) := by decide +kernel
theorem dX7_isImage_1 : decode cX7_isImage 1 = .ok (.ifCond .lt 12, 3) := by decide +kernel
theorem dX7_isImage_4 : decode cX7_isImage 4 = .ok (.iload_n 0, 1) := by decide +kernel
theorem dX7_isImage_5 : decode cX7_isImage 5 = .ok (.iconst 2, 1) := by decide +kernel
theorem dX7_isImage_6 : decode cX7_isImage 6 = .ok (.if_icmp .ge 7, 3) := by decide +kernel
theorem dX7_isImage_9 : decode cX7_isImage 9 = .ok (.iconst 1, 1) := by decide +kernel
theorem dX7_isImage_10 : decode cX7_isImage 10 = .ok (.goto 4, 3) := by decide +kernel
theorem dX7_isImage_13 : decode cX7_isImage 13 = .ok (.iconst 0, 1) := by decide +kernel
theorem dX7_isImage_14 : decode cX7_isImage 14 = .ok (.ireturn, 1) := by decide +kernel
theorem dX7_isSuch_0 : decode cX7_isSuch 0 = .ok (.iload_n 1, 1) := by decide +kernel
theorem dX7_isSuch_1 : decode cX7_isSuch 1 = .ok (.tableswitch 90 0 4 #[35, 37, 58, 90, 74], 35) := by decide +kernel
theorem dX7_isSuch_36 : decode cX7_isSuch 36 = .ok (.iconst 1, 1) := by decide +kernel
theorem dX7_isSuch_37 : decode cX7_isSuch 37 = .ok (.ireturn, 1) := by decide +kernel
theorem dX7_isSuch_38 : decode cX7_isSuch 38 = .ok (.iload_n 0, 1) := by decide +kernel
theorem dX7_isSuch_39 : decode cX7_isSuch 39 = .ok (.iconst 1, 1) := by decide +kernel
theorem dX7_isSuch_40 : decode cX7_isSuch 40 = .ok (.if_icmp .eq 13, 3) := by decide +kernel
theorem dX7_isSuch_43 : decode cX7_isSuch 43 = .ok (.iload_n 0, 1) := by decide +kernel
theorem dX7_isSuch_44 : decode cX7_isSuch 44 = .ok (.iconst 2, 1) := by decide +kernel
theorem dX7_isSuch_45 : decode cX7_isSuch 45 = .ok (.if_icmp .eq 8, 3) := by decide +kernel
theorem dX7_isSuch_48 : decode cX7_isSuch 48 = .ok (.iload_n 0, 1) := by decide +kernel
theorem dX7_isSuch_49 : decode cX7_isSuch 49 = .ok (.iconst 3, 1) := by decide +kernel
theorem dX7_isSuch_50 : decode cX7_isSuch 50 = .ok (.if_icmp .ne 7, 3) := by decide +kernel
theorem dX7_isSuch_53 : decode cX7_isSuch 53 = .ok (.iconst 1, 1) := by decide +kernel
theorem dX7_isSuch_54 : decode cX7_isSuch 54 = .ok (.goto 4, 3) := by decide +kernel
theorem dX7_isSuch_57 : decode cX7_isSuch 57 = .ok (.iconst 0, 1) := by decide +kernel
theorem dX7_isSuch_58 : decode cX7_isSuch 58 = .ok (.ireturn, 1) := by decide +kernel
theorem dX7_isSuch_59 : decode cX7_isSuch 59 = .ok (.iload_n 0, 1) := by decide +kernel
theorem dX7_isSuch_60 : decode cX7_isSuch 60 = .ok (.iconst 2, 1) := by decide +kernel
theorem dX7_isSuch_61 : decode cX7_isSuch 61 = .ok (.if_icmp .eq 8, 3) := by decide +kernel
theorem dX7_isSuch_64 : decode cX7_isSuch 64 = .ok (.iload_n 0, 1) := by decide +kernel
theorem dX7_isSuch_65 : decode cX7_isSuch 65 = .ok (.iconst 3, 1) := by decide +kernel
theorem dX7_isSuch_66 : decode cX7_isSuch 66 = .ok (.if_icmp .ne 7, 3) := by decide +kernel
theorem dX7_isSuch_69 : decode cX7_isSuch 69 = .ok (.iconst 1, 1) := by decide +kernel
theorem dX7_isSuch_70 : decode cX7_isSuch 70 = .ok (.goto 4, 3) := by decide +kernel
theorem dX7_isSuch_73 : decode cX7_isSuch 73 = .ok (.iconst 0, 1) := by decide +kernel
theorem dX7_isSuch_74 : decode cX7_isSuch 74 = .ok (.ireturn, 1) := by decide +kernel
theorem dX7_isSuch_75 : decode cX7_isSuch 75 = .ok (.iload_n 0, 1) := by decide +kernel
theorem dX7_isSuch_76 : decode cX7_isSuch 76 = .ok (.iconst 4, 1) := by decide +kernel
theorem dX7_isSuch_77 : decode cX7_isSuch 77 = .ok (.if_icmp .eq 8, 3) := by decide +kernel
theorem dX7_isSuch_80 : decode cX7_isSuch 80 = .ok (.iload_n 0, 1) := by decide +kernel
theorem dX7_isSuch_81 : decode cX7_isSuch 81 = .ok (.iconst 5, 1) := by decide +kernel
theorem dX7_isSuch_82 : decode cX7_isSuch 82 = .ok (.if_icmp .ne 7, 3) := by decide +kernel
theorem dX7_isSuch_85 : decode cX7_isSuch 85 = .ok (.iconst 1, 1) := by decide +kernel
theorem dX7_isSuch_86 : decode cX7_isSuch 86 = .ok (.goto 4, 3) := by decide +kernel
theorem dX7_isSuch_89 : decode cX7_isSuch 89 = .ok (.iconst 0, 1) := by decide +kernel
theorem dX7_isSuch_90 : decode cX7_isSuch 90 = .ok (.ireturn, 1) := by decide +kernel
theorem dX7_isSuch_91 : decode cX7_isSuch 91 = .ok (.iload_n 0, 1) := by decide +kernel
theorem dX7_isSuch_92 : decode cX7_isSuch 92 = .ok (.iload_n 1, 1) := by decide +kernel
theorem dX7_isSuch_93 : decode cX7_isSuch 93 = .ok (.if_icmp .ne 7, 3) := by decide +kernel
theorem dX7_isSuch_96 : decode cX7_isSuch 96 = .ok (.iconst 1, 1) := by decide +kernel
theorem dX7_isSuch_97 : decode cX7_isSuch 97 = .ok (.goto 4, 3) := by decide +kernel
theorem dX7_isSuch_100 : decode cX7_isSuch 100 = .ok (.iconst 0, 1) := by decide +kernel
theorem dX7_isSuch_101 : decode cX7_isSuch 101 = .ok (.ireturn, 1) := by decide +kernel
