theorem dX8_readHorn_0 : decode cX8_readHorn 0 = .ok (.aload_n 0, 1) := by decide +kernel
theorem dX8_readHorn_1 : decode cX8_readHorn 1 = .ok (.iconst 1, 1) := by decide +kernel
theorem dX8_readHorn_2 : decode cX8_readHorn 2 = .ok (.iconst 4, 1) := by decide +kernel
theorem dX8_readHorn_3 : decode cX8_readHorn 3 = .ok (.invokevirtual 147, 3) := by decide +kernel
theorem dX8_readHorn_6 : decode cX8_readHorn 6 = .ok (.aload_n 0, 1) := by decide +kernel
theorem dX8_readHorn_7 : decode cX8_readHorn 7 = .ok (.iconst 0, 1) := by decide +kernel
theorem dX8_readHorn_8 : decode cX8_readHorn 8 = .ok (.bipush 30, 2) := by decide +kernel
theorem dX8_readHorn_10 : decode cX8_readHorn 10 = .ok (.invokevirtual 140, 3) := by decide +kernel
theorem dX8_readHorn_13 : decode cX8_readHorn 13 = .ok (.istore_n 1, 1) := by decide +kernel
theorem dX8_readHorn_14 : decode cX8_readHorn 14 = .ok (.aload_n 0, 1) := by decide +kernel
theorem dX8_readHorn_15 : decode cX8_readHorn 15 = .ok (.iconst 1, 1) := by decide +kernel
theorem dX8_readHorn_16 : decode cX8_readHorn 16 = .ok (.bipush 40, 2) := by decide +kernel
theorem dX8_readHorn_18 : decode cX8_readHorn 18 = .ok (.invokevirtual 140, 3) := by decide +kernel
theorem dX8_readHorn_21 : decode cX8_readHorn 21 = .ok (.istore_n 2, 1) := by decide +kernel
theorem dX8_readHorn_22 : decode cX8_readHorn 22 = .ok (.aload_n 0, 1) := by decide +kernel
theorem dX8_readHorn_23 : decode cX8_readHorn 23 = .ok (.invokevirtual 144, 3) := by decide +kernel
theorem dX8_readHorn_26 : decode cX8_readHorn 26 = .ok (.aload_n 0, 1) := by decide +kernel
theorem dX8_readHorn_27 : decode cX8_readHorn 27 = .ok (.getfield 103, 3) := by decide +kernel
theorem dX8_readHorn_30 : decode cX8_readHorn 30 = .ok (.ifCond .ne 49, 3) := by decide +kernel
theorem dX8_readHorn_33 : decode cX8_readHorn 33 = .ok (.aload_n 0, 1) := by decide +kernel
theorem dX8_readHorn_34 : decode cX8_readHorn 34 = .ok (.getfield 22, 3) := by decide +kernel
theorem dX8_readHorn_37 : decode cX8_readHorn 37 = .ok (.bipush 35, 2) := by decide +kernel
theorem dX8_readHorn_39 : decode cX8_readHorn 39 = .ok (.iconst 3, 1) := by decide +kernel
theorem dX8_readHorn_40 : decode cX8_readHorn 40 = .ok (.aload_n 0, 1) := by decide +kernel
theorem dX8_readHorn_41 : decode cX8_readHorn 41 = .ok (.getfield 22, 3) := by decide +kernel
theorem dX8_readHorn_44 : decode cX8_readHorn 44 = .ok (.iconst 1, 1) := by decide +kernel
theorem dX8_readHorn_45 : decode cX8_readHorn 45 = .ok (.iaload, 1) := by decide +kernel
theorem dX8_readHorn_46 : decode cX8_readHorn 46 = .ok (.imul, 1) := by decide +kernel
theorem dX8_readHorn_47 : decode cX8_readHorn 47 = .ok (.iadd, 1) := by decide +kernel
theorem dX8_readHorn_48 : decode cX8_readHorn 48 = .ok (.iload_n 1, 1) := by decide +kernel
theorem dX8_readHorn_49 : decode cX8_readHorn 49 = .ok (.iastore, 1) := by decide +kernel
theorem dX8_readHorn_50 : decode cX8_readHorn 50 = .ok (.aload_n 0, 1) := by decide +kernel
theorem dX8_readHorn_51 : decode cX8_readHorn 51 = .ok (.getfield 22, 3) := by decide +kernel
theorem dX8_readHorn_54 : decode cX8_readHorn 54 = .ok (.bipush 35, 2) := by decide +kernel
theorem dX8_readHorn_56 : decode cX8_readHorn 56 = .ok (.iconst 3, 1) := by decide +kernel
theorem dX8_readHorn_57 : decode cX8_readHorn 57 = .ok (.aload_n 0, 1) := by decide +kernel
theorem dX8_readHorn_58 : decode cX8_readHorn 58 = .ok (.getfield 22, 3) := by decide +kernel
theorem dX8_readHorn_61 : decode cX8_readHorn 61 = .ok (.iconst 1, 1) := by decide +kernel
theorem dX8_readHorn_62 : decode cX8_readHorn 62 = .ok (.iaload, 1) := by decide +kernel
theorem dX8_readHorn_63 : decode cX8_readHorn 63 = .ok (.imul, 1) := by decide +kernel
theorem dX8_readHorn_64 : decode cX8_readHorn 64 = .ok (.iadd, 1) := by decide +kernel
theorem dX8_readHorn_65 : decode cX8_readHorn 65 = .ok (.iconst 1, 1) := by decide +kernel
theorem dX8_readHorn_66 : decode cX8_readHorn 66 = .ok (.iadd, 1) := by decide +kernel
theorem dX8_readHorn_67 : decode cX8_readHorn 67 = .ok (.iload_n 2, 1) := by decide +kernel
theorem dX8_readHorn_68 : decode cX8_readHorn 68 = .ok (.iastore, 1) := by decide +kernel
theorem dX8_readHorn_69 : decode cX8_readHorn 69 = .ok (.aload_n 0, 1) := by decide +kernel
theorem dX8_readHorn_70 : decode cX8_readHorn 70 = .ok (.getfield 22, 3) := by decide +kernel
theorem dX8_readHorn_73 : decode cX8_readHorn 73 = .ok (.iconst 1, 1) := by decide +kernel
theorem dX8_readHorn_74 : decode cX8_readHorn 74 = .ok (.dup2, 1) := by decide +kernel
theorem dX8_readHorn_75 : decode cX8_readHorn 75 = .ok (.iaload, 1) := by decide +kernel
theorem dX8_readHorn_76 : decode cX8_readHorn 76 = .ok (.iconst 1, 1) := by decide +kernel
theorem dX8_readHorn_77 : decode cX8_readHorn 77 = .ok (.iadd, 1) := by decide +kernel
theorem dX8_readHorn_78 : decode cX8_readHorn 78 = .ok (.iastore, 1) := by decide +kernel
theorem dX8_readHorn_79 : decode cX8_readHorn 79 = .ok (.return_, 1) := by decide +kernel
theorem dX8_isTold_0 : decode cX8_isTold 0 = .ok (.iconst 0, 1) := by decide +kernel
theorem dX8_isTold_1 : decode cX8_isTold 1 = .ok (.istore_n 2, 1) := by decide +kernel
theorem dX8_isTold_2 : decode cX8_isTold 2 = .ok (.iconst 0, 1) := by decide +kernel
theorem dX8_isTold_3 : decode cX8_isTold 3 = .ok (.istore_n 3, 1) := by decide +kernel
theorem dX8_isTold_4 : decode cX8_isTold 4 = .ok (.iload_n 3, 1) := by decide +kernel
theorem dX8_isTold_5 : decode cX8_isTold 5 = .ok (.aload_n 0, 1) := by decide +kernel
theorem dX8_isTold_6 : decode cX8_isTold 6 = .ok (.getfield 22, 3) := by decide +kernel
theorem dX8_isTold_9 : decode cX8_isTold 9 = .ok (.iconst 2, 1) := by decide +kernel
theorem dX8_isTold_10 : decode cX8_isTold 10 = .ok (.iaload, 1) := by decide +kernel
theorem dX8_isTold_11 : decode cX8_isTold 11 = .ok (.if_icmp .ge 36, 3) := by decide +kernel
theorem dX8_isTold_14 : decode cX8_isTold 14 = .ok (.iload_n 2, 1) := by decide +kernel
theorem dX8_isTold_15 : decode cX8_isTold 15 = .ok (.ifCond .ne 20, 3) := by decide +kernel
theorem dX8_isTold_18 : decode cX8_isTold 18 = .ok (.aload_n 0, 1) := by decide +kernel
theorem dX8_isTold_19 : decode cX8_isTold 19 = .ok (.getfield 22, 3) := by decide +kernel
theorem dX8_isTold_22 : decode cX8_isTold 22 = .ok (.bipush 47, 2) := by decide +kernel
theorem dX8_isTold_24 : decode cX8_isTold 24 = .ok (.iconst 3, 1) := by decide +kernel
theorem dX8_isTold_25 : decode cX8_isTold 25 = .ok (.iload_n 3, 1) := by decide +kernel
theorem dX8_isTold_26 : decode cX8_isTold 26 = .ok (.imul, 1) := by decide +kernel
theorem dX8_isTold_27 : decode cX8_isTold 27 = .ok (.iadd, 1) := by decide +kernel
theorem dX8_isTold_28 : decode cX8_isTold 28 = .ok (.iconst 1, 1) := by decide +kernel
theorem dX8_isTold_29 : decode cX8_isTold 29 = .ok (.iadd, 1) := by decide +kernel
theorem dX8_isTold_30 : decode cX8_isTold 30 = .ok (.iaload, 1) := by decide +kernel
theorem dX8_isTold_31 : decode cX8_isTold 31 = .ok (.iload_n 1, 1) := by decide +kernel
theorem dX8_isTold_32 : decode cX8_isTold 32 = .ok (.if_icmp .ne 7, 3) := by decide +kernel
theorem dX8_isTold_35 : decode cX8_isTold 35 = .ok (.iconst 1, 1) := by decide +kernel
theorem dX8_isTold_36 : decode cX8_isTold 36 = .ok (.goto 4, 3) := by decide +kernel
theorem dX8_isTold_39 : decode cX8_isTold 39 = .ok (.iconst 0, 1) := by decide +kernel
theorem dX8_isTold_40 : decode cX8_isTold 40 = .ok (.istore_n 2, 1) := by decide +kernel
theorem dX8_isTold_41 : decode cX8_isTold 41 = .ok (.iinc 3 1, 3) := by decide +kernel
theorem dX8_isTold_44 : decode cX8_isTold 44 = .ok (.goto (-40), 3) := by decide +kernel
theorem dX8_isTold_47 : decode cX8_isTold 47 = .ok (.iload_n 2, 1) := by decide +kernel
theorem dX8_isTold_48 : decode cX8_isTold 48 = .ok (.ireturn, 1) := by decide +kernel
set_option maxRecDepth 20000 in
theorem ggX8_readTree_X8_begins : GoodIn wsX8_readTree wsX8_begins := goodIn_r _ [9, 4, 10, 11, 12, 8, 13, 1, 14, 15, 16, 17, 18, 19, 20, 21, 22, 23, 24, 2, 3, 25, 26, 27, 28, 29, 30, 31, 32, 33, 34, 35, 36, 37, 69, 70, 71, 72, 73, 74, 75, 76, 77, 78, 79, 80, 81, 82, 83, 84, 85, 86, 87, 88, 89, 90, 91, 92, 93, 94, 95] (by decide +kernel) (by decide +kernel)
set_option maxRecDepth 20000 in
theorem gX8_readTree_X8_begins : GoodIn wsX8_readTree (wsV RX8 147 RX8 yX8_begins wsX8_begins) := goodIn_app (goodIn_of _ (by decide +kernel)) ggX8_readTree_X8_begins
set_option maxRecDepth 20000 in
theorem ggX8_readTree_X8_name : GoodIn wsX8_readTree wsX8_name := goodIn_r _ [41, 14, 25, 3, 31, 1, 69, 70, 71, 72, 73, 74, 75, 76, 77, 78, 79, 80, 81, 82, 83, 84, 85, 86, 87, 88, 89, 90, 91, 92, 93, 94, 95] (by decide +kernel) (by decide +kernel)
set_option maxRecDepth 20000 in
theorem gX8_readTree_X8_name : GoodIn wsX8_readTree (wsV RX8 134 RX8 yX8_name wsX8_name) := goodIn_app (goodIn_of _ (by decide +kernel)) ggX8_readTree_X8_name
set_option maxRecDepth 20000 in
theorem ggX8_readTree_X8_kindBy : GoodIn wsX8_readTree wsX8_kindBy := goodIn_r _ [44, 45, 46, 47, 48, 49, 2] (by decide +kernel) (by decide +kernel)
set_option maxRecDepth 20000 in
theorem gX8_readTree_X8_kindBy : GoodIn wsX8_readTree (va_wsS RX8 151 yX8_kindBy wsX8_kindBy) := goodIn_app (goodIn_of _ (by decide +kernel)) ggX8_readTree_X8_kindBy
set_option maxRecDepth 20000 in
theorem ggX8_readTree_X8_must : GoodIn wsX8_readTree wsX8_must := goodIn_r _ [19, 1, 10, 11, 12, 8, 13, 14, 15, 20, 21, 22, 23, 24, 2, 3, 25, 26, 27, 28, 29, 30, 31, 32, 33, 34, 35, 36, 37, 69, 70, 71, 72, 73, 74, 75, 76, 77, 78, 79, 80, 81, 82, 83, 84, 85, 86, 87, 88, 89, 90, 91, 92, 93, 94, 95] (by decide +kernel) (by decide +kernel)
set_option maxRecDepth 20000 in
theorem gX8_readTree_X8_must : GoodIn wsX8_readTree (wsV RX8 120 RX8 yX8_must wsX8_must) := goodIn_app (goodIn_of _ (by decide +kernel)) ggX8_readTree_X8_must
set_option maxRecDepth 20000 in
theorem ggX8_readTree_X8_figures : GoodIn wsX8_readTree wsX8_figures := goodIn_r _ [53, 14, 25, 3, 31, 69, 70, 71, 72, 73, 74, 75, 76, 77, 78, 79, 80, 81, 82, 83, 84, 85, 86, 87, 88, 89, 90, 91, 92, 93, 94, 95] (by decide +kernel) (by decide +kernel)
set_option maxRecDepth 20000 in
theorem gX8_readTree_X8_figures : GoodIn wsX8_readTree (wsV RX8 116 RX8 yX8_figures wsX8_figures) := goodIn_app (goodIn_of _ (by decide +kernel)) ggX8_readTree_X8_figures
set_option maxRecDepth 20000 in
theorem ggX8_readTree_X8_isTold : GoodIn wsX8_readTree wsX8_isTold := goodIn_r _ [57, 4, 69, 70, 71, 72, 73, 74, 75, 76, 77, 78, 79, 80, 81, 82, 83, 84, 85, 86, 87, 88, 89, 90, 91, 92, 93, 94, 95] (by decide +kernel) (by decide +kernel)
set_option maxRecDepth 20000 in
theorem gX8_readTree_X8_isTold : GoodIn wsX8_readTree (wsV RX8 155 RX8 yX8_isTold wsX8_isTold) := goodIn_app (goodIn_of _ (by decide +kernel)) ggX8_readTree_X8_isTold
set_option maxRecDepth 20000 in
theorem ggX8_readTree_X8_bad : GoodIn wsX8_readTree wsX8_bad := goodIn_r _ [13, 1, 14, 15, 69, 70, 71, 72, 73, 74, 75, 76, 77, 78, 79, 80, 81, 82, 83, 84, 85, 86, 87, 88, 89, 90, 91, 92, 93, 94, 95] (by decide +kernel) (by decide +kernel)
set_option maxRecDepth 20000 in
theorem gX8_readTree_X8_bad : GoodIn wsX8_readTree (wsV RX8 112 RX8 yX8_bad wsX8_bad) := goodIn_app (goodIn_of _ (by decide +kernel)) ggX8_readTree_X8_bad
set_option maxRecDepth 20000 in
theorem ggX8_readTree_X8_number : GoodIn wsX8_readTree wsX8_number := goodIn_r _ [61, 1, 3, 50, 51, 52, 8, 53, 14, 25, 31, 62, 63, 64, 10, 11, 12, 13, 15, 16, 17, 18, 19, 20, 21, 22, 23, 24, 2, 26, 27, 28, 29, 30, 32, 33, 34, 35, 36, 37, 69, 70, 71, 72, 73, 74, 75, 76, 77, 78, 79, 80, 81, 82, 83, 84, 85, 86, 87, 88, 89, 90, 91, 92, 93, 94, 95] (by decide +kernel) (by decide +kernel)
set_option maxRecDepth 20000 in
theorem gX8_readTree_X8_number : GoodIn wsX8_readTree (wsV RX8 140 RX8 yX8_number wsX8_number) := goodIn_app (goodIn_of _ (by decide +kernel)) ggX8_readTree_X8_number
set_option maxRecDepth 20000 in
theorem ggX8_readTree_X8_mustEnd : GoodIn wsX8_readTree wsX8_mustEnd := goodIn_r _ [68, 1, 3, 16, 17, 18, 8, 19, 10, 11, 12, 13, 14, 15, 20, 21, 22, 23, 24, 2, 25, 26, 27, 28, 29, 30, 31, 32, 33, 34, 35, 36, 37, 69, 70, 71, 72, 73, 74, 75, 76, 77, 78, 79, 80, 81, 82, 83, 84, 85, 86, 87, 88, 89, 90, 91, 92, 93, 94, 95] (by decide +kernel) (by decide +kernel)
set_option maxRecDepth 20000 in
theorem gX8_readTree_X8_mustEnd : GoodIn wsX8_readTree (wsV RX8 144 RX8 yX8_mustEnd wsX8_mustEnd) := goodIn_app (goodIn_of _ (by decide +kernel)) ggX8_readTree_X8_mustEnd
theorem dX8_readTree_0 : decode cX8_readTree 0 = .ok (.aload_n 0, 1) := by decide +kernel
theorem dX8_readTree_1 : decode cX8_readTree 1 = .ok (.iconst 2, 1) := by decide +kernel
theorem dX8_readTree_2 : decode cX8_readTree 2 = .ok (.iconst 4, 1) := by decide +kernel
theorem dX8_readTree_3 : decode cX8_readTree 3 = .ok (.invokevirtual 147, 3) := by decide +kernel
theorem dX8_readTree_6 : decode cX8_readTree 6 = .ok (.aload_n 0, 1) := by decide +kernel
theorem dX8_readTree_7 : decode cX8_readTree 7 = .ok (.invokevirtual 134, 3) := by decide +kernel
theorem dX8_readTree_10 : decode cX8_readTree 10 = .ok (.invokestatic 151, 3) := by decide +kernel
theorem dX8_readTree_13 : decode cX8_readTree 13 = .ok (.istore_n 1, 1) := by decide +kernel
theorem dX8_readTree_14 : decode cX8_readTree 14 = .ok (.aload_n 0, 1) := by decide +kernel
theorem dX8_readTree_15 : decode cX8_readTree 15 = .ok (.getfield 103, 3) := by decide +kernel
theorem dX8_readTree_18 : decode cX8_readTree 18 = .ok (.ifCond .ne 18, 3) := by decide +kernel
theorem dX8_readTree_21 : decode cX8_readTree 21 = .ok (.aload_n 0, 1) := by decide +kernel
theorem dX8_readTree_22 : decode cX8_readTree 22 = .ok (.iload_n 1, 1) := by decide +kernel
theorem dX8_readTree_23 : decode cX8_readTree 23 = .ok (.ldc 80, 2) := by decide +kernel
theorem dX8_readTree_25 : decode cX8_readTree 25 = .ok (.if_icmp .eq 7, 3) := by decide +kernel
theorem dX8_readTree_28 : decode cX8_readTree 28 = .ok (.iconst 1, 1) := by decide +kernel
theorem dX8_readTree_29 : decode cX8_readTree 29 = .ok (.goto 4, 3) := by decide +kernel
theorem dX8_readTree_32 : decode cX8_readTree 32 = .ok (.iconst 0, 1) := by decide +kernel
theorem dX8_readTree_33 : decode cX8_readTree 33 = .ok (.invokevirtual 120, 3) := by decide +kernel
theorem dX8_readTree_36 : decode cX8_readTree 36 = .ok (.aload_n 0, 1) := by decide +kernel
theorem dX8_readTree_37 : decode cX8_readTree 37 = .ok (.getfield 103, 3) := by decide +kernel
theorem dX8_readTree_40 : decode cX8_readTree 40 = .ok (.ifCond .ne 27, 3) := by decide +kernel
theorem dX8_readTree_43 : decode cX8_readTree 43 = .ok (.aload_n 0, 1) := by decide +kernel
theorem dX8_readTree_44 : decode cX8_readTree 44 = .ok (.getfield 91, 3) := by decide +kernel
theorem dX8_readTree_47 : decode cX8_readTree 47 = .ok (.iconst 3, 1) := by decide +kernel
theorem dX8_readTree_48 : decode cX8_readTree 48 = .ok (.if_icmp .ne 19, 3) := by decide +kernel
theorem dX8_readTree_51 : decode cX8_readTree 51 = .ok (.aload_n 0, 1) := by decide +kernel
theorem dX8_readTree_52 : decode cX8_readTree 52 = .ok (.aload_n 0, 1) := by decide +kernel
theorem dX8_readTree_53 : decode cX8_readTree 53 = .ok (.invokevirtual 116, 3) := by decide +kernel
theorem dX8_readTree_56 : decode cX8_readTree 56 = .ok (.invokevirtual 155, 3) := by decide +kernel
theorem dX8_readTree_59 : decode cX8_readTree 59 = .ok (.ifCond .eq 8, 3) := by decide +kernel
theorem dX8_readTree_62 : decode cX8_readTree 62 = .ok (.aload_n 0, 1) := by decide +kernel
theorem dX8_readTree_63 : decode cX8_readTree 63 = .ok (.iconst 2, 1) := by decide +kernel
theorem dX8_readTree_64 : decode cX8_readTree 64 = .ok (.invokevirtual 112, 3) := by decide +kernel
theorem dX8_readTree_67 : decode cX8_readTree 67 = .ok (.aload_n 0, 1) := by decide +kernel
theorem dX8_readTree_68 : decode cX8_readTree 68 = .ok (.iconst 0, 1) := by decide +kernel
theorem dX8_readTree_69 : decode cX8_readTree 69 = .ok (.bipush 30, 2) := by decide +kernel
theorem dX8_readTree_71 : decode cX8_readTree 71 = .ok (.invokevirtual 140, 3) := by decide +kernel
theorem dX8_readTree_74 : decode cX8_readTree 74 = .ok (.istore_n 2, 1) := by decide +kernel
theorem dX8_readTree_75 : decode cX8_readTree 75 = .ok (.aload_n 0, 1) := by decide +kernel
theorem dX8_readTree_76 : decode cX8_readTree 76 = .ok (.iconst 0, 1) := by decide +kernel
theorem dX8_readTree_77 : decode cX8_readTree 77 = .ok (.bipush 9, 2) := by decide +kernel
theorem dX8_readTree_79 : decode cX8_readTree 79 = .ok (.invokevirtual 140, 3) := by decide +kernel
theorem dX8_readTree_82 : decode cX8_readTree 82 = .ok (.istore_n 3, 1) := by decide +kernel
theorem dX8_readTree_83 : decode cX8_readTree 83 = .ok (.aload_n 0, 1) := by decide +kernel
theorem dX8_readTree_84 : decode cX8_readTree 84 = .ok (.invokevirtual 144, 3) := by decide +kernel
theorem dX8_readTree_87 : decode cX8_readTree 87 = .ok (.aload_n 0, 1) := by decide +kernel
theorem dX8_readTree_88 : decode cX8_readTree 88 = .ok (.getfield 103, 3) := by decide +kernel
theorem dX8_readTree_91 : decode cX8_readTree 91 = .ok (.ifCond .ne 54, 3) := by decide +kernel
theorem dX8_readTree_94 : decode cX8_readTree 94 = .ok (.bipush 47, 2) := by decide +kernel
theorem dX8_readTree_96 : decode cX8_readTree 96 = .ok (.iconst 3, 1) := by decide +kernel
theorem dX8_readTree_97 : decode cX8_readTree 97 = .ok (.aload_n 0, 1) := by decide +kernel
theorem dX8_readTree_98 : decode cX8_readTree 98 = .ok (.getfield 22, 3) := by decide +kernel
theorem dX8_readTree_101 : decode cX8_readTree 101 = .ok (.iconst 2, 1) := by decide +kernel
theorem dX8_readTree_102 : decode cX8_readTree 102 = .ok (.iaload, 1) := by decide +kernel
theorem dX8_readTree_103 : decode cX8_readTree 103 = .ok (.imul, 1) := by decide +kernel
theorem dX8_readTree_104 : decode cX8_readTree 104 = .ok (.iadd, 1) := by decide +kernel
theorem dX8_readTree_105 : decode cX8_readTree 105 = .ok (.istore 4, 2) := by decide +kernel
theorem dX8_readTree_107 : decode cX8_readTree 107 = .ok (.aload_n 0, 1) := by decide +kernel
theorem dX8_readTree_108 : decode cX8_readTree 108 = .ok (.getfield 22, 3) := by decide +kernel
theorem dX8_readTree_111 : decode cX8_readTree 111 = .ok (.iload 4, 2) := by decide +kernel
theorem dX8_readTree_113 : decode cX8_readTree 113 = .ok (.iload_n 1, 1) := by decide +kernel
theorem dX8_readTree_114 : decode cX8_readTree 114 = .ok (.iastore, 1) := by decide +kernel
theorem dX8_readTree_115 : decode cX8_readTree 115 = .ok (.aload_n 0, 1) := by decide +kernel
theorem dX8_readTree_116 : decode cX8_readTree 116 = .ok (.getfield 22, 3) := by decide +kernel
theorem dX8_readTree_119 : decode cX8_readTree 119 = .ok (.iload 4, 2) := by decide +kernel
theorem dX8_readTree_121 : decode cX8_readTree 121 = .ok (.iconst 1, 1) := by decide +kernel
theorem dX8_readTree_122 : decode cX8_readTree 122 = .ok (.iadd, 1) := by decide +kernel
theorem dX8_readTree_123 : decode cX8_readTree 123 = .ok (.iload_n 2, 1) := by decide +kernel
theorem dX8_readTree_124 : decode cX8_readTree 124 = .ok (.iastore, 1) := by decide +kernel
theorem dX8_readTree_125 : decode cX8_readTree 125 = .ok (.aload_n 0, 1) := by decide +kernel
theorem dX8_readTree_126 : decode cX8_readTree 126 = .ok (.getfield 22, 3) := by decide +kernel
theorem dX8_readTree_129 : decode cX8_readTree 129 = .ok (.iload 4, 2) := by decide +kernel
theorem dX8_readTree_131 : decode cX8_readTree 131 = .ok (.iconst 2, 1) := by decide +kernel
theorem dX8_readTree_132 : decode cX8_readTree 132 = .ok (.iadd, 1) := by decide +kernel
theorem dX8_readTree_133 : decode cX8_readTree 133 = .ok (.iload_n 3, 1) := by decide +kernel
theorem dX8_readTree_134 : decode cX8_readTree 134 = .ok (.iastore, 1) := by decide +kernel
theorem dX8_readTree_135 : decode cX8_readTree 135 = .ok (.aload_n 0, 1) := by decide +kernel
theorem dX8_readTree_136 : decode cX8_readTree 136 = .ok (.getfield 22, 3) := by decide +kernel
theorem dX8_readTree_139 : decode cX8_readTree 139 = .ok (.iconst 2, 1) := by decide +kernel
theorem dX8_readTree_140 : decode cX8_readTree 140 = .ok (.dup2, 1) := by decide +kernel
theorem dX8_readTree_141 : decode cX8_readTree 141 = .ok (.iaload, 1) := by decide +kernel
theorem dX8_readTree_142 : decode cX8_readTree 142 = .ok (.iconst 1, 1) := by decide +kernel
theorem dX8_readTree_143 : decode cX8_readTree 143 = .ok (.iadd, 1) := by decide +kernel
theorem dX8_readTree_144 : decode cX8_readTree 144 = .ok (.iastore, 1) := by decide +kernel
theorem dX8_readTree_145 : decode cX8_readTree 145 = .ok (.return_, 1) := by decide +kernel
set_option maxRecDepth 20000 in
theorem ggX8_hill_X8_begin : GoodIn wsX8_hill wsX8_begin := goodIn_r _ [18, 19, 20, 21, 6, 22, 23, 24, 17, 25, 26, 27, 7, 28, 29, 30, 31, 32, 33, 34, 35, 36, 37, 38, 39, 100, 101, 102, 103, 104, 105, 106, 107, 108, 109, 110, 111, 112, 113, 114, 115, 116, 117, 118, 119, 120, 121, 122, 123, 124, 125, 126] (by decide +kernel) (by decide +kernel)
set_option maxRecDepth 20000 in
theorem gX8_hill_X8_begin : GoodIn wsX8_hill (wsV RX8 158 RX8 yX8_begin wsX8_begin) := goodIn_app (goodIn_of _ (by decide +kernel)) ggX8_hill_X8_begin
set_option maxRecDepth 20000 in
theorem ggX8_hill_X8_readWinds : GoodIn wsX8_hill wsX8_readWinds := goodIn_r _ [43, 44, 2, 45, 46, 47, 17, 48, 26, 28, 7, 33, 6, 49, 50, 51, 52, 53, 54, 55, 56, 10, 22, 23, 24, 25, 21, 27, 29, 30, 31, 32, 20, 34, 35, 36, 37, 38, 39, 57, 58, 59, 60, 61, 62, 63, 64, 65, 66, 67, 68, 69, 70, 71, 100, 101, 102, 103, 104, 105, 106, 107, 108, 109, 110, 111, 112, 113, 114, 115, 116, 117, 118, 119, 120, 121, 122, 123, 124, 125, 126] (by decide +kernel) (by decide +kernel)
set_option maxRecDepth 20000 in
theorem gX8_hill_X8_readWinds : GoodIn wsX8_hill (wsV RX8 161 RX8 yX8_readWinds wsX8_readWinds) := goodIn_app (goodIn_of _ (by decide +kernel)) ggX8_hill_X8_readWinds
set_option maxRecDepth 20000 in
theorem ggX8_hill_X8_name : GoodIn wsX8_hill wsX8_name := goodIn_r _ [48, 26, 28, 7, 33, 6, 100, 101, 102, 103, 104, 105, 106, 107, 108, 109, 110, 111, 112, 113, 114, 115, 116, 117, 118, 119, 120, 121, 122, 123, 124, 125, 126] (by decide +kernel) (by decide +kernel)
set_option maxRecDepth 20000 in
theorem gX8_hill_X8_name : GoodIn wsX8_hill (wsV RX8 134 RX8 yX8_name wsX8_name) := goodIn_app (goodIn_of _ (by decide +kernel)) ggX8_hill_X8_name
set_option maxRecDepth 20000 in
theorem ggX8_hill_X8_readGrave : GoodIn wsX8_hill wsX8_readGrave := goodIn_r _ [75, 6, 2, 76, 77, 78, 17, 79, 53, 54, 55, 56, 26, 10, 49, 50, 51, 52, 22, 23, 24, 25, 21, 27, 7, 28, 29, 30, 31, 32, 20, 33, 34, 35, 36, 37, 38, 39, 57, 58, 59, 60, 61, 62, 63, 64, 65, 66, 67, 68, 69, 70, 71, 100, 101, 102, 103, 104, 105, 106, 107, 108, 109, 110, 111, 112, 113, 114, 115, 116, 117, 118, 119, 120, 121, 122, 123, 124, 125, 126] (by decide +kernel) (by decide +kernel)
set_option maxRecDepth 20000 in
theorem gX8_hill_X8_readGrave : GoodIn wsX8_hill (wsV RX8 166 RX8 yX8_readGrave wsX8_readGrave) := goodIn_app (goodIn_of _ (by decide +kernel)) ggX8_hill_X8_readGrave
set_option maxRecDepth 20000 in
theorem ggX8_hill_X8_readHorn : GoodIn wsX8_hill wsX8_readHorn := goodIn_r _ [83, 6, 2, 76, 77, 78, 17, 79, 53, 54, 55, 56, 26, 10, 49, 50, 51, 52, 22, 23, 24, 25, 21, 27, 7, 28, 29, 30, 31, 32, 20, 33, 34, 35, 36, 37, 38, 39, 57, 58, 59, 60, 61, 62, 63, 64, 65, 66, 67, 68, 69, 70, 71, 100, 101, 102, 103, 104, 105, 106, 107, 108, 109, 110, 111, 112, 113, 114, 115, 116, 117, 118, 119, 120, 121, 122, 123, 124, 125, 126] (by decide +kernel) (by decide +kernel)
set_option maxRecDepth 20000 in
theorem gX8_hill_X8_readHorn : GoodIn wsX8_hill (wsV RX8 171 RX8 yX8_readHorn wsX8_readHorn) := goodIn_app (goodIn_of _ (by decide +kernel)) ggX8_hill_X8_readHorn
set_option maxRecDepth 20000 in
theorem ggX8_hill_X8_readTree : GoodIn wsX8_hill wsX8_readTree := goodIn_r _ [87, 6, 27, 7, 2, 76, 77, 78, 17, 79, 53, 54, 55, 56, 26, 10, 49, 50, 51, 52, 22, 23, 24, 25, 21, 28, 29, 30, 31, 32, 20, 33, 34, 35, 36, 37, 38, 39, 45, 46, 47, 48, 88, 89, 90, 91, 92, 93, 94, 95, 61, 62, 63, 64, 96, 97, 98, 99, 57, 58, 59, 60, 65, 66, 67, 68, 69, 70, 71, 100, 101, 102, 103, 104, 105, 106, 107, 108, 109, 110, 111, 112, 113, 114, 115, 116, 117, 118, 119, 120, 121, 122, 123, 124, 125, 126] (by decide +kernel) (by decide +kernel)
set_option maxRecDepth 20000 in
theorem gX8_hill_X8_readTree : GoodIn wsX8_hill (wsV RX8 176 RX8 yX8_readTree wsX8_readTree) := goodIn_app (goodIn_of _ (by decide +kernel)) ggX8_hill_X8_readTree
set_option maxRecDepth 20000 in
theorem ggX8_hill_X8_bad : GoodIn wsX8_hill wsX8_bad := goodIn_r _ [56, 6, 26, 10, 100, 101, 102, 103, 104, 105, 106, 107, 108, 109, 110, 111, 112, 113, 114, 115, 116, 117, 118, 119, 120, 121, 122, 123, 124, 125, 126] (by decide +kernel) (by decide +kernel)
set_option maxRecDepth 20000 in
theorem gX8_hill_X8_bad : GoodIn wsX8_hill (wsV RX8 112 RX8 yX8_bad wsX8_bad) := goodIn_app (goodIn_of _ (by decide +kernel)) ggX8_hill_X8_bad
theorem dX8_hill_0 : decode cX8_hill 0 = .ok (.aload_n 0, 1) := by decide +kernel
theorem dX8_hill_1 : decode cX8_hill 1 = .ok (.iconst 0, 1) := by decide +kernel
theorem dX8_hill_2 : decode cX8_hill 2 = .ok (.putfield 41, 3) := by decide +kernel
theorem dX8_hill_5 : decode cX8_hill 5 = .ok (.aload_n 0, 1) := by decide +kernel
theorem dX8_hill_6 : decode cX8_hill 6 = .ok (.invokevirtual 158, 3) := by decide +kernel
theorem dX8_hill_9 : decode cX8_hill 9 = .ok (.iconst 0, 1) := by decide +kernel
theorem dX8_hill_10 : decode cX8_hill 10 = .ok (.istore_n 1, 1) := by decide +kernel
theorem dX8_hill_11 : decode cX8_hill 11 = .ok (.iload_n 1, 1) := by decide +kernel
theorem dX8_hill_12 : decode cX8_hill 12 = .ok (.bipush 59, 2) := by decide +kernel
theorem dX8_hill_14 : decode cX8_hill 14 = .ok (.if_icmp .ge 16, 3) := by decide +kernel
theorem dX8_hill_17 : decode cX8_hill 17 = .ok (.aload_n 0, 1) := by decide +kernel
theorem dX8_hill_18 : decode cX8_hill 18 = .ok (.getfield 22, 3) := by decide +kernel
theorem dX8_hill_21 : decode cX8_hill 21 = .ok (.iload_n 1, 1) := by decide +kernel
theorem dX8_hill_22 : decode cX8_hill 22 = .ok (.iconst 0, 1) := by decide +kernel
theorem dX8_hill_23 : decode cX8_hill 23 = .ok (.iastore, 1) := by decide +kernel
theorem dX8_hill_24 : decode cX8_hill 24 = .ok (.iinc 1 1, 3) := by decide +kernel
theorem dX8_hill_27 : decode cX8_hill 27 = .ok (.goto (-16), 3) := by decide +kernel
theorem dX8_hill_30 : decode cX8_hill 30 = .ok (.aload_n 0, 1) := by decide +kernel
theorem dX8_hill_31 : decode cX8_hill 31 = .ok (.invokevirtual 161, 3) := by decide +kernel
theorem dX8_hill_34 : decode cX8_hill 34 = .ok (.aload_n 0, 1) := by decide +kernel
theorem dX8_hill_35 : decode cX8_hill 35 = .ok (.invokevirtual 134, 3) := by decide +kernel
theorem dX8_hill_38 : decode cX8_hill 38 = .ok (.ldc2_w 164, 3) := by decide +kernel
theorem dX8_hill_41 : decode cX8_hill 41 = .ok (.lcmp, 1) := by decide +kernel
theorem dX8_hill_42 : decode cX8_hill 42 = .ok (.ifCond .ne 10, 3) := by decide +kernel
theorem dX8_hill_45 : decode cX8_hill 45 = .ok (.aload_n 0, 1) := by decide +kernel
theorem dX8_hill_46 : decode cX8_hill 46 = .ok (.invokevirtual 166, 3) := by decide +kernel
theorem dX8_hill_49 : decode cX8_hill 49 = .ok (.goto (-15), 3) := by decide +kernel
theorem dX8_hill_52 : decode cX8_hill 52 = .ok (.aload_n 0, 1) := by decide +kernel
theorem dX8_hill_53 : decode cX8_hill 53 = .ok (.invokevirtual 134, 3) := by decide +kernel
theorem dX8_hill_56 : decode cX8_hill 56 = .ok (.ldc2_w 169, 3) := by decide +kernel
theorem dX8_hill_59 : decode cX8_hill 59 = .ok (.lcmp, 1) := by decide +kernel
theorem dX8_hill_60 : decode cX8_hill 60 = .ok (.ifCond .ne 10, 3) := by decide +kernel
theorem dX8_hill_63 : decode cX8_hill 63 = .ok (.aload_n 0, 1) := by decide +kernel
theorem dX8_hill_64 : decode cX8_hill 64 = .ok (.invokevirtual 171, 3) := by decide +kernel
theorem dX8_hill_67 : decode cX8_hill 67 = .ok (.goto (-15), 3) := by decide +kernel
theorem dX8_hill_70 : decode cX8_hill 70 = .ok (.aload_n 0, 1) := by decide +kernel
theorem dX8_hill_71 : decode cX8_hill 71 = .ok (.invokevirtual 134, 3) := by decide +kernel
theorem dX8_hill_74 : decode cX8_hill 74 = .ok (.ldc2_w 174, 3) := by decide +kernel
theorem dX8_hill_77 : decode cX8_hill 77 = .ok (.lcmp, 1) := by decide +kernel
theorem dX8_hill_78 : decode cX8_hill 78 = .ok (.ifCond .ne 10, 3) := by decide +kernel
theorem dX8_hill_81 : decode cX8_hill 81 = .ok (.aload_n 0, 1) := by decide +kernel
theorem dX8_hill_82 : decode cX8_hill 82 = .ok (.invokevirtual 176, 3) := by decide +kernel
theorem dX8_hill_85 : decode cX8_hill 85 = .ok (.goto (-15), 3) := by decide +kernel
theorem dX8_hill_88 : decode cX8_hill 88 = .ok (.aload_n 0, 1) := by decide +kernel
theorem dX8_hill_89 : decode cX8_hill 89 = .ok (.getfield 103, 3) := by decide +kernel
theorem dX8_hill_92 : decode cX8_hill 92 = .ok (.ifCond .ne 16, 3) := by decide +kernel
theorem dX8_hill_95 : decode cX8_hill 95 = .ok (.aload_n 0, 1) := by decide +kernel
theorem dX8_hill_96 : decode cX8_hill 96 = .ok (.getfield 91, 3) := by decide +kernel
theorem dX8_hill_99 : decode cX8_hill 99 = .ok (.iconst 1, 1) := by decide +kernel
theorem dX8_hill_100 : decode cX8_hill 100 = .ok (.if_icmp .eq 8, 3) := by decide +kernel
theorem dX8_hill_103 : decode cX8_hill 103 = .ok (.aload_n 0, 1) := by decide +kernel
theorem dX8_hill_104 : decode cX8_hill 104 = .ok (.iconst 1, 1) := by decide +kernel
theorem dX8_hill_105 : decode cX8_hill 105 = .ok (.invokevirtual 112, 3) := by decide +kernel
theorem dX8_hill_108 : decode cX8_hill 108 = .ok (.aload_n 0, 1) := by decide +kernel
theorem dX8_hill_109 : decode cX8_hill 109 = .ok (.getfield 103, 3) := by decide +kernel
theorem dX8_hill_112 : decode cX8_hill 112 = .ok (.ifCond .le 21, 3) := by decide +kernel
theorem dX8_hill_115 : decode cX8_hill 115 = .ok (.aload_n 0, 1) := by decide +kernel
theorem dX8_hill_116 : decode cX8_hill 116 = .ok (.aload_n 0, 1) := by decide +kernel
theorem dX8_hill_117 : decode cX8_hill 117 = .ok (.getfield 103, 3) := by decide +kernel
theorem dX8_hill_120 : decode cX8_hill 120 = .ok (.putfield 179, 3) := by decide +kernel
theorem dX8_hill_123 : decode cX8_hill 123 = .ok (.ldc2_w 182, 3) := by decide +kernel
theorem dX8_hill_126 : decode cX8_hill 126 = .ok (.aload_n 0, 1) := by decide +kernel
theorem dX8_hill_127 : decode cX8_hill 127 = .ok (.getfield 109, 3) := by decide +kernel
theorem dX8_hill_130 : decode cX8_hill 130 = .ok (.i2l, 1) := by decide +kernel
theorem dX8_hill_131 : decode cX8_hill 131 = .ok (.lsub, 1) := by decide +kernel
theorem dX8_hill_132 : decode cX8_hill 132 = .ok (.lreturn, 1) := by decide +kernel
theorem dX8_hill_133 : decode cX8_hill 133 = .ok (.aload_n 0, 1) := by decide +kernel
theorem dX8_hill_134 : decode cX8_hill 134 = .ok (.iconst 1, 1) := by decide +kernel
theorem dX8_hill_135 : decode cX8_hill 135 = .ok (.putfield 184, 3) := by decide +kernel
theorem dX8_hill_138 : decode cX8_hill 138 = .ok (.aload_n 0, 1) := by decide +kernel
theorem dX8_hill_139 : decode cX8_hill 139 = .ok (.iconst 0, 1) := by decide +kernel
theorem dX8_hill_140 : decode cX8_hill 140 = .ok (.putfield 188, 3) := by decide +kernel
theorem dX8_hill_143 : decode cX8_hill 143 = .ok (.iconst 0, 1) := by decide +kernel
theorem dX8_hill_144 : decode cX8_hill 144 = .ok (.istore_n 1, 1) := by decide +kernel
theorem dX8_hill_145 : decode cX8_hill 145 = .ok (.iload_n 1, 1) := by decide +kernel
theorem dX8_hill_146 : decode cX8_hill 146 = .ok (.bipush 59, 2) := by decide +kernel
theorem dX8_hill_148 : decode cX8_hill 148 = .ok (.if_icmp .ge 21, 3) := by decide +kernel
theorem dX8_hill_151 : decode cX8_hill 151 = .ok (.aload_n 0, 1) := by decide +kernel
theorem dX8_hill_152 : decode cX8_hill 152 = .ok (.getfield 19, 3) := by decide +kernel
theorem dX8_hill_155 : decode cX8_hill 155 = .ok (.iload_n 1, 1) := by decide +kernel
theorem dX8_hill_156 : decode cX8_hill 156 = .ok (.aload_n 0, 1) := by decide +kernel
theorem dX8_hill_157 : decode cX8_hill 157 = .ok (.getfield 22, 3) := by decide +kernel
theorem dX8_hill_160 : decode cX8_hill 160 = .ok (.iload_n 1, 1) := by decide +kernel
theorem dX8_hill_161 : decode cX8_hill 161 = .ok (.iaload, 1) := by decide +kernel
theorem dX8_hill_162 : decode cX8_hill 162 = .ok (.iastore, 1) := by decide +kernel
theorem dX8_hill_163 : decode cX8_hill 163 = .ok (.iinc 1 1, 3) := by decide +kernel
theorem dX8_hill_166 : decode cX8_hill 166 = .ok (.goto (-21), 3) := by decide +kernel
theorem dX8_hill_169 : decode cX8_hill 169 = .ok (.aload_n 0, 1) := by decide +kernel
theorem dX8_hill_170 : decode cX8_hill 170 = .ok (.getfield 19, 3) := by decide +kernel
theorem dX8_hill_173 : decode cX8_hill 173 = .ok (.iconst 0, 1) := by decide +kernel
theorem dX8_hill_174 : decode cX8_hill 174 = .ok (.iaload, 1) := by decide +kernel
theorem dX8_hill_175 : decode cX8_hill 175 = .ok (.i2l, 1) := by decide +kernel
theorem dX8_hill_176 : decode cX8_hill 176 = .ok (.lreturn, 1) := by decide +kernel
theorem dX8_fault_0 : decode cX8_fault 0 = .ok (.aload_n 0, 1) := by decide +kernel
theorem dX8_fault_1 : decode cX8_fault 1 = .ok (.iconst 0, 1) := by decide +kernel
theorem dX8_fault_2 : decode cX8_fault 2 = .ok (.putfield 41, 3) := by decide +kernel
theorem dX8_fault_5 : decode cX8_fault 5 = .ok (.aload_n 0, 1) := by decide +kernel
theorem dX8_fault_6 : decode cX8_fault 6 = .ok (.getfield 179, 3) := by decide +kernel
theorem dX8_fault_9 : decode cX8_fault 9 = .ok (.ireturn, 1) := by decide +kernel
set_option maxRecDepth 20000 in
theorem ggX8_isGrave_X8_in : GoodIn wsX8_isGrave wsX8_in := goodIn_r _ [5] (by decide +kernel) (by decide +kernel)
set_option maxRecDepth 20000 in
theorem gX8_isGrave_X8_in : GoodIn wsX8_isGrave (va_wsS RX8 52 yX8_in wsX8_in) := goodIn_app (goodIn_of _ (by decide +kernel)) ggX8_isGrave_X8_in
theorem dX8_isGrave_0 : decode cX8_isGrave 0 = .ok (.iload_n 1, 1) := by decide +kernel
theorem dX8_isGrave_1 : decode cX8_isGrave 1 = .ok (.i2l, 1) := by decide +kernel
theorem dX8_isGrave_2 : decode cX8_isGrave 2 = .ok (.lconst 0, 1) := by decide +kernel
theorem dX8_isGrave_3 : decode cX8_isGrave 3 = .ok (.aload_n 0, 1) := by decide +kernel
theorem dX8_isGrave_4 : decode cX8_isGrave 4 = .ok (.getfield 19, 3) := by decide +kernel
theorem dX8_isGrave_7 : decode cX8_isGrave 7 = .ok (.iconst 0, 1) := by decide +kernel
theorem dX8_isGrave_8 : decode cX8_isGrave 8 = .ok (.iaload, 1) := by decide +kernel
theorem dX8_isGrave_9 : decode cX8_isGrave 9 = .ok (.iconst 1, 1) := by decide +kernel
theorem dX8_isGrave_10 : decode cX8_isGrave 10 = .ok (.isub, 1) := by decide +kernel
theorem dX8_isGrave_11 : decode cX8_isGrave 11 = .ok (.i2l, 1) := by decide +kernel
theorem dX8_isGrave_12 : decode cX8_isGrave 12 = .ok (.invokestatic 52, 3) := by decide +kernel
theorem dX8_isGrave_15 : decode cX8_isGrave 15 = .ok (.ireturn, 1) := by decide +kernel
set_option maxRecDepth 20000 in
theorem ggX8_isHorn_X8_in : GoodIn wsX8_isHorn wsX8_in := goodIn_r _ [5] (by decide +kernel) (by decide +kernel)
set_option maxRecDepth 20000 in
theorem gX8_isHorn_X8_in : GoodIn wsX8_isHorn (va_wsS RX8 52 yX8_in wsX8_in) := goodIn_app (goodIn_of _ (by decide +kernel)) ggX8_isHorn_X8_in
theorem dX8_isHorn_0 : decode cX8_isHorn 0 = .ok (.iload_n 1, 1) := by decide +kernel
theorem dX8_isHorn_1 : decode cX8_isHorn 1 = .ok (.i2l, 1) := by decide +kernel
theorem dX8_isHorn_2 : decode cX8_isHorn 2 = .ok (.lconst 0, 1) := by decide +kernel
theorem dX8_isHorn_3 : decode cX8_isHorn 3 = .ok (.aload_n 0, 1) := by decide +kernel
theorem dX8_isHorn_4 : decode cX8_isHorn 4 = .ok (.getfield 19, 3) := by decide +kernel
theorem dX8_isHorn_7 : decode cX8_isHorn 7 = .ok (.iconst 1, 1) := by decide +kernel
theorem dX8_isHorn_8 : decode cX8_isHorn 8 = .ok (.iaload, 1) := by decide +kernel
theorem dX8_isHorn_9 : decode cX8_isHorn 9 = .ok (.iconst 1, 1) := by decide +kernel
theorem dX8_isHorn_10 : decode cX8_isHorn 10 = .ok (.isub, 1) := by decide +kernel
theorem dX8_isHorn_11 : decode cX8_isHorn 11 = .ok (.i2l, 1) := by decide +kernel
theorem dX8_isHorn_12 : decode cX8_isHorn 12 = .ok (.invokestatic 52, 3) := by decide +kernel
theorem dX8_isHorn_15 : decode cX8_isHorn 15 = .ok (.ireturn, 1) := by decide +kernel
set_option maxRecDepth 20000 in
theorem ggX8_isTree_X8_in : GoodIn wsX8_isTree wsX8_in := goodIn_r _ [5] (by decide +kernel) (by decide +kernel)
set_option maxRecDepth 20000 in
theorem gX8_isTree_X8_in : GoodIn wsX8_isTree (va_wsS RX8 52 yX8_in wsX8_in) := goodIn_app (goodIn_of _ (by decide +kernel)) ggX8_isTree_X8_in
theorem dX8_isTree_0 : decode cX8_isTree 0 = .ok (.iload_n 1, 1) := by decide +kernel
theorem dX8_isTree_1 : decode cX8_isTree 1 = .ok (.i2l, 1) := by decide +kernel
theorem dX8_isTree_2 : decode cX8_isTree 2 = .ok (.lconst 0, 1) := by decide +kernel
theorem dX8_isTree_3 : decode cX8_isTree 3 = .ok (.aload_n 0, 1) := by decide +kernel
theorem dX8_isTree_4 : decode cX8_isTree 4 = .ok (.getfield 19, 3) := by decide +kernel
theorem dX8_isTree_7 : decode cX8_isTree 7 = .ok (.iconst 2, 1) := by decide +kernel
theorem dX8_isTree_8 : decode cX8_isTree 8 = .ok (.iaload, 1) := by decide +kernel
theorem dX8_isTree_9 : decode cX8_isTree 9 = .ok (.iconst 1, 1) := by decide +kernel
theorem dX8_isTree_10 : decode cX8_isTree 10 = .ok (.isub, 1) := by decide +kernel
theorem dX8_isTree_11 : decode cX8_isTree 11 = .ok (.i2l, 1) := by decide +kernel
theorem dX8_isTree_12 : decode cX8_isTree 12 = .ok (.invokestatic 52, 3) := by decide +kernel
theorem dX8_isTree_15 : decode cX8_isTree 15 = .ok (.ireturn, 1) := by decide +kernel
theorem dX8_ofGrave_0 : decode cX8_ofGrave 0 = .ok (.aload_n 0, 1) := by decide +kernel
theorem dX8_ofGrave_1 : decode cX8_ofGrave 1 = .ok (.getfield 19, 3) := by decide +kernel
theorem dX8_ofGrave_4 : decode cX8_ofGrave 4 = .ok (.bipush 15, 2) := by decide +kernel
theorem dX8_ofGrave_6 : decode cX8_ofGrave 6 = .ok (.iconst 4, 1) := by decide +kernel
theorem dX8_ofGrave_7 : decode cX8_ofGrave 7 = .ok (.iload_n 1, 1) := by decide +kernel
theorem dX8_ofGrave_8 : decode cX8_ofGrave 8 = .ok (.imul, 1) := by decide +kernel
theorem dX8_ofGrave_9 : decode cX8_ofGrave 9 = .ok (.iadd, 1) := by decide +kernel
theorem dX8_ofGrave_10 : decode cX8_ofGrave 10 = .ok (.iload_n 2, 1) := by decide +kernel
theorem dX8_ofGrave_11 : decode cX8_ofGrave 11 = .ok (.iadd, 1) := by decide +kernel
theorem dX8_ofGrave_12 : decode cX8_ofGrave 12 = .ok (.iaload, 1) := by decide +kernel
theorem dX8_ofGrave_13 : decode cX8_ofGrave 13 = .ok (.ireturn, 1) := by decide +kernel
theorem dX8_placeOf_0 : decode cX8_placeOf 0 = .ok (.aload_n 0, 1) := by decide +kernel
theorem dX8_placeOf_1 : decode cX8_placeOf 1 = .ok (.getfield 19, 3) := by decide +kernel
theorem dX8_placeOf_4 : decode cX8_placeOf 4 = .ok (.bipush 47, 2) := by decide +kernel
theorem dX8_placeOf_6 : decode cX8_placeOf 6 = .ok (.iconst 3, 1) := by decide +kernel
theorem dX8_placeOf_7 : decode cX8_placeOf 7 = .ok (.iload_n 1, 1) := by decide +kernel
theorem dX8_placeOf_8 : decode cX8_placeOf 8 = .ok (.imul, 1) := by decide +kernel
theorem dX8_placeOf_9 : decode cX8_placeOf 9 = .ok (.iadd, 1) := by decide +kernel
theorem dX8_placeOf_10 : decode cX8_placeOf 10 = .ok (.iconst 1, 1) := by decide +kernel
theorem dX8_placeOf_11 : decode cX8_placeOf 11 = .ok (.iadd, 1) := by decide +kernel
theorem dX8_placeOf_12 : decode cX8_placeOf 12 = .ok (.iaload, 1) := by decide +kernel
theorem dX8_placeOf_13 : decode cX8_placeOf 13 = .ok (.ireturn, 1) := by decide +kernel
theorem dX8_fruit_0 : decode cX8_fruit 0 = .ok (.aload_n 0, 1) := by decide +kernel
theorem dX8_fruit_1 : decode cX8_fruit 1 = .ok (.getfield 19, 3) := by decide +kernel
theorem dX8_fruit_4 : decode cX8_fruit 4 = .ok (.bipush 47, 2) := by decide +kernel
theorem dX8_fruit_6 : decode cX8_fruit 6 = .ok (.iconst 3, 1) := by decide +kernel
theorem dX8_fruit_7 : decode cX8_fruit 7 = .ok (.iload_n 1, 1) := by decide +kernel
theorem dX8_fruit_8 : decode cX8_fruit 8 = .ok (.imul, 1) := by decide +kernel
theorem dX8_fruit_9 : decode cX8_fruit 9 = .ok (.iadd, 1) := by decide +kernel
theorem dX8_fruit_10 : decode cX8_fruit 10 = .ok (.iconst 2, 1) := by decide +kernel
theorem dX8_fruit_11 : decode cX8_fruit 11 = .ok (.iadd, 1) := by decide +kernel
theorem dX8_fruit_12 : decode cX8_fruit 12 = .ok (.iaload, 1) := by decide +kernel
theorem dX8_fruit_13 : decode cX8_fruit 13 = .ok (.ireturn, 1) := by decide +kernel
theorem dX8_loose_0 : decode cX8_loose 0 = .ok (.aload_n 0, 1) := by decide +kernel
theorem dX8_loose_1 : decode cX8_loose 1 = .ok (.getfield 19, 3) := by decide +kernel
theorem dX8_loose_4 : decode cX8_loose 4 = .ok (.bipush 47, 2) := by decide +kernel
theorem dX8_loose_6 : decode cX8_loose 6 = .ok (.iconst 3, 1) := by decide +kernel
theorem dX8_loose_7 : decode cX8_loose 7 = .ok (.iload_n 1, 1) := by decide +kernel
theorem dX8_loose_8 : decode cX8_loose 8 = .ok (.imul, 1) := by decide +kernel
theorem dX8_loose_9 : decode cX8_loose 9 = .ok (.iadd, 1) := by decide +kernel
theorem dX8_loose_10 : decode cX8_loose 10 = .ok (.iaload, 1) := by decide +kernel
theorem dX8_loose_11 : decode cX8_loose 11 = .ok (.istore_n 2, 1) := by decide +kernel
theorem dX8_loose_12 : decode cX8_loose 12 = .ok (.iload_n 2, 1) := by decide +kernel
theorem dX8_loose_13 : decode cX8_loose 13 = .ok (.iconst 1, 1) := by decide +kernel
theorem dX8_loose_14 : decode cX8_loose 14 = .ok (.if_icmp .ne 7, 3) := by decide +kernel
theorem dX8_loose_17 : decode cX8_loose 17 = .ok (.iconst 2, 1) := by decide +kernel
theorem dX8_loose_18 : decode cX8_loose 18 = .ok (.goto 22, 3) := by decide +kernel
theorem dX8_loose_21 : decode cX8_loose 21 = .ok (.iload_n 2, 1) := by decide +kernel
theorem dX8_loose_22 : decode cX8_loose 22 = .ok (.iconst 4, 1) := by decide +kernel
theorem dX8_loose_23 : decode cX8_loose 23 = .ok (.if_icmp .ne 7, 3) := by decide +kernel
theorem dX8_loose_26 : decode cX8_loose 26 = .ok (.iconst 3, 1) := by decide +kernel
theorem dX8_loose_27 : decode cX8_loose 27 = .ok (.goto 13, 3) := by decide +kernel
theorem dX8_loose_30 : decode cX8_loose 30 = .ok (.iload_n 2, 1) := by decide +kernel
theorem dX8_loose_31 : decode cX8_loose 31 = .ok (.iconst 5, 1) := by decide +kernel
theorem dX8_loose_32 : decode cX8_loose 32 = .ok (.if_icmp .ne 7, 3) := by decide +kernel
theorem dX8_loose_35 : decode cX8_loose 35 = .ok (.iconst 0, 1) := by decide +kernel
theorem dX8_loose_36 : decode cX8_loose 36 = .ok (.goto 4, 3) := by decide +kernel
theorem dX8_loose_39 : decode cX8_loose 39 = .ok (.iconst 1, 1) := by decide +kernel
theorem dX8_loose_40 : decode cX8_loose 40 = .ok (.ireturn, 1) := by decide +kernel
theorem dX8_apart_0 : decode cX8_apart 0 = .ok (.iload_n 0, 1) := by decide +kernel
theorem dX8_apart_1 : decode cX8_apart 1 = .ok (.iload_n 1, 1) := by decide +kernel
theorem dX8_apart_2 : decode cX8_apart 2 = .ok (.if_icmp .ge 9, 3) := by decide +kernel
theorem dX8_apart_5 : decode cX8_apart 5 = .ok (.iload_n 1, 1) := by decide +kernel
theorem dX8_apart_6 : decode cX8_apart 6 = .ok (.iload_n 0, 1) := by decide +kernel
theorem dX8_apart_7 : decode cX8_apart 7 = .ok (.isub, 1) := by decide +kernel
theorem dX8_apart_8 : decode cX8_apart 8 = .ok (.goto 6, 3) := by decide +kernel
theorem dX8_apart_11 : decode cX8_apart 11 = .ok (.iload_n 0, 1) := by decide +kernel
theorem dX8_apart_12 : decode cX8_apart 12 = .ok (.iload_n 1, 1) := by decide +kernel
theorem dX8_apart_13 : decode cX8_apart 13 = .ok (.isub, 1) := by decide +kernel
theorem dX8_apart_14 : decode cX8_apart 14 = .ok (.ireturn, 1) := by decide +kernel
set_option maxRecDepth 20000 in
theorem ggX8_heard_X8_ofGrave : GoodIn wsX8_heard wsX8_ofGrave := goodIn_r _ [6, 1, 10, 11, 12, 13, 14, 15, 16, 17, 18, 19, 20, 21, 22, 23, 24, 25, 26, 27, 28, 29, 30, 31, 32, 33, 34, 35, 36] (by decide +kernel) (by decide +kernel)
set_option maxRecDepth 20000 in
theorem gX8_heard_X8_ofGrave : GoodIn wsX8_heard (wsV RX8 191 RX8 yX8_ofGrave wsX8_ofGrave) := goodIn_app (goodIn_of _ (by decide +kernel)) ggX8_heard_X8_ofGrave
set_option maxRecDepth 20000 in
theorem ggX8_heard_X8_apart : GoodIn wsX8_heard wsX8_apart := goodIn_r _ [9] (by decide +kernel) (by decide +kernel)
set_option maxRecDepth 20000 in
theorem gX8_heard_X8_apart : GoodIn wsX8_heard (va_wsS RX8 194 yX8_apart wsX8_apart) := goodIn_app (goodIn_of _ (by decide +kernel)) ggX8_heard_X8_apart
theorem dX8_heard_0 : decode cX8_heard 0 = .ok (.iconst 0, 1) := by decide +kernel
theorem dX8_heard_1 : decode cX8_heard 1 = .ok (.istore_n 2, 1) := by decide +kernel
theorem dX8_heard_2 : decode cX8_heard 2 = .ok (.iconst 0, 1) := by decide +kernel
theorem dX8_heard_3 : decode cX8_heard 3 = .ok (.istore_n 3, 1) := by decide +kernel
theorem dX8_heard_4 : decode cX8_heard 4 = .ok (.iload_n 3, 1) := by decide +kernel
theorem dX8_heard_5 : decode cX8_heard 5 = .ok (.aload_n 0, 1) := by decide +kernel
theorem dX8_heard_6 : decode cX8_heard 6 = .ok (.getfield 19, 3) := by decide +kernel
theorem dX8_heard_9 : decode cX8_heard 9 = .ok (.iconst 1, 1) := by decide +kernel
theorem dX8_heard_10 : decode cX8_heard 10 = .ok (.iaload, 1) := by decide +kernel
theorem dX8_heard_11 : decode cX8_heard 11 = .ok (.if_icmp .ge 81, 3) := by decide +kernel
theorem dX8_heard_14 : decode cX8_heard 14 = .ok (.bipush 35, 2) := by decide +kernel
theorem dX8_heard_16 : decode cX8_heard 16 = .ok (.iconst 3, 1) := by decide +kernel
theorem dX8_heard_17 : decode cX8_heard 17 = .ok (.iload_n 3, 1) := by decide +kernel
theorem dX8_heard_18 : decode cX8_heard 18 = .ok (.imul, 1) := by decide +kernel
theorem dX8_heard_19 : decode cX8_heard 19 = .ok (.iadd, 1) := by decide +kernel
theorem dX8_heard_20 : decode cX8_heard 20 = .ok (.istore 4, 2) := by decide +kernel
theorem dX8_heard_22 : decode cX8_heard 22 = .ok (.aload_n 0, 1) := by decide +kernel
theorem dX8_heard_23 : decode cX8_heard 23 = .ok (.getfield 19, 3) := by decide +kernel
theorem dX8_heard_26 : decode cX8_heard 26 = .ok (.iload 4, 2) := by decide +kernel
theorem dX8_heard_28 : decode cX8_heard 28 = .ok (.iconst 1, 1) := by decide +kernel
theorem dX8_heard_29 : decode cX8_heard 29 = .ok (.iadd, 1) := by decide +kernel
theorem dX8_heard_30 : decode cX8_heard 30 = .ok (.iaload, 1) := by decide +kernel
theorem dX8_heard_31 : decode cX8_heard 31 = .ok (.aload_n 0, 1) := by decide +kernel
theorem dX8_heard_32 : decode cX8_heard 32 = .ok (.getfield 19, 3) := by decide +kernel
theorem dX8_heard_35 : decode cX8_heard 35 = .ok (.iload 4, 2) := by decide +kernel
theorem dX8_heard_37 : decode cX8_heard 37 = .ok (.iaload, 1) := by decide +kernel
theorem dX8_heard_38 : decode cX8_heard 38 = .ok (.aload_n 0, 1) := by decide +kernel
theorem dX8_heard_39 : decode cX8_heard 39 = .ok (.iload_n 1, 1) := by decide +kernel
theorem dX8_heard_40 : decode cX8_heard 40 = .ok (.iconst 0, 1) := by decide +kernel
theorem dX8_heard_41 : decode cX8_heard 41 = .ok (.invokevirtual 191, 3) := by decide +kernel
theorem dX8_heard_44 : decode cX8_heard 44 = .ok (.invokestatic 194, 3) := by decide +kernel
theorem dX8_heard_47 : decode cX8_heard 47 = .ok (.isub, 1) := by decide +kernel
theorem dX8_heard_48 : decode cX8_heard 48 = .ok (.aload_n 0, 1) := by decide +kernel
theorem dX8_heard_49 : decode cX8_heard 49 = .ok (.iload_n 1, 1) := by decide +kernel
theorem dX8_heard_50 : decode cX8_heard 50 = .ok (.iconst 1, 1) := by decide +kernel
theorem dX8_heard_51 : decode cX8_heard 51 = .ok (.invokevirtual 191, 3) := by decide +kernel
theorem dX8_heard_54 : decode cX8_heard 54 = .ok (.iadd, 1) := by decide +kernel
theorem dX8_heard_55 : decode cX8_heard 55 = .ok (.istore 5, 2) := by decide +kernel
theorem dX8_heard_57 : decode cX8_heard 57 = .ok (.iload_n 2, 1) := by decide +kernel
theorem dX8_heard_58 : decode cX8_heard 58 = .ok (.aload_n 0, 1) := by decide +kernel
theorem dX8_heard_59 : decode cX8_heard 59 = .ok (.getfield 19, 3) := by decide +kernel
theorem dX8_heard_62 : decode cX8_heard 62 = .ok (.iload 4, 2) := by decide +kernel
theorem dX8_heard_64 : decode cX8_heard 64 = .ok (.iconst 2, 1) := by decide +kernel
theorem dX8_heard_65 : decode cX8_heard 65 = .ok (.iadd, 1) := by decide +kernel
theorem dX8_heard_66 : decode cX8_heard 66 = .ok (.iaload, 1) := by decide +kernel
theorem dX8_heard_67 : decode cX8_heard 67 = .ok (.ifCond .ne 16, 3) := by decide +kernel
theorem dX8_heard_70 : decode cX8_heard 70 = .ok (.iload 5, 2) := by decide +kernel
theorem dX8_heard_72 : decode cX8_heard 72 = .ok (.bipush 10, 2) := by decide +kernel
theorem dX8_heard_74 : decode cX8_heard 74 = .ok (.if_icmp .lt 9, 3) := by decide +kernel
theorem dX8_heard_77 : decode cX8_heard 77 = .ok (.iconst 1, 1) := by decide +kernel
theorem dX8_heard_78 : decode cX8_heard 78 = .ok (.iload_n 3, 1) := by decide +kernel
theorem dX8_heard_79 : decode cX8_heard 79 = .ok (.ishl, 1) := by decide +kernel
theorem dX8_heard_80 : decode cX8_heard 80 = .ok (.goto 4, 3) := by decide +kernel
theorem dX8_heard_83 : decode cX8_heard 83 = .ok (.iconst 0, 1) := by decide +kernel
theorem dX8_heard_84 : decode cX8_heard 84 = .ok (.ior, 1) := by decide +kernel
theorem dX8_heard_85 : decode cX8_heard 85 = .ok (.istore_n 2, 1) := by decide +kernel
theorem dX8_heard_86 : decode cX8_heard 86 = .ok (.iinc 3 1, 3) := by decide +kernel
theorem dX8_heard_89 : decode cX8_heard 89 = .ok (.goto (-85), 3) := by decide +kernel
theorem dX8_heard_92 : decode cX8_heard 92 = .ok (.iload_n 2, 1) := by decide +kernel
theorem dX8_heard_93 : decode cX8_heard 93 = .ok (.ireturn, 1) := by decide +kernel
set_option maxRecDepth 20000 in
theorem ggX8_itsTree_X8_placeOf : GoodIn wsX8_itsTree wsX8_placeOf := goodIn_r _ [7, 2, 19, 20, 21, 22, 23, 24, 25, 26, 27, 28, 29, 30, 31, 32, 33, 34, 35, 36, 37, 38, 39, 40, 41, 42, 43, 44, 45] (by decide +kernel) (by decide +kernel)
set_option maxRecDepth 20000 in
theorem gX8_itsTree_X8_placeOf : GoodIn wsX8_itsTree (wsV RX8 197 RX8 yX8_placeOf wsX8_placeOf) := goodIn_app (goodIn_of _ (by decide +kernel)) ggX8_itsTree_X8_placeOf
set_option maxRecDepth 20000 in
theorem ggX8_itsTree_X8_ofGrave : GoodIn wsX8_itsTree wsX8_ofGrave := goodIn_r _ [11, 2, 19, 20, 21, 22, 23, 24, 25, 26, 27, 28, 29, 30, 31, 32, 33, 34, 35, 36, 37, 38, 39, 40, 41, 42, 43, 44, 45] (by decide +kernel) (by decide +kernel)
set_option maxRecDepth 20000 in
theorem gX8_itsTree_X8_ofGrave : GoodIn wsX8_itsTree (wsV RX8 191 RX8 yX8_ofGrave wsX8_ofGrave) := goodIn_app (goodIn_of _ (by decide +kernel)) ggX8_itsTree_X8_ofGrave
set_option maxRecDepth 20000 in
theorem ggX8_itsTree_X8_apart : GoodIn wsX8_itsTree wsX8_apart := goodIn_r _ [14] (by decide +kernel) (by decide +kernel)
set_option maxRecDepth 20000 in
theorem gX8_itsTree_X8_apart : GoodIn wsX8_itsTree (va_wsS RX8 194 yX8_apart wsX8_apart) := goodIn_app (goodIn_of _ (by decide +kernel)) ggX8_itsTree_X8_apart
set_option maxRecDepth 20000 in
theorem ggX8_itsTree_X8_fruit : GoodIn wsX8_itsTree wsX8_fruit := goodIn_r _ [18, 2, 19, 20, 21, 22, 23, 24, 25, 26, 27, 28, 29, 30, 31, 32, 33, 34, 35, 36, 37, 38, 39, 40, 41, 42, 43, 44, 45] (by decide +kernel) (by decide +kernel)
set_option maxRecDepth 20000 in
theorem gX8_itsTree_X8_fruit : GoodIn wsX8_itsTree (wsV RX8 200 RX8 yX8_fruit wsX8_fruit) := goodIn_app (goodIn_of _ (by decide +kernel)) ggX8_itsTree_X8_fruit
theorem dX8_itsTree_0 : decode cX8_itsTree 0 = .ok (.ldc 80, 2) := by decide +kernel
theorem dX8_itsTree_2 : decode cX8_itsTree 2 = .ok (.istore_n 3, 1) := by decide +kernel
theorem dX8_itsTree_3 : decode cX8_itsTree 3 = .ok (.iconst 0, 1) := by decide +kernel
theorem dX8_itsTree_4 : decode cX8_itsTree 4 = .ok (.istore 4, 2) := by decide +kernel
theorem dX8_itsTree_6 : decode cX8_itsTree 6 = .ok (.iload 4, 2) := by decide +kernel
theorem dX8_itsTree_8 : decode cX8_itsTree 8 = .ok (.aload_n 0, 1) := by decide +kernel
theorem dX8_itsTree_9 : decode cX8_itsTree 9 = .ok (.getfield 19, 3) := by decide +kernel
theorem dX8_itsTree_12 : decode cX8_itsTree 12 = .ok (.iconst 2, 1) := by decide +kernel
theorem dX8_itsTree_13 : decode cX8_itsTree 13 = .ok (.iaload, 1) := by decide +kernel
theorem dX8_itsTree_14 : decode cX8_itsTree 14 = .ok (.if_icmp .ge 94, 3) := by decide +kernel
theorem dX8_itsTree_17 : decode cX8_itsTree 17 = .ok (.aload_n 0, 1) := by decide +kernel
theorem dX8_itsTree_18 : decode cX8_itsTree 18 = .ok (.iload 4, 2) := by decide +kernel
theorem dX8_itsTree_20 : decode cX8_itsTree 20 = .ok (.invokevirtual 197, 3) := by decide +kernel
theorem dX8_itsTree_23 : decode cX8_itsTree 23 = .ok (.aload_n 0, 1) := by decide +kernel
theorem dX8_itsTree_24 : decode cX8_itsTree 24 = .ok (.iload_n 1, 1) := by decide +kernel
theorem dX8_itsTree_25 : decode cX8_itsTree 25 = .ok (.iconst 0, 1) := by decide +kernel
theorem dX8_itsTree_26 : decode cX8_itsTree 26 = .ok (.invokevirtual 191, 3) := by decide +kernel
theorem dX8_itsTree_29 : decode cX8_itsTree 29 = .ok (.invokestatic 194, 3) := by decide +kernel
theorem dX8_itsTree_32 : decode cX8_itsTree 32 = .ok (.istore 5, 2) := by decide +kernel
theorem dX8_itsTree_34 : decode cX8_itsTree 34 = .ok (.aload_n 0, 1) := by decide +kernel
theorem dX8_itsTree_35 : decode cX8_itsTree 35 = .ok (.iload 4, 2) := by decide +kernel
theorem dX8_itsTree_37 : decode cX8_itsTree 37 = .ok (.invokevirtual 200, 3) := by decide +kernel
theorem dX8_itsTree_40 : decode cX8_itsTree 40 = .ok (.ifCond .le 22, 3) := by decide +kernel
theorem dX8_itsTree_43 : decode cX8_itsTree 43 = .ok (.iload_n 2, 1) := by decide +kernel
theorem dX8_itsTree_44 : decode cX8_itsTree 44 = .ok (.iload 4, 2) := by decide +kernel
theorem dX8_itsTree_46 : decode cX8_itsTree 46 = .ok (.ishr, 1) := by decide +kernel
theorem dX8_itsTree_47 : decode cX8_itsTree 47 = .ok (.iconst 1, 1) := by decide +kernel
theorem dX8_itsTree_48 : decode cX8_itsTree 48 = .ok (.iand, 1) := by decide +kernel
theorem dX8_itsTree_49 : decode cX8_itsTree 49 = .ok (.ifCond .ne 13, 3) := by decide +kernel
theorem dX8_itsTree_52 : decode cX8_itsTree 52 = .ok (.iload 5, 2) := by decide +kernel
theorem dX8_itsTree_54 : decode cX8_itsTree 54 = .ok (.iconst 3, 1) := by decide +kernel
theorem dX8_itsTree_55 : decode cX8_itsTree 55 = .ok (.if_icmp .gt 7, 3) := by decide +kernel
theorem dX8_itsTree_58 : decode cX8_itsTree 58 = .ok (.iconst 1, 1) := by decide +kernel
theorem dX8_itsTree_59 : decode cX8_itsTree 59 = .ok (.goto 4, 3) := by decide +kernel
theorem dX8_itsTree_62 : decode cX8_itsTree 62 = .ok (.iconst 0, 1) := by decide +kernel
theorem dX8_itsTree_63 : decode cX8_itsTree 63 = .ok (.istore 6, 2) := by decide +kernel
theorem dX8_itsTree_65 : decode cX8_itsTree 65 = .ok (.iload 6, 2) := by decide +kernel
theorem dX8_itsTree_67 : decode cX8_itsTree 67 = .ok (.ifCond .eq 33, 3) := by decide +kernel
theorem dX8_itsTree_70 : decode cX8_itsTree 70 = .ok (.iload_n 3, 1) := by decide +kernel
theorem dX8_itsTree_71 : decode cX8_itsTree 71 = .ok (.ldc 80, 2) := by decide +kernel
theorem dX8_itsTree_73 : decode cX8_itsTree 73 = .ok (.if_icmp .eq 22, 3) := by decide +kernel
theorem dX8_itsTree_76 : decode cX8_itsTree 76 = .ok (.iload 5, 2) := by decide +kernel
theorem dX8_itsTree_78 : decode cX8_itsTree 78 = .ok (.aload_n 0, 1) := by decide +kernel
theorem dX8_itsTree_79 : decode cX8_itsTree 79 = .ok (.iload_n 3, 1) := by decide +kernel
theorem dX8_itsTree_80 : decode cX8_itsTree 80 = .ok (.invokevirtual 197, 3) := by decide +kernel
theorem dX8_itsTree_83 : decode cX8_itsTree 83 = .ok (.aload_n 0, 1) := by decide +kernel
theorem dX8_itsTree_84 : decode cX8_itsTree 84 = .ok (.iload_n 1, 1) := by decide +kernel
theorem dX8_itsTree_85 : decode cX8_itsTree 85 = .ok (.iconst 0, 1) := by decide +kernel
theorem dX8_itsTree_86 : decode cX8_itsTree 86 = .ok (.invokevirtual 191, 3) := by decide +kernel
theorem dX8_itsTree_89 : decode cX8_itsTree 89 = .ok (.invokestatic 194, 3) := by decide +kernel
theorem dX8_itsTree_92 : decode cX8_itsTree 92 = .ok (.if_icmp .ge 8, 3) := by decide +kernel
theorem dX8_itsTree_95 : decode cX8_itsTree 95 = .ok (.iload 4, 2) := by decide +kernel
theorem dX8_itsTree_97 : decode cX8_itsTree 97 = .ok (.goto 4, 3) := by decide +kernel
theorem dX8_itsTree_100 : decode cX8_itsTree 100 = .ok (.iload_n 3, 1) := by decide +kernel
theorem dX8_itsTree_101 : decode cX8_itsTree 101 = .ok (.istore_n 3, 1) := by decide +kernel
theorem dX8_itsTree_102 : decode cX8_itsTree 102 = .ok (.iinc 4 1, 3) := by decide +kernel
theorem dX8_itsTree_105 : decode cX8_itsTree 105 = .ok (.goto (-99), 3) := by decide +kernel
theorem dX8_itsTree_108 : decode cX8_itsTree 108 = .ok (.iload_n 3, 1) := by decide +kernel
theorem dX8_itsTree_109 : decode cX8_itsTree 109 = .ok (.ireturn, 1) := by decide +kernel
set_option maxRecDepth 20000 in
theorem ggX8_doesMind_X8_heard : GoodIn wsX8_doesMind wsX8_heard := goodIn_r _ [6, 7, 8, 9, 10, 5, 11, 12, 13, 14, 27, 28, 29, 30, 31, 32, 33, 34, 35, 36, 37, 38, 39, 40, 41, 42, 43, 44, 45, 46, 47, 48, 49, 50, 51, 52, 53] (by decide +kernel) (by decide +kernel)
set_option maxRecDepth 20000 in
theorem gX8_doesMind_X8_heard : GoodIn wsX8_doesMind (wsV RX8 203 RX8 yX8_heard wsX8_heard) := goodIn_app (goodIn_of _ (by decide +kernel)) ggX8_doesMind_X8_heard
set_option maxRecDepth 20000 in
theorem ggX8_doesMind_X8_ofGrave : GoodIn wsX8_doesMind wsX8_ofGrave := goodIn_r _ [11, 7, 27, 28, 29, 30, 31, 32, 33, 34, 35, 36, 37, 38, 39, 40, 41, 42, 43, 44, 45, 46, 47, 48, 49, 50, 51, 52, 53] (by decide +kernel) (by decide +kernel)
set_option maxRecDepth 20000 in
theorem gX8_doesMind_X8_ofGrave : GoodIn wsX8_doesMind (wsV RX8 191 RX8 yX8_ofGrave wsX8_ofGrave) := goodIn_app (goodIn_of _ (by decide +kernel)) ggX8_doesMind_X8_ofGrave
set_option maxRecDepth 20000 in
theorem ggX8_doesMind_X8_itsTree : GoodIn wsX8_doesMind wsX8_itsTree := goodIn_r _ [18, 1, 7, 19, 20, 21, 5, 22, 8, 9, 10, 11, 12, 13, 14, 23, 24, 25, 26, 27, 28, 29, 30, 31, 32, 33, 34, 35, 36, 37, 38, 39, 40, 41, 42, 43, 44, 45, 46, 47, 48, 49, 50, 51, 52, 53] (by decide +kernel) (by decide +kernel)
set_option maxRecDepth 20000 in
theorem gX8_doesMind_X8_itsTree : GoodIn wsX8_doesMind (wsV RX8 206 RX8 yX8_itsTree wsX8_itsTree) := goodIn_app (goodIn_of _ (by decide +kernel)) ggX8_doesMind_X8_itsTree
theorem dX8_doesMind_0 : decode cX8_doesMind 0 = .ok (.aload_n 0, 1) := by decide +kernel
theorem dX8_doesMind_1 : decode cX8_doesMind 1 = .ok (.iload_n 1, 1) := by decide +kernel
theorem dX8_doesMind_2 : decode cX8_doesMind 2 = .ok (.invokevirtual 203, 3) := by decide +kernel
theorem dX8_doesMind_5 : decode cX8_doesMind 5 = .ok (.iload_n 3, 1) := by decide +kernel
theorem dX8_doesMind_6 : decode cX8_doesMind 6 = .ok (.iand, 1) := by decide +kernel
theorem dX8_doesMind_7 : decode cX8_doesMind 7 = .ok (.ifCond .eq 30, 3) := by decide +kernel
theorem dX8_doesMind_10 : decode cX8_doesMind 10 = .ok (.aload_n 0, 1) := by decide +kernel
theorem dX8_doesMind_11 : decode cX8_doesMind 11 = .ok (.iload_n 1, 1) := by decide +kernel
theorem dX8_doesMind_12 : decode cX8_doesMind 12 = .ok (.iconst 3, 1) := by decide +kernel
theorem dX8_doesMind_13 : decode cX8_doesMind 13 = .ok (.invokevirtual 191, 3) := by decide +kernel
theorem dX8_doesMind_16 : decode cX8_doesMind 16 = .ok (.iload_n 2, 1) := by decide +kernel
theorem dX8_doesMind_17 : decode cX8_doesMind 17 = .ok (.iand, 1) := by decide +kernel
theorem dX8_doesMind_18 : decode cX8_doesMind 18 = .ok (.ifCond .eq 19, 3) := by decide +kernel
theorem dX8_doesMind_21 : decode cX8_doesMind 21 = .ok (.aload_n 0, 1) := by decide +kernel
theorem dX8_doesMind_22 : decode cX8_doesMind 22 = .ok (.iload_n 1, 1) := by decide +kernel
theorem dX8_doesMind_23 : decode cX8_doesMind 23 = .ok (.iload 4, 2) := by decide +kernel
theorem dX8_doesMind_25 : decode cX8_doesMind 25 = .ok (.invokevirtual 206, 3) := by decide +kernel
theorem dX8_doesMind_28 : decode cX8_doesMind 28 = .ok (.ldc 80, 2) := by decide +kernel
theorem dX8_doesMind_30 : decode cX8_doesMind 30 = .ok (.if_icmp .eq 7, 3) := by decide +kernel
theorem dX8_doesMind_33 : decode cX8_doesMind 33 = .ok (.iconst 1, 1) := by decide +kernel
theorem dX8_doesMind_34 : decode cX8_doesMind 34 = .ok (.goto 4, 3) := by decide +kernel
theorem dX8_doesMind_37 : decode cX8_doesMind 37 = .ok (.iconst 0, 1) := by decide +kernel
theorem dX8_doesMind_38 : decode cX8_doesMind 38 = .ok (.ireturn, 1) := by decide +kernel
theorem dX8_keep_0 : decode cX8_keep 0 = .ok (.aload_n 0, 1) := by decide +kernel
theorem dX8_keep_1 : decode cX8_keep 1 = .ok (.getfield 188, 3) := by decide +kernel
theorem dX8_keep_4 : decode cX8_keep 4 = .ok (.bipush 24, 2) := by decide +kernel
theorem dX8_keep_6 : decode cX8_keep 6 = .ok (.if_icmp .ne 43, 3) := by decide +kernel
theorem dX8_keep_9 : decode cX8_keep 9 = .ok (.iconst 0, 1) := by decide +kernel
theorem dX8_keep_10 : decode cX8_keep 10 = .ok (.istore_n 1, 1) := by decide +kernel
theorem dX8_keep_11 : decode cX8_keep 11 = .ok (.iload_n 1, 1) := by decide +kernel
theorem dX8_keep_12 : decode cX8_keep 12 = .ok (.sipush 1357, 3) := by decide +kernel
theorem dX8_keep_15 : decode cX8_keep 15 = .ok (.if_icmp .ge 24, 3) := by decide +kernel
theorem dX8_keep_18 : decode cX8_keep 18 = .ok (.aload_n 0, 1) := by decide +kernel
theorem dX8_keep_19 : decode cX8_keep 19 = .ok (.getfield 25, 3) := by decide +kernel
theorem dX8_keep_22 : decode cX8_keep 22 = .ok (.iload_n 1, 1) := by decide +kernel
theorem dX8_keep_23 : decode cX8_keep 23 = .ok (.aload_n 0, 1) := by decide +kernel
theorem dX8_keep_24 : decode cX8_keep 24 = .ok (.getfield 25, 3) := by decide +kernel
theorem dX8_keep_27 : decode cX8_keep 27 = .ok (.iload_n 1, 1) := by decide +kernel
theorem dX8_keep_28 : decode cX8_keep 28 = .ok (.bipush 59, 2) := by decide +kernel
theorem dX8_keep_30 : decode cX8_keep 30 = .ok (.iadd, 1) := by decide +kernel
theorem dX8_keep_31 : decode cX8_keep 31 = .ok (.iaload, 1) := by decide +kernel
theorem dX8_keep_32 : decode cX8_keep 32 = .ok (.iastore, 1) := by decide +kernel
theorem dX8_keep_33 : decode cX8_keep 33 = .ok (.iinc 1 1, 3) := by decide +kernel
theorem dX8_keep_36 : decode cX8_keep 36 = .ok (.goto (-25), 3) := by decide +kernel
theorem dX8_keep_39 : decode cX8_keep 39 = .ok (.aload_n 0, 1) := by decide +kernel
theorem dX8_keep_40 : decode cX8_keep 40 = .ok (.dup, 1) := by decide +kernel
theorem dX8_keep_41 : decode cX8_keep 41 = .ok (.getfield 188, 3) := by decide +kernel
theorem dX8_keep_44 : decode cX8_keep 44 = .ok (.iconst 1, 1) := by decide +kernel
theorem dX8_keep_45 : decode cX8_keep 45 = .ok (.isub, 1) := by decide +kernel
theorem dX8_keep_46 : decode cX8_keep 46 = .ok (.putfield 188, 3) := by decide +kernel
theorem dX8_keep_49 : decode cX8_keep 49 = .ok (.iconst 0, 1) := by decide +kernel
theorem dX8_keep_50 : decode cX8_keep 50 = .ok (.istore_n 1, 1) := by decide +kernel
theorem dX8_keep_51 : decode cX8_keep 51 = .ok (.iload_n 1, 1) := by decide +kernel
theorem dX8_keep_52 : decode cX8_keep 52 = .ok (.bipush 59, 2) := by decide +kernel
theorem dX8_keep_54 : decode cX8_keep 54 = .ok (.if_icmp .ge 29, 3) := by decide +kernel
theorem dX8_keep_57 : decode cX8_keep 57 = .ok (.aload_n 0, 1) := by decide +kernel
theorem dX8_keep_58 : decode cX8_keep 58 = .ok (.getfield 25, 3) := by decide +kernel
theorem dX8_keep_61 : decode cX8_keep 61 = .ok (.bipush 59, 2) := by decide +kernel
theorem dX8_keep_63 : decode cX8_keep 63 = .ok (.aload_n 0, 1) := by decide +kernel
theorem dX8_keep_64 : decode cX8_keep 64 = .ok (.getfield 188, 3) := by decide +kernel
theorem dX8_keep_67 : decode cX8_keep 67 = .ok (.imul, 1) := by decide +kernel
theorem dX8_keep_68 : decode cX8_keep 68 = .ok (.iload_n 1, 1) := by decide +kernel
theorem dX8_keep_69 : decode cX8_keep 69 = .ok (.iadd, 1) := by decide +kernel
theorem dX8_keep_70 : decode cX8_keep 70 = .ok (.aload_n 0, 1) := by decide +kernel
theorem dX8_keep_71 : decode cX8_keep 71 = .ok (.getfield 19, 3) := by decide +kernel
theorem dX8_keep_74 : decode cX8_keep 74 = .ok (.iload_n 1, 1) := by decide +kernel
theorem dX8_keep_75 : decode cX8_keep 75 = .ok (.iaload, 1) := by decide +kernel
theorem dX8_keep_76 : decode cX8_keep 76 = .ok (.iastore, 1) := by decide +kernel
theorem dX8_keep_77 : decode cX8_keep 77 = .ok (.iinc 1 1, 3) := by decide +kernel
theorem dX8_keep_80 : decode cX8_keep 80 = .ok (.goto (-29), 3) := by decide +kernel
theorem dX8_keep_83 : decode cX8_keep 83 = .ok (.aload_n 0, 1) := by decide +kernel
theorem dX8_keep_84 : decode cX8_keep 84 = .ok (.dup, 1) := by decide +kernel
theorem dX8_keep_85 : decode cX8_keep 85 = .ok (.getfield 188, 3) := by decide +kernel
theorem dX8_keep_88 : decode cX8_keep 88 = .ok (.iconst 1, 1) := by decide +kernel
theorem dX8_keep_89 : decode cX8_keep 89 = .ok (.iadd, 1) := by decide +kernel
theorem dX8_keep_90 : decode cX8_keep 90 = .ok (.putfield 188, 3) := by decide +kernel
theorem dX8_keep_93 : decode cX8_keep 93 = .ok (.return_, 1) := by decide +kernel
theorem dX8_draws_0 : decode cX8_draws 0 = .ok (.aload_n 0, 1) := by decide +kernel
theorem dX8_draws_1 : decode cX8_draws 1 = .ok (.aload_n 0, 1) := by decide +kernel
theorem dX8_draws_2 : decode cX8_draws 2 = .ok (.getfield 209, 3) := by decide +kernel
theorem dX8_draws_5 : decode cX8_draws 5 = .ok (.ldc2_w 213, 3) := by decide +kernel
theorem dX8_draws_8 : decode cX8_draws 8 = .ok (.lmul, 1) := by decide +kernel
theorem dX8_draws_9 : decode cX8_draws 9 = .ok (.ldc2_w 215, 3) := by decide +kernel
theorem dX8_draws_12 : decode cX8_draws 12 = .ok (.lrem, 1) := by decide +kernel
theorem dX8_draws_13 : decode cX8_draws 13 = .ok (.putfield 209, 3) := by decide +kernel
theorem dX8_draws_16 : decode cX8_draws 16 = .ok (.aload_n 0, 1) := by decide +kernel
theorem dX8_draws_17 : decode cX8_draws 17 = .ok (.getfield 209, 3) := by decide +kernel
theorem dX8_draws_20 : decode cX8_draws 20 = .ok (.ldc2_w 217, 3) := by decide +kernel
theorem dX8_draws_23 : decode cX8_draws 23 = .ok (.lrem, 1) := by decide +kernel
theorem dX8_draws_24 : decode cX8_draws 24 = .ok (.iload_n 1, 1) := by decide +kernel
theorem dX8_draws_25 : decode cX8_draws 25 = .ok (.i2l, 1) := by decide +kernel
theorem dX8_draws_26 : decode cX8_draws 26 = .ok (.lcmp, 1) := by decide +kernel
theorem dX8_draws_27 : decode cX8_draws 27 = .ok (.ifCond .ge 7, 3) := by decide +kernel
theorem dX8_draws_30 : decode cX8_draws 30 = .ok (.iconst 1, 1) := by decide +kernel
theorem dX8_draws_31 : decode cX8_draws 31 = .ok (.goto 4, 3) := by decide +kernel
theorem dX8_draws_34 : decode cX8_draws 34 = .ok (.iconst 0, 1) := by decide +kernel
theorem dX8_draws_35 : decode cX8_draws 35 = .ok (.ireturn, 1) := by decide +kernel
set_option maxRecDepth 20000 in
theorem ggX8_isMatter_X8_in : GoodIn wsX8_isMatter wsX8_in := goodIn_r _ [5] (by decide +kernel) (by decide +kernel)
set_option maxRecDepth 20000 in
theorem gX8_isMatter_X8_in : GoodIn wsX8_isMatter (va_wsS RX8 52 yX8_in wsX8_in) := goodIn_app (goodIn_of _ (by decide +kernel)) ggX8_isMatter_X8_in
theorem dX8_isMatter_0 : decode cX8_isMatter 0 = .ok (.iload_n 0, 1) := by decide +kernel
theorem dX8_isMatter_1 : decode cX8_isMatter 1 = .ok (.i2l, 1) := by decide +kernel
theorem dX8_isMatter_2 : decode cX8_isMatter 2 = .ok (.lconst 1, 1) := by decide +kernel
theorem dX8_isMatter_3 : decode cX8_isMatter 3 = .ok (.ldc2_w 219, 3) := by decide +kernel
theorem dX8_isMatter_6 : decode cX8_isMatter 6 = .ok (.invokestatic 52, 3) := by decide +kernel
theorem dX8_isMatter_9 : decode cX8_isMatter 9 = .ok (.ireturn, 1) := by decide +kernel
set_option maxRecDepth 20000 in
theorem ggX8_areHorns_X8_in : GoodIn wsX8_areHorns wsX8_in := goodIn_r _ [5] (by decide +kernel) (by decide +kernel)
set_option maxRecDepth 20000 in
theorem gX8_areHorns_X8_in : GoodIn wsX8_areHorns (va_wsS RX8 52 yX8_in wsX8_in) := goodIn_app (goodIn_of _ (by decide +kernel)) ggX8_areHorns_X8_in
theorem dX8_areHorns_0 : decode cX8_areHorns 0 = .ok (.iload_n 0, 1) := by decide +kernel
theorem dX8_areHorns_1 : decode cX8_areHorns 1 = .ok (.i2l, 1) := by decide +kernel
theorem dX8_areHorns_2 : decode cX8_areHorns 2 = .ok (.lconst 0, 1) := by decide +kernel
theorem dX8_areHorns_3 : decode cX8_areHorns 3 = .ok (.ldc2_w 219, 3) := by decide +kernel
theorem dX8_areHorns_6 : decode cX8_areHorns 6 = .ok (.invokestatic 52, 3) := by decide +kernel
theorem dX8_areHorns_9 : decode cX8_areHorns 9 = .ok (.ireturn, 1) := by decide +kernel
set_option maxRecDepth 20000 in
theorem ggX8_isHour_X8_in : GoodIn wsX8_isHour wsX8_in := goodIn_r _ [5] (by decide +kernel) (by decide +kernel)
set_option maxRecDepth 20000 in
theorem gX8_isHour_X8_in : GoodIn wsX8_isHour (va_wsS RX8 52 yX8_in wsX8_in) := goodIn_app (goodIn_of _ (by decide +kernel)) ggX8_isHour_X8_in
theorem dX8_isHour_0 : decode cX8_isHour 0 = .ok (.iload_n 0, 1) := by decide +kernel
theorem dX8_isHour_1 : decode cX8_isHour 1 = .ok (.i2l, 1) := by decide +kernel
theorem dX8_isHour_2 : decode cX8_isHour 2 = .ok (.lconst 0, 1) := by decide +kernel
theorem dX8_isHour_3 : decode cX8_isHour 3 = .ok (.ldc2_w 221, 3) := by decide +kernel
theorem dX8_isHour_6 : decode cX8_isHour 6 = .ok (.invokestatic 52, 3) := by decide +kernel
theorem dX8_isHour_9 : decode cX8_isHour 9 = .ok (.ireturn, 1) := by decide +kernel
set_option maxRecDepth 20000 in
theorem ggX8_ask_X8_isMatter : GoodIn wsX8_ask wsX8_isMatter := goodIn_r _ [11, 12, 13, 14, 10, 15] (by decide +kernel) (by decide +kernel)
set_option maxRecDepth 20000 in
theorem gX8_ask_X8_isMatter : GoodIn wsX8_ask (va_wsS RX8 225 yX8_isMatter wsX8_isMatter) := goodIn_app (goodIn_of _ (by decide +kernel)) ggX8_ask_X8_isMatter
set_option maxRecDepth 20000 in
theorem ggX8_ask_X8_areHorns : GoodIn wsX8_ask wsX8_areHorns := goodIn_r _ [18, 12, 13, 14, 10, 15] (by decide +kernel) (by decide +kernel)
set_option maxRecDepth 20000 in
theorem gX8_ask_X8_areHorns : GoodIn wsX8_ask (va_wsS RX8 228 yX8_areHorns wsX8_areHorns) := goodIn_app (goodIn_of _ (by decide +kernel)) ggX8_ask_X8_areHorns
set_option maxRecDepth 20000 in
theorem ggX8_ask_X8_isHour : GoodIn wsX8_ask wsX8_isHour := goodIn_r _ [21, 22, 13, 14, 10, 15] (by decide +kernel) (by decide +kernel)
set_option maxRecDepth 20000 in
theorem gX8_ask_X8_isHour : GoodIn wsX8_ask (va_wsS RX8 231 yX8_isHour wsX8_isHour) := goodIn_app (goodIn_of _ (by decide +kernel)) ggX8_ask_X8_isHour
set_option maxRecDepth 20000 in
theorem ggX8_ask_X8_in : GoodIn wsX8_ask wsX8_in := goodIn_r _ [15] (by decide +kernel) (by decide +kernel)
set_option maxRecDepth 20000 in
theorem gX8_ask_X8_in : GoodIn wsX8_ask (va_wsS RX8 52 yX8_in wsX8_in) := goodIn_app (goodIn_of _ (by decide +kernel)) ggX8_ask_X8_in
set_option maxRecDepth 20000 in
theorem ggX8_ask_X8_fruit : GoodIn wsX8_ask wsX8_fruit := goodIn_r _ [26, 7, 68, 69, 70, 71, 72, 73, 74, 75, 76, 77, 78, 79, 80, 81, 82, 83, 84, 85, 86, 87, 88, 89, 90, 91, 92, 93, 94] (by decide +kernel) (by decide +kernel)
set_option maxRecDepth 20000 in
theorem gX8_ask_X8_fruit : GoodIn wsX8_ask (wsV RX8 200 RX8 yX8_fruit wsX8_fruit) := goodIn_app (goodIn_of _ (by decide +kernel)) ggX8_ask_X8_fruit
set_option maxRecDepth 20000 in
theorem ggX8_ask_X8_loose : GoodIn wsX8_ask wsX8_loose := goodIn_r _ [30, 7, 68, 69, 70, 71, 72, 73, 74, 75, 76, 77, 78, 79, 80, 81, 82, 83, 84, 85, 86, 87, 88, 89, 90, 91, 92, 93, 94] (by decide +kernel) (by decide +kernel)
set_option maxRecDepth 20000 in
theorem gX8_ask_X8_loose : GoodIn wsX8_ask (wsV RX8 236 RX8 yX8_loose wsX8_loose) := goodIn_app (goodIn_of _ (by decide +kernel)) ggX8_ask_X8_loose
set_option maxRecDepth 20000 in
theorem ggX8_ask_X8_draws : GoodIn wsX8_ask wsX8_draws := goodIn_r _ [34, 6, 35, 36, 37, 68, 69, 70, 71, 72, 73, 74, 75, 76, 77, 78, 79, 80, 81, 82, 83, 84, 85, 86, 87, 88, 89, 90, 91, 92, 93, 94] (by decide +kernel) (by decide +kernel)
set_option maxRecDepth 20000 in
theorem gX8_ask_X8_draws : GoodIn wsX8_ask (wsV RX8 239 RX8 yX8_draws wsX8_draws) := goodIn_app (goodIn_of _ (by decide +kernel)) ggX8_ask_X8_draws
set_option maxRecDepth 20000 in
theorem ggX8_ask_X8_doesMind : GoodIn wsX8_ask wsX8_doesMind := goodIn_r _ [41, 42, 43, 44, 45, 10, 46, 7, 47, 48, 49, 50, 51, 52, 53, 54, 55, 56, 57, 58, 59, 60, 61, 23, 24, 25, 26, 68, 69, 70, 71, 72, 73, 74, 75, 76, 77, 78, 79, 80, 81, 82, 83, 84, 85, 86, 87, 88, 89, 90, 91, 92, 93, 94] (by decide +kernel) (by decide +kernel)
set_option maxRecDepth 20000 in
theorem gX8_ask_X8_doesMind : GoodIn wsX8_ask (wsV RX8 242 RX8 yX8_doesMind wsX8_doesMind) := goodIn_app (goodIn_of _ (by decide +kernel)) ggX8_ask_X8_doesMind
set_option maxRecDepth 20000 in
theorem ggX8_ask_X8_itsTree : GoodIn wsX8_ask wsX8_itsTree := goodIn_r _ [57, 42, 7, 58, 59, 60, 10, 61, 47, 48, 49, 50, 51, 52, 53, 23, 24, 25, 26, 68, 69, 70, 71, 72, 73, 74, 75, 76, 77, 78, 79, 80, 81, 82, 83, 84, 85, 86, 87, 88, 89, 90, 91, 92, 93, 94] (by decide +kernel) (by decide +kernel)
set_option maxRecDepth 20000 in
theorem gX8_ask_X8_itsTree : GoodIn wsX8_ask (wsV RX8 206 RX8 yX8_itsTree wsX8_itsTree) := goodIn_app (goodIn_of _ (by decide +kernel)) ggX8_ask_X8_itsTree
set_option maxRecDepth 20000 in
theorem ggX8_ask_X8_ofGrave : GoodIn wsX8_ask wsX8_ofGrave := goodIn_r _ [50, 7, 68, 69, 70, 71, 72, 73, 74, 75, 76, 77, 78, 79, 80, 81, 82, 83, 84, 85, 86, 87, 88, 89, 90, 91, 92, 93, 94] (by decide +kernel) (by decide +kernel)
set_option maxRecDepth 20000 in
theorem gX8_ask_X8_ofGrave : GoodIn wsX8_ask (wsV RX8 191 RX8 yX8_ofGrave wsX8_ofGrave) := goodIn_app (goodIn_of _ (by decide +kernel)) ggX8_ask_X8_ofGrave
set_option maxRecDepth 20000 in
theorem ggX8_ask_X8_keep : GoodIn wsX8_ask wsX8_keep := goodIn_r _ [65, 66, 67, 7, 68, 69, 70, 71, 72, 73, 74, 75, 76, 77, 78, 79, 80, 81, 82, 83, 84, 85, 86, 87, 88, 89, 90, 91, 92, 93, 94] (by decide +kernel) (by decide +kernel)
set_option maxRecDepth 20000 in
theorem gX8_ask_X8_keep : GoodIn wsX8_ask (wsV RX8 246 RX8 yX8_keep wsX8_keep) := goodIn_app (goodIn_of _ (by decide +kernel)) ggX8_ask_X8_keep
theorem dX8_ask_0 : decode cX8_ask 0 = .ok (.aload_n 0, 1) := by decide +kernel
theorem dX8_ask_1 : decode cX8_ask 1 = .ok (.iconst 0, 1) := by decide +kernel
theorem dX8_ask_2 : decode cX8_ask 2 = .ok (.putfield 41, 3) := by decide +kernel
theorem dX8_ask_5 : decode cX8_ask 5 = .ok (.aload_n 0, 1) := by decide +kernel
theorem dX8_ask_6 : decode cX8_ask 6 = .ok (.getfield 184, 3) := by decide +kernel
theorem dX8_ask_9 : decode cX8_ask 9 = .ok (.ifCond .ne 7, 3) := by decide +kernel
theorem dX8_ask_12 : decode cX8_ask 12 = .ok (.ldc2_w 223, 3) := by decide +kernel
theorem dX8_ask_15 : decode cX8_ask 15 = .ok (.lreturn, 1) := by decide +kernel
theorem dX8_ask_16 : decode cX8_ask 16 = .ok (.iload_n 1, 1) := by decide +kernel
theorem dX8_ask_17 : decode cX8_ask 17 = .ok (.invokestatic 225, 3) := by decide +kernel
theorem dX8_ask_20 : decode cX8_ask 20 = .ok (.ifCond .eq 30, 3) := by decide +kernel
theorem dX8_ask_23 : decode cX8_ask 23 = .ok (.iload_n 2, 1) := by decide +kernel
theorem dX8_ask_24 : decode cX8_ask 24 = .ok (.invokestatic 228, 3) := by decide +kernel
theorem dX8_ask_27 : decode cX8_ask 27 = .ok (.ifCond .eq 23, 3) := by decide +kernel
theorem dX8_ask_30 : decode cX8_ask 30 = .ok (.iload_n 3, 1) := by decide +kernel
theorem dX8_ask_31 : decode cX8_ask 31 = .ok (.invokestatic 231, 3) := by decide +kernel
theorem dX8_ask_34 : decode cX8_ask 34 = .ok (.ifCond .eq 16, 3) := by decide +kernel
theorem dX8_ask_37 : decode cX8_ask 37 = .ok (.iload 4, 2) := by decide +kernel
theorem dX8_ask_39 : decode cX8_ask 39 = .ok (.i2l, 1) := by decide +kernel
theorem dX8_ask_40 : decode cX8_ask 40 = .ok (.lconst 1, 1) := by decide +kernel
theorem dX8_ask_41 : decode cX8_ask 41 = .ok (.ldc2_w 234, 3) := by decide +kernel
theorem dX8_ask_44 : decode cX8_ask 44 = .ok (.invokestatic 52, 3) := by decide +kernel
theorem dX8_ask_47 : decode cX8_ask 47 = .ok (.ifCond .ne 7, 3) := by decide +kernel
theorem dX8_ask_50 : decode cX8_ask 50 = .ok (.ldc2_w 62, 3) := by decide +kernel
theorem dX8_ask_53 : decode cX8_ask 53 = .ok (.lreturn, 1) := by decide +kernel
theorem dX8_ask_54 : decode cX8_ask 54 = .ok (.aload_n 0, 1) := by decide +kernel
theorem dX8_ask_55 : decode cX8_ask 55 = .ok (.iload 4, 2) := by decide +kernel
theorem dX8_ask_57 : decode cX8_ask 57 = .ok (.i2l, 1) := by decide +kernel
theorem dX8_ask_58 : decode cX8_ask 58 = .ok (.putfield 209, 3) := by decide +kernel
theorem dX8_ask_61 : decode cX8_ask 61 = .ok (.iconst 0, 1) := by decide +kernel
theorem dX8_ask_62 : decode cX8_ask 62 = .ok (.istore 5, 2) := by decide +kernel
theorem dX8_ask_64 : decode cX8_ask 64 = .ok (.iconst 0, 1) := by decide +kernel
theorem dX8_ask_65 : decode cX8_ask 65 = .ok (.istore 6, 2) := by decide +kernel
theorem dX8_ask_67 : decode cX8_ask 67 = .ok (.iload 6, 2) := by decide +kernel
theorem dX8_ask_69 : decode cX8_ask 69 = .ok (.aload_n 0, 1) := by decide +kernel
theorem dX8_ask_70 : decode cX8_ask 70 = .ok (.getfield 19, 3) := by decide +kernel
theorem dX8_ask_73 : decode cX8_ask 73 = .ok (.iconst 2, 1) := by decide +kernel
theorem dX8_ask_74 : decode cX8_ask 74 = .ok (.iaload, 1) := by decide +kernel
theorem dX8_ask_75 : decode cX8_ask 75 = .ok (.if_icmp .ge 127, 3) := by decide +kernel
theorem dX8_ask_78 : decode cX8_ask 78 = .ok (.aload_n 0, 1) := by decide +kernel
theorem dX8_ask_79 : decode cX8_ask 79 = .ok (.iload 6, 2) := by decide +kernel
theorem dX8_ask_81 : decode cX8_ask 81 = .ok (.invokevirtual 200, 3) := by decide +kernel
theorem dX8_ask_84 : decode cX8_ask 84 = .ok (.ifCond .le 112, 3) := by decide +kernel
theorem dX8_ask_87 : decode cX8_ask 87 = .ok (.aload_n 0, 1) := by decide +kernel
theorem dX8_ask_88 : decode cX8_ask 88 = .ok (.aload_n 0, 1) := by decide +kernel
theorem dX8_ask_89 : decode cX8_ask 89 = .ok (.iload 6, 2) := by decide +kernel
theorem dX8_ask_91 : decode cX8_ask 91 = .ok (.invokevirtual 236, 3) := by decide +kernel
theorem dX8_ask_94 : decode cX8_ask 94 = .ok (.aload_n 0, 1) := by decide +kernel
theorem dX8_ask_95 : decode cX8_ask 95 = .ok (.getfield 19, 3) := by decide +kernel
theorem dX8_ask_98 : decode cX8_ask 98 = .ok (.iconst 3, 1) := by decide +kernel
theorem dX8_ask_99 : decode cX8_ask 99 = .ok (.iload_n 3, 1) := by decide +kernel
theorem dX8_ask_100 : decode cX8_ask 100 = .ok (.iadd, 1) := by decide +kernel
theorem dX8_ask_101 : decode cX8_ask 101 = .ok (.iaload, 1) := by decide +kernel
theorem dX8_ask_102 : decode cX8_ask 102 = .ok (.imul, 1) := by decide +kernel
theorem dX8_ask_103 : decode cX8_ask 103 = .ok (.invokevirtual 239, 3) := by decide +kernel
theorem dX8_ask_106 : decode cX8_ask 106 = .ok (.istore 7, 2) := by decide +kernel
theorem dX8_ask_108 : decode cX8_ask 108 = .ok (.iconst 0, 1) := by decide +kernel
theorem dX8_ask_109 : decode cX8_ask 109 = .ok (.istore 8, 2) := by decide +kernel
theorem dX8_ask_111 : decode cX8_ask 111 = .ok (.iload 8, 2) := by decide +kernel
theorem dX8_ask_113 : decode cX8_ask 113 = .ok (.aload_n 0, 1) := by decide +kernel
theorem dX8_ask_114 : decode cX8_ask 114 = .ok (.getfield 19, 3) := by decide +kernel
theorem dX8_ask_117 : decode cX8_ask 117 = .ok (.iconst 0, 1) := by decide +kernel
theorem dX8_ask_118 : decode cX8_ask 118 = .ok (.iaload, 1) := by decide +kernel
theorem dX8_ask_119 : decode cX8_ask 119 = .ok (.if_icmp .ge 59, 3) := by decide +kernel
theorem dX8_ask_122 : decode cX8_ask 122 = .ok (.aload_n 0, 1) := by decide +kernel
theorem dX8_ask_123 : decode cX8_ask 123 = .ok (.iload 8, 2) := by decide +kernel
theorem dX8_ask_125 : decode cX8_ask 125 = .ok (.iload_n 1, 1) := by decide +kernel
theorem dX8_ask_126 : decode cX8_ask 126 = .ok (.iload_n 2, 1) := by decide +kernel
theorem dX8_ask_127 : decode cX8_ask 127 = .ok (.iconst 0, 1) := by decide +kernel
theorem dX8_ask_128 : decode cX8_ask 128 = .ok (.invokevirtual 242, 3) := by decide +kernel
theorem dX8_ask_131 : decode cX8_ask 131 = .ok (.ifCond .eq 41, 3) := by decide +kernel
theorem dX8_ask_134 : decode cX8_ask 134 = .ok (.aload_n 0, 1) := by decide +kernel
theorem dX8_ask_135 : decode cX8_ask 135 = .ok (.iload 8, 2) := by decide +kernel
theorem dX8_ask_137 : decode cX8_ask 137 = .ok (.iconst 0, 1) := by decide +kernel
theorem dX8_ask_138 : decode cX8_ask 138 = .ok (.invokevirtual 206, 3) := by decide +kernel
theorem dX8_ask_141 : decode cX8_ask 141 = .ok (.iload 6, 2) := by decide +kernel
theorem dX8_ask_143 : decode cX8_ask 143 = .ok (.if_icmp .ne 29, 3) := by decide +kernel
theorem dX8_ask_146 : decode cX8_ask 146 = .ok (.aload_n 0, 1) := by decide +kernel
theorem dX8_ask_147 : decode cX8_ask 147 = .ok (.aload_n 0, 1) := by decide +kernel
theorem dX8_ask_148 : decode cX8_ask 148 = .ok (.iload 8, 2) := by decide +kernel
theorem dX8_ask_150 : decode cX8_ask 150 = .ok (.iconst 2, 1) := by decide +kernel
theorem dX8_ask_151 : decode cX8_ask 151 = .ok (.invokevirtual 191, 3) := by decide +kernel
theorem dX8_ask_154 : decode cX8_ask 154 = .ok (.invokevirtual 239, 3) := by decide +kernel
theorem dX8_ask_157 : decode cX8_ask 157 = .ok (.ifCond .ne 8, 3) := by decide +kernel
theorem dX8_ask_160 : decode cX8_ask 160 = .ok (.iload 7, 2) := by decide +kernel
theorem dX8_ask_162 : decode cX8_ask 162 = .ok (.ifCond .eq 7, 3) := by decide +kernel
theorem dX8_ask_165 : decode cX8_ask 165 = .ok (.iconst 1, 1) := by decide +kernel
theorem dX8_ask_166 : decode cX8_ask 166 = .ok (.goto 4, 3) := by decide +kernel
theorem dX8_ask_169 : decode cX8_ask 169 = .ok (.iconst 0, 1) := by decide +kernel
theorem dX8_ask_170 : decode cX8_ask 170 = .ok (.istore 7, 2) := by decide +kernel
theorem dX8_ask_172 : decode cX8_ask 172 = .ok (.iinc 8 1, 3) := by decide +kernel
theorem dX8_ask_175 : decode cX8_ask 175 = .ok (.goto (-64), 3) := by decide +kernel
theorem dX8_ask_178 : decode cX8_ask 178 = .ok (.iload 5, 2) := by decide +kernel
theorem dX8_ask_180 : decode cX8_ask 180 = .ok (.iload 7, 2) := by decide +kernel
theorem dX8_ask_182 : decode cX8_ask 182 = .ok (.ifCond .eq 10, 3) := by decide +kernel
theorem dX8_ask_185 : decode cX8_ask 185 = .ok (.iconst 1, 1) := by decide +kernel
theorem dX8_ask_186 : decode cX8_ask 186 = .ok (.iload 6, 2) := by decide +kernel
theorem dX8_ask_188 : decode cX8_ask 188 = .ok (.ishl, 1) := by decide +kernel
theorem dX8_ask_189 : decode cX8_ask 189 = .ok (.goto 4, 3) := by decide +kernel
theorem dX8_ask_192 : decode cX8_ask 192 = .ok (.iconst 0, 1) := by decide +kernel
theorem dX8_ask_193 : decode cX8_ask 193 = .ok (.ior, 1) := by decide +kernel
theorem dX8_ask_194 : decode cX8_ask 194 = .ok (.istore 5, 2) := by decide +kernel
theorem dX8_ask_196 : decode cX8_ask 196 = .ok (.iinc 6 1, 3) := by decide +kernel
theorem dX8_ask_199 : decode cX8_ask 199 = .ok (.goto (-132), 3) := by decide +kernel
theorem dX8_ask_202 : decode cX8_ask 202 = .ok (.aload_n 0, 1) := by decide +kernel
theorem dX8_ask_203 : decode cX8_ask 203 = .ok (.invokevirtual 246, 3) := by decide +kernel
theorem dX8_ask_206 : decode cX8_ask 206 = .ok (.iconst 0, 1) := by decide +kernel
theorem dX8_ask_207 : decode cX8_ask 207 = .ok (.istore 6, 2) := by decide +kernel
theorem dX8_ask_209 : decode cX8_ask 209 = .ok (.iload 6, 2) := by decide +kernel
theorem dX8_ask_211 : decode cX8_ask 211 = .ok (.aload_n 0, 1) := by decide +kernel
theorem dX8_ask_212 : decode cX8_ask 212 = .ok (.getfield 19, 3) := by decide +kernel
theorem dX8_ask_215 : decode cX8_ask 215 = .ok (.iconst 2, 1) := by decide +kernel
theorem dX8_ask_216 : decode cX8_ask 216 = .ok (.iaload, 1) := by decide +kernel
theorem dX8_ask_217 : decode cX8_ask 217 = .ok (.if_icmp .ge 33, 3) := by decide +kernel
theorem dX8_ask_220 : decode cX8_ask 220 = .ok (.aload_n 0, 1) := by decide +kernel
theorem dX8_ask_221 : decode cX8_ask 221 = .ok (.getfield 19, 3) := by decide +kernel
theorem dX8_ask_224 : decode cX8_ask 224 = .ok (.bipush 47, 2) := by decide +kernel
theorem dX8_ask_226 : decode cX8_ask 226 = .ok (.iconst 3, 1) := by decide +kernel
theorem dX8_ask_227 : decode cX8_ask 227 = .ok (.iload 6, 2) := by decide +kernel
theorem dX8_ask_229 : decode cX8_ask 229 = .ok (.imul, 1) := by decide +kernel
theorem dX8_ask_230 : decode cX8_ask 230 = .ok (.iadd, 1) := by decide +kernel
theorem dX8_ask_231 : decode cX8_ask 231 = .ok (.iconst 2, 1) := by decide +kernel
theorem dX8_ask_232 : decode cX8_ask 232 = .ok (.iadd, 1) := by decide +kernel
theorem dX8_ask_233 : decode cX8_ask 233 = .ok (.dup2, 1) := by decide +kernel
theorem dX8_ask_234 : decode cX8_ask 234 = .ok (.iaload, 1) := by decide +kernel
theorem dX8_ask_235 : decode cX8_ask 235 = .ok (.iload 5, 2) := by decide +kernel
theorem dX8_ask_237 : decode cX8_ask 237 = .ok (.iload 6, 2) := by decide +kernel
theorem dX8_ask_239 : decode cX8_ask 239 = .ok (.ishr, 1) := by decide +kernel
theorem dX8_ask_240 : decode cX8_ask 240 = .ok (.iconst 1, 1) := by decide +kernel
theorem dX8_ask_241 : decode cX8_ask 241 = .ok (.iand, 1) := by decide +kernel
theorem dX8_ask_242 : decode cX8_ask 242 = .ok (.isub, 1) := by decide +kernel
theorem dX8_ask_243 : decode cX8_ask 243 = .ok (.iastore, 1) := by decide +kernel
theorem dX8_ask_244 : decode cX8_ask 244 = .ok (.iinc 6 1, 3) := by decide +kernel
theorem dX8_ask_247 : decode cX8_ask 247 = .ok (.goto (-38), 3) := by decide +kernel
theorem dX8_ask_250 : decode cX8_ask 250 = .ok (.iload 5, 2) := by decide +kernel
theorem dX8_ask_252 : decode cX8_ask 252 = .ok (.i2l, 1) := by decide +kernel
theorem dX8_ask_253 : decode cX8_ask 253 = .ok (.lreturn, 1) := by decide +kernel
set_option maxRecDepth 20000 in
theorem ggX8_pick_X8_isTree : GoodIn wsX8_pick wsX8_isTree := goodIn_r _ [10, 5, 11, 12, 9, 13, 24, 25, 26, 27, 28, 29, 30, 31, 32, 33, 34, 35, 36, 37, 38, 39, 40, 41, 42, 43, 44, 45, 46, 47, 48, 49, 50] (by decide +kernel) (by decide +kernel)
set_option maxRecDepth 20000 in
theorem gX8_pick_X8_isTree : GoodIn wsX8_pick (wsV RX8 249 RX8 yX8_isTree wsX8_isTree) := goodIn_app (goodIn_of _ (by decide +kernel)) ggX8_pick_X8_isTree
set_option maxRecDepth 20000 in
theorem ggX8_pick_X8_in : GoodIn wsX8_pick wsX8_in := goodIn_r _ [13] (by decide +kernel) (by decide +kernel)
set_option maxRecDepth 20000 in
theorem gX8_pick_X8_in : GoodIn wsX8_pick (va_wsS RX8 52 yX8_in wsX8_in) := goodIn_app (goodIn_of _ (by decide +kernel)) ggX8_pick_X8_in
set_option maxRecDepth 20000 in
theorem ggX8_pick_X8_fruit : GoodIn wsX8_pick wsX8_fruit := goodIn_r _ [17, 5, 24, 25, 26, 27, 28, 29, 30, 31, 32, 33, 34, 35, 36, 37, 38, 39, 40, 41, 42, 43, 44, 45, 46, 47, 48, 49, 50] (by decide +kernel) (by decide +kernel)
set_option maxRecDepth 20000 in
theorem gX8_pick_X8_fruit : GoodIn wsX8_pick (wsV RX8 200 RX8 yX8_fruit wsX8_fruit) := goodIn_app (goodIn_of _ (by decide +kernel)) ggX8_pick_X8_fruit
set_option maxRecDepth 20000 in
theorem ggX8_pick_X8_keep : GoodIn wsX8_pick wsX8_keep := goodIn_r _ [21, 22, 23, 5, 24, 25, 26, 27, 28, 29, 30, 31, 32, 33, 34, 35, 36, 37, 38, 39, 40, 41, 42, 43, 44, 45, 46, 47, 48, 49, 50] (by decide +kernel) (by decide +kernel)
set_option maxRecDepth 20000 in
theorem gX8_pick_X8_keep : GoodIn wsX8_pick (wsV RX8 246 RX8 yX8_keep wsX8_keep) := goodIn_app (goodIn_of _ (by decide +kernel)) ggX8_pick_X8_keep
theorem dX8_pick_0 : decode cX8_pick 0 = .ok (.aload_n 0, 1) := by decide +kernel
theorem dX8_pick_1 : decode cX8_pick 1 = .ok (.iconst 0, 1) := by decide +kernel
theorem dX8_pick_2 : decode cX8_pick 2 = .ok (.putfield 41, 3) := by decide +kernel
theorem dX8_pick_5 : decode cX8_pick 5 = .ok (.aload_n 0, 1) := by decide +kernel
