theorem dX4_init_0 : decode cX4_init 0 = .ok (.aload_n 0, 1) := by decide +kernel
theorem dX4_init_1 : decode cX4_init 1 = .ok (.invokespecial 3, 3) := by decide +kernel
theorem dX4_init_4 : decode cX4_init 4 = .ok (.aload_n 0, 1) := by decide +kernel
theorem dX4_init_5 : decode cX4_init 5 = .ok (.aload_n 1, 1) := by decide +kernel
theorem dX4_init_6 : decode cX4_init 6 = .ok (.putfield 9, 3) := by decide +kernel
theorem dX4_init_9 : decode cX4_init 9 = .ok (.return_, 1) := by decide +kernel
theorem dX4_faultNumber_0 : decode cX4_faultNumber 0 = .ok (.aload_n 0, 1) := by decide +kernel
theorem dX4_faultNumber_1 : decode cX4_faultNumber 1 = .ok (.getfield 15, 3) := by decide +kernel
theorem dX4_faultNumber_4 : decode cX4_faultNumber 4 = .ok (.ireturn, 1) := by decide +kernel
theorem dX4_faultPlace_0 : decode cX4_faultPlace 0 = .ok (.aload_n 0, 1) := by decide +kernel
theorem dX4_faultPlace_1 : decode cX4_faultPlace 1 = .ok (.getfield 19, 3) := by decide +kernel
theorem dX4_faultPlace_4 : decode cX4_faultPlace 4 = .ok (.ireturn, 1) := by decide +kernel
set_option maxRecDepth 20000 in
theorem ggX4_readInto_X3_clear : GoodIn wsX4_readInto wsX3_clear := goodIn_r _ [6, 7, 8, 9, 10, 179, 180, 181, 182, 183, 184, 185, 186, 187, 188, 189, 190, 191, 192] (by decide +kernel) (by decide +kernel)
set_option maxRecDepth 20000 in
theorem gX4_readInto_X3_clear : GoodIn wsX4_readInto (wsV RX4 22 RX3 yX3_clear wsX3_clear) := goodIn_app (goodIn_of _ (by decide +kernel)) ggX4_readInto_X3_clear
set_option maxRecDepth 20000 in
theorem ggX4_readInto_X6_readFirst : GoodIn wsX4_readInto wsX6_readFirst := goodIn_r _ [15, 16, 17, 18, 19, 14, 20, 21, 22, 23, 24, 25, 26, 27, 28, 29, 30, 31, 32, 33, 34, 35, 36, 37, 38, 39, 40, 41, 193, 194, 195, 196, 197] (by decide +kernel) (by decide +kernel)
set_option maxRecDepth 20000 in
theorem gX4_readInto_X6_readFirst : GoodIn wsX4_readInto (wsV RX4 27 RX6 yX6_readFirst wsX6_readFirst) := goodIn_app (goodIn_of _ (by decide +kernel)) ggX4_readInto_X6_readFirst
set_option maxRecDepth 20000 in
theorem ggX4_readInto_X4_readWinds : GoodIn wsX4_readInto wsX4_readWinds := goodIn_r _ [46, 1, 47, 48, 49, 50, 51, 14, 52, 24, 16, 21, 22, 23, 53, 54, 55, 56, 57, 58, 59, 60, 61, 62, 63, 64, 65, 66, 67, 68, 69, 70, 71, 72, 73, 74, 75, 76, 77, 78, 79, 80, 81, 82, 83, 84, 85, 86, 87, 88, 89, 90, 91, 92, 93, 94, 95, 96, 97, 98, 99, 100, 101, 102, 103, 104, 45, 105, 106, 107, 108, 109, 110, 111, 112, 18, 19, 20, 25, 26, 27, 28, 29, 30, 31, 32, 33, 34, 35, 36, 37, 38, 39, 40, 41, 113, 114, 115, 116, 117, 118, 119, 120, 121, 122, 123, 124, 125, 126, 127, 128, 175, 176, 177, 178, 179, 180, 181, 182, 183, 184, 185, 186, 187, 188, 189, 190, 191, 192, 193, 194, 195, 196, 197] (by decide +kernel) (by decide +kernel)
set_option maxRecDepth 20000 in
theorem gX4_readInto_X4_readWinds : GoodIn wsX4_readInto (wsV RX4 32 RX4 yX4_readWinds wsX4_readWinds) := goodIn_app (goodIn_of _ (by decide +kernel)) ggX4_readInto_X4_readWinds
set_option maxRecDepth 20000 in
theorem ggX4_readInto_X4_readGraves : GoodIn wsX4_readInto wsX4_readGraves := goodIn_r _ [132, 1, 133, 49, 50, 51, 14, 52, 24, 16, 21, 22, 23, 53, 54, 55, 56, 57, 58, 59, 60, 61, 62, 63, 64, 65, 66, 67, 68, 69, 70, 71, 72, 73, 74, 75, 76, 77, 78, 79, 80, 81, 82, 83, 84, 85, 86, 87, 88, 89, 90, 91, 92, 93, 94, 95, 96, 97, 98, 99, 100, 101, 112, 18, 19, 20, 25, 26, 27, 28, 29, 30, 31, 32, 33, 34, 35, 36, 37, 38, 39, 40, 41, 134, 135, 136, 45, 137, 138, 48, 139, 140, 141, 113, 114, 115, 116, 117, 118, 119, 120, 102, 103, 104, 105, 106, 107, 108, 109, 110, 111, 121, 122, 123, 124, 125, 126, 127, 128, 175, 176, 177, 178, 179, 180, 181, 182, 183, 184, 185, 186, 187, 188, 189, 190, 191, 192, 193, 194, 195, 196, 197] (by decide +kernel) (by decide +kernel)
set_option maxRecDepth 20000 in
theorem gX4_readInto_X4_readGraves : GoodIn wsX4_readInto (wsV RX4 36 RX4 yX4_readGraves wsX4_readGraves) := goodIn_app (goodIn_of _ (by decide +kernel)) ggX4_readInto_X4_readGraves
set_option maxRecDepth 20000 in
theorem ggX4_readInto_X4_readHorns : GoodIn wsX4_readInto wsX4_readHorns := goodIn_r _ [145, 1, 146, 49, 50, 51, 14, 52, 24, 16, 21, 22, 23, 53, 54, 55, 56, 57, 58, 59, 60, 61, 62, 63, 64, 65, 66, 67, 68, 69, 70, 71, 72, 73, 74, 75, 76, 77, 78, 79, 80, 81, 82, 83, 84, 85, 86, 87, 88, 89, 90, 91, 92, 93, 94, 95, 96, 97, 98, 99, 100, 101, 112, 18, 19, 20, 25, 26, 27, 28, 29, 30, 31, 32, 33, 34, 35, 36, 37, 38, 39, 40, 41, 147, 148, 149, 45, 150, 151, 48, 152, 113, 114, 115, 116, 117, 118, 119, 120, 102, 103, 104, 105, 106, 107, 108, 109, 110, 111, 121, 122, 123, 124, 125, 126, 127, 128, 175, 176, 177, 178, 179, 180, 181, 182, 183, 184, 185, 186, 187, 188, 189, 190, 191, 192, 193, 194, 195, 196, 197] (by decide +kernel) (by decide +kernel)
set_option maxRecDepth 20000 in
theorem gX4_readInto_X4_readHorns : GoodIn wsX4_readInto (wsV RX4 39 RX4 yX4_readHorns wsX4_readHorns) := goodIn_app (goodIn_of _ (by decide +kernel)) ggX4_readInto_X4_readHorns
set_option maxRecDepth 20000 in
theorem ggX4_readInto_X4_readTrees : GoodIn wsX4_readInto wsX4_readTrees := goodIn_r _ [156, 1, 157, 49, 50, 51, 14, 52, 24, 16, 21, 22, 23, 53, 54, 55, 56, 57, 58, 59, 60, 61, 62, 63, 64, 65, 66, 67, 68, 69, 70, 71, 72, 73, 74, 75, 76, 77, 78, 79, 80, 81, 82, 83, 84, 85, 86, 87, 88, 89, 90, 91, 92, 93, 94, 95, 96, 97, 98, 99, 100, 101, 112, 18, 19, 20, 25, 26, 27, 28, 29, 30, 31, 32, 33, 34, 35, 36, 37, 38, 39, 40, 41, 158, 159, 160, 45, 161, 162, 163, 164, 48, 165, 166, 167, 168, 169, 102, 103, 104, 105, 106, 107, 108, 109, 110, 111, 117, 118, 119, 120, 121, 122, 123, 124, 170, 171, 172, 5, 173, 9, 174, 113, 114, 115, 116, 125, 126, 127, 128, 175, 176, 177, 178, 179, 180, 181, 182, 183, 184, 185, 186, 187, 188, 189, 190, 191, 192, 193, 194, 195, 196, 197] (by decide +kernel) (by decide +kernel)
set_option maxRecDepth 20000 in
theorem gX4_readInto_X4_readTrees : GoodIn wsX4_readInto (wsV RX4 42 RX4 yX4_readTrees wsX4_readTrees) := goodIn_app (goodIn_of _ (by decide +kernel)) ggX4_readInto_X4_readTrees
set_option maxRecDepth 20000 in
theorem ggX4_readInto_X6_isSort : GoodIn wsX4_readInto wsX6_isSort := goodIn_r _ [120, 24, 193, 194, 195, 196, 197] (by decide +kernel) (by decide +kernel)
set_option maxRecDepth 20000 in
theorem gX4_readInto_X6_isSort : GoodIn wsX4_readInto (wsV RX4 45 RX6 yX6_isSort wsX6_isSort) := goodIn_app (goodIn_of _ (by decide +kernel)) ggX4_readInto_X6_isSort
set_option maxRecDepth 20000 in
theorem ggX4_readInto_X4_refuse : GoodIn wsX4_readInto wsX4_refuse := goodIn_r _ [105, 106, 1, 107, 108, 109, 110, 14, 111, 21, 175, 176, 177, 178, 193, 194, 195, 196, 197] (by decide +kernel) (by decide +kernel)
set_option maxRecDepth 20000 in
theorem gX4_readInto_X4_refuse : GoodIn wsX4_readInto (wsV RX4 49 RX4 yX4_refuse wsX4_refuse) := goodIn_app (goodIn_of _ (by decide +kernel)) ggX4_readInto_X4_refuse
theorem dX4_readInto_0 : decode cX4_readInto 0 = .ok (.aload_n 1, 1) := by decide +kernel
theorem dX4_readInto_1 : decode cX4_readInto 1 = .ok (.invokevirtual 22, 3) := by decide +kernel
theorem dX4_readInto_4 : decode cX4_readInto 4 = .ok (.aload_n 0, 1) := by decide +kernel
theorem dX4_readInto_5 : decode cX4_readInto 5 = .ok (.getfield 9, 3) := by decide +kernel
theorem dX4_readInto_8 : decode cX4_readInto 8 = .ok (.invokevirtual 27, 3) := by decide +kernel
theorem dX4_readInto_11 : decode cX4_readInto 11 = .ok (.aload_n 0, 1) := by decide +kernel
theorem dX4_readInto_12 : decode cX4_readInto 12 = .ok (.aload_n 1, 1) := by decide +kernel
theorem dX4_readInto_13 : decode cX4_readInto 13 = .ok (.invokevirtual 32, 3) := by decide +kernel
theorem dX4_readInto_16 : decode cX4_readInto 16 = .ok (.ifCond .eq 27, 3) := by decide +kernel
theorem dX4_readInto_19 : decode cX4_readInto 19 = .ok (.aload_n 0, 1) := by decide +kernel
theorem dX4_readInto_20 : decode cX4_readInto 20 = .ok (.aload_n 1, 1) := by decide +kernel
theorem dX4_readInto_21 : decode cX4_readInto 21 = .ok (.invokevirtual 36, 3) := by decide +kernel
theorem dX4_readInto_24 : decode cX4_readInto 24 = .ok (.ifCond .eq 19, 3) := by decide +kernel
theorem dX4_readInto_27 : decode cX4_readInto 27 = .ok (.aload_n 0, 1) := by decide +kernel
theorem dX4_readInto_28 : decode cX4_readInto 28 = .ok (.aload_n 1, 1) := by decide +kernel
theorem dX4_readInto_29 : decode cX4_readInto 29 = .ok (.invokevirtual 39, 3) := by decide +kernel
theorem dX4_readInto_32 : decode cX4_readInto 32 = .ok (.ifCond .eq 11, 3) := by decide +kernel
theorem dX4_readInto_35 : decode cX4_readInto 35 = .ok (.aload_n 0, 1) := by decide +kernel
theorem dX4_readInto_36 : decode cX4_readInto 36 = .ok (.aload_n 1, 1) := by decide +kernel
theorem dX4_readInto_37 : decode cX4_readInto 37 = .ok (.invokevirtual 42, 3) := by decide +kernel
theorem dX4_readInto_40 : decode cX4_readInto 40 = .ok (.ifCond .ne 5, 3) := by decide +kernel
theorem dX4_readInto_43 : decode cX4_readInto 43 = .ok (.iconst 0, 1) := by decide +kernel
theorem dX4_readInto_44 : decode cX4_readInto 44 = .ok (.ireturn, 1) := by decide +kernel
theorem dX4_readInto_45 : decode cX4_readInto 45 = .ok (.aload_n 0, 1) := by decide +kernel
theorem dX4_readInto_46 : decode cX4_readInto 46 = .ok (.getfield 9, 3) := by decide +kernel
theorem dX4_readInto_49 : decode cX4_readInto 49 = .ok (.iconst 0, 1) := by decide +kernel
theorem dX4_readInto_50 : decode cX4_readInto 50 = .ok (.invokevirtual 45, 3) := by decide +kernel
theorem dX4_readInto_53 : decode cX4_readInto 53 = .ok (.ifCond .ne 11, 3) := by decide +kernel
theorem dX4_readInto_56 : decode cX4_readInto 56 = .ok (.aload_n 0, 1) := by decide +kernel
theorem dX4_readInto_57 : decode cX4_readInto 57 = .ok (.iconst 1, 1) := by decide +kernel
theorem dX4_readInto_58 : decode cX4_readInto 58 = .ok (.invokevirtual 49, 3) := by decide +kernel
theorem dX4_readInto_61 : decode cX4_readInto 61 = .ok (.ifCond .eq 7, 3) := by decide +kernel
theorem dX4_readInto_64 : decode cX4_readInto 64 = .ok (.iconst 1, 1) := by decide +kernel
theorem dX4_readInto_65 : decode cX4_readInto 65 = .ok (.goto 4, 3) := by decide +kernel
theorem dX4_readInto_68 : decode cX4_readInto 68 = .ok (.iconst 0, 1) := by decide +kernel
theorem dX4_readInto_69 : decode cX4_readInto 69 = .ok (.ireturn, 1) := by decide +kernel
set_option maxRecDepth 20000 in
theorem ggX4_readWinds_X6_isWord : GoodIn wsX4_readWinds wsX6_isWord := goodIn_r _ [8, 9, 10, 11, 12, 13, 14, 15, 16, 17, 18, 19, 20, 21, 22, 23, 24, 25, 26, 27, 28, 29, 30, 31, 32, 33, 34, 35, 36, 37, 38, 39, 40, 41, 42, 43, 44, 45, 46, 47, 48, 49, 50, 51, 52, 53, 54, 55, 56, 57, 58, 59, 60, 61, 62, 129, 130, 131, 132, 133] (by decide +kernel) (by decide +kernel)
set_option maxRecDepth 20000 in
theorem gX4_readWinds_X6_isWord : GoodIn wsX4_readWinds (wsV RX4 54 RX6 yX6_isWord wsX6_isWord) := goodIn_app (goodIn_of _ (by decide +kernel)) ggX4_readWinds_X6_isWord
set_option maxRecDepth 20000 in
theorem ggX4_readWinds_X4_refuse : GoodIn wsX4_readWinds wsX4_refuse := goodIn_r _ [67, 68, 1, 69, 70, 71, 72, 7, 73, 11, 111, 112, 113, 114, 129, 130, 131, 132, 133] (by decide +kernel) (by decide +kernel)
set_option maxRecDepth 20000 in
theorem gX4_readWinds_X4_refuse : GoodIn wsX4_readWinds (wsV RX4 49 RX4 yX4_refuse wsX4_refuse) := goodIn_app (goodIn_of _ (by decide +kernel)) ggX4_readWinds_X4_refuse
set_option maxRecDepth 20000 in
theorem ggX4_readWinds_X6_readNext : GoodIn wsX4_readWinds wsX6_readNext := goodIn_r _ [77, 10, 11, 12, 13, 9, 78, 79, 7, 80, 81, 82, 83, 84, 85, 86, 87, 88, 89, 90, 91, 92, 93, 94, 129, 130, 131, 132, 133] (by decide +kernel) (by decide +kernel)
set_option maxRecDepth 20000 in
theorem gX4_readWinds_X6_readNext : GoodIn wsX4_readWinds (wsV RX4 58 RX6 yX6_readNext wsX6_readNext) := goodIn_app (goodIn_of _ (by decide +kernel)) ggX4_readWinds_X6_readNext
set_option maxRecDepth 20000 in
theorem ggX4_readWinds_X4_takeNumber : GoodIn wsX4_readWinds wsX4_takeNumber := goodIn_r _ [98, 1, 3, 99, 100, 101, 7, 102, 9, 63, 64, 65, 66, 67, 68, 69, 70, 71, 72, 73, 11, 103, 104, 105, 106, 10, 12, 13, 74, 75, 76, 77, 78, 79, 80, 81, 82, 83, 84, 85, 86, 87, 88, 89, 90, 91, 92, 93, 94, 111, 112, 113, 114, 129, 130, 131, 132, 133] (by decide +kernel) (by decide +kernel)
set_option maxRecDepth 20000 in
theorem gX4_readWinds_X4_takeNumber : GoodIn wsX4_readWinds (wsV RX4 61 RX4 yX4_takeNumber wsX4_takeNumber) := goodIn_app (goodIn_of _ (by decide +kernel)) ggX4_readWinds_X4_takeNumber
set_option maxRecDepth 20000 in
theorem ggX4_readWinds_X4_takeSign : GoodIn wsX4_readWinds wsX4_takeSign := goodIn_r _ [110, 1, 99, 100, 101, 7, 102, 9, 63, 64, 65, 66, 67, 68, 69, 70, 71, 72, 73, 11, 74, 75, 76, 77, 10, 12, 13, 78, 79, 80, 81, 82, 83, 84, 85, 86, 87, 88, 89, 90, 91, 92, 93, 94, 111, 112, 113, 114, 129, 130, 131, 132, 133] (by decide +kernel) (by decide +kernel)
set_option maxRecDepth 20000 in
theorem gX4_readWinds_X4_takeSign : GoodIn wsX4_readWinds (wsV RX4 71 RX4 yX4_takeSign wsX4_takeSign) := goodIn_app (goodIn_of _ (by decide +kernel)) ggX4_readWinds_X4_takeSign
theorem dX4_readWinds_0 : decode cX4_readWinds 0 = .ok (.aload_n 0, 1) := by decide +kernel
theorem dX4_readWinds_1 : decode cX4_readWinds 1 = .ok (.getfield 9, 3) := by decide +kernel
theorem dX4_readWinds_4 : decode cX4_readWinds 4 = .ok (.ldc 52, 2) := by decide +kernel
theorem dX4_readWinds_6 : decode cX4_readWinds 6 = .ok (.invokevirtual 54, 3) := by decide +kernel
theorem dX4_readWinds_9 : decode cX4_readWinds 9 = .ok (.ifCond .ne 9, 3) := by decide +kernel
theorem dX4_readWinds_12 : decode cX4_readWinds 12 = .ok (.aload_n 0, 1) := by decide +kernel
theorem dX4_readWinds_13 : decode cX4_readWinds 13 = .ok (.iconst 1, 1) := by decide +kernel
theorem dX4_readWinds_14 : decode cX4_readWinds 14 = .ok (.invokevirtual 49, 3) := by decide +kernel
theorem dX4_readWinds_17 : decode cX4_readWinds 17 = .ok (.ireturn, 1) := by decide +kernel
theorem dX4_readWinds_18 : decode cX4_readWinds 18 = .ok (.aload_n 0, 1) := by decide +kernel
theorem dX4_readWinds_19 : decode cX4_readWinds 19 = .ok (.getfield 9, 3) := by decide +kernel
theorem dX4_readWinds_22 : decode cX4_readWinds 22 = .ok (.invokevirtual 58, 3) := by decide +kernel
theorem dX4_readWinds_25 : decode cX4_readWinds 25 = .ok (.iconst 0, 1) := by decide +kernel
theorem dX4_readWinds_26 : decode cX4_readWinds 26 = .ok (.istore_n 2, 1) := by decide +kernel
theorem dX4_readWinds_27 : decode cX4_readWinds 27 = .ok (.iload_n 2, 1) := by decide +kernel
theorem dX4_readWinds_28 : decode cX4_readWinds 28 = .ok (.bipush 12, 2) := by decide +kernel
theorem dX4_readWinds_30 : decode cX4_readWinds 30 = .ok (.if_icmp .ge 30, 3) := by decide +kernel
theorem dX4_readWinds_33 : decode cX4_readWinds 33 = .ok (.aload_n 0, 1) := by decide +kernel
theorem dX4_readWinds_34 : decode cX4_readWinds 34 = .ok (.iconst 0, 1) := by decide +kernel
theorem dX4_readWinds_35 : decode cX4_readWinds 35 = .ok (.iconst 3, 1) := by decide +kernel
theorem dX4_readWinds_36 : decode cX4_readWinds 36 = .ok (.invokevirtual 61, 3) := by decide +kernel
theorem dX4_readWinds_39 : decode cX4_readWinds 39 = .ok (.ifCond .ne 5, 3) := by decide +kernel
theorem dX4_readWinds_42 : decode cX4_readWinds 42 = .ok (.iconst 0, 1) := by decide +kernel
theorem dX4_readWinds_43 : decode cX4_readWinds 43 = .ok (.ireturn, 1) := by decide +kernel
theorem dX4_readWinds_44 : decode cX4_readWinds 44 = .ok (.aload_n 1, 1) := by decide +kernel
theorem dX4_readWinds_45 : decode cX4_readWinds 45 = .ok (.getfield 65, 3) := by decide +kernel
theorem dX4_readWinds_48 : decode cX4_readWinds 48 = .ok (.iload_n 2, 1) := by decide +kernel
theorem dX4_readWinds_49 : decode cX4_readWinds 49 = .ok (.aload_n 0, 1) := by decide +kernel
theorem dX4_readWinds_50 : decode cX4_readWinds 50 = .ok (.getfield 68, 3) := by decide +kernel
theorem dX4_readWinds_53 : decode cX4_readWinds 53 = .ok (.iastore, 1) := by decide +kernel
theorem dX4_readWinds_54 : decode cX4_readWinds 54 = .ok (.iinc 2 1, 3) := by decide +kernel
theorem dX4_readWinds_57 : decode cX4_readWinds 57 = .ok (.goto (-30), 3) := by decide +kernel
theorem dX4_readWinds_60 : decode cX4_readWinds 60 = .ok (.aload_n 0, 1) := by decide +kernel
theorem dX4_readWinds_61 : decode cX4_readWinds 61 = .ok (.invokevirtual 71, 3) := by decide +kernel
theorem dX4_readWinds_64 : decode cX4_readWinds 64 = .ok (.ireturn, 1) := by decide +kernel
set_option maxRecDepth 20000 in
theorem ggX4_readGraves_X6_isWord : GoodIn wsX4_readGraves wsX6_isWord := goodIn_r _ [7, 8, 9, 10, 11, 12, 13, 14, 15, 16, 17, 18, 19, 20, 21, 22, 23, 24, 25, 26, 27, 28, 29, 30, 31, 32, 33, 34, 35, 36, 37, 38, 39, 40, 41, 42, 43, 44, 45, 46, 47, 48, 49, 50, 51, 52, 53, 54, 55, 56, 57, 58, 59, 60, 61, 137, 138, 139, 140, 141] (by decide +kernel) (by decide +kernel)
set_option maxRecDepth 20000 in
theorem gX4_readGraves_X6_isWord : GoodIn wsX4_readGraves (wsV RX4 54 RX6 yX6_isWord wsX6_isWord) := goodIn_app (goodIn_of _ (by decide +kernel)) ggX4_readGraves_X6_isWord
set_option maxRecDepth 20000 in
theorem ggX4_readGraves_X6_readNext : GoodIn wsX4_readGraves wsX6_readNext := goodIn_r _ [65, 9, 10, 11, 12, 8, 66, 67, 6, 68, 69, 70, 71, 72, 73, 74, 75, 76, 77, 78, 79, 80, 81, 82, 137, 138, 139, 140, 141] (by decide +kernel) (by decide +kernel)
set_option maxRecDepth 20000 in
theorem gX4_readGraves_X6_readNext : GoodIn wsX4_readGraves (wsV RX4 58 RX6 yX6_readNext wsX6_readNext) := goodIn_app (goodIn_of _ (by decide +kernel)) ggX4_readGraves_X6_readNext
set_option maxRecDepth 20000 in
theorem ggX4_readGraves_X4_readGrave : GoodIn wsX4_readGraves wsX4_readGrave := goodIn_r _ [87, 88, 89, 90, 91, 92, 93, 94, 95, 86, 96, 1, 97, 98, 99, 6, 100, 8, 101, 102, 103, 104, 105, 106, 107, 108, 109, 110, 10, 111, 112, 113, 114, 9, 11, 12, 62, 63, 64, 65, 66, 67, 68, 69, 70, 71, 72, 73, 74, 75, 76, 77, 78, 79, 80, 81, 82, 115, 116, 117, 118, 123, 124, 125, 126, 127, 128, 129, 130, 131, 132, 133, 134, 135, 136, 119, 120, 121, 122, 137, 138, 139, 140, 141] (by decide +kernel) (by decide +kernel)
set_option maxRecDepth 20000 in
theorem gX4_readGraves_X4_readGrave : GoodIn wsX4_readGraves (wsV RX4 77 RX4 yX4_readGrave wsX4_readGrave) := goodIn_app (goodIn_of _ (by decide +kernel)) ggX4_readGraves_X4_readGrave
set_option maxRecDepth 20000 in
theorem ggX4_readGraves_X4_refuse : GoodIn wsX4_readGraves wsX4_refuse := goodIn_r _ [104, 105, 1, 106, 107, 108, 109, 6, 110, 10, 119, 120, 121, 122, 137, 138, 139, 140, 141] (by decide +kernel) (by decide +kernel)
set_option maxRecDepth 20000 in
theorem gX4_readGraves_X4_refuse : GoodIn wsX4_readGraves (wsV RX4 49 RX4 yX4_refuse wsX4_refuse) := goodIn_app (goodIn_of _ (by decide +kernel)) ggX4_readGraves_X4_refuse
theorem dX4_readGraves_0 : decode cX4_readGraves 0 = .ok (.iconst 0, 1) := by decide +kernel
theorem dX4_readGraves_1 : decode cX4_readGraves 1 = .ok (.istore_n 2, 1) := by decide +kernel
theorem dX4_readGraves_2 : decode cX4_readGraves 2 = .ok (.iload_n 2, 1) := by decide +kernel
theorem dX4_readGraves_3 : decode cX4_readGraves 3 = .ok (.iconst 5, 1) := by decide +kernel
theorem dX4_readGraves_4 : decode cX4_readGraves 4 = .ok (.if_icmp .ge 46, 3) := by decide +kernel
theorem dX4_readGraves_7 : decode cX4_readGraves 7 = .ok (.aload_n 0, 1) := by decide +kernel
theorem dX4_readGraves_8 : decode cX4_readGraves 8 = .ok (.getfield 9, 3) := by decide +kernel
theorem dX4_readGraves_11 : decode cX4_readGraves 11 = .ok (.ldc 75, 2) := by decide +kernel
theorem dX4_readGraves_13 : decode cX4_readGraves 13 = .ok (.invokevirtual 54, 3) := by decide +kernel
theorem dX4_readGraves_16 : decode cX4_readGraves 16 = .ok (.ifCond .eq 34, 3) := by decide +kernel
theorem dX4_readGraves_19 : decode cX4_readGraves 19 = .ok (.aload_n 0, 1) := by decide +kernel
theorem dX4_readGraves_20 : decode cX4_readGraves 20 = .ok (.getfield 9, 3) := by decide +kernel
theorem dX4_readGraves_23 : decode cX4_readGraves 23 = .ok (.invokevirtual 58, 3) := by decide +kernel
theorem dX4_readGraves_26 : decode cX4_readGraves 26 = .ok (.aload_n 0, 1) := by decide +kernel
theorem dX4_readGraves_27 : decode cX4_readGraves 27 = .ok (.aload_n 1, 1) := by decide +kernel
theorem dX4_readGraves_28 : decode cX4_readGraves 28 = .ok (.iload_n 2, 1) := by decide +kernel
theorem dX4_readGraves_29 : decode cX4_readGraves 29 = .ok (.invokevirtual 77, 3) := by decide +kernel
theorem dX4_readGraves_32 : decode cX4_readGraves 32 = .ok (.ifCond .ne 5, 3) := by decide +kernel
theorem dX4_readGraves_35 : decode cX4_readGraves 35 = .ok (.iconst 0, 1) := by decide +kernel
theorem dX4_readGraves_36 : decode cX4_readGraves 36 = .ok (.ireturn, 1) := by decide +kernel
theorem dX4_readGraves_37 : decode cX4_readGraves 37 = .ok (.aload_n 1, 1) := by decide +kernel
theorem dX4_readGraves_38 : decode cX4_readGraves 38 = .ok (.iload_n 2, 1) := by decide +kernel
theorem dX4_readGraves_39 : decode cX4_readGraves 39 = .ok (.iconst 1, 1) := by decide +kernel
theorem dX4_readGraves_40 : decode cX4_readGraves 40 = .ok (.iadd, 1) := by decide +kernel
theorem dX4_readGraves_41 : decode cX4_readGraves 41 = .ok (.putfield 81, 3) := by decide +kernel
theorem dX4_readGraves_44 : decode cX4_readGraves 44 = .ok (.iinc 2 1, 3) := by decide +kernel
theorem dX4_readGraves_47 : decode cX4_readGraves 47 = .ok (.goto (-45), 3) := by decide +kernel
theorem dX4_readGraves_50 : decode cX4_readGraves 50 = .ok (.aload_n 0, 1) := by decide +kernel
theorem dX4_readGraves_51 : decode cX4_readGraves 51 = .ok (.getfield 9, 3) := by decide +kernel
theorem dX4_readGraves_54 : decode cX4_readGraves 54 = .ok (.ldc 75, 2) := by decide +kernel
theorem dX4_readGraves_56 : decode cX4_readGraves 56 = .ok (.invokevirtual 54, 3) := by decide +kernel
theorem dX4_readGraves_59 : decode cX4_readGraves 59 = .ok (.ifCond .eq 11, 3) := by decide +kernel
theorem dX4_readGraves_62 : decode cX4_readGraves 62 = .ok (.aload_n 0, 1) := by decide +kernel
theorem dX4_readGraves_63 : decode cX4_readGraves 63 = .ok (.iconst 3, 1) := by decide +kernel
theorem dX4_readGraves_64 : decode cX4_readGraves 64 = .ok (.invokevirtual 49, 3) := by decide +kernel
theorem dX4_readGraves_67 : decode cX4_readGraves 67 = .ok (.ifCond .eq 7, 3) := by decide +kernel
theorem dX4_readGraves_70 : decode cX4_readGraves 70 = .ok (.iconst 1, 1) := by decide +kernel
theorem dX4_readGraves_71 : decode cX4_readGraves 71 = .ok (.goto 4, 3) := by decide +kernel
theorem dX4_readGraves_74 : decode cX4_readGraves 74 = .ok (.iconst 0, 1) := by decide +kernel
theorem dX4_readGraves_75 : decode cX4_readGraves 75 = .ok (.ireturn, 1) := by decide +kernel
set_option maxRecDepth 20000 in
theorem ggX4_readGrave_X4_takeNumber : GoodIn wsX4_readGrave wsX4_takeNumber := goodIn_r _ [10, 11, 2, 12, 13, 14, 15, 16, 17, 18, 19, 20, 9, 21, 22, 23, 24, 25, 26, 27, 28, 29, 30, 31, 32, 33, 34, 35, 36, 37, 38, 39, 40, 41, 42, 43, 44, 45, 46, 47, 48, 49, 50, 51, 52, 53, 54, 55, 56, 75, 76, 77, 78, 79, 80, 81, 82, 83] (by decide +kernel) (by decide +kernel)
set_option maxRecDepth 20000 in
theorem gX4_readGrave_X4_takeNumber : GoodIn wsX4_readGrave (wsV RX4 61 RX4 yX4_takeNumber wsX4_takeNumber) := goodIn_app (goodIn_of _ (by decide +kernel)) ggX4_readGrave_X4_takeNumber
set_option maxRecDepth 20000 in
theorem ggX4_readGrave_X4_takeSign : GoodIn wsX4_readGrave wsX4_takeSign := goodIn_r _ [60, 11, 12, 13, 14, 15, 16, 17, 18, 19, 20, 9, 21, 22, 23, 24, 25, 26, 27, 28, 36, 37, 38, 39, 33, 34, 35, 40, 41, 42, 43, 44, 45, 46, 47, 48, 49, 50, 51, 52, 53, 54, 55, 56, 75, 76, 77, 78, 79, 80, 81, 82, 83] (by decide +kernel) (by decide +kernel)
set_option maxRecDepth 20000 in
theorem gX4_readGrave_X4_takeSign : GoodIn wsX4_readGrave (wsV RX4 71 RX4 yX4_takeSign wsX4_takeSign) := goodIn_app (goodIn_of _ (by decide +kernel)) ggX4_readGrave_X4_takeSign
theorem dX4_readGrave_0 : decode cX4_readGrave 0 = .ok (.aload_n 0, 1) := by decide +kernel
theorem dX4_readGrave_1 : decode cX4_readGrave 1 = .ok (.iconst 0, 1) := by decide +kernel
theorem dX4_readGrave_2 : decode cX4_readGrave 2 = .ok (.bipush 30, 2) := by decide +kernel
theorem dX4_readGrave_4 : decode cX4_readGrave 4 = .ok (.invokevirtual 61, 3) := by decide +kernel
theorem dX4_readGrave_7 : decode cX4_readGrave 7 = .ok (.ifCond .ne 5, 3) := by decide +kernel
theorem dX4_readGrave_10 : decode cX4_readGrave 10 = .ok (.iconst 0, 1) := by decide +kernel
theorem dX4_readGrave_11 : decode cX4_readGrave 11 = .ok (.ireturn, 1) := by decide +kernel
theorem dX4_readGrave_12 : decode cX4_readGrave 12 = .ok (.aload_n 1, 1) := by decide +kernel
theorem dX4_readGrave_13 : decode cX4_readGrave 13 = .ok (.getfield 84, 3) := by decide +kernel
theorem dX4_readGrave_16 : decode cX4_readGrave 16 = .ok (.iload_n 2, 1) := by decide +kernel
theorem dX4_readGrave_17 : decode cX4_readGrave 17 = .ok (.aload_n 0, 1) := by decide +kernel
theorem dX4_readGrave_18 : decode cX4_readGrave 18 = .ok (.getfield 68, 3) := by decide +kernel
theorem dX4_readGrave_21 : decode cX4_readGrave 21 = .ok (.iastore, 1) := by decide +kernel
theorem dX4_readGrave_22 : decode cX4_readGrave 22 = .ok (.aload_n 0, 1) := by decide +kernel
theorem dX4_readGrave_23 : decode cX4_readGrave 23 = .ok (.iconst 0, 1) := by decide +kernel
theorem dX4_readGrave_24 : decode cX4_readGrave 24 = .ok (.bipush 9, 2) := by decide +kernel
theorem dX4_readGrave_26 : decode cX4_readGrave 26 = .ok (.invokevirtual 61, 3) := by decide +kernel
theorem dX4_readGrave_29 : decode cX4_readGrave 29 = .ok (.ifCond .ne 5, 3) := by decide +kernel
theorem dX4_readGrave_32 : decode cX4_readGrave 32 = .ok (.iconst 0, 1) := by decide +kernel
theorem dX4_readGrave_33 : decode cX4_readGrave 33 = .ok (.ireturn, 1) := by decide +kernel
theorem dX4_readGrave_34 : decode cX4_readGrave 34 = .ok (.aload_n 1, 1) := by decide +kernel
theorem dX4_readGrave_35 : decode cX4_readGrave 35 = .ok (.getfield 87, 3) := by decide +kernel
theorem dX4_readGrave_38 : decode cX4_readGrave 38 = .ok (.iload_n 2, 1) := by decide +kernel
theorem dX4_readGrave_39 : decode cX4_readGrave 39 = .ok (.aload_n 0, 1) := by decide +kernel
theorem dX4_readGrave_40 : decode cX4_readGrave 40 = .ok (.getfield 68, 3) := by decide +kernel
theorem dX4_readGrave_43 : decode cX4_readGrave 43 = .ok (.iastore, 1) := by decide +kernel
theorem dX4_readGrave_44 : decode cX4_readGrave 44 = .ok (.aload_n 0, 1) := by decide +kernel
theorem dX4_readGrave_45 : decode cX4_readGrave 45 = .ok (.iconst 0, 1) := by decide +kernel
theorem dX4_readGrave_46 : decode cX4_readGrave 46 = .ok (.bipush 9, 2) := by decide +kernel
theorem dX4_readGrave_48 : decode cX4_readGrave 48 = .ok (.invokevirtual 61, 3) := by decide +kernel
theorem dX4_readGrave_51 : decode cX4_readGrave 51 = .ok (.ifCond .ne 5, 3) := by decide +kernel
theorem dX4_readGrave_54 : decode cX4_readGrave 54 = .ok (.iconst 0, 1) := by decide +kernel
theorem dX4_readGrave_55 : decode cX4_readGrave 55 = .ok (.ireturn, 1) := by decide +kernel
theorem dX4_readGrave_56 : decode cX4_readGrave 56 = .ok (.aload_n 1, 1) := by decide +kernel
theorem dX4_readGrave_57 : decode cX4_readGrave 57 = .ok (.getfield 90, 3) := by decide +kernel
theorem dX4_readGrave_60 : decode cX4_readGrave 60 = .ok (.iload_n 2, 1) := by decide +kernel
theorem dX4_readGrave_61 : decode cX4_readGrave 61 = .ok (.aload_n 0, 1) := by decide +kernel
theorem dX4_readGrave_62 : decode cX4_readGrave 62 = .ok (.getfield 68, 3) := by decide +kernel
theorem dX4_readGrave_65 : decode cX4_readGrave 65 = .ok (.iastore, 1) := by decide +kernel
theorem dX4_readGrave_66 : decode cX4_readGrave 66 = .ok (.aload_n 0, 1) := by decide +kernel
theorem dX4_readGrave_67 : decode cX4_readGrave 67 = .ok (.iconst 0, 1) := by decide +kernel
theorem dX4_readGrave_68 : decode cX4_readGrave 68 = .ok (.bipush 15, 2) := by decide +kernel
theorem dX4_readGrave_70 : decode cX4_readGrave 70 = .ok (.invokevirtual 61, 3) := by decide +kernel
theorem dX4_readGrave_73 : decode cX4_readGrave 73 = .ok (.ifCond .ne 5, 3) := by decide +kernel
theorem dX4_readGrave_76 : decode cX4_readGrave 76 = .ok (.iconst 0, 1) := by decide +kernel
theorem dX4_readGrave_77 : decode cX4_readGrave 77 = .ok (.ireturn, 1) := by decide +kernel
theorem dX4_readGrave_78 : decode cX4_readGrave 78 = .ok (.aload_n 1, 1) := by decide +kernel
theorem dX4_readGrave_79 : decode cX4_readGrave 79 = .ok (.getfield 93, 3) := by decide +kernel
theorem dX4_readGrave_82 : decode cX4_readGrave 82 = .ok (.iload_n 2, 1) := by decide +kernel
theorem dX4_readGrave_83 : decode cX4_readGrave 83 = .ok (.aload_n 0, 1) := by decide +kernel
theorem dX4_readGrave_84 : decode cX4_readGrave 84 = .ok (.getfield 68, 3) := by decide +kernel
theorem dX4_readGrave_87 : decode cX4_readGrave 87 = .ok (.iastore, 1) := by decide +kernel
theorem dX4_readGrave_88 : decode cX4_readGrave 88 = .ok (.aload_n 0, 1) := by decide +kernel
theorem dX4_readGrave_89 : decode cX4_readGrave 89 = .ok (.invokevirtual 71, 3) := by decide +kernel
theorem dX4_readGrave_92 : decode cX4_readGrave 92 = .ok (.ireturn, 1) := by decide +kernel
set_option maxRecDepth 20000 in
theorem ggX4_readHorns_X6_isWord : GoodIn wsX4_readHorns wsX6_isWord := goodIn_r _ [7, 8, 9, 10, 11, 12, 13, 14, 15, 16, 17, 18, 19, 20, 21, 22, 23, 24, 25, 26, 27, 28, 29, 30, 31, 32, 33, 34, 35, 36, 37, 38, 39, 40, 41, 42, 43, 44, 45, 46, 47, 48, 49, 50, 51, 52, 53, 54, 55, 56, 57, 58, 59, 60, 61, 135, 136, 137, 138, 139] (by decide +kernel) (by decide +kernel)
set_option maxRecDepth 20000 in
theorem gX4_readHorns_X6_isWord : GoodIn wsX4_readHorns (wsV RX4 54 RX6 yX6_isWord wsX6_isWord) := goodIn_app (goodIn_of _ (by decide +kernel)) ggX4_readHorns_X6_isWord
set_option maxRecDepth 20000 in
theorem ggX4_readHorns_X6_readNext : GoodIn wsX4_readHorns wsX6_readNext := goodIn_r _ [65, 9, 10, 11, 12, 8, 66, 67, 6, 68, 69, 70, 71, 72, 73, 74, 75, 76, 77, 78, 79, 80, 81, 82, 135, 136, 137, 138, 139] (by decide +kernel) (by decide +kernel)
set_option maxRecDepth 20000 in
theorem gX4_readHorns_X6_readNext : GoodIn wsX4_readHorns (wsV RX4 58 RX6 yX6_readNext wsX6_readNext) := goodIn_app (goodIn_of _ (by decide +kernel)) ggX4_readHorns_X6_readNext
set_option maxRecDepth 20000 in
theorem ggX4_readHorns_X4_readHorn : GoodIn wsX4_readHorns wsX4_readHorn := goodIn_r _ [87, 88, 89, 90, 91, 92, 93, 86, 94, 1, 95, 96, 97, 6, 98, 8, 99, 100, 101, 102, 103, 104, 105, 106, 107, 108, 10, 109, 110, 111, 112, 9, 11, 12, 62, 63, 64, 65, 66, 67, 68, 69, 70, 71, 72, 73, 74, 75, 76, 77, 78, 79, 80, 81, 82, 113, 114, 115, 116, 121, 122, 123, 124, 125, 126, 127, 128, 129, 130, 131, 132, 133, 134, 117, 118, 119, 120, 135, 136, 137, 138, 139] (by decide +kernel) (by decide +kernel)
set_option maxRecDepth 20000 in
theorem gX4_readHorns_X4_readHorn : GoodIn wsX4_readHorns (wsV RX4 98 RX4 yX4_readHorn wsX4_readHorn) := goodIn_app (goodIn_of _ (by decide +kernel)) ggX4_readHorns_X4_readHorn
set_option maxRecDepth 20000 in
theorem ggX4_readHorns_X4_refuse : GoodIn wsX4_readHorns wsX4_refuse := goodIn_r _ [102, 103, 1, 104, 105, 106, 107, 6, 108, 10, 117, 118, 119, 120, 135, 136, 137, 138, 139] (by decide +kernel) (by decide +kernel)
set_option maxRecDepth 20000 in
theorem gX4_readHorns_X4_refuse : GoodIn wsX4_readHorns (wsV RX4 49 RX4 yX4_refuse wsX4_refuse) := goodIn_app (goodIn_of _ (by decide +kernel)) ggX4_readHorns_X4_refuse
theorem dX4_readHorns_0 : decode cX4_readHorns 0 = .ok (.iconst 0, 1) := by decide +kernel
theorem dX4_readHorns_1 : decode cX4_readHorns 1 = .ok (.istore_n 2, 1) := by decide +kernel
theorem dX4_readHorns_2 : decode cX4_readHorns 2 = .ok (.iload_n 2, 1) := by decide +kernel
theorem dX4_readHorns_3 : decode cX4_readHorns 3 = .ok (.iconst 4, 1) := by decide +kernel
theorem dX4_readHorns_4 : decode cX4_readHorns 4 = .ok (.if_icmp .ge 46, 3) := by decide +kernel
theorem dX4_readHorns_7 : decode cX4_readHorns 7 = .ok (.aload_n 0, 1) := by decide +kernel
theorem dX4_readHorns_8 : decode cX4_readHorns 8 = .ok (.getfield 9, 3) := by decide +kernel
theorem dX4_readHorns_11 : decode cX4_readHorns 11 = .ok (.ldc 96, 2) := by decide +kernel
theorem dX4_readHorns_13 : decode cX4_readHorns 13 = .ok (.invokevirtual 54, 3) := by decide +kernel
theorem dX4_readHorns_16 : decode cX4_readHorns 16 = .ok (.ifCond .eq 34, 3) := by decide +kernel
theorem dX4_readHorns_19 : decode cX4_readHorns 19 = .ok (.aload_n 0, 1) := by decide +kernel
theorem dX4_readHorns_20 : decode cX4_readHorns 20 = .ok (.getfield 9, 3) := by decide +kernel
theorem dX4_readHorns_23 : decode cX4_readHorns 23 = .ok (.invokevirtual 58, 3) := by decide +kernel
theorem dX4_readHorns_26 : decode cX4_readHorns 26 = .ok (.aload_n 0, 1) := by decide +kernel
theorem dX4_readHorns_27 : decode cX4_readHorns 27 = .ok (.aload_n 1, 1) := by decide +kernel
theorem dX4_readHorns_28 : decode cX4_readHorns 28 = .ok (.iload_n 2, 1) := by decide +kernel
theorem dX4_readHorns_29 : decode cX4_readHorns 29 = .ok (.invokevirtual 98, 3) := by decide +kernel
theorem dX4_readHorns_32 : decode cX4_readHorns 32 = .ok (.ifCond .ne 5, 3) := by decide +kernel
theorem dX4_readHorns_35 : decode cX4_readHorns 35 = .ok (.iconst 0, 1) := by decide +kernel
theorem dX4_readHorns_36 : decode cX4_readHorns 36 = .ok (.ireturn, 1) := by decide +kernel
theorem dX4_readHorns_37 : decode cX4_readHorns 37 = .ok (.aload_n 1, 1) := by decide +kernel
theorem dX4_readHorns_38 : decode cX4_readHorns 38 = .ok (.iload_n 2, 1) := by decide +kernel
theorem dX4_readHorns_39 : decode cX4_readHorns 39 = .ok (.iconst 1, 1) := by decide +kernel
theorem dX4_readHorns_40 : decode cX4_readHorns 40 = .ok (.iadd, 1) := by decide +kernel
theorem dX4_readHorns_41 : decode cX4_readHorns 41 = .ok (.putfield 101, 3) := by decide +kernel
theorem dX4_readHorns_44 : decode cX4_readHorns 44 = .ok (.iinc 2 1, 3) := by decide +kernel
theorem dX4_readHorns_47 : decode cX4_readHorns 47 = .ok (.goto (-45), 3) := by decide +kernel
theorem dX4_readHorns_50 : decode cX4_readHorns 50 = .ok (.aload_n 0, 1) := by decide +kernel
theorem dX4_readHorns_51 : decode cX4_readHorns 51 = .ok (.getfield 9, 3) := by decide +kernel
theorem dX4_readHorns_54 : decode cX4_readHorns 54 = .ok (.ldc 96, 2) := by decide +kernel
theorem dX4_readHorns_56 : decode cX4_readHorns 56 = .ok (.invokevirtual 54, 3) := by decide +kernel
theorem dX4_readHorns_59 : decode cX4_readHorns 59 = .ok (.ifCond .eq 11, 3) := by decide +kernel
theorem dX4_readHorns_62 : decode cX4_readHorns 62 = .ok (.aload_n 0, 1) := by decide +kernel
theorem dX4_readHorns_63 : decode cX4_readHorns 63 = .ok (.iconst 3, 1) := by decide +kernel
theorem dX4_readHorns_64 : decode cX4_readHorns 64 = .ok (.invokevirtual 49, 3) := by decide +kernel
theorem dX4_readHorns_67 : decode cX4_readHorns 67 = .ok (.ifCond .eq 7, 3) := by decide +kernel
theorem dX4_readHorns_70 : decode cX4_readHorns 70 = .ok (.iconst 1, 1) := by decide +kernel
theorem dX4_readHorns_71 : decode cX4_readHorns 71 = .ok (.goto 4, 3) := by decide +kernel
theorem dX4_readHorns_74 : decode cX4_readHorns 74 = .ok (.iconst 0, 1) := by decide +kernel
theorem dX4_readHorns_75 : decode cX4_readHorns 75 = .ok (.ireturn, 1) := by decide +kernel
set_option maxRecDepth 20000 in
theorem ggX4_readHorn_X4_takeNumber : GoodIn wsX4_readHorn wsX4_takeNumber := goodIn_r _ [8, 9, 2, 10, 11, 12, 13, 14, 15, 16, 17, 18, 7, 19, 20, 21, 22, 23, 24, 25, 26, 27, 28, 29, 30, 31, 32, 33, 34, 35, 36, 37, 38, 39, 40, 41, 42, 43, 44, 45, 46, 47, 48, 49, 50, 51, 52, 53, 54, 73, 74, 75, 76, 77, 78, 79, 80, 81] (by decide +kernel) (by decide +kernel)
set_option maxRecDepth 20000 in
theorem gX4_readHorn_X4_takeNumber : GoodIn wsX4_readHorn (wsV RX4 61 RX4 yX4_takeNumber wsX4_takeNumber) := goodIn_app (goodIn_of _ (by decide +kernel)) ggX4_readHorn_X4_takeNumber
set_option maxRecDepth 20000 in
theorem ggX4_readHorn_X4_takeSign : GoodIn wsX4_readHorn wsX4_takeSign := goodIn_r _ [58, 9, 10, 11, 12, 13, 14, 15, 16, 17, 18, 7, 19, 20, 21, 22, 23, 24, 25, 26, 34, 35, 36, 37, 31, 32, 33, 38, 39, 40, 41, 42, 43, 44, 45, 46, 47, 48, 49, 50, 51, 52, 53, 54, 73, 74, 75, 76, 77, 78, 79, 80, 81] (by decide +kernel) (by decide +kernel)
set_option maxRecDepth 20000 in
theorem gX4_readHorn_X4_takeSign : GoodIn wsX4_readHorn (wsV RX4 71 RX4 yX4_takeSign wsX4_takeSign) := goodIn_app (goodIn_of _ (by decide +kernel)) ggX4_readHorn_X4_takeSign
theorem dX4_readHorn_0 : decode cX4_readHorn 0 = .ok (.aload_n 0, 1) := by decide +kernel
theorem dX4_readHorn_1 : decode cX4_readHorn 1 = .ok (.iconst 0, 1) := by decide +kernel
theorem dX4_readHorn_2 : decode cX4_readHorn 2 = .ok (.bipush 30, 2) := by decide +kernel
theorem dX4_readHorn_4 : decode cX4_readHorn 4 = .ok (.invokevirtual 61, 3) := by decide +kernel
theorem dX4_readHorn_7 : decode cX4_readHorn 7 = .ok (.ifCond .ne 5, 3) := by decide +kernel
theorem dX4_readHorn_10 : decode cX4_readHorn 10 = .ok (.iconst 0, 1) := by decide +kernel
theorem dX4_readHorn_11 : decode cX4_readHorn 11 = .ok (.ireturn, 1) := by decide +kernel
theorem dX4_readHorn_12 : decode cX4_readHorn 12 = .ok (.aload_n 1, 1) := by decide +kernel
theorem dX4_readHorn_13 : decode cX4_readHorn 13 = .ok (.getfield 104, 3) := by decide +kernel
theorem dX4_readHorn_16 : decode cX4_readHorn 16 = .ok (.iload_n 2, 1) := by decide +kernel
theorem dX4_readHorn_17 : decode cX4_readHorn 17 = .ok (.aload_n 0, 1) := by decide +kernel
theorem dX4_readHorn_18 : decode cX4_readHorn 18 = .ok (.getfield 68, 3) := by decide +kernel
theorem dX4_readHorn_21 : decode cX4_readHorn 21 = .ok (.iastore, 1) := by decide +kernel
theorem dX4_readHorn_22 : decode cX4_readHorn 22 = .ok (.aload_n 0, 1) := by decide +kernel
theorem dX4_readHorn_23 : decode cX4_readHorn 23 = .ok (.iconst 1, 1) := by decide +kernel
theorem dX4_readHorn_24 : decode cX4_readHorn 24 = .ok (.bipush 40, 2) := by decide +kernel
theorem dX4_readHorn_26 : decode cX4_readHorn 26 = .ok (.invokevirtual 61, 3) := by decide +kernel
theorem dX4_readHorn_29 : decode cX4_readHorn 29 = .ok (.ifCond .ne 5, 3) := by decide +kernel
theorem dX4_readHorn_32 : decode cX4_readHorn 32 = .ok (.iconst 0, 1) := by decide +kernel
theorem dX4_readHorn_33 : decode cX4_readHorn 33 = .ok (.ireturn, 1) := by decide +kernel
theorem dX4_readHorn_34 : decode cX4_readHorn 34 = .ok (.aload_n 1, 1) := by decide +kernel
theorem dX4_readHorn_35 : decode cX4_readHorn 35 = .ok (.getfield 107, 3) := by decide +kernel
theorem dX4_readHorn_38 : decode cX4_readHorn 38 = .ok (.iload_n 2, 1) := by decide +kernel
theorem dX4_readHorn_39 : decode cX4_readHorn 39 = .ok (.aload_n 0, 1) := by decide +kernel
theorem dX4_readHorn_40 : decode cX4_readHorn 40 = .ok (.getfield 68, 3) := by decide +kernel
theorem dX4_readHorn_43 : decode cX4_readHorn 43 = .ok (.iastore, 1) := by decide +kernel
theorem dX4_readHorn_44 : decode cX4_readHorn 44 = .ok (.aload_n 0, 1) := by decide +kernel
theorem dX4_readHorn_45 : decode cX4_readHorn 45 = .ok (.invokevirtual 71, 3) := by decide +kernel
theorem dX4_readHorn_48 : decode cX4_readHorn 48 = .ok (.ireturn, 1) := by decide +kernel
set_option maxRecDepth 20000 in
theorem ggX4_readTrees_X6_isWord : GoodIn wsX4_readTrees wsX6_isWord := goodIn_r _ [7, 8, 9, 10, 11, 12, 13, 14, 15, 16, 17, 18, 19, 20, 21, 22, 23, 24, 25, 26, 27, 28, 29, 30, 31, 32, 33, 34, 35, 36, 37, 38, 39, 40, 41, 42, 43, 44, 45, 46, 47, 48, 49, 50, 51, 52, 53, 54, 55, 56, 57, 58, 59, 60, 61, 148, 149, 150, 151, 152] (by decide +kernel) (by decide +kernel)
set_option maxRecDepth 20000 in
theorem gX4_readTrees_X6_isWord : GoodIn wsX4_readTrees (wsV RX4 54 RX6 yX6_isWord wsX6_isWord) := goodIn_app (goodIn_of _ (by decide +kernel)) ggX4_readTrees_X6_isWord
set_option maxRecDepth 20000 in
theorem ggX4_readTrees_X6_readNext : GoodIn wsX4_readTrees wsX6_readNext := goodIn_r _ [65, 9, 10, 11, 12, 8, 66, 67, 6, 68, 69, 70, 71, 72, 73, 74, 75, 76, 77, 78, 79, 80, 81, 82, 148, 149, 150, 151, 152] (by decide +kernel) (by decide +kernel)
set_option maxRecDepth 20000 in
theorem gX4_readTrees_X6_readNext : GoodIn wsX4_readTrees (wsV RX4 58 RX6 yX6_readNext wsX6_readNext) := goodIn_app (goodIn_of _ (by decide +kernel)) ggX4_readTrees_X6_readNext
set_option maxRecDepth 20000 in
theorem ggX4_readTrees_X4_readTree : GoodIn wsX4_readTrees wsX4_readTree := goodIn_r _ [87, 88, 89, 1, 90, 91, 92, 93, 94, 95, 86, 96, 3, 4, 5, 6, 7, 8, 9, 10, 11, 12, 13, 14, 15, 16, 17, 18, 19, 20, 21, 22, 23, 24, 25, 26, 27, 28, 29, 30, 31, 32, 33, 34, 35, 36, 37, 38, 39, 40, 41, 42, 43, 44, 45, 46, 47, 48, 49, 50, 51, 52, 53, 54, 55, 56, 57, 58, 59, 60, 61, 97, 98, 99, 100, 101, 102, 103, 104, 105, 106, 62, 63, 64, 65, 66, 67, 68, 69, 70, 71, 72, 73, 74, 75, 76, 77, 78, 79, 80, 81, 82, 107, 108, 109, 110, 111, 112, 113, 114, 115, 116, 117, 118, 119, 120, 121, 122, 123, 124, 125, 126, 127, 128, 129, 134, 135, 136, 137, 138, 139, 140, 141, 142, 143, 144, 145, 146, 147, 130, 131, 132, 133, 148, 149, 150, 151, 152] (by decide +kernel) (by decide +kernel)
set_option maxRecDepth 20000 in
theorem gX4_readTrees_X4_readTree : GoodIn wsX4_readTrees (wsV RX4 112 RX4 yX4_readTree wsX4_readTree) := goodIn_app (goodIn_of _ (by decide +kernel)) ggX4_readTrees_X4_readTree
set_option maxRecDepth 20000 in
theorem ggX4_readTrees_X4_refuse : GoodIn wsX4_readTrees wsX4_refuse := goodIn_r _ [100, 101, 1, 102, 103, 104, 105, 6, 106, 10, 130, 131, 132, 133, 148, 149, 150, 151, 152] (by decide +kernel) (by decide +kernel)
set_option maxRecDepth 20000 in
theorem gX4_readTrees_X4_refuse : GoodIn wsX4_readTrees (wsV RX4 49 RX4 yX4_refuse wsX4_refuse) := goodIn_app (goodIn_of _ (by decide +kernel)) ggX4_readTrees_X4_refuse
theorem dX4_readTrees_0 : decode cX4_readTrees 0 = .ok (.iconst 0, 1) := by decide +kernel
theorem dX4_readTrees_1 : decode cX4_readTrees 1 = .ok (.istore_n 2, 1) := by decide +kernel
theorem dX4_readTrees_2 : decode cX4_readTrees 2 = .ok (.iload_n 2, 1) := by decide +kernel
theorem dX4_readTrees_3 : decode cX4_readTrees 3 = .ok (.iconst 4, 1) := by decide +kernel
theorem dX4_readTrees_4 : decode cX4_readTrees 4 = .ok (.if_icmp .ge 46, 3) := by decide +kernel
theorem dX4_readTrees_7 : decode cX4_readTrees 7 = .ok (.aload_n 0, 1) := by decide +kernel
theorem dX4_readTrees_8 : decode cX4_readTrees 8 = .ok (.getfield 9, 3) := by decide +kernel
theorem dX4_readTrees_11 : decode cX4_readTrees 11 = .ok (.ldc 110, 2) := by decide +kernel
theorem dX4_readTrees_13 : decode cX4_readTrees 13 = .ok (.invokevirtual 54, 3) := by decide +kernel
theorem dX4_readTrees_16 : decode cX4_readTrees 16 = .ok (.ifCond .eq 34, 3) := by decide +kernel
theorem dX4_readTrees_19 : decode cX4_readTrees 19 = .ok (.aload_n 0, 1) := by decide +kernel
theorem dX4_readTrees_20 : decode cX4_readTrees 20 = .ok (.getfield 9, 3) := by decide +kernel
theorem dX4_readTrees_23 : decode cX4_readTrees 23 = .ok (.invokevirtual 58, 3) := by decide +kernel
theorem dX4_readTrees_26 : decode cX4_readTrees 26 = .ok (.aload_n 0, 1) := by decide +kernel
theorem dX4_readTrees_27 : decode cX4_readTrees 27 = .ok (.aload_n 1, 1) := by decide +kernel
theorem dX4_readTrees_28 : decode cX4_readTrees 28 = .ok (.iload_n 2, 1) := by decide +kernel
theorem dX4_readTrees_29 : decode cX4_readTrees 29 = .ok (.invokevirtual 112, 3) := by decide +kernel
theorem dX4_readTrees_32 : decode cX4_readTrees 32 = .ok (.ifCond .ne 5, 3) := by decide +kernel
theorem dX4_readTrees_35 : decode cX4_readTrees 35 = .ok (.iconst 0, 1) := by decide +kernel
theorem dX4_readTrees_36 : decode cX4_readTrees 36 = .ok (.ireturn, 1) := by decide +kernel
theorem dX4_readTrees_37 : decode cX4_readTrees 37 = .ok (.aload_n 1, 1) := by decide +kernel
theorem dX4_readTrees_38 : decode cX4_readTrees 38 = .ok (.iload_n 2, 1) := by decide +kernel
theorem dX4_readTrees_39 : decode cX4_readTrees 39 = .ok (.iconst 1, 1) := by decide +kernel
theorem dX4_readTrees_40 : decode cX4_readTrees 40 = .ok (.iadd, 1) := by decide +kernel
theorem dX4_readTrees_41 : decode cX4_readTrees 41 = .ok (.putfield 115, 3) := by decide +kernel
theorem dX4_readTrees_44 : decode cX4_readTrees 44 = .ok (.iinc 2 1, 3) := by decide +kernel
theorem dX4_readTrees_47 : decode cX4_readTrees 47 = .ok (.goto (-45), 3) := by decide +kernel
theorem dX4_readTrees_50 : decode cX4_readTrees 50 = .ok (.aload_n 0, 1) := by decide +kernel
theorem dX4_readTrees_51 : decode cX4_readTrees 51 = .ok (.getfield 9, 3) := by decide +kernel
theorem dX4_readTrees_54 : decode cX4_readTrees 54 = .ok (.ldc 110, 2) := by decide +kernel
theorem dX4_readTrees_56 : decode cX4_readTrees 56 = .ok (.invokevirtual 54, 3) := by decide +kernel
theorem dX4_readTrees_59 : decode cX4_readTrees 59 = .ok (.ifCond .eq 11, 3) := by decide +kernel
theorem dX4_readTrees_62 : decode cX4_readTrees 62 = .ok (.aload_n 0, 1) := by decide +kernel
theorem dX4_readTrees_63 : decode cX4_readTrees 63 = .ok (.iconst 3, 1) := by decide +kernel
theorem dX4_readTrees_64 : decode cX4_readTrees 64 = .ok (.invokevirtual 49, 3) := by decide +kernel
theorem dX4_readTrees_67 : decode cX4_readTrees 67 = .ok (.ifCond .eq 7, 3) := by decide +kernel
theorem dX4_readTrees_70 : decode cX4_readTrees 70 = .ok (.iconst 1, 1) := by decide +kernel
theorem dX4_readTrees_71 : decode cX4_readTrees 71 = .ok (.goto 4, 3) := by decide +kernel
theorem dX4_readTrees_74 : decode cX4_readTrees 74 = .ok (.iconst 0, 1) := by decide +kernel
theorem dX4_readTrees_75 : decode cX4_readTrees 75 = .ok (.ireturn, 1) := by decide +kernel
set_option maxRecDepth 20000 in
theorem ggX4_readTree_X4_kindNamed : GoodIn wsX4_readTree wsX4_kindNamed := goodIn_r _ [11, 3, 1, 12, 13, 14, 15, 16, 17, 18, 19, 20, 21, 22, 23, 24, 25, 26, 27, 28, 29, 30, 31, 32, 33, 34, 35, 36, 37, 38, 39, 40, 41, 42, 43, 44, 45, 46, 47, 48, 49, 50, 51, 52, 53, 54, 55, 56, 57, 58, 59, 60, 61, 62, 63, 64, 65, 66, 67, 68, 69, 70, 139, 140, 141, 142, 143, 144, 145, 146, 147] (by decide +kernel) (by decide +kernel)
set_option maxRecDepth 20000 in
theorem gX4_readTree_X4_kindNamed : GoodIn wsX4_readTree (wsV RX4 118 RX4 yX4_kindNamed wsX4_kindNamed) := goodIn_app (goodIn_of _ (by decide +kernel)) ggX4_readTree_X4_kindNamed
set_option maxRecDepth 20000 in
theorem ggX4_readTree_X4_refuse : GoodIn wsX4_readTree wsX4_refuse := goodIn_r _ [74, 75, 3, 76, 77, 78, 79, 15, 80, 19, 139, 140, 141, 142, 143, 144, 145, 146, 147] (by decide +kernel) (by decide +kernel)
set_option maxRecDepth 20000 in
theorem gX4_readTree_X4_refuse : GoodIn wsX4_readTree (wsV RX4 49 RX4 yX4_refuse wsX4_refuse) := goodIn_app (goodIn_of _ (by decide +kernel)) ggX4_readTree_X4_refuse
set_option maxRecDepth 20000 in
theorem ggX4_readTree_X6_readNext : GoodIn wsX4_readTree wsX6_readNext := goodIn_r _ [84, 18, 19, 20, 21, 17, 85, 86, 15, 87, 88, 89, 90, 91, 92, 93, 94, 95, 96, 97, 98, 99, 100, 101, 143, 144, 145, 146, 147] (by decide +kernel) (by decide +kernel)
set_option maxRecDepth 20000 in
theorem gX4_readTree_X6_readNext : GoodIn wsX4_readTree (wsV RX4 58 RX6 yX6_readNext wsX6_readNext) := goodIn_app (goodIn_of _ (by decide +kernel)) ggX4_readTree_X6_readNext
set_option maxRecDepth 20000 in
theorem ggX4_readTree_X6_isSort : GoodIn wsX4_readTree wsX6_isSort := goodIn_r _ [105, 17, 143, 144, 145, 146, 147] (by decide +kernel) (by decide +kernel)
set_option maxRecDepth 20000 in
theorem gX4_readTree_X6_isSort : GoodIn wsX4_readTree (wsV RX4 45 RX6 yX6_isSort wsX6_isSort) := goodIn_app (goodIn_of _ (by decide +kernel)) ggX4_readTree_X6_isSort
set_option maxRecDepth 20000 in
theorem ggX4_readTree_X6_number : GoodIn wsX4_readTree wsX6_number := goodIn_r _ [109, 19, 18, 20, 21, 143, 144, 145, 146, 147] (by decide +kernel) (by decide +kernel)
set_option maxRecDepth 20000 in
theorem gX4_readTree_X6_number : GoodIn wsX4_readTree (wsV RX4 126 RX6 yX6_number wsX6_number) := goodIn_app (goodIn_of _ (by decide +kernel)) ggX4_readTree_X6_number
set_option maxRecDepth 20000 in
theorem ggX4_readTree_X3_hasTreeAt : GoodIn wsX4_readTree wsX3_hasTreeAt := goodIn_r _ [114, 115, 116, 125, 126, 127, 128, 129, 130, 131, 132, 133, 134, 135, 136, 137, 138] (by decide +kernel) (by decide +kernel)
set_option maxRecDepth 20000 in
theorem gX4_readTree_X3_hasTreeAt : GoodIn wsX4_readTree (wsV RX4 128 RX3 yX3_hasTreeAt wsX3_hasTreeAt) := goodIn_app (goodIn_of _ (by decide +kernel)) ggX4_readTree_X3_hasTreeAt
set_option maxRecDepth 20000 in
theorem ggX4_readTree_X4_takeNumber : GoodIn wsX4_readTree wsX4_takeNumber := goodIn_r _ [120, 3, 5, 102, 103, 104, 15, 105, 17, 71, 72, 73, 10, 74, 75, 76, 77, 78, 79, 80, 19, 106, 107, 108, 109, 18, 20, 21, 81, 82, 83, 84, 85, 86, 87, 88, 89, 90, 91, 92, 93, 94, 95, 96, 97, 98, 99, 100, 101, 139, 140, 141, 142, 143, 144, 145, 146, 147] (by decide +kernel) (by decide +kernel)
set_option maxRecDepth 20000 in
theorem gX4_readTree_X4_takeNumber : GoodIn wsX4_readTree (wsV RX4 61 RX4 yX4_takeNumber wsX4_takeNumber) := goodIn_app (goodIn_of _ (by decide +kernel)) ggX4_readTree_X4_takeNumber
set_option maxRecDepth 20000 in
theorem ggX4_readTree_X4_takeSign : GoodIn wsX4_readTree wsX4_takeSign := goodIn_r _ [124, 3, 102, 103, 104, 15, 105, 17, 71, 72, 73, 10, 74, 75, 76, 77, 78, 79, 80, 19, 81, 82, 83, 84, 18, 20, 21, 85, 86, 87, 88, 89, 90, 91, 92, 93, 94, 95, 96, 97, 98, 99, 100, 101, 139, 140, 141, 142, 143, 144, 145, 146, 147] (by decide +kernel) (by decide +kernel)
set_option maxRecDepth 20000 in
theorem gX4_readTree_X4_takeSign : GoodIn wsX4_readTree (wsV RX4 71 RX4 yX4_takeSign wsX4_takeSign) := goodIn_app (goodIn_of _ (by decide +kernel)) ggX4_readTree_X4_takeSign
theorem dX4_readTree_0 : decode cX4_readTree 0 = .ok (.aload_n 0, 1) := by decide +kernel
theorem dX4_readTree_1 : decode cX4_readTree 1 = .ok (.invokevirtual 118, 3) := by decide +kernel
theorem dX4_readTree_4 : decode cX4_readTree 4 = .ok (.istore_n 3, 1) := by decide +kernel
theorem dX4_readTree_5 : decode cX4_readTree 5 = .ok (.iload_n 3, 1) := by decide +kernel
theorem dX4_readTree_6 : decode cX4_readTree 6 = .ok (.ldc 122, 2) := by decide +kernel
theorem dX4_readTree_8 : decode cX4_readTree 8 = .ok (.if_icmp .ne 9, 3) := by decide +kernel
theorem dX4_readTree_11 : decode cX4_readTree 11 = .ok (.aload_n 0, 1) := by decide +kernel
theorem dX4_readTree_12 : decode cX4_readTree 12 = .ok (.iconst 1, 1) := by decide +kernel
theorem dX4_readTree_13 : decode cX4_readTree 13 = .ok (.invokevirtual 49, 3) := by decide +kernel
theorem dX4_readTree_16 : decode cX4_readTree 16 = .ok (.ireturn, 1) := by decide +kernel
theorem dX4_readTree_17 : decode cX4_readTree 17 = .ok (.aload_n 1, 1) := by decide +kernel
theorem dX4_readTree_18 : decode cX4_readTree 18 = .ok (.getfield 123, 3) := by decide +kernel
theorem dX4_readTree_21 : decode cX4_readTree 21 = .ok (.iload_n 2, 1) := by decide +kernel
theorem dX4_readTree_22 : decode cX4_readTree 22 = .ok (.iload_n 3, 1) := by decide +kernel
theorem dX4_readTree_23 : decode cX4_readTree 23 = .ok (.iastore, 1) := by decide +kernel
theorem dX4_readTree_24 : decode cX4_readTree 24 = .ok (.aload_n 0, 1) := by decide +kernel
theorem dX4_readTree_25 : decode cX4_readTree 25 = .ok (.getfield 9, 3) := by decide +kernel
theorem dX4_readTree_28 : decode cX4_readTree 28 = .ok (.invokevirtual 58, 3) := by decide +kernel
theorem dX4_readTree_31 : decode cX4_readTree 31 = .ok (.aload_n 0, 1) := by decide +kernel
theorem dX4_readTree_32 : decode cX4_readTree 32 = .ok (.getfield 9, 3) := by decide +kernel
theorem dX4_readTree_35 : decode cX4_readTree 35 = .ok (.iconst 2, 1) := by decide +kernel
theorem dX4_readTree_36 : decode cX4_readTree 36 = .ok (.invokevirtual 45, 3) := by decide +kernel
theorem dX4_readTree_39 : decode cX4_readTree 39 = .ok (.ifCond .eq 23, 3) := by decide +kernel
theorem dX4_readTree_42 : decode cX4_readTree 42 = .ok (.aload_n 1, 1) := by decide +kernel
theorem dX4_readTree_43 : decode cX4_readTree 43 = .ok (.aload_n 0, 1) := by decide +kernel
theorem dX4_readTree_44 : decode cX4_readTree 44 = .ok (.getfield 9, 3) := by decide +kernel
theorem dX4_readTree_47 : decode cX4_readTree 47 = .ok (.invokevirtual 126, 3) := by decide +kernel
theorem dX4_readTree_50 : decode cX4_readTree 50 = .ok (.invokevirtual 128, 3) := by decide +kernel
theorem dX4_readTree_53 : decode cX4_readTree 53 = .ok (.ifCond .eq 9, 3) := by decide +kernel
theorem dX4_readTree_56 : decode cX4_readTree 56 = .ok (.aload_n 0, 1) := by decide +kernel
theorem dX4_readTree_57 : decode cX4_readTree 57 = .ok (.iconst 2, 1) := by decide +kernel
theorem dX4_readTree_58 : decode cX4_readTree 58 = .ok (.invokevirtual 49, 3) := by decide +kernel
theorem dX4_readTree_61 : decode cX4_readTree 61 = .ok (.ireturn, 1) := by decide +kernel
theorem dX4_readTree_62 : decode cX4_readTree 62 = .ok (.aload_n 0, 1) := by decide +kernel
theorem dX4_readTree_63 : decode cX4_readTree 63 = .ok (.iconst 0, 1) := by decide +kernel
theorem dX4_readTree_64 : decode cX4_readTree 64 = .ok (.bipush 30, 2) := by decide +kernel
theorem dX4_readTree_66 : decode cX4_readTree 66 = .ok (.invokevirtual 61, 3) := by decide +kernel
theorem dX4_readTree_69 : decode cX4_readTree 69 = .ok (.ifCond .ne 5, 3) := by decide +kernel
theorem dX4_readTree_72 : decode cX4_readTree 72 = .ok (.iconst 0, 1) := by decide +kernel
theorem dX4_readTree_73 : decode cX4_readTree 73 = .ok (.ireturn, 1) := by decide +kernel
theorem dX4_readTree_74 : decode cX4_readTree 74 = .ok (.aload_n 1, 1) := by decide +kernel
theorem dX4_readTree_75 : decode cX4_readTree 75 = .ok (.getfield 131, 3) := by decide +kernel
theorem dX4_readTree_78 : decode cX4_readTree 78 = .ok (.iload_n 2, 1) := by decide +kernel
theorem dX4_readTree_79 : decode cX4_readTree 79 = .ok (.aload_n 0, 1) := by decide +kernel
theorem dX4_readTree_80 : decode cX4_readTree 80 = .ok (.getfield 68, 3) := by decide +kernel
theorem dX4_readTree_83 : decode cX4_readTree 83 = .ok (.iastore, 1) := by decide +kernel
theorem dX4_readTree_84 : decode cX4_readTree 84 = .ok (.aload_n 0, 1) := by decide +kernel
theorem dX4_readTree_85 : decode cX4_readTree 85 = .ok (.iconst 0, 1) := by decide +kernel
theorem dX4_readTree_86 : decode cX4_readTree 86 = .ok (.bipush 9, 2) := by decide +kernel
theorem dX4_readTree_88 : decode cX4_readTree 88 = .ok (.invokevirtual 61, 3) := by decide +kernel
theorem dX4_readTree_91 : decode cX4_readTree 91 = .ok (.ifCond .ne 5, 3) := by decide +kernel
theorem dX4_readTree_94 : decode cX4_readTree 94 = .ok (.iconst 0, 1) := by decide +kernel
theorem dX4_readTree_95 : decode cX4_readTree 95 = .ok (.ireturn, 1) := by decide +kernel
theorem dX4_readTree_96 : decode cX4_readTree 96 = .ok (.aload_n 1, 1) := by decide +kernel
theorem dX4_readTree_97 : decode cX4_readTree 97 = .ok (.getfield 134, 3) := by decide +kernel
theorem dX4_readTree_100 : decode cX4_readTree 100 = .ok (.iload_n 2, 1) := by decide +kernel
theorem dX4_readTree_101 : decode cX4_readTree 101 = .ok (.aload_n 0, 1) := by decide +kernel
theorem dX4_readTree_102 : decode cX4_readTree 102 = .ok (.getfield 68, 3) := by decide +kernel
theorem dX4_readTree_105 : decode cX4_readTree 105 = .ok (.iastore, 1) := by decide +kernel
theorem dX4_readTree_106 : decode cX4_readTree 106 = .ok (.aload_n 0, 1) := by decide +kernel
theorem dX4_readTree_107 : decode cX4_readTree 107 = .ok (.invokevirtual 71, 3) := by decide +kernel
theorem dX4_readTree_110 : decode cX4_readTree 110 = .ok (.ireturn, 1) := by decide +kernel
set_option maxRecDepth 20000 in
theorem ggX4_kindNamed_X6_isWord : GoodIn wsX4_kindNamed wsX6_isWord := goodIn_r _ [7, 8, 9, 10, 11, 12, 13, 14, 15, 16, 17, 18, 19, 20, 21, 22, 23, 24, 25, 26, 27, 28, 29, 30, 31, 32, 33, 34, 35, 36, 37, 38, 39, 40, 41, 42, 43, 44, 45, 46, 47, 48, 49, 50, 51, 52, 53, 54, 55, 56, 57, 58, 59, 60, 61, 66, 67, 68, 69, 70] (by decide +kernel) (by decide +kernel)
set_option maxRecDepth 20000 in
theorem gX4_kindNamed_X6_isWord : GoodIn wsX4_kindNamed (wsV RX4 54 RX6 yX6_isWord wsX6_isWord) := goodIn_app (goodIn_of _ (by decide +kernel)) ggX4_kindNamed_X6_isWord
theorem dX4_kindNamed_0 : decode cX4_kindNamed 0 = .ok (.aload_n 0, 1) := by decide +kernel
theorem dX4_kindNamed_1 : decode cX4_kindNamed 1 = .ok (.getfield 9, 3) := by decide +kernel
theorem dX4_kindNamed_4 : decode cX4_kindNamed 4 = .ok (.ldc 137, 2) := by decide +kernel
theorem dX4_kindNamed_6 : decode cX4_kindNamed 6 = .ok (.invokevirtual 54, 3) := by decide +kernel
theorem dX4_kindNamed_9 : decode cX4_kindNamed 9 = .ok (.ifCond .eq 5, 3) := by decide +kernel
theorem dX4_kindNamed_12 : decode cX4_kindNamed 12 = .ok (.iconst 1, 1) := by decide +kernel
theorem dX4_kindNamed_13 : decode cX4_kindNamed 13 = .ok (.ireturn, 1) := by decide +kernel
theorem dX4_kindNamed_14 : decode cX4_kindNamed 14 = .ok (.aload_n 0, 1) := by decide +kernel
theorem dX4_kindNamed_15 : decode cX4_kindNamed 15 = .ok (.getfield 9, 3) := by decide +kernel
theorem dX4_kindNamed_18 : decode cX4_kindNamed 18 = .ok (.ldc 139, 2) := by decide +kernel
theorem dX4_kindNamed_20 : decode cX4_kindNamed 20 = .ok (.invokevirtual 54, 3) := by decide +kernel
theorem dX4_kindNamed_23 : decode cX4_kindNamed 23 = .ok (.ifCond .eq 5, 3) := by decide +kernel
theorem dX4_kindNamed_26 : decode cX4_kindNamed 26 = .ok (.iconst 2, 1) := by decide +kernel
theorem dX4_kindNamed_27 : decode cX4_kindNamed 27 = .ok (.ireturn, 1) := by decide +kernel
theorem dX4_kindNamed_28 : decode cX4_kindNamed 28 = .ok (.aload_n 0, 1) := by decide +kernel
theorem dX4_kindNamed_29 : decode cX4_kindNamed 29 = .ok (.getfield 9, 3) := by decide +kernel
theorem dX4_kindNamed_32 : decode cX4_kindNamed 32 = .ok (.ldc 141, 2) := by decide +kernel
theorem dX4_kindNamed_34 : decode cX4_kindNamed 34 = .ok (.invokevirtual 54, 3) := by decide +kernel
theorem dX4_kindNamed_37 : decode cX4_kindNamed 37 = .ok (.ifCond .eq 5, 3) := by decide +kernel
theorem dX4_kindNamed_40 : decode cX4_kindNamed 40 = .ok (.iconst 3, 1) := by decide +kernel
theorem dX4_kindNamed_41 : decode cX4_kindNamed 41 = .ok (.ireturn, 1) := by decide +kernel
theorem dX4_kindNamed_42 : decode cX4_kindNamed 42 = .ok (.aload_n 0, 1) := by decide +kernel
theorem dX4_kindNamed_43 : decode cX4_kindNamed 43 = .ok (.getfield 9, 3) := by decide +kernel
theorem dX4_kindNamed_46 : decode cX4_kindNamed 46 = .ok (.ldc 143, 2) := by decide +kernel
theorem dX4_kindNamed_48 : decode cX4_kindNamed 48 = .ok (.invokevirtual 54, 3) := by decide +kernel
theorem dX4_kindNamed_51 : decode cX4_kindNamed 51 = .ok (.ifCond .eq 5, 3) := by decide +kernel
theorem dX4_kindNamed_54 : decode cX4_kindNamed 54 = .ok (.iconst 4, 1) := by decide +kernel
theorem dX4_kindNamed_55 : decode cX4_kindNamed 55 = .ok (.ireturn, 1) := by decide +kernel
theorem dX4_kindNamed_56 : decode cX4_kindNamed 56 = .ok (.aload_n 0, 1) := by decide +kernel
theorem dX4_kindNamed_57 : decode cX4_kindNamed 57 = .ok (.getfield 9, 3) := by decide +kernel
theorem dX4_kindNamed_60 : decode cX4_kindNamed 60 = .ok (.ldc 145, 2) := by decide +kernel
theorem dX4_kindNamed_62 : decode cX4_kindNamed 62 = .ok (.invokevirtual 54, 3) := by decide +kernel
theorem dX4_kindNamed_65 : decode cX4_kindNamed 65 = .ok (.ifCond .eq 7, 3) := by decide +kernel
theorem dX4_kindNamed_68 : decode cX4_kindNamed 68 = .ok (.iconst 5, 1) := by decide +kernel
theorem dX4_kindNamed_69 : decode cX4_kindNamed 69 = .ok (.goto 5, 3) := by decide +kernel
theorem dX4_kindNamed_72 : decode cX4_kindNamed 72 = .ok (.ldc 122, 2) := by decide +kernel
theorem dX4_kindNamed_74 : decode cX4_kindNamed 74 = .ok (.ireturn, 1) := by decide +kernel
set_option maxRecDepth 20000 in
theorem ggX4_takeNumber_X6_isSort : GoodIn wsX4_takeNumber wsX6_isSort := goodIn_r _ [7, 8, 53, 54, 55, 56, 57] (by decide +kernel) (by decide +kernel)
set_option maxRecDepth 20000 in
theorem gX4_takeNumber_X6_isSort : GoodIn wsX4_takeNumber (wsV RX4 45 RX6 yX6_isSort wsX6_isSort) := goodIn_app (goodIn_of _ (by decide +kernel)) ggX4_takeNumber_X6_isSort
set_option maxRecDepth 20000 in
theorem ggX4_takeNumber_X4_refuse : GoodIn wsX4_takeNumber wsX4_refuse := goodIn_r _ [13, 14, 1, 15, 16, 17, 18, 6, 19, 20, 49, 50, 51, 52, 53, 54, 55, 56, 57] (by decide +kernel) (by decide +kernel)
set_option maxRecDepth 20000 in
theorem gX4_takeNumber_X4_refuse : GoodIn wsX4_takeNumber (wsV RX4 49 RX4 yX4_refuse wsX4_refuse) := goodIn_app (goodIn_of _ (by decide +kernel)) ggX4_takeNumber_X4_refuse
set_option maxRecDepth 20000 in
theorem ggX4_takeNumber_X6_number : GoodIn wsX4_takeNumber wsX6_number := goodIn_r _ [24, 20, 25, 26, 27, 53, 54, 55, 56, 57] (by decide +kernel) (by decide +kernel)
set_option maxRecDepth 20000 in
theorem gX4_takeNumber_X6_number : GoodIn wsX4_takeNumber (wsV RX4 126 RX6 yX6_number wsX6_number) := goodIn_app (goodIn_of _ (by decide +kernel)) ggX4_takeNumber_X6_number
set_option maxRecDepth 20000 in
theorem ggX4_takeNumber_X6_readNext : GoodIn wsX4_takeNumber wsX6_readNext := goodIn_r _ [31, 25, 20, 26, 27, 8, 32, 33, 6, 34, 35, 36, 37, 38, 39, 40, 41, 42, 43, 44, 45, 46, 47, 48, 53, 54, 55, 56, 57] (by decide +kernel) (by decide +kernel)
set_option maxRecDepth 20000 in
theorem gX4_takeNumber_X6_readNext : GoodIn wsX4_takeNumber (wsV RX4 58 RX6 yX6_readNext wsX6_readNext) := goodIn_app (goodIn_of _ (by decide +kernel)) ggX4_takeNumber_X6_readNext
theorem dX4_takeNumber_0 : decode cX4_takeNumber 0 = .ok (.aload_n 0, 1) := by decide +kernel
theorem dX4_takeNumber_1 : decode cX4_takeNumber 1 = .ok (.getfield 9, 3) := by decide +kernel
theorem dX4_takeNumber_4 : decode cX4_takeNumber 4 = .ok (.iconst 2, 1) := by decide +kernel
theorem dX4_takeNumber_5 : decode cX4_takeNumber 5 = .ok (.invokevirtual 45, 3) := by decide +kernel
theorem dX4_takeNumber_8 : decode cX4_takeNumber 8 = .ok (.ifCond .ne 9, 3) := by decide +kernel
theorem dX4_takeNumber_11 : decode cX4_takeNumber 11 = .ok (.aload_n 0, 1) := by decide +kernel
theorem dX4_takeNumber_12 : decode cX4_takeNumber 12 = .ok (.iconst 1, 1) := by decide +kernel
theorem dX4_takeNumber_13 : decode cX4_takeNumber 13 = .ok (.invokevirtual 49, 3) := by decide +kernel
theorem dX4_takeNumber_16 : decode cX4_takeNumber 16 = .ok (.ireturn, 1) := by decide +kernel
theorem dX4_takeNumber_17 : decode cX4_takeNumber 17 = .ok (.aload_n 0, 1) := by decide +kernel
theorem dX4_takeNumber_18 : decode cX4_takeNumber 18 = .ok (.aload_n 0, 1) := by decide +kernel
theorem dX4_takeNumber_19 : decode cX4_takeNumber 19 = .ok (.getfield 9, 3) := by decide +kernel
theorem dX4_takeNumber_22 : decode cX4_takeNumber 22 = .ok (.invokevirtual 126, 3) := by decide +kernel
theorem dX4_takeNumber_25 : decode cX4_takeNumber 25 = .ok (.putfield 68, 3) := by decide +kernel
theorem dX4_takeNumber_28 : decode cX4_takeNumber 28 = .ok (.aload_n 0, 1) := by decide +kernel
theorem dX4_takeNumber_29 : decode cX4_takeNumber 29 = .ok (.getfield 68, 3) := by decide +kernel
theorem dX4_takeNumber_32 : decode cX4_takeNumber 32 = .ok (.iload_n 1, 1) := by decide +kernel
theorem dX4_takeNumber_33 : decode cX4_takeNumber 33 = .ok (.if_icmp .lt 11, 3) := by decide +kernel
theorem dX4_takeNumber_36 : decode cX4_takeNumber 36 = .ok (.aload_n 0, 1) := by decide +kernel
theorem dX4_takeNumber_37 : decode cX4_takeNumber 37 = .ok (.getfield 68, 3) := by decide +kernel
theorem dX4_takeNumber_40 : decode cX4_takeNumber 40 = .ok (.iload_n 2, 1) := by decide +kernel
theorem dX4_takeNumber_41 : decode cX4_takeNumber 41 = .ok (.if_icmp .le 9, 3) := by decide +kernel
theorem dX4_takeNumber_44 : decode cX4_takeNumber 44 = .ok (.aload_n 0, 1) := by decide +kernel
theorem dX4_takeNumber_45 : decode cX4_takeNumber 45 = .ok (.iconst 2, 1) := by decide +kernel
theorem dX4_takeNumber_46 : decode cX4_takeNumber 46 = .ok (.invokevirtual 49, 3) := by decide +kernel
theorem dX4_takeNumber_49 : decode cX4_takeNumber 49 = .ok (.ireturn, 1) := by decide +kernel
theorem dX4_takeNumber_50 : decode cX4_takeNumber 50 = .ok (.aload_n 0, 1) := by decide +kernel
theorem dX4_takeNumber_51 : decode cX4_takeNumber 51 = .ok (.getfield 9, 3) := by decide +kernel
theorem dX4_takeNumber_54 : decode cX4_takeNumber 54 = .ok (.invokevirtual 58, 3) := by decide +kernel
theorem dX4_takeNumber_57 : decode cX4_takeNumber 57 = .ok (.iconst 1, 1) := by decide +kernel
theorem dX4_takeNumber_58 : decode cX4_takeNumber 58 = .ok (.ireturn, 1) := by decide +kernel
set_option maxRecDepth 20000 in
theorem ggX4_takeSign_X6_isSort : GoodIn wsX4_takeSign wsX6_isSort := goodIn_r _ [6, 7, 48, 49, 50, 51, 52] (by decide +kernel) (by decide +kernel)
set_option maxRecDepth 20000 in
theorem gX4_takeSign_X6_isSort : GoodIn wsX4_takeSign (wsV RX4 45 RX6 yX6_isSort wsX6_isSort) := goodIn_app (goodIn_of _ (by decide +kernel)) ggX4_takeSign_X6_isSort
set_option maxRecDepth 20000 in
theorem ggX4_takeSign_X4_refuse : GoodIn wsX4_takeSign wsX4_refuse := goodIn_r _ [12, 13, 1, 14, 15, 16, 17, 5, 18, 19, 44, 45, 46, 47, 48, 49, 50, 51, 52] (by decide +kernel) (by decide +kernel)
set_option maxRecDepth 20000 in
theorem gX4_takeSign_X4_refuse : GoodIn wsX4_takeSign (wsV RX4 49 RX4 yX4_refuse wsX4_refuse) := goodIn_app (goodIn_of _ (by decide +kernel)) ggX4_takeSign_X4_refuse
set_option maxRecDepth 20000 in
theorem ggX4_takeSign_X6_readNext : GoodIn wsX4_takeSign wsX6_readNext := goodIn_r _ [23, 24, 19, 25, 26, 7, 27, 28, 5, 29, 30, 31, 32, 33, 34, 35, 36, 37, 38, 39, 40, 41, 42, 43, 48, 49, 50, 51, 52] (by decide +kernel) (by decide +kernel)
set_option maxRecDepth 20000 in
theorem gX4_takeSign_X6_readNext : GoodIn wsX4_takeSign (wsV RX4 58 RX6 yX6_readNext wsX6_readNext) := goodIn_app (goodIn_of _ (by decide +kernel)) ggX4_takeSign_X6_readNext
theorem dX4_takeSign_0 : decode cX4_takeSign 0 = .ok (.aload_n 0, 1) := by decide +kernel
theorem dX4_takeSign_1 : decode cX4_takeSign 1 = .ok (.getfield 9, 3) := by decide +kernel
theorem dX4_takeSign_4 : decode cX4_takeSign 4 = .ok (.iconst 3, 1) := by decide +kernel
theorem dX4_takeSign_5 : decode cX4_takeSign 5 = .ok (.invokevirtual 45, 3) := by decide +kernel
theorem dX4_takeSign_8 : decode cX4_takeSign 8 = .ok (.ifCond .ne 9, 3) := by decide +kernel
theorem dX4_takeSign_11 : decode cX4_takeSign 11 = .ok (.aload_n 0, 1) := by decide +kernel
theorem dX4_takeSign_12 : decode cX4_takeSign 12 = .ok (.iconst 1, 1) := by decide +kernel
theorem dX4_takeSign_13 : decode cX4_takeSign 13 = .ok (.invokevirtual 49, 3) := by decide +kernel
theorem dX4_takeSign_16 : decode cX4_takeSign 16 = .ok (.ireturn, 1) := by decide +kernel
theorem dX4_takeSign_17 : decode cX4_takeSign 17 = .ok (.aload_n 0, 1) := by decide +kernel
theorem dX4_takeSign_18 : decode cX4_takeSign 18 = .ok (.getfield 9, 3) := by decide +kernel
theorem dX4_takeSign_21 : decode cX4_takeSign 21 = .ok (.invokevirtual 58, 3) := by decide +kernel
theorem dX4_takeSign_24 : decode cX4_takeSign 24 = .ok (.iconst 1, 1) := by decide +kernel
theorem dX4_takeSign_25 : decode cX4_takeSign 25 = .ok (.ireturn, 1) := by decide +kernel
set_option maxRecDepth 20000 in
theorem ggX4_refuse_X6_tokenStart : GoodIn wsX4_refuse wsX6_tokenStart := goodIn_r _ [8, 9, 14, 15, 16, 17, 18] (by decide +kernel) (by decide +kernel)
set_option maxRecDepth 20000 in
theorem gX4_refuse_X6_tokenStart : GoodIn wsX4_refuse (wsV RX4 147 RX6 yX6_tokenStart wsX6_tokenStart) := goodIn_app (goodIn_of _ (by decide +kernel)) ggX4_refuse_X6_tokenStart
theorem dX4_refuse_0 : decode cX4_refuse 0 = .ok (.aload_n 0, 1) := by decide +kernel
theorem dX4_refuse_1 : decode cX4_refuse 1 = .ok (.iload_n 1, 1) := by decide +kernel
theorem dX4_refuse_2 : decode cX4_refuse 2 = .ok (.putfield 15, 3) := by decide +kernel
theorem dX4_refuse_5 : decode cX4_refuse 5 = .ok (.aload_n 0, 1) := by decide +kernel
theorem dX4_refuse_6 : decode cX4_refuse 6 = .ok (.aload_n 0, 1) := by decide +kernel
theorem dX4_refuse_7 : decode cX4_refuse 7 = .ok (.getfield 9, 3) := by decide +kernel
theorem dX4_refuse_10 : decode cX4_refuse 10 = .ok (.invokevirtual 147, 3) := by decide +kernel
theorem dX4_refuse_13 : decode cX4_refuse 13 = .ok (.putfield 19, 3) := by decide +kernel
theorem dX4_refuse_16 : decode cX4_refuse 16 = .ok (.iconst 0, 1) := by decide +kernel
theorem dX4_refuse_17 : decode cX4_refuse 17 = .ok (.ireturn, 1) := by decide +kernel
