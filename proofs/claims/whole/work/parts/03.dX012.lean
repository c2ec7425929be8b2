theorem dX0_init_0 : decode cX0_init 0 = .ok (.aload_n 0, 1) := by decide +kernel
theorem dX0_init_1 : decode cX0_init 1 = .ok (.invokespecial 1, 3) := by decide +kernel
theorem dX0_init_4 : decode cX0_init 4 = .ok (.aload_n 0, 1) := by decide +kernel
theorem dX0_init_5 : decode cX0_init 5 = .ok (.bipush 24, 2) := by decide +kernel
theorem dX0_init_7 : decode cX0_init 7 = .ok (.newarray .int, 2) := by decide +kernel
theorem dX0_init_9 : decode cX0_init 9 = .ok (.putfield 9, 3) := by decide +kernel
theorem dX0_init_12 : decode cX0_init 12 = .ok (.aload_n 0, 1) := by decide +kernel
theorem dX0_init_13 : decode cX0_init 13 = .ok (.bipush 24, 2) := by decide +kernel
theorem dX0_init_15 : decode cX0_init 15 = .ok (.newarray .int, 2) := by decide +kernel
theorem dX0_init_17 : decode cX0_init 17 = .ok (.putfield 13, 3) := by decide +kernel
theorem dX0_init_20 : decode cX0_init 20 = .ok (.aload_n 0, 1) := by decide +kernel
theorem dX0_init_21 : decode cX0_init 21 = .ok (.bipush 24, 2) := by decide +kernel
theorem dX0_init_23 : decode cX0_init 23 = .ok (.newarray .int, 2) := by decide +kernel
theorem dX0_init_25 : decode cX0_init 25 = .ok (.putfield 16, 3) := by decide +kernel
theorem dX0_init_28 : decode cX0_init 28 = .ok (.return_, 1) := by decide +kernel
theorem dX0_kept_0 : decode cX0_kept 0 = .ok (.aload_n 0, 1) := by decide +kernel
theorem dX0_kept_1 : decode cX0_kept 1 = .ok (.getfield 19, 3) := by decide +kernel
theorem dX0_kept_4 : decode cX0_kept 4 = .ok (.ireturn, 1) := by decide +kernel
theorem dX0_forgetAll_0 : decode cX0_forgetAll 0 = .ok (.aload_n 0, 1) := by decide +kernel
theorem dX0_forgetAll_1 : decode cX0_forgetAll 1 = .ok (.iconst 0, 1) := by decide +kernel
theorem dX0_forgetAll_2 : decode cX0_forgetAll 2 = .ok (.putfield 19, 3) := by decide +kernel
theorem dX0_forgetAll_5 : decode cX0_forgetAll 5 = .ok (.return_, 1) := by decide +kernel
theorem dX0_keep_0 : decode cX0_keep 0 = .ok (.aload_n 0, 1) := by decide +kernel
theorem dX0_keep_1 : decode cX0_keep 1 = .ok (.getfield 9, 3) := by decide +kernel
theorem dX0_keep_4 : decode cX0_keep 4 = .ok (.aload_n 0, 1) := by decide +kernel
theorem dX0_keep_5 : decode cX0_keep 5 = .ok (.getfield 23, 3) := by decide +kernel
theorem dX0_keep_8 : decode cX0_keep 8 = .ok (.iload_n 1, 1) := by decide +kernel
theorem dX0_keep_9 : decode cX0_keep 9 = .ok (.iastore, 1) := by decide +kernel
theorem dX0_keep_10 : decode cX0_keep 10 = .ok (.aload_n 0, 1) := by decide +kernel
theorem dX0_keep_11 : decode cX0_keep 11 = .ok (.getfield 13, 3) := by decide +kernel
theorem dX0_keep_14 : decode cX0_keep 14 = .ok (.aload_n 0, 1) := by decide +kernel
theorem dX0_keep_15 : decode cX0_keep 15 = .ok (.getfield 23, 3) := by decide +kernel
theorem dX0_keep_18 : decode cX0_keep 18 = .ok (.iload_n 2, 1) := by decide +kernel
theorem dX0_keep_19 : decode cX0_keep 19 = .ok (.iastore, 1) := by decide +kernel
theorem dX0_keep_20 : decode cX0_keep 20 = .ok (.aload_n 0, 1) := by decide +kernel
theorem dX0_keep_21 : decode cX0_keep 21 = .ok (.getfield 16, 3) := by decide +kernel
theorem dX0_keep_24 : decode cX0_keep 24 = .ok (.aload_n 0, 1) := by decide +kernel
theorem dX0_keep_25 : decode cX0_keep 25 = .ok (.getfield 23, 3) := by decide +kernel
theorem dX0_keep_28 : decode cX0_keep 28 = .ok (.iload_n 3, 1) := by decide +kernel
theorem dX0_keep_29 : decode cX0_keep 29 = .ok (.iastore, 1) := by decide +kernel
theorem dX0_keep_30 : decode cX0_keep 30 = .ok (.aload_n 0, 1) := by decide +kernel
theorem dX0_keep_31 : decode cX0_keep 31 = .ok (.aload_n 0, 1) := by decide +kernel
theorem dX0_keep_32 : decode cX0_keep 32 = .ok (.getfield 23, 3) := by decide +kernel
theorem dX0_keep_35 : decode cX0_keep 35 = .ok (.bipush 23, 2) := by decide +kernel
theorem dX0_keep_37 : decode cX0_keep 37 = .ok (.if_icmp .ne 7, 3) := by decide +kernel
theorem dX0_keep_40 : decode cX0_keep 40 = .ok (.iconst 0, 1) := by decide +kernel
theorem dX0_keep_41 : decode cX0_keep 41 = .ok (.goto 9, 3) := by decide +kernel
theorem dX0_keep_44 : decode cX0_keep 44 = .ok (.aload_n 0, 1) := by decide +kernel
theorem dX0_keep_45 : decode cX0_keep 45 = .ok (.getfield 23, 3) := by decide +kernel
theorem dX0_keep_48 : decode cX0_keep 48 = .ok (.iconst 1, 1) := by decide +kernel
theorem dX0_keep_49 : decode cX0_keep 49 = .ok (.iadd, 1) := by decide +kernel
theorem dX0_keep_50 : decode cX0_keep 50 = .ok (.putfield 23, 3) := by decide +kernel
theorem dX0_keep_53 : decode cX0_keep 53 = .ok (.aload_n 0, 1) := by decide +kernel
theorem dX0_keep_54 : decode cX0_keep 54 = .ok (.aload_n 0, 1) := by decide +kernel
theorem dX0_keep_55 : decode cX0_keep 55 = .ok (.getfield 19, 3) := by decide +kernel
theorem dX0_keep_58 : decode cX0_keep 58 = .ok (.iconst 1, 1) := by decide +kernel
theorem dX0_keep_59 : decode cX0_keep 59 = .ok (.iadd, 1) := by decide +kernel
theorem dX0_keep_60 : decode cX0_keep 60 = .ok (.bipush 24, 2) := by decide +kernel
theorem dX0_keep_62 : decode cX0_keep 62 = .ok (.invokestatic 26, 3) := by decide +kernel
theorem dX0_keep_65 : decode cX0_keep 65 = .ok (.putfield 19, 3) := by decide +kernel
theorem dX0_keep_68 : decode cX0_keep 68 = .ok (.return_, 1) := by decide +kernel
set_option maxRecDepth 20000 in
theorem ggX0_undoLatest_X3_isGrave : GoodIn wsX0_undoLatest wsX3_isGrave := goodIn_r _ [12, 13, 28, 29, 30, 31, 32, 33, 34, 35, 36, 37, 38, 39, 40, 41] (by decide +kernel) (by decide +kernel)
set_option maxRecDepth 20000 in
theorem gX0_undoLatest_X3_isGrave : GoodIn wsX0_undoLatest (wsV RX0 32 RX3 yX3_isGrave wsX3_isGrave) := goodIn_app (goodIn_of _ (by decide +kernel)) ggX0_undoLatest_X3_isGrave
set_option maxRecDepth 20000 in
theorem ggX0_undoLatest_X3_addFruit : GoodIn wsX0_undoLatest wsX3_addFruit := goodIn_r _ [17, 18, 19, 20, 21, 11, 22, 28, 29, 30, 31, 32, 33, 34, 35, 36, 37, 38, 39, 40, 41] (by decide +kernel) (by decide +kernel)
set_option maxRecDepth 20000 in
theorem gX0_undoLatest_X3_addFruit : GoodIn wsX0_undoLatest (wsV RX0 44 RX3 yX3_addFruit wsX3_addFruit) := goodIn_app (goodIn_of _ (by decide +kernel)) ggX0_undoLatest_X3_addFruit
theorem dX0_undoLatest_0 : decode cX0_undoLatest 0 = .ok (.aload_n 0, 1) := by decide +kernel
theorem dX0_undoLatest_1 : decode cX0_undoLatest 1 = .ok (.getfield 19, 3) := by decide +kernel
theorem dX0_undoLatest_4 : decode cX0_undoLatest 4 = .ok (.ifCond .ne 4, 3) := by decide +kernel
theorem dX0_undoLatest_7 : decode cX0_undoLatest 7 = .ok (.return_, 1) := by decide +kernel
theorem dX0_undoLatest_8 : decode cX0_undoLatest 8 = .ok (.aload_n 0, 1) := by decide +kernel
theorem dX0_undoLatest_9 : decode cX0_undoLatest 9 = .ok (.dup, 1) := by decide +kernel
theorem dX0_undoLatest_10 : decode cX0_undoLatest 10 = .ok (.getfield 19, 3) := by decide +kernel
theorem dX0_undoLatest_13 : decode cX0_undoLatest 13 = .ok (.iconst 1, 1) := by decide +kernel
theorem dX0_undoLatest_14 : decode cX0_undoLatest 14 = .ok (.isub, 1) := by decide +kernel
theorem dX0_undoLatest_15 : decode cX0_undoLatest 15 = .ok (.putfield 19, 3) := by decide +kernel
theorem dX0_undoLatest_18 : decode cX0_undoLatest 18 = .ok (.aload_n 0, 1) := by decide +kernel
theorem dX0_undoLatest_19 : decode cX0_undoLatest 19 = .ok (.aload_n 0, 1) := by decide +kernel
theorem dX0_undoLatest_20 : decode cX0_undoLatest 20 = .ok (.getfield 23, 3) := by decide +kernel
theorem dX0_undoLatest_23 : decode cX0_undoLatest 23 = .ok (.ifCond .ne 8, 3) := by decide +kernel
theorem dX0_undoLatest_26 : decode cX0_undoLatest 26 = .ok (.bipush 23, 2) := by decide +kernel
theorem dX0_undoLatest_28 : decode cX0_undoLatest 28 = .ok (.goto 9, 3) := by decide +kernel
theorem dX0_undoLatest_31 : decode cX0_undoLatest 31 = .ok (.aload_n 0, 1) := by decide +kernel
theorem dX0_undoLatest_32 : decode cX0_undoLatest 32 = .ok (.getfield 23, 3) := by decide +kernel
theorem dX0_undoLatest_35 : decode cX0_undoLatest 35 = .ok (.iconst 1, 1) := by decide +kernel
theorem dX0_undoLatest_36 : decode cX0_undoLatest 36 = .ok (.isub, 1) := by decide +kernel
theorem dX0_undoLatest_37 : decode cX0_undoLatest 37 = .ok (.putfield 23, 3) := by decide +kernel
theorem dX0_undoLatest_40 : decode cX0_undoLatest 40 = .ok (.aload_n 0, 1) := by decide +kernel
theorem dX0_undoLatest_41 : decode cX0_undoLatest 41 = .ok (.getfield 13, 3) := by decide +kernel
theorem dX0_undoLatest_44 : decode cX0_undoLatest 44 = .ok (.aload_n 0, 1) := by decide +kernel
theorem dX0_undoLatest_45 : decode cX0_undoLatest 45 = .ok (.getfield 23, 3) := by decide +kernel
theorem dX0_undoLatest_48 : decode cX0_undoLatest 48 = .ok (.iaload, 1) := by decide +kernel
theorem dX0_undoLatest_49 : decode cX0_undoLatest 49 = .ok (.istore_n 2, 1) := by decide +kernel
theorem dX0_undoLatest_50 : decode cX0_undoLatest 50 = .ok (.aload_n 0, 1) := by decide +kernel
theorem dX0_undoLatest_51 : decode cX0_undoLatest 51 = .ok (.getfield 9, 3) := by decide +kernel
theorem dX0_undoLatest_54 : decode cX0_undoLatest 54 = .ok (.aload_n 0, 1) := by decide +kernel
theorem dX0_undoLatest_55 : decode cX0_undoLatest 55 = .ok (.getfield 23, 3) := by decide +kernel
theorem dX0_undoLatest_58 : decode cX0_undoLatest 58 = .ok (.iaload, 1) := by decide +kernel
theorem dX0_undoLatest_59 : decode cX0_undoLatest 59 = .ok (.iconst 2, 1) := by decide +kernel
theorem dX0_undoLatest_60 : decode cX0_undoLatest 60 = .ok (.if_icmp .ne 29, 3) := by decide +kernel
theorem dX0_undoLatest_63 : decode cX0_undoLatest 63 = .ok (.aload_n 1, 1) := by decide +kernel
theorem dX0_undoLatest_64 : decode cX0_undoLatest 64 = .ok (.iload_n 2, 1) := by decide +kernel
theorem dX0_undoLatest_65 : decode cX0_undoLatest 65 = .ok (.invokevirtual 32, 3) := by decide +kernel
theorem dX0_undoLatest_68 : decode cX0_undoLatest 68 = .ok (.ifCond .eq 21, 3) := by decide +kernel
theorem dX0_undoLatest_71 : decode cX0_undoLatest 71 = .ok (.aload_n 1, 1) := by decide +kernel
theorem dX0_undoLatest_72 : decode cX0_undoLatest 72 = .ok (.getfield 38, 3) := by decide +kernel
theorem dX0_undoLatest_75 : decode cX0_undoLatest 75 = .ok (.iload_n 2, 1) := by decide +kernel
theorem dX0_undoLatest_76 : decode cX0_undoLatest 76 = .ok (.aload_n 0, 1) := by decide +kernel
theorem dX0_undoLatest_77 : decode cX0_undoLatest 77 = .ok (.getfield 16, 3) := by decide +kernel
theorem dX0_undoLatest_80 : decode cX0_undoLatest 80 = .ok (.aload_n 0, 1) := by decide +kernel
theorem dX0_undoLatest_81 : decode cX0_undoLatest 81 = .ok (.getfield 23, 3) := by decide +kernel
theorem dX0_undoLatest_84 : decode cX0_undoLatest 84 = .ok (.iaload, 1) := by decide +kernel
theorem dX0_undoLatest_85 : decode cX0_undoLatest 85 = .ok (.iastore, 1) := by decide +kernel
theorem dX0_undoLatest_86 : decode cX0_undoLatest 86 = .ok (.goto 72, 3) := by decide +kernel
theorem dX0_undoLatest_89 : decode cX0_undoLatest 89 = .ok (.aload_n 0, 1) := by decide +kernel
theorem dX0_undoLatest_90 : decode cX0_undoLatest 90 = .ok (.getfield 9, 3) := by decide +kernel
theorem dX0_undoLatest_93 : decode cX0_undoLatest 93 = .ok (.aload_n 0, 1) := by decide +kernel
theorem dX0_undoLatest_94 : decode cX0_undoLatest 94 = .ok (.getfield 23, 3) := by decide +kernel
theorem dX0_undoLatest_97 : decode cX0_undoLatest 97 = .ok (.iaload, 1) := by decide +kernel
theorem dX0_undoLatest_98 : decode cX0_undoLatest 98 = .ok (.iconst 3, 1) := by decide +kernel
theorem dX0_undoLatest_99 : decode cX0_undoLatest 99 = .ok (.if_icmp .ne 20, 3) := by decide +kernel
theorem dX0_undoLatest_102 : decode cX0_undoLatest 102 = .ok (.aload_n 1, 1) := by decide +kernel
theorem dX0_undoLatest_103 : decode cX0_undoLatest 103 = .ok (.dup, 1) := by decide +kernel
theorem dX0_undoLatest_104 : decode cX0_undoLatest 104 = .ok (.getfield 41, 3) := by decide +kernel
theorem dX0_undoLatest_107 : decode cX0_undoLatest 107 = .ok (.iconst 1, 1) := by decide +kernel
theorem dX0_undoLatest_108 : decode cX0_undoLatest 108 = .ok (.iload_n 2, 1) := by decide +kernel
theorem dX0_undoLatest_109 : decode cX0_undoLatest 109 = .ok (.ishl, 1) := by decide +kernel
theorem dX0_undoLatest_110 : decode cX0_undoLatest 110 = .ok (.iconst (-1), 1) := by decide +kernel
theorem dX0_undoLatest_111 : decode cX0_undoLatest 111 = .ok (.ixor, 1) := by decide +kernel
theorem dX0_undoLatest_112 : decode cX0_undoLatest 112 = .ok (.iand, 1) := by decide +kernel
theorem dX0_undoLatest_113 : decode cX0_undoLatest 113 = .ok (.putfield 41, 3) := by decide +kernel
theorem dX0_undoLatest_116 : decode cX0_undoLatest 116 = .ok (.goto 42, 3) := by decide +kernel
theorem dX0_undoLatest_119 : decode cX0_undoLatest 119 = .ok (.aload_n 0, 1) := by decide +kernel
theorem dX0_undoLatest_120 : decode cX0_undoLatest 120 = .ok (.getfield 9, 3) := by decide +kernel
theorem dX0_undoLatest_123 : decode cX0_undoLatest 123 = .ok (.aload_n 0, 1) := by decide +kernel
theorem dX0_undoLatest_124 : decode cX0_undoLatest 124 = .ok (.getfield 23, 3) := by decide +kernel
theorem dX0_undoLatest_127 : decode cX0_undoLatest 127 = .ok (.iaload, 1) := by decide +kernel
theorem dX0_undoLatest_128 : decode cX0_undoLatest 128 = .ok (.ifCond .eq 16, 3) := by decide +kernel
theorem dX0_undoLatest_131 : decode cX0_undoLatest 131 = .ok (.aload_n 0, 1) := by decide +kernel
theorem dX0_undoLatest_132 : decode cX0_undoLatest 132 = .ok (.getfield 9, 3) := by decide +kernel
theorem dX0_undoLatest_135 : decode cX0_undoLatest 135 = .ok (.aload_n 0, 1) := by decide +kernel
theorem dX0_undoLatest_136 : decode cX0_undoLatest 136 = .ok (.getfield 23, 3) := by decide +kernel
theorem dX0_undoLatest_139 : decode cX0_undoLatest 139 = .ok (.iaload, 1) := by decide +kernel
theorem dX0_undoLatest_140 : decode cX0_undoLatest 140 = .ok (.iconst 1, 1) := by decide +kernel
theorem dX0_undoLatest_141 : decode cX0_undoLatest 141 = .ok (.if_icmp .ne 17, 3) := by decide +kernel
theorem dX0_undoLatest_144 : decode cX0_undoLatest 144 = .ok (.aload_n 1, 1) := by decide +kernel
theorem dX0_undoLatest_145 : decode cX0_undoLatest 145 = .ok (.iload_n 2, 1) := by decide +kernel
theorem dX0_undoLatest_146 : decode cX0_undoLatest 146 = .ok (.aload_n 0, 1) := by decide +kernel
theorem dX0_undoLatest_147 : decode cX0_undoLatest 147 = .ok (.getfield 16, 3) := by decide +kernel
theorem dX0_undoLatest_150 : decode cX0_undoLatest 150 = .ok (.aload_n 0, 1) := by decide +kernel
theorem dX0_undoLatest_151 : decode cX0_undoLatest 151 = .ok (.getfield 23, 3) := by decide +kernel
theorem dX0_undoLatest_154 : decode cX0_undoLatest 154 = .ok (.iaload, 1) := by decide +kernel
theorem dX0_undoLatest_155 : decode cX0_undoLatest 155 = .ok (.invokevirtual 44, 3) := by decide +kernel
theorem dX0_undoLatest_158 : decode cX0_undoLatest 158 = .ok (.return_, 1) := by decide +kernel
theorem dX1_init_0 : decode cX1_init 0 = .ok (.aload_n 0, 1) := by decide +kernel
theorem dX1_init_1 : decode cX1_init 1 = .ok (.invokespecial 3, 3) := by decide +kernel
theorem dX1_init_4 : decode cX1_init 4 = .ok (.aload_n 0, 1) := by decide +kernel
theorem dX1_init_5 : decode cX1_init 5 = .ok (.bipush 16, 2) := by decide +kernel
theorem dX1_init_7 : decode cX1_init 7 = .ok (.newarray .int, 2) := by decide +kernel
theorem dX1_init_9 : decode cX1_init 9 = .ok (.putfield 11, 3) := by decide +kernel
theorem dX1_init_12 : decode cX1_init 12 = .ok (.return_, 1) := by decide +kernel
set_option maxRecDepth 20000 in
theorem ggX1_begin_X3_isTree : GoodIn wsX1_begin wsX3_isTree := goodIn_r _ [14, 15, 29, 30, 31, 32, 33, 34, 35, 36, 37, 38, 39, 40, 41, 42] (by decide +kernel) (by decide +kernel)
set_option maxRecDepth 20000 in
theorem gX1_begin_X3_isTree : GoodIn wsX1_begin (wsV RX1 19 RX3 yX3_isTree wsX3_isTree) := goodIn_app (goodIn_of _ (by decide +kernel)) ggX1_begin_X3_isTree
set_option maxRecDepth 20000 in
theorem ggX1_begin_X3_loose : GoodIn wsX1_begin wsX3_loose := goodIn_r _ [19, 20, 21, 11, 12, 13, 14, 15, 29, 30, 31, 32, 33, 34, 35, 36, 37, 38, 39, 40, 41, 42] (by decide +kernel) (by decide +kernel)
set_option maxRecDepth 20000 in
theorem gX1_begin_X3_loose : GoodIn wsX1_begin (wsV RX1 45 RX3 yX3_loose wsX3_loose) := goodIn_app (goodIn_of _ (by decide +kernel)) ggX1_begin_X3_loose
theorem dX1_begin_0 : decode cX1_begin 0 = .ok (.aload_n 0, 1) := by decide +kernel
theorem dX1_begin_1 : decode cX1_begin 1 = .ok (.iconst 0, 1) := by decide +kernel
theorem dX1_begin_2 : decode cX1_begin 2 = .ok (.putfield 15, 3) := by decide +kernel
theorem dX1_begin_5 : decode cX1_begin 5 = .ok (.aload_n 1, 1) := by decide +kernel
theorem dX1_begin_6 : decode cX1_begin 6 = .ok (.iload_n 2, 1) := by decide +kernel
theorem dX1_begin_7 : decode cX1_begin 7 = .ok (.invokevirtual 19, 3) := by decide +kernel
theorem dX1_begin_10 : decode cX1_begin 10 = .ok (.ifCond .ne 4, 3) := by decide +kernel
theorem dX1_begin_13 : decode cX1_begin 13 = .ok (.return_, 1) := by decide +kernel
theorem dX1_begin_14 : decode cX1_begin 14 = .ok (.aload_n 0, 1) := by decide +kernel
theorem dX1_begin_15 : decode cX1_begin 15 = .ok (.iload_n 2, 1) := by decide +kernel
theorem dX1_begin_16 : decode cX1_begin 16 = .ok (.putfield 25, 3) := by decide +kernel
theorem dX1_begin_19 : decode cX1_begin 19 = .ok (.aload_n 0, 1) := by decide +kernel
theorem dX1_begin_20 : decode cX1_begin 20 = .ok (.aload_n 1, 1) := by decide +kernel
theorem dX1_begin_21 : decode cX1_begin 21 = .ok (.getfield 28, 3) := by decide +kernel
theorem dX1_begin_24 : decode cX1_begin 24 = .ok (.iload_n 2, 1) := by decide +kernel
theorem dX1_begin_25 : decode cX1_begin 25 = .ok (.iaload, 1) := by decide +kernel
theorem dX1_begin_26 : decode cX1_begin 26 = .ok (.putfield 31, 3) := by decide +kernel
theorem dX1_begin_29 : decode cX1_begin 29 = .ok (.aload_n 0, 1) := by decide +kernel
theorem dX1_begin_30 : decode cX1_begin 30 = .ok (.aload_n 1, 1) := by decide +kernel
theorem dX1_begin_31 : decode cX1_begin 31 = .ok (.getfield 34, 3) := by decide +kernel
theorem dX1_begin_34 : decode cX1_begin 34 = .ok (.iload_n 2, 1) := by decide +kernel
theorem dX1_begin_35 : decode cX1_begin 35 = .ok (.iaload, 1) := by decide +kernel
theorem dX1_begin_36 : decode cX1_begin 36 = .ok (.putfield 37, 3) := by decide +kernel
theorem dX1_begin_39 : decode cX1_begin 39 = .ok (.aload_n 0, 1) := by decide +kernel
theorem dX1_begin_40 : decode cX1_begin 40 = .ok (.aload_n 1, 1) := by decide +kernel
theorem dX1_begin_41 : decode cX1_begin 41 = .ok (.getfield 40, 3) := by decide +kernel
theorem dX1_begin_44 : decode cX1_begin 44 = .ok (.iload_n 2, 1) := by decide +kernel
theorem dX1_begin_45 : decode cX1_begin 45 = .ok (.iaload, 1) := by decide +kernel
theorem dX1_begin_46 : decode cX1_begin 46 = .ok (.putfield 43, 3) := by decide +kernel
theorem dX1_begin_49 : decode cX1_begin 49 = .ok (.aload_n 0, 1) := by decide +kernel
theorem dX1_begin_50 : decode cX1_begin 50 = .ok (.aload_n 1, 1) := by decide +kernel
theorem dX1_begin_51 : decode cX1_begin 51 = .ok (.iload_n 2, 1) := by decide +kernel
theorem dX1_begin_52 : decode cX1_begin 52 = .ok (.invokevirtual 45, 3) := by decide +kernel
theorem dX1_begin_55 : decode cX1_begin 55 = .ok (.putfield 49, 3) := by decide +kernel
theorem dX1_begin_58 : decode cX1_begin 58 = .ok (.return_, 1) := by decide +kernel
theorem dX1_traced_0 : decode cX1_traced 0 = .ok (.iload_n 1, 1) := by decide +kernel
theorem dX1_traced_1 : decode cX1_traced 1 = .ok (.ifCond .lt 26, 3) := by decide +kernel
theorem dX1_traced_4 : decode cX1_traced 4 = .ok (.iload_n 1, 1) := by decide +kernel
theorem dX1_traced_5 : decode cX1_traced 5 = .ok (.aload_n 0, 1) := by decide +kernel
theorem dX1_traced_6 : decode cX1_traced 6 = .ok (.getfield 15, 3) := by decide +kernel
theorem dX1_traced_9 : decode cX1_traced 9 = .ok (.if_icmp .ge 18, 3) := by decide +kernel
theorem dX1_traced_12 : decode cX1_traced 12 = .ok (.iload_n 1, 1) := by decide +kernel
theorem dX1_traced_13 : decode cX1_traced 13 = .ok (.bipush 16, 2) := by decide +kernel
theorem dX1_traced_15 : decode cX1_traced 15 = .ok (.if_icmp .ge 12, 3) := by decide +kernel
theorem dX1_traced_18 : decode cX1_traced 18 = .ok (.aload_n 0, 1) := by decide +kernel
theorem dX1_traced_19 : decode cX1_traced 19 = .ok (.getfield 11, 3) := by decide +kernel
theorem dX1_traced_22 : decode cX1_traced 22 = .ok (.iload_n 1, 1) := by decide +kernel
theorem dX1_traced_23 : decode cX1_traced 23 = .ok (.iaload, 1) := by decide +kernel
theorem dX1_traced_24 : decode cX1_traced 24 = .ok (.goto 5, 3) := by decide +kernel
theorem dX1_traced_27 : decode cX1_traced 27 = .ok (.ldc 51, 2) := by decide +kernel
theorem dX1_traced_29 : decode cX1_traced 29 = .ok (.ireturn, 1) := by decide +kernel
set_option maxRecDepth 20000 in
theorem ggX1_size_X1_pearSize : GoodIn wsX1_size wsX1_pearSize := goodIn_r _ [6, 7, 8, 9, 5, 10, 11, 12, 13, 14, 15, 16, 17, 18, 19, 20, 21, 1, 22, 23, 24, 25, 26, 27, 28, 29, 30, 31, 32, 33, 34, 35, 36, 37, 38, 39, 40, 45, 46, 47, 48, 49, 50, 51] (by decide +kernel) (by decide +kernel)
set_option maxRecDepth 20000 in
theorem gX1_size_X1_pearSize : GoodIn wsX1_size (wsV RX1 52 RX1 yX1_pearSize wsX1_pearSize) := goodIn_app (goodIn_of _ (by decide +kernel)) ggX1_size_X1_pearSize
set_option maxRecDepth 20000 in
theorem ggX1_size_X1_leave : GoodIn wsX1_size wsX1_leave := goodIn_r _ [10, 11, 12, 45, 46, 47, 48, 49, 50, 51] (by decide +kernel) (by decide +kernel)
set_option maxRecDepth 20000 in
theorem gX1_size_X1_leave : GoodIn wsX1_size (wsV RX1 56 RX1 yX1_leave wsX1_leave) := goodIn_app (goodIn_of _ (by decide +kernel)) ggX1_size_X1_leave
set_option maxRecDepth 20000 in
theorem ggX1_size_X1_ashSize : GoodIn wsX1_size wsX1_ashSize := goodIn_r _ [44, 7, 8, 9, 5, 10, 11, 12, 13, 14, 15, 16, 17, 18, 19, 20, 21, 1, 22, 23, 24, 25, 26, 27, 28, 29, 30, 31, 32, 33, 34, 35, 36, 37, 38, 39, 40, 45, 46, 47, 48, 49, 50, 51] (by decide +kernel) (by decide +kernel)
set_option maxRecDepth 20000 in
theorem gX1_size_X1_ashSize : GoodIn wsX1_size (wsV RX1 60 RX1 yX1_ashSize wsX1_ashSize) := goodIn_app (goodIn_of _ (by decide +kernel)) ggX1_size_X1_ashSize
set_option maxRecDepth 20000 in
theorem ggX1_size_X1_lentSize : GoodIn wsX1_size wsX1_lentSize := goodIn_r _ [16, 17, 7, 8, 9, 5, 10, 11, 12, 45, 46, 47, 48, 49, 50, 51] (by decide +kernel) (by decide +kernel)
set_option maxRecDepth 20000 in
theorem gX1_size_X1_lentSize : GoodIn wsX1_size (wsV RX1 63 RX1 yX1_lentSize wsX1_lentSize) := goodIn_app (goodIn_of _ (by decide +kernel)) ggX1_size_X1_lentSize
theorem dX1_size_0 : decode cX1_size 0 = .ok (.aload_n 0, 1) := by decide +kernel
theorem dX1_size_1 : decode cX1_size 1 = .ok (.getfield 31, 3) := by decide +kernel
theorem dX1_size_4 : decode cX1_size 4 = .ok (.tableswitch 71 1 5 #[36, 36, 41, 53, 58], 36) := by decide +kernel
theorem dX1_size_40 : decode cX1_size 40 = .ok (.aload_n 0, 1) := by decide +kernel
theorem dX1_size_41 : decode cX1_size 41 = .ok (.invokevirtual 52, 3) := by decide +kernel
theorem dX1_size_44 : decode cX1_size 44 = .ok (.ireturn, 1) := by decide +kernel
theorem dX1_size_45 : decode cX1_size 45 = .ok (.aload_n 0, 1) := by decide +kernel
theorem dX1_size_46 : decode cX1_size 46 = .ok (.bipush 12, 2) := by decide +kernel
theorem dX1_size_48 : decode cX1_size 48 = .ok (.invokevirtual 56, 3) := by decide +kernel
theorem dX1_size_51 : decode cX1_size 51 = .ok (.aload_n 0, 1) := by decide +kernel
theorem dX1_size_52 : decode cX1_size 52 = .ok (.invokevirtual 52, 3) := by decide +kernel
theorem dX1_size_55 : decode cX1_size 55 = .ok (.ineg, 1) := by decide +kernel
theorem dX1_size_56 : decode cX1_size 56 = .ok (.ireturn, 1) := by decide +kernel
theorem dX1_size_57 : decode cX1_size 57 = .ok (.aload_n 0, 1) := by decide +kernel
theorem dX1_size_58 : decode cX1_size 58 = .ok (.invokevirtual 60, 3) := by decide +kernel
theorem dX1_size_61 : decode cX1_size 61 = .ok (.ireturn, 1) := by decide +kernel
theorem dX1_size_62 : decode cX1_size 62 = .ok (.aload_n 0, 1) := by decide +kernel
theorem dX1_size_63 : decode cX1_size 63 = .ok (.bipush 14, 2) := by decide +kernel
theorem dX1_size_65 : decode cX1_size 65 = .ok (.invokevirtual 56, 3) := by decide +kernel
theorem dX1_size_68 : decode cX1_size 68 = .ok (.iconst 2, 1) := by decide +kernel
theorem dX1_size_69 : decode cX1_size 69 = .ok (.aload_n 0, 1) := by decide +kernel
theorem dX1_size_70 : decode cX1_size 70 = .ok (.invokevirtual 60, 3) := by decide +kernel
theorem dX1_size_73 : decode cX1_size 73 = .ok (.imul, 1) := by decide +kernel
theorem dX1_size_74 : decode cX1_size 74 = .ok (.ireturn, 1) := by decide +kernel
theorem dX1_size_75 : decode cX1_size 75 = .ok (.aload_n 0, 1) := by decide +kernel
theorem dX1_size_76 : decode cX1_size 76 = .ok (.invokevirtual 63, 3) := by decide +kernel
theorem dX1_size_79 : decode cX1_size 79 = .ok (.ireturn, 1) := by decide +kernel
set_option maxRecDepth 20000 in
theorem ggX1_mark_X1_pearMark : GoodIn wsX1_mark wsX1_pearMark := goodIn_r _ [6, 7, 8, 9, 10, 5, 11, 12, 13, 14, 15, 16, 17, 18, 28, 29, 30, 31, 32, 33, 34] (by decide +kernel) (by decide +kernel)
set_option maxRecDepth 20000 in
theorem gX1_mark_X1_pearMark : GoodIn wsX1_mark (wsV RX1 66 RX1 yX1_pearMark wsX1_pearMark) := goodIn_app (goodIn_of _ (by decide +kernel)) ggX1_mark_X1_pearMark
set_option maxRecDepth 20000 in
theorem ggX1_mark_X1_nutMark : GoodIn wsX1_mark wsX1_nutMark := goodIn_r _ [22, 8, 9, 10, 5, 11, 12, 13, 2, 3, 4, 6, 7, 14, 15, 16, 17, 18, 28, 29, 30, 31, 32, 33, 34] (by decide +kernel) (by decide +kernel)
set_option maxRecDepth 20000 in
theorem gX1_mark_X1_nutMark : GoodIn wsX1_mark (wsV RX1 69 RX1 yX1_nutMark wsX1_nutMark) := goodIn_app (goodIn_of _ (by decide +kernel)) ggX1_mark_X1_nutMark
set_option maxRecDepth 20000 in
theorem ggX1_mark_X1_leave : GoodIn wsX1_mark wsX1_leave := goodIn_r _ [11, 12, 13, 28, 29, 30, 31, 32, 33, 34] (by decide +kernel) (by decide +kernel)
set_option maxRecDepth 20000 in
theorem gX1_mark_X1_leave : GoodIn wsX1_mark (wsV RX1 56 RX1 yX1_leave wsX1_leave) := goodIn_app (goodIn_of _ (by decide +kernel)) ggX1_mark_X1_leave
set_option maxRecDepth 20000 in
theorem ggX1_mark_X1_ashMark : GoodIn wsX1_mark wsX1_ashMark := goodIn_r _ [26, 27, 8, 9, 10, 5, 11, 12, 13, 14, 15, 16, 17, 18, 28, 29, 30, 31, 32, 33, 34] (by decide +kernel) (by decide +kernel)
set_option maxRecDepth 20000 in
theorem gX1_mark_X1_ashMark : GoodIn wsX1_mark (wsV RX1 72 RX1 yX1_ashMark wsX1_ashMark) := goodIn_app (goodIn_of _ (by decide +kernel)) ggX1_mark_X1_ashMark
set_option maxRecDepth 20000 in
theorem ggX1_mark_X1_lentMark : GoodIn wsX1_mark wsX1_lentMark := goodIn_r _ [17, 18, 8, 9, 10, 5, 11, 12, 13, 28, 29, 30, 31, 32, 33, 34] (by decide +kernel) (by decide +kernel)
set_option maxRecDepth 20000 in
theorem gX1_mark_X1_lentMark : GoodIn wsX1_mark (wsV RX1 75 RX1 yX1_lentMark wsX1_lentMark) := goodIn_app (goodIn_of _ (by decide +kernel)) ggX1_mark_X1_lentMark
theorem dX1_mark_0 : decode cX1_mark 0 = .ok (.aload_n 0, 1) := by decide +kernel
theorem dX1_mark_1 : decode cX1_mark 1 = .ok (.getfield 31, 3) := by decide +kernel
theorem dX1_mark_4 : decode cX1_mark 4 = .ok (.tableswitch 64 1 5 #[36, 41, 46, 59, 59], 36) := by decide +kernel
theorem dX1_mark_40 : decode cX1_mark 40 = .ok (.aload_n 0, 1) := by decide +kernel
theorem dX1_mark_41 : decode cX1_mark 41 = .ok (.invokevirtual 66, 3) := by decide +kernel
theorem dX1_mark_44 : decode cX1_mark 44 = .ok (.ireturn, 1) := by decide +kernel
theorem dX1_mark_45 : decode cX1_mark 45 = .ok (.aload_n 0, 1) := by decide +kernel
theorem dX1_mark_46 : decode cX1_mark 46 = .ok (.invokevirtual 69, 3) := by decide +kernel
theorem dX1_mark_49 : decode cX1_mark 49 = .ok (.ireturn, 1) := by decide +kernel
theorem dX1_mark_50 : decode cX1_mark 50 = .ok (.aload_n 0, 1) := by decide +kernel
theorem dX1_mark_51 : decode cX1_mark 51 = .ok (.bipush 24, 2) := by decide +kernel
theorem dX1_mark_53 : decode cX1_mark 53 = .ok (.invokevirtual 56, 3) := by decide +kernel
theorem dX1_mark_56 : decode cX1_mark 56 = .ok (.iconst 2, 1) := by decide +kernel
theorem dX1_mark_57 : decode cX1_mark 57 = .ok (.aload_n 0, 1) := by decide +kernel
theorem dX1_mark_58 : decode cX1_mark 58 = .ok (.invokevirtual 69, 3) := by decide +kernel
theorem dX1_mark_61 : decode cX1_mark 61 = .ok (.imul, 1) := by decide +kernel
theorem dX1_mark_62 : decode cX1_mark 62 = .ok (.ireturn, 1) := by decide +kernel
theorem dX1_mark_63 : decode cX1_mark 63 = .ok (.aload_n 0, 1) := by decide +kernel
theorem dX1_mark_64 : decode cX1_mark 64 = .ok (.invokevirtual 72, 3) := by decide +kernel
theorem dX1_mark_67 : decode cX1_mark 67 = .ok (.ireturn, 1) := by decide +kernel
theorem dX1_mark_68 : decode cX1_mark 68 = .ok (.aload_n 0, 1) := by decide +kernel
theorem dX1_mark_69 : decode cX1_mark 69 = .ok (.invokevirtual 75, 3) := by decide +kernel
theorem dX1_mark_72 : decode cX1_mark 72 = .ok (.ireturn, 1) := by decide +kernel
set_option maxRecDepth 20000 in
theorem ggX1_lentSize_X1_leave : GoodIn wsX1_lentSize wsX1_leave := goodIn_r _ [6, 7, 8, 9, 10, 11, 12, 13, 14, 15] (by decide +kernel) (by decide +kernel)
set_option maxRecDepth 20000 in
theorem gX1_lentSize_X1_leave : GoodIn wsX1_lentSize (wsV RX1 56 RX1 yX1_leave wsX1_leave) := goodIn_app (goodIn_of _ (by decide +kernel)) ggX1_lentSize_X1_leave
theorem dX1_lentSize_0 : decode cX1_lentSize 0 = .ok (.aload_n 0, 1) := by decide +kernel
theorem dX1_lentSize_1 : decode cX1_lentSize 1 = .ok (.bipush 10, 2) := by decide +kernel
theorem dX1_lentSize_3 : decode cX1_lentSize 3 = .ok (.invokevirtual 56, 3) := by decide +kernel
theorem dX1_lentSize_6 : decode cX1_lentSize 6 = .ok (.aload_n 0, 1) := by decide +kernel
theorem dX1_lentSize_7 : decode cX1_lentSize 7 = .ok (.getfield 43, 3) := by decide +kernel
theorem dX1_lentSize_10 : decode cX1_lentSize 10 = .ok (.ireturn, 1) := by decide +kernel
set_option maxRecDepth 20000 in
theorem ggX1_pearSize_X1_leave : GoodIn wsX1_pearSize wsX1_leave := goodIn_r _ [5, 6, 7, 37, 38, 39, 40, 41, 42, 43] (by decide +kernel) (by decide +kernel)
set_option maxRecDepth 20000 in
theorem gX1_pearSize_X1_leave : GoodIn wsX1_pearSize (wsV RX1 56 RX1 yX1_leave wsX1_leave) := goodIn_app (goodIn_of _ (by decide +kernel)) ggX1_pearSize_X1_leave
set_option maxRecDepth 20000 in
theorem ggX1_pearSize_X1_lentSize : GoodIn wsX1_pearSize wsX1_lentSize := goodIn_r _ [11, 12, 1, 2, 3, 4, 5, 6, 7, 37, 38, 39, 40, 41, 42, 43] (by decide +kernel) (by decide +kernel)
set_option maxRecDepth 20000 in
theorem gX1_pearSize_X1_lentSize : GoodIn wsX1_pearSize (wsV RX1 63 RX1 yX1_lentSize wsX1_lentSize) := goodIn_app (goodIn_of _ (by decide +kernel)) ggX1_pearSize_X1_lentSize
set_option maxRecDepth 20000 in
theorem ggX1_pearSize_X1_mark : GoodIn wsX1_pearSize wsX1_mark := goodIn_r _ [16, 17, 18, 19, 20, 4, 21, 22, 1, 2, 3, 5, 6, 7, 23, 24, 25, 26, 27, 28, 29, 30, 31, 32, 33, 34, 35, 36, 37, 38, 39, 40, 41, 42, 43] (by decide +kernel) (by decide +kernel)
set_option maxRecDepth 20000 in
theorem gX1_pearSize_X1_mark : GoodIn wsX1_pearSize (wsV RX1 78 RX1 yX1_mark wsX1_mark) := goodIn_app (goodIn_of _ (by decide +kernel)) ggX1_pearSize_X1_mark
theorem dX1_pearSize_0 : decode cX1_pearSize 0 = .ok (.aload_n 0, 1) := by decide +kernel
theorem dX1_pearSize_1 : decode cX1_pearSize 1 = .ok (.bipush 11, 2) := by decide +kernel
theorem dX1_pearSize_3 : decode cX1_pearSize 3 = .ok (.invokevirtual 56, 3) := by decide +kernel
theorem dX1_pearSize_6 : decode cX1_pearSize 6 = .ok (.aload_n 0, 1) := by decide +kernel
theorem dX1_pearSize_7 : decode cX1_pearSize 7 = .ok (.invokevirtual 63, 3) := by decide +kernel
theorem dX1_pearSize_10 : decode cX1_pearSize 10 = .ok (.istore_n 1, 1) := by decide +kernel
theorem dX1_pearSize_11 : decode cX1_pearSize 11 = .ok (.iload_n 1, 1) := by decide +kernel
theorem dX1_pearSize_12 : decode cX1_pearSize 12 = .ok (.aload_n 0, 1) := by decide +kernel
theorem dX1_pearSize_13 : decode cX1_pearSize 13 = .ok (.invokevirtual 78, 3) := by decide +kernel
theorem dX1_pearSize_16 : decode cX1_pearSize 16 = .ok (.iadd, 1) := by decide +kernel
theorem dX1_pearSize_17 : decode cX1_pearSize 17 = .ok (.ireturn, 1) := by decide +kernel
set_option maxRecDepth 20000 in
theorem ggX1_ashSize_X1_leave : GoodIn wsX1_ashSize wsX1_leave := goodIn_r _ [5, 6, 7, 37, 38, 39, 40, 41, 42, 43] (by decide +kernel) (by decide +kernel)
set_option maxRecDepth 20000 in
theorem gX1_ashSize_X1_leave : GoodIn wsX1_ashSize (wsV RX1 56 RX1 yX1_leave wsX1_leave) := goodIn_app (goodIn_of _ (by decide +kernel)) ggX1_ashSize_X1_leave
set_option maxRecDepth 20000 in
theorem ggX1_ashSize_X1_lentSize : GoodIn wsX1_ashSize wsX1_lentSize := goodIn_r _ [11, 12, 1, 2, 3, 4, 5, 6, 7, 37, 38, 39, 40, 41, 42, 43] (by decide +kernel) (by decide +kernel)
set_option maxRecDepth 20000 in
theorem gX1_ashSize_X1_lentSize : GoodIn wsX1_ashSize (wsV RX1 63 RX1 yX1_lentSize wsX1_lentSize) := goodIn_app (goodIn_of _ (by decide +kernel)) ggX1_ashSize_X1_lentSize
set_option maxRecDepth 20000 in
theorem ggX1_ashSize_X1_mark : GoodIn wsX1_ashSize wsX1_mark := goodIn_r _ [16, 17, 18, 19, 20, 4, 21, 22, 1, 2, 3, 5, 6, 7, 23, 24, 25, 26, 27, 28, 29, 30, 31, 32, 33, 34, 35, 36, 37, 38, 39, 40, 41, 42, 43] (by decide +kernel) (by decide +kernel)
set_option maxRecDepth 20000 in
theorem gX1_ashSize_X1_mark : GoodIn wsX1_ashSize (wsV RX1 78 RX1 yX1_mark wsX1_mark) := goodIn_app (goodIn_of _ (by decide +kernel)) ggX1_ashSize_X1_mark
theorem dX1_ashSize_0 : decode cX1_ashSize 0 = .ok (.aload_n 0, 1) := by decide +kernel
theorem dX1_ashSize_1 : decode cX1_ashSize 1 = .ok (.bipush 13, 2) := by decide +kernel
theorem dX1_ashSize_3 : decode cX1_ashSize 3 = .ok (.invokevirtual 56, 3) := by decide +kernel
theorem dX1_ashSize_6 : decode cX1_ashSize 6 = .ok (.aload_n 0, 1) := by decide +kernel
theorem dX1_ashSize_7 : decode cX1_ashSize 7 = .ok (.invokevirtual 63, 3) := by decide +kernel
theorem dX1_ashSize_10 : decode cX1_ashSize 10 = .ok (.istore_n 1, 1) := by decide +kernel
theorem dX1_ashSize_11 : decode cX1_ashSize 11 = .ok (.iload_n 1, 1) := by decide +kernel
theorem dX1_ashSize_12 : decode cX1_ashSize 12 = .ok (.aload_n 0, 1) := by decide +kernel
theorem dX1_ashSize_13 : decode cX1_ashSize 13 = .ok (.invokevirtual 78, 3) := by decide +kernel
theorem dX1_ashSize_16 : decode cX1_ashSize 16 = .ok (.isub, 1) := by decide +kernel
theorem dX1_ashSize_17 : decode cX1_ashSize 17 = .ok (.ireturn, 1) := by decide +kernel
set_option maxRecDepth 20000 in
theorem ggX1_lentMark_X1_leave : GoodIn wsX1_lentMark wsX1_leave := goodIn_r _ [6, 7, 8, 9, 10, 11, 12, 13, 14, 15] (by decide +kernel) (by decide +kernel)
set_option maxRecDepth 20000 in
theorem gX1_lentMark_X1_leave : GoodIn wsX1_lentMark (wsV RX1 56 RX1 yX1_leave wsX1_leave) := goodIn_app (goodIn_of _ (by decide +kernel)) ggX1_lentMark_X1_leave
theorem dX1_lentMark_0 : decode cX1_lentMark 0 = .ok (.aload_n 0, 1) := by decide +kernel
theorem dX1_lentMark_1 : decode cX1_lentMark 1 = .ok (.bipush 20, 2) := by decide +kernel
theorem dX1_lentMark_3 : decode cX1_lentMark 3 = .ok (.invokevirtual 56, 3) := by decide +kernel
theorem dX1_lentMark_6 : decode cX1_lentMark 6 = .ok (.aload_n 0, 1) := by decide +kernel
theorem dX1_lentMark_7 : decode cX1_lentMark 7 = .ok (.getfield 25, 3) := by decide +kernel
theorem dX1_lentMark_10 : decode cX1_lentMark 10 = .ok (.ireturn, 1) := by decide +kernel
set_option maxRecDepth 20000 in
theorem ggX1_pearMark_X1_leave : GoodIn wsX1_pearMark wsX1_leave := goodIn_r _ [6, 7, 8, 14, 15, 16, 17, 18, 19, 20] (by decide +kernel) (by decide +kernel)
set_option maxRecDepth 20000 in
theorem gX1_pearMark_X1_leave : GoodIn wsX1_pearMark (wsV RX1 56 RX1 yX1_leave wsX1_leave) := goodIn_app (goodIn_of _ (by decide +kernel)) ggX1_pearMark_X1_leave
set_option maxRecDepth 20000 in
theorem ggX1_pearMark_X1_lentMark : GoodIn wsX1_pearMark wsX1_lentMark := goodIn_r _ [12, 13, 2, 3, 4, 5, 6, 7, 8, 14, 15, 16, 17, 18, 19, 20] (by decide +kernel) (by decide +kernel)
set_option maxRecDepth 20000 in
theorem gX1_pearMark_X1_lentMark : GoodIn wsX1_pearMark (wsV RX1 75 RX1 yX1_lentMark wsX1_lentMark) := goodIn_app (goodIn_of _ (by decide +kernel)) ggX1_pearMark_X1_lentMark
theorem dX1_pearMark_0 : decode cX1_pearMark 0 = .ok (.aload_n 0, 1) := by decide +kernel
theorem dX1_pearMark_1 : decode cX1_pearMark 1 = .ok (.bipush 21, 2) := by decide +kernel
theorem dX1_pearMark_3 : decode cX1_pearMark 3 = .ok (.invokevirtual 56, 3) := by decide +kernel
theorem dX1_pearMark_6 : decode cX1_pearMark 6 = .ok (.aload_n 0, 1) := by decide +kernel
theorem dX1_pearMark_7 : decode cX1_pearMark 7 = .ok (.invokevirtual 75, 3) := by decide +kernel
theorem dX1_pearMark_10 : decode cX1_pearMark 10 = .ok (.aload_n 0, 1) := by decide +kernel
theorem dX1_pearMark_11 : decode cX1_pearMark 11 = .ok (.getfield 37, 3) := by decide +kernel
theorem dX1_pearMark_14 : decode cX1_pearMark 14 = .ok (.iadd, 1) := by decide +kernel
theorem dX1_pearMark_15 : decode cX1_pearMark 15 = .ok (.ireturn, 1) := by decide +kernel
set_option maxRecDepth 20000 in
theorem ggX1_nutMark_X1_leave : GoodIn wsX1_nutMark wsX1_leave := goodIn_r _ [5, 6, 7, 18, 19, 20, 21, 22, 23, 24] (by decide +kernel) (by decide +kernel)
set_option maxRecDepth 20000 in
theorem gX1_nutMark_X1_leave : GoodIn wsX1_nutMark (wsV RX1 56 RX1 yX1_leave wsX1_leave) := goodIn_app (goodIn_of _ (by decide +kernel)) ggX1_nutMark_X1_leave
set_option maxRecDepth 20000 in
theorem ggX1_nutMark_X1_pearMark : GoodIn wsX1_nutMark wsX1_pearMark := goodIn_r _ [11, 12, 1, 2, 3, 4, 5, 6, 7, 13, 14, 15, 16, 17, 18, 19, 20, 21, 22, 23, 24] (by decide +kernel) (by decide +kernel)
set_option maxRecDepth 20000 in
theorem gX1_nutMark_X1_pearMark : GoodIn wsX1_nutMark (wsV RX1 66 RX1 yX1_pearMark wsX1_pearMark) := goodIn_app (goodIn_of _ (by decide +kernel)) ggX1_nutMark_X1_pearMark
theorem dX1_nutMark_0 : decode cX1_nutMark 0 = .ok (.aload_n 0, 1) := by decide +kernel
theorem dX1_nutMark_1 : decode cX1_nutMark 1 = .ok (.bipush 22, 2) := by decide +kernel
theorem dX1_nutMark_3 : decode cX1_nutMark 3 = .ok (.invokevirtual 56, 3) := by decide +kernel
theorem dX1_nutMark_6 : decode cX1_nutMark 6 = .ok (.aload_n 0, 1) := by decide +kernel
theorem dX1_nutMark_7 : decode cX1_nutMark 7 = .ok (.invokevirtual 66, 3) := by decide +kernel
theorem dX1_nutMark_10 : decode cX1_nutMark 10 = .ok (.sipush 1000, 3) := by decide +kernel
theorem dX1_nutMark_13 : decode cX1_nutMark 13 = .ok (.isub, 1) := by decide +kernel
theorem dX1_nutMark_14 : decode cX1_nutMark 14 = .ok (.ireturn, 1) := by decide +kernel
set_option maxRecDepth 20000 in
theorem ggX1_ashMark_X1_leave : GoodIn wsX1_ashMark wsX1_leave := goodIn_r _ [6, 7, 8, 14, 15, 16, 17, 18, 19, 20] (by decide +kernel) (by decide +kernel)
set_option maxRecDepth 20000 in
theorem gX1_ashMark_X1_leave : GoodIn wsX1_ashMark (wsV RX1 56 RX1 yX1_leave wsX1_leave) := goodIn_app (goodIn_of _ (by decide +kernel)) ggX1_ashMark_X1_leave
set_option maxRecDepth 20000 in
theorem ggX1_ashMark_X1_lentMark : GoodIn wsX1_ashMark wsX1_lentMark := goodIn_r _ [12, 13, 2, 3, 4, 5, 6, 7, 8, 14, 15, 16, 17, 18, 19, 20] (by decide +kernel) (by decide +kernel)
set_option maxRecDepth 20000 in
theorem gX1_ashMark_X1_lentMark : GoodIn wsX1_ashMark (wsV RX1 75 RX1 yX1_lentMark wsX1_lentMark) := goodIn_app (goodIn_of _ (by decide +kernel)) ggX1_ashMark_X1_lentMark
theorem dX1_ashMark_0 : decode cX1_ashMark 0 = .ok (.aload_n 0, 1) := by decide +kernel
theorem dX1_ashMark_1 : decode cX1_ashMark 1 = .ok (.bipush 23, 2) := by decide +kernel
theorem dX1_ashMark_3 : decode cX1_ashMark 3 = .ok (.invokevirtual 56, 3) := by decide +kernel
theorem dX1_ashMark_6 : decode cX1_ashMark 6 = .ok (.aload_n 0, 1) := by decide +kernel
theorem dX1_ashMark_7 : decode cX1_ashMark 7 = .ok (.invokevirtual 75, 3) := by decide +kernel
theorem dX1_ashMark_10 : decode cX1_ashMark 10 = .ok (.bipush 10, 2) := by decide +kernel
theorem dX1_ashMark_12 : decode cX1_ashMark 12 = .ok (.aload_n 0, 1) := by decide +kernel
theorem dX1_ashMark_13 : decode cX1_ashMark 13 = .ok (.getfield 49, 3) := by decide +kernel
theorem dX1_ashMark_16 : decode cX1_ashMark 16 = .ok (.imul, 1) := by decide +kernel
theorem dX1_ashMark_17 : decode cX1_ashMark 17 = .ok (.iadd, 1) := by decide +kernel
theorem dX1_ashMark_18 : decode cX1_ashMark 18 = .ok (.ireturn, 1) := by decide +kernel
theorem dX1_leave_0 : decode cX1_leave 0 = .ok (.aload_n 0, 1) := by decide +kernel
theorem dX1_leave_1 : decode cX1_leave 1 = .ok (.getfield 15, 3) := by decide +kernel
theorem dX1_leave_4 : decode cX1_leave 4 = .ok (.bipush 16, 2) := by decide +kernel
theorem dX1_leave_6 : decode cX1_leave 6 = .ok (.if_icmp .ge 23, 3) := by decide +kernel
theorem dX1_leave_9 : decode cX1_leave 9 = .ok (.aload_n 0, 1) := by decide +kernel
theorem dX1_leave_10 : decode cX1_leave 10 = .ok (.getfield 11, 3) := by decide +kernel
theorem dX1_leave_13 : decode cX1_leave 13 = .ok (.aload_n 0, 1) := by decide +kernel
theorem dX1_leave_14 : decode cX1_leave 14 = .ok (.getfield 15, 3) := by decide +kernel
theorem dX1_leave_17 : decode cX1_leave 17 = .ok (.iload_n 1, 1) := by decide +kernel
theorem dX1_leave_18 : decode cX1_leave 18 = .ok (.iastore, 1) := by decide +kernel
theorem dX1_leave_19 : decode cX1_leave 19 = .ok (.aload_n 0, 1) := by decide +kernel
theorem dX1_leave_20 : decode cX1_leave 20 = .ok (.dup, 1) := by decide +kernel
theorem dX1_leave_21 : decode cX1_leave 21 = .ok (.getfield 15, 3) := by decide +kernel
theorem dX1_leave_24 : decode cX1_leave 24 = .ok (.iconst 1, 1) := by decide +kernel
theorem dX1_leave_25 : decode cX1_leave 25 = .ok (.iadd, 1) := by decide +kernel
theorem dX1_leave_26 : decode cX1_leave 26 = .ok (.putfield 15, 3) := by decide +kernel
theorem dX1_leave_29 : decode cX1_leave 29 = .ok (.return_, 1) := by decide +kernel
theorem dX2_init_0 : decode cX2_init 0 = .ok (.aload_n 0, 1) := by decide +kernel
theorem dX2_init_1 : decode cX2_init 1 = .ok (.invokespecial 1, 3) := by decide +kernel
theorem dX2_init_4 : decode cX2_init 4 = .ok (.aload_n 0, 1) := by decide +kernel
theorem dX2_init_5 : decode cX2_init 5 = .ok (.lconst 1, 1) := by decide +kernel
theorem dX2_init_6 : decode cX2_init 6 = .ok (.putfield 7, 3) := by decide +kernel
theorem dX2_init_9 : decode cX2_init 9 = .ok (.return_, 1) := by decide +kernel
set_option maxRecDepth 20000 in
theorem ggX2_become_X2_commonDivisor : GoodIn wsX2_become wsX2_commonDivisor := goodIn_r _ [6] (by decide +kernel) (by decide +kernel)
set_option maxRecDepth 20000 in
theorem gX2_become_X2_commonDivisor : GoodIn wsX2_become (va_wsS RX2 13 yX2_commonDivisor wsX2_commonDivisor) := goodIn_app (goodIn_of _ (by decide +kernel)) ggX2_become_X2_commonDivisor
theorem dX2_become_0 : decode cX2_become 0 = .ok (.lload_n 1, 1) := by decide +kernel
theorem dX2_become_1 : decode cX2_become 1 = .ok (.lload_n 3, 1) := by decide +kernel
theorem dX2_become_2 : decode cX2_become 2 = .ok (.invokestatic 13, 3) := by decide +kernel
theorem dX2_become_5 : decode cX2_become 5 = .ok (.lstore 5, 2) := by decide +kernel
theorem dX2_become_7 : decode cX2_become 7 = .ok (.lload 5, 2) := by decide +kernel
theorem dX2_become_9 : decode cX2_become 9 = .ok (.lconst 0, 1) := by decide +kernel
theorem dX2_become_10 : decode cX2_become 10 = .ok (.lcmp, 1) := by decide +kernel
theorem dX2_become_11 : decode cX2_become 11 = .ok (.ifCond .eq 19, 3) := by decide +kernel
theorem dX2_become_14 : decode cX2_become 14 = .ok (.aload_n 0, 1) := by decide +kernel
theorem dX2_become_15 : decode cX2_become 15 = .ok (.lload_n 1, 1) := by decide +kernel
theorem dX2_become_16 : decode cX2_become 16 = .ok (.lload 5, 2) := by decide +kernel
theorem dX2_become_18 : decode cX2_become 18 = .ok (.ldiv, 1) := by decide +kernel
theorem dX2_become_19 : decode cX2_become 19 = .ok (.putfield 17, 3) := by decide +kernel
theorem dX2_become_22 : decode cX2_become 22 = .ok (.aload_n 0, 1) := by decide +kernel
theorem dX2_become_23 : decode cX2_become 23 = .ok (.lload_n 3, 1) := by decide +kernel
theorem dX2_become_24 : decode cX2_become 24 = .ok (.lload 5, 2) := by decide +kernel
theorem dX2_become_26 : decode cX2_become 26 = .ok (.ldiv, 1) := by decide +kernel
theorem dX2_become_27 : decode cX2_become 27 = .ok (.putfield 7, 3) := by decide +kernel
theorem dX2_become_30 : decode cX2_become 30 = .ok (.return_, 1) := by decide +kernel
theorem dX2_part_0 : decode cX2_part 0 = .ok (.iload_n 1, 1) := by decide +kernel
theorem dX2_part_1 : decode cX2_part 1 = .ok (.ifCond .ne 10, 3) := by decide +kernel
theorem dX2_part_4 : decode cX2_part 4 = .ok (.aload_n 0, 1) := by decide +kernel
theorem dX2_part_5 : decode cX2_part 5 = .ok (.getfield 17, 3) := by decide +kernel
theorem dX2_part_8 : decode cX2_part 8 = .ok (.goto 7, 3) := by decide +kernel
theorem dX2_part_11 : decode cX2_part 11 = .ok (.aload_n 0, 1) := by decide +kernel
theorem dX2_part_12 : decode cX2_part 12 = .ok (.getfield 7, 3) := by decide +kernel
theorem dX2_part_15 : decode cX2_part 15 = .ok (.lreturn, 1) := by decide +kernel
theorem dX2_commonDivisor_0 : decode cX2_commonDivisor 0 = .ok (.lload_n 0, 1) := by decide +kernel
theorem dX2_commonDivisor_1 : decode cX2_commonDivisor 1 = .ok (.lstore 4, 2) := by decide +kernel
theorem dX2_commonDivisor_3 : decode cX2_commonDivisor 3 = .ok (.lload_n 2, 1) := by decide +kernel
theorem dX2_commonDivisor_4 : decode cX2_commonDivisor 4 = .ok (.lstore 6, 2) := by decide +kernel
theorem dX2_commonDivisor_6 : decode cX2_commonDivisor 6 = .ok (.iconst 0, 1) := by decide +kernel
theorem dX2_commonDivisor_7 : decode cX2_commonDivisor 7 = .ok (.istore 8, 2) := by decide +kernel
theorem dX2_commonDivisor_9 : decode cX2_commonDivisor 9 = .ok (.iload 8, 2) := by decide +kernel
theorem dX2_commonDivisor_11 : decode cX2_commonDivisor 11 = .ok (.sipush 1000, 3) := by decide +kernel
theorem dX2_commonDivisor_14 : decode cX2_commonDivisor 14 = .ok (.if_icmp .ge 31, 3) := by decide +kernel
theorem dX2_commonDivisor_17 : decode cX2_commonDivisor 17 = .ok (.lload 6, 2) := by decide +kernel
theorem dX2_commonDivisor_19 : decode cX2_commonDivisor 19 = .ok (.lconst 0, 1) := by decide +kernel
theorem dX2_commonDivisor_20 : decode cX2_commonDivisor 20 = .ok (.lcmp, 1) := by decide +kernel
theorem dX2_commonDivisor_21 : decode cX2_commonDivisor 21 = .ok (.ifCond .eq 24, 3) := by decide +kernel
theorem dX2_commonDivisor_24 : decode cX2_commonDivisor 24 = .ok (.lload 4, 2) := by decide +kernel
theorem dX2_commonDivisor_26 : decode cX2_commonDivisor 26 = .ok (.lload 6, 2) := by decide +kernel
theorem dX2_commonDivisor_28 : decode cX2_commonDivisor 28 = .ok (.lrem, 1) := by decide +kernel
theorem dX2_commonDivisor_29 : decode cX2_commonDivisor 29 = .ok (.lstore 9, 2) := by decide +kernel
theorem dX2_commonDivisor_31 : decode cX2_commonDivisor 31 = .ok (.lload 6, 2) := by decide +kernel
theorem dX2_commonDivisor_33 : decode cX2_commonDivisor 33 = .ok (.lstore 4, 2) := by decide +kernel
theorem dX2_commonDivisor_35 : decode cX2_commonDivisor 35 = .ok (.lload 9, 2) := by decide +kernel
theorem dX2_commonDivisor_37 : decode cX2_commonDivisor 37 = .ok (.lstore 6, 2) := by decide +kernel
theorem dX2_commonDivisor_39 : decode cX2_commonDivisor 39 = .ok (.iinc 8 1, 3) := by decide +kernel
theorem dX2_commonDivisor_42 : decode cX2_commonDivisor 42 = .ok (.goto (-33), 3) := by decide +kernel
theorem dX2_commonDivisor_45 : decode cX2_commonDivisor 45 = .ok (.lload 4, 2) := by decide +kernel
theorem dX2_commonDivisor_47 : decode cX2_commonDivisor 47 = .ok (.lreturn, 1) := by decide +kernel
