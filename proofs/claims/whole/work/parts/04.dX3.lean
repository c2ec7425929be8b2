theorem dX3_init_0 : decode cX3_init 0 = .ok (.aload_n 0, 1) := by decide +kernel
theorem dX3_init_1 : decode cX3_init 1 = .ok (.invokespecial 3, 3) := by decide +kernel
theorem dX3_init_4 : decode cX3_init 4 = .ok (.aload_n 0, 1) := by decide +kernel
theorem dX3_init_5 : decode cX3_init 5 = .ok (.bipush 12, 2) := by decide +kernel
theorem dX3_init_7 : decode cX3_init 7 = .ok (.newarray .int, 2) := by decide +kernel
theorem dX3_init_9 : decode cX3_init 9 = .ok (.putfield 9, 3) := by decide +kernel
theorem dX3_init_12 : decode cX3_init 12 = .ok (.aload_n 0, 1) := by decide +kernel
theorem dX3_init_13 : decode cX3_init 13 = .ok (.iconst 5, 1) := by decide +kernel
theorem dX3_init_14 : decode cX3_init 14 = .ok (.newarray .int, 2) := by decide +kernel
theorem dX3_init_16 : decode cX3_init 16 = .ok (.putfield 15, 3) := by decide +kernel
theorem dX3_init_19 : decode cX3_init 19 = .ok (.aload_n 0, 1) := by decide +kernel
theorem dX3_init_20 : decode cX3_init 20 = .ok (.iconst 5, 1) := by decide +kernel
theorem dX3_init_21 : decode cX3_init 21 = .ok (.newarray .int, 2) := by decide +kernel
theorem dX3_init_23 : decode cX3_init 23 = .ok (.putfield 18, 3) := by decide +kernel
theorem dX3_init_26 : decode cX3_init 26 = .ok (.aload_n 0, 1) := by decide +kernel
theorem dX3_init_27 : decode cX3_init 27 = .ok (.iconst 5, 1) := by decide +kernel
theorem dX3_init_28 : decode cX3_init 28 = .ok (.newarray .int, 2) := by decide +kernel
theorem dX3_init_30 : decode cX3_init 30 = .ok (.putfield 21, 3) := by decide +kernel
theorem dX3_init_33 : decode cX3_init 33 = .ok (.aload_n 0, 1) := by decide +kernel
theorem dX3_init_34 : decode cX3_init 34 = .ok (.iconst 5, 1) := by decide +kernel
theorem dX3_init_35 : decode cX3_init 35 = .ok (.newarray .int, 2) := by decide +kernel
theorem dX3_init_37 : decode cX3_init 37 = .ok (.putfield 24, 3) := by decide +kernel
theorem dX3_init_40 : decode cX3_init 40 = .ok (.aload_n 0, 1) := by decide +kernel
theorem dX3_init_41 : decode cX3_init 41 = .ok (.iconst 4, 1) := by decide +kernel
theorem dX3_init_42 : decode cX3_init 42 = .ok (.newarray .int, 2) := by decide +kernel
theorem dX3_init_44 : decode cX3_init 44 = .ok (.putfield 27, 3) := by decide +kernel
theorem dX3_init_47 : decode cX3_init 47 = .ok (.aload_n 0, 1) := by decide +kernel
theorem dX3_init_48 : decode cX3_init 48 = .ok (.iconst 4, 1) := by decide +kernel
theorem dX3_init_49 : decode cX3_init 49 = .ok (.newarray .int, 2) := by decide +kernel
theorem dX3_init_51 : decode cX3_init 51 = .ok (.putfield 30, 3) := by decide +kernel
theorem dX3_init_54 : decode cX3_init 54 = .ok (.aload_n 0, 1) := by decide +kernel
theorem dX3_init_55 : decode cX3_init 55 = .ok (.iconst 4, 1) := by decide +kernel
theorem dX3_init_56 : decode cX3_init 56 = .ok (.newarray .int, 2) := by decide +kernel
theorem dX3_init_58 : decode cX3_init 58 = .ok (.putfield 33, 3) := by decide +kernel
theorem dX3_init_61 : decode cX3_init 61 = .ok (.aload_n 0, 1) := by decide +kernel
theorem dX3_init_62 : decode cX3_init 62 = .ok (.iconst 4, 1) := by decide +kernel
theorem dX3_init_63 : decode cX3_init 63 = .ok (.newarray .int, 2) := by decide +kernel
theorem dX3_init_65 : decode cX3_init 65 = .ok (.putfield 36, 3) := by decide +kernel
theorem dX3_init_68 : decode cX3_init 68 = .ok (.aload_n 0, 1) := by decide +kernel
theorem dX3_init_69 : decode cX3_init 69 = .ok (.iconst 4, 1) := by decide +kernel
theorem dX3_init_70 : decode cX3_init 70 = .ok (.newarray .int, 2) := by decide +kernel
theorem dX3_init_72 : decode cX3_init 72 = .ok (.putfield 39, 3) := by decide +kernel
theorem dX3_init_75 : decode cX3_init 75 = .ok (.return_, 1) := by decide +kernel
theorem dX3_clear_0 : decode cX3_clear 0 = .ok (.aload_n 0, 1) := by decide +kernel
theorem dX3_clear_1 : decode cX3_clear 1 = .ok (.iconst 0, 1) := by decide +kernel
theorem dX3_clear_2 : decode cX3_clear 2 = .ok (.putfield 42, 3) := by decide +kernel
theorem dX3_clear_5 : decode cX3_clear 5 = .ok (.aload_n 0, 1) := by decide +kernel
theorem dX3_clear_6 : decode cX3_clear 6 = .ok (.iconst 0, 1) := by decide +kernel
theorem dX3_clear_7 : decode cX3_clear 7 = .ok (.putfield 46, 3) := by decide +kernel
theorem dX3_clear_10 : decode cX3_clear 10 = .ok (.aload_n 0, 1) := by decide +kernel
theorem dX3_clear_11 : decode cX3_clear 11 = .ok (.iconst 0, 1) := by decide +kernel
theorem dX3_clear_12 : decode cX3_clear 12 = .ok (.putfield 49, 3) := by decide +kernel
theorem dX3_clear_15 : decode cX3_clear 15 = .ok (.aload_n 0, 1) := by decide +kernel
theorem dX3_clear_16 : decode cX3_clear 16 = .ok (.iconst 0, 1) := by decide +kernel
theorem dX3_clear_17 : decode cX3_clear 17 = .ok (.putfield 52, 3) := by decide +kernel
theorem dX3_clear_20 : decode cX3_clear 20 = .ok (.return_, 1) := by decide +kernel
theorem dX3_become_0 : decode cX3_become 0 = .ok (.aload_n 1, 1) := by decide +kernel
theorem dX3_become_1 : decode cX3_become 1 = .ok (.getfield 9, 3) := by decide +kernel
theorem dX3_become_4 : decode cX3_become 4 = .ok (.iconst 0, 1) := by decide +kernel
theorem dX3_become_5 : decode cX3_become 5 = .ok (.aload_n 0, 1) := by decide +kernel
theorem dX3_become_6 : decode cX3_become 6 = .ok (.getfield 9, 3) := by decide +kernel
theorem dX3_become_9 : decode cX3_become 9 = .ok (.iconst 0, 1) := by decide +kernel
theorem dX3_become_10 : decode cX3_become 10 = .ok (.bipush 12, 2) := by decide +kernel
theorem dX3_become_12 : decode cX3_become 12 = .ok (.invokestatic 55, 3) := by decide +kernel
theorem dX3_become_15 : decode cX3_become 15 = .ok (.aload_n 1, 1) := by decide +kernel
theorem dX3_become_16 : decode cX3_become 16 = .ok (.getfield 15, 3) := by decide +kernel
theorem dX3_become_19 : decode cX3_become 19 = .ok (.iconst 0, 1) := by decide +kernel
theorem dX3_become_20 : decode cX3_become 20 = .ok (.aload_n 0, 1) := by decide +kernel
theorem dX3_become_21 : decode cX3_become 21 = .ok (.getfield 15, 3) := by decide +kernel
theorem dX3_become_24 : decode cX3_become 24 = .ok (.iconst 0, 1) := by decide +kernel
theorem dX3_become_25 : decode cX3_become 25 = .ok (.iconst 5, 1) := by decide +kernel
theorem dX3_become_26 : decode cX3_become 26 = .ok (.invokestatic 55, 3) := by decide +kernel
theorem dX3_become_29 : decode cX3_become 29 = .ok (.aload_n 1, 1) := by decide +kernel
theorem dX3_become_30 : decode cX3_become 30 = .ok (.getfield 18, 3) := by decide +kernel
theorem dX3_become_33 : decode cX3_become 33 = .ok (.iconst 0, 1) := by decide +kernel
theorem dX3_become_34 : decode cX3_become 34 = .ok (.aload_n 0, 1) := by decide +kernel
theorem dX3_become_35 : decode cX3_become 35 = .ok (.getfield 18, 3) := by decide +kernel
theorem dX3_become_38 : decode cX3_become 38 = .ok (.iconst 0, 1) := by decide +kernel
theorem dX3_become_39 : decode cX3_become 39 = .ok (.iconst 5, 1) := by decide +kernel
theorem dX3_become_40 : decode cX3_become 40 = .ok (.invokestatic 55, 3) := by decide +kernel
theorem dX3_become_43 : decode cX3_become 43 = .ok (.aload_n 1, 1) := by decide +kernel
theorem dX3_become_44 : decode cX3_become 44 = .ok (.getfield 21, 3) := by decide +kernel
theorem dX3_become_47 : decode cX3_become 47 = .ok (.iconst 0, 1) := by decide +kernel
theorem dX3_become_48 : decode cX3_become 48 = .ok (.aload_n 0, 1) := by decide +kernel
theorem dX3_become_49 : decode cX3_become 49 = .ok (.getfield 21, 3) := by decide +kernel
theorem dX3_become_52 : decode cX3_become 52 = .ok (.iconst 0, 1) := by decide +kernel
theorem dX3_become_53 : decode cX3_become 53 = .ok (.iconst 5, 1) := by decide +kernel
theorem dX3_become_54 : decode cX3_become 54 = .ok (.invokestatic 55, 3) := by decide +kernel
theorem dX3_become_57 : decode cX3_become 57 = .ok (.aload_n 1, 1) := by decide +kernel
theorem dX3_become_58 : decode cX3_become 58 = .ok (.getfield 24, 3) := by decide +kernel
theorem dX3_become_61 : decode cX3_become 61 = .ok (.iconst 0, 1) := by decide +kernel
theorem dX3_become_62 : decode cX3_become 62 = .ok (.aload_n 0, 1) := by decide +kernel
theorem dX3_become_63 : decode cX3_become 63 = .ok (.getfield 24, 3) := by decide +kernel
theorem dX3_become_66 : decode cX3_become 66 = .ok (.iconst 0, 1) := by decide +kernel
theorem dX3_become_67 : decode cX3_become 67 = .ok (.iconst 5, 1) := by decide +kernel
theorem dX3_become_68 : decode cX3_become 68 = .ok (.invokestatic 55, 3) := by decide +kernel
theorem dX3_become_71 : decode cX3_become 71 = .ok (.aload_n 1, 1) := by decide +kernel
theorem dX3_become_72 : decode cX3_become 72 = .ok (.getfield 27, 3) := by decide +kernel
theorem dX3_become_75 : decode cX3_become 75 = .ok (.iconst 0, 1) := by decide +kernel
theorem dX3_become_76 : decode cX3_become 76 = .ok (.aload_n 0, 1) := by decide +kernel
theorem dX3_become_77 : decode cX3_become 77 = .ok (.getfield 27, 3) := by decide +kernel
theorem dX3_become_80 : decode cX3_become 80 = .ok (.iconst 0, 1) := by decide +kernel
theorem dX3_become_81 : decode cX3_become 81 = .ok (.iconst 4, 1) := by decide +kernel
theorem dX3_become_82 : decode cX3_become 82 = .ok (.invokestatic 55, 3) := by decide +kernel
theorem dX3_become_85 : decode cX3_become 85 = .ok (.aload_n 1, 1) := by decide +kernel
theorem dX3_become_86 : decode cX3_become 86 = .ok (.getfield 30, 3) := by decide +kernel
theorem dX3_become_89 : decode cX3_become 89 = .ok (.iconst 0, 1) := by decide +kernel
theorem dX3_become_90 : decode cX3_become 90 = .ok (.aload_n 0, 1) := by decide +kernel
theorem dX3_become_91 : decode cX3_become 91 = .ok (.getfield 30, 3) := by decide +kernel
theorem dX3_become_94 : decode cX3_become 94 = .ok (.iconst 0, 1) := by decide +kernel
theorem dX3_become_95 : decode cX3_become 95 = .ok (.iconst 4, 1) := by decide +kernel
theorem dX3_become_96 : decode cX3_become 96 = .ok (.invokestatic 55, 3) := by decide +kernel
theorem dX3_become_99 : decode cX3_become 99 = .ok (.aload_n 1, 1) := by decide +kernel
theorem dX3_become_100 : decode cX3_become 100 = .ok (.getfield 33, 3) := by decide +kernel
theorem dX3_become_103 : decode cX3_become 103 = .ok (.iconst 0, 1) := by decide +kernel
theorem dX3_become_104 : decode cX3_become 104 = .ok (.aload_n 0, 1) := by decide +kernel
theorem dX3_become_105 : decode cX3_become 105 = .ok (.getfield 33, 3) := by decide +kernel
theorem dX3_become_108 : decode cX3_become 108 = .ok (.iconst 0, 1) := by decide +kernel
theorem dX3_become_109 : decode cX3_become 109 = .ok (.iconst 4, 1) := by decide +kernel
theorem dX3_become_110 : decode cX3_become 110 = .ok (.invokestatic 55, 3) := by decide +kernel
theorem dX3_become_113 : decode cX3_become 113 = .ok (.aload_n 1, 1) := by decide +kernel
theorem dX3_become_114 : decode cX3_become 114 = .ok (.getfield 36, 3) := by decide +kernel
theorem dX3_become_117 : decode cX3_become 117 = .ok (.iconst 0, 1) := by decide +kernel
theorem dX3_become_118 : decode cX3_become 118 = .ok (.aload_n 0, 1) := by decide +kernel
theorem dX3_become_119 : decode cX3_become 119 = .ok (.getfield 36, 3) := by decide +kernel
theorem dX3_become_122 : decode cX3_become 122 = .ok (.iconst 0, 1) := by decide +kernel
theorem dX3_become_123 : decode cX3_become 123 = .ok (.iconst 4, 1) := by decide +kernel
theorem dX3_become_124 : decode cX3_become 124 = .ok (.invokestatic 55, 3) := by decide +kernel
theorem dX3_become_127 : decode cX3_become 127 = .ok (.aload_n 1, 1) := by decide +kernel
theorem dX3_become_128 : decode cX3_become 128 = .ok (.getfield 39, 3) := by decide +kernel
theorem dX3_become_131 : decode cX3_become 131 = .ok (.iconst 0, 1) := by decide +kernel
theorem dX3_become_132 : decode cX3_become 132 = .ok (.aload_n 0, 1) := by decide +kernel
theorem dX3_become_133 : decode cX3_become 133 = .ok (.getfield 39, 3) := by decide +kernel
theorem dX3_become_136 : decode cX3_become 136 = .ok (.iconst 0, 1) := by decide +kernel
theorem dX3_become_137 : decode cX3_become 137 = .ok (.iconst 4, 1) := by decide +kernel
theorem dX3_become_138 : decode cX3_become 138 = .ok (.invokestatic 55, 3) := by decide +kernel
theorem dX3_become_141 : decode cX3_become 141 = .ok (.aload_n 0, 1) := by decide +kernel
theorem dX3_become_142 : decode cX3_become 142 = .ok (.aload_n 1, 1) := by decide +kernel
theorem dX3_become_143 : decode cX3_become 143 = .ok (.getfield 42, 3) := by decide +kernel
theorem dX3_become_146 : decode cX3_become 146 = .ok (.putfield 42, 3) := by decide +kernel
theorem dX3_become_149 : decode cX3_become 149 = .ok (.aload_n 0, 1) := by decide +kernel
theorem dX3_become_150 : decode cX3_become 150 = .ok (.aload_n 1, 1) := by decide +kernel
theorem dX3_become_151 : decode cX3_become 151 = .ok (.getfield 46, 3) := by decide +kernel
theorem dX3_become_154 : decode cX3_become 154 = .ok (.putfield 46, 3) := by decide +kernel
theorem dX3_become_157 : decode cX3_become 157 = .ok (.aload_n 0, 1) := by decide +kernel
theorem dX3_become_158 : decode cX3_become 158 = .ok (.aload_n 1, 1) := by decide +kernel
theorem dX3_become_159 : decode cX3_become 159 = .ok (.getfield 49, 3) := by decide +kernel
theorem dX3_become_162 : decode cX3_become 162 = .ok (.putfield 49, 3) := by decide +kernel
theorem dX3_become_165 : decode cX3_become 165 = .ok (.aload_n 0, 1) := by decide +kernel
theorem dX3_become_166 : decode cX3_become 166 = .ok (.aload_n 1, 1) := by decide +kernel
theorem dX3_become_167 : decode cX3_become 167 = .ok (.getfield 52, 3) := by decide +kernel
theorem dX3_become_170 : decode cX3_become 170 = .ok (.putfield 52, 3) := by decide +kernel
theorem dX3_become_173 : decode cX3_become 173 = .ok (.return_, 1) := by decide +kernel
theorem dX3_isGrave_0 : decode cX3_isGrave 0 = .ok (.iload_n 1, 1) := by decide +kernel
theorem dX3_isGrave_1 : decode cX3_isGrave 1 = .ok (.ifCond .lt 15, 3) := by decide +kernel
theorem dX3_isGrave_4 : decode cX3_isGrave 4 = .ok (.iload_n 1, 1) := by decide +kernel
theorem dX3_isGrave_5 : decode cX3_isGrave 5 = .ok (.aload_n 0, 1) := by decide +kernel
theorem dX3_isGrave_6 : decode cX3_isGrave 6 = .ok (.getfield 42, 3) := by decide +kernel
theorem dX3_isGrave_9 : decode cX3_isGrave 9 = .ok (.if_icmp .ge 7, 3) := by decide +kernel
theorem dX3_isGrave_12 : decode cX3_isGrave 12 = .ok (.iconst 1, 1) := by decide +kernel
theorem dX3_isGrave_13 : decode cX3_isGrave 13 = .ok (.goto 4, 3) := by decide +kernel
theorem dX3_isGrave_16 : decode cX3_isGrave 16 = .ok (.iconst 0, 1) := by decide +kernel
theorem dX3_isGrave_17 : decode cX3_isGrave 17 = .ok (.ireturn, 1) := by decide +kernel
theorem dX3_isHorn_0 : decode cX3_isHorn 0 = .ok (.iload_n 1, 1) := by decide +kernel
theorem dX3_isHorn_1 : decode cX3_isHorn 1 = .ok (.ifCond .lt 15, 3) := by decide +kernel
theorem dX3_isHorn_4 : decode cX3_isHorn 4 = .ok (.iload_n 1, 1) := by decide +kernel
theorem dX3_isHorn_5 : decode cX3_isHorn 5 = .ok (.aload_n 0, 1) := by decide +kernel
theorem dX3_isHorn_6 : decode cX3_isHorn 6 = .ok (.getfield 46, 3) := by decide +kernel
theorem dX3_isHorn_9 : decode cX3_isHorn 9 = .ok (.if_icmp .ge 7, 3) := by decide +kernel
theorem dX3_isHorn_12 : decode cX3_isHorn 12 = .ok (.iconst 1, 1) := by decide +kernel
theorem dX3_isHorn_13 : decode cX3_isHorn 13 = .ok (.goto 4, 3) := by decide +kernel
theorem dX3_isHorn_16 : decode cX3_isHorn 16 = .ok (.iconst 0, 1) := by decide +kernel
theorem dX3_isHorn_17 : decode cX3_isHorn 17 = .ok (.ireturn, 1) := by decide +kernel
theorem dX3_isTree_0 : decode cX3_isTree 0 = .ok (.iload_n 1, 1) := by decide +kernel
theorem dX3_isTree_1 : decode cX3_isTree 1 = .ok (.ifCond .lt 15, 3) := by decide +kernel
theorem dX3_isTree_4 : decode cX3_isTree 4 = .ok (.iload_n 1, 1) := by decide +kernel
theorem dX3_isTree_5 : decode cX3_isTree 5 = .ok (.aload_n 0, 1) := by decide +kernel
theorem dX3_isTree_6 : decode cX3_isTree 6 = .ok (.getfield 49, 3) := by decide +kernel
theorem dX3_isTree_9 : decode cX3_isTree 9 = .ok (.if_icmp .ge 7, 3) := by decide +kernel
theorem dX3_isTree_12 : decode cX3_isTree 12 = .ok (.iconst 1, 1) := by decide +kernel
theorem dX3_isTree_13 : decode cX3_isTree 13 = .ok (.goto 4, 3) := by decide +kernel
theorem dX3_isTree_16 : decode cX3_isTree 16 = .ok (.iconst 0, 1) := by decide +kernel
theorem dX3_isTree_17 : decode cX3_isTree 17 = .ok (.ireturn, 1) := by decide +kernel
set_option maxRecDepth 20000 in
theorem ggX3_isCracked_X3_has : GoodIn wsX3_isCracked wsX3_has := goodIn_r _ [5] (by decide +kernel) (by decide +kernel)
set_option maxRecDepth 20000 in
theorem gX3_isCracked_X3_has : GoodIn wsX3_isCracked (va_wsS RX3 61 yX3_has wsX3_has) := goodIn_app (goodIn_of _ (by decide +kernel)) ggX3_isCracked_X3_has
theorem dX3_isCracked_0 : decode cX3_isCracked 0 = .ok (.aload_n 0, 1) := by decide +kernel
theorem dX3_isCracked_1 : decode cX3_isCracked 1 = .ok (.getfield 52, 3) := by decide +kernel
theorem dX3_isCracked_4 : decode cX3_isCracked 4 = .ok (.iload_n 1, 1) := by decide +kernel
theorem dX3_isCracked_5 : decode cX3_isCracked 5 = .ok (.invokestatic 61, 3) := by decide +kernel
theorem dX3_isCracked_8 : decode cX3_isCracked 8 = .ok (.ireturn, 1) := by decide +kernel
theorem dX3_hasTreeAt_0 : decode cX3_hasTreeAt 0 = .ok (.iconst 0, 1) := by decide +kernel
theorem dX3_hasTreeAt_1 : decode cX3_hasTreeAt 1 = .ok (.istore_n 2, 1) := by decide +kernel
theorem dX3_hasTreeAt_2 : decode cX3_hasTreeAt 2 = .ok (.iload_n 2, 1) := by decide +kernel
theorem dX3_hasTreeAt_3 : decode cX3_hasTreeAt 3 = .ok (.aload_n 0, 1) := by decide +kernel
theorem dX3_hasTreeAt_4 : decode cX3_hasTreeAt 4 = .ok (.getfield 49, 3) := by decide +kernel
theorem dX3_hasTreeAt_7 : decode cX3_hasTreeAt 7 = .ok (.if_icmp .ge 21, 3) := by decide +kernel
theorem dX3_hasTreeAt_10 : decode cX3_hasTreeAt 10 = .ok (.aload_n 0, 1) := by decide +kernel
theorem dX3_hasTreeAt_11 : decode cX3_hasTreeAt 11 = .ok (.getfield 36, 3) := by decide +kernel
theorem dX3_hasTreeAt_14 : decode cX3_hasTreeAt 14 = .ok (.iload_n 2, 1) := by decide +kernel
theorem dX3_hasTreeAt_15 : decode cX3_hasTreeAt 15 = .ok (.iaload, 1) := by decide +kernel
theorem dX3_hasTreeAt_16 : decode cX3_hasTreeAt 16 = .ok (.iload_n 1, 1) := by decide +kernel
theorem dX3_hasTreeAt_17 : decode cX3_hasTreeAt 17 = .ok (.if_icmp .ne 5, 3) := by decide +kernel
theorem dX3_hasTreeAt_20 : decode cX3_hasTreeAt 20 = .ok (.iconst 1, 1) := by decide +kernel
theorem dX3_hasTreeAt_21 : decode cX3_hasTreeAt 21 = .ok (.ireturn, 1) := by decide +kernel
theorem dX3_hasTreeAt_22 : decode cX3_hasTreeAt 22 = .ok (.iinc 2 1, 3) := by decide +kernel
theorem dX3_hasTreeAt_25 : decode cX3_hasTreeAt 25 = .ok (.goto (-23), 3) := by decide +kernel
theorem dX3_hasTreeAt_28 : decode cX3_hasTreeAt 28 = .ok (.iconst 0, 1) := by decide +kernel
theorem dX3_hasTreeAt_29 : decode cX3_hasTreeAt 29 = .ok (.ireturn, 1) := by decide +kernel
theorem dX3_fruitInAll_0 : decode cX3_fruitInAll 0 = .ok (.iconst 0, 1) := by decide +kernel
theorem dX3_fruitInAll_1 : decode cX3_fruitInAll 1 = .ok (.istore_n 1, 1) := by decide +kernel
theorem dX3_fruitInAll_2 : decode cX3_fruitInAll 2 = .ok (.iconst 0, 1) := by decide +kernel
theorem dX3_fruitInAll_3 : decode cX3_fruitInAll 3 = .ok (.istore_n 2, 1) := by decide +kernel
theorem dX3_fruitInAll_4 : decode cX3_fruitInAll 4 = .ok (.iload_n 2, 1) := by decide +kernel
theorem dX3_fruitInAll_5 : decode cX3_fruitInAll 5 = .ok (.aload_n 0, 1) := by decide +kernel
theorem dX3_fruitInAll_6 : decode cX3_fruitInAll 6 = .ok (.getfield 49, 3) := by decide +kernel
theorem dX3_fruitInAll_9 : decode cX3_fruitInAll 9 = .ok (.if_icmp .ge 18, 3) := by decide +kernel
theorem dX3_fruitInAll_12 : decode cX3_fruitInAll 12 = .ok (.iload_n 1, 1) := by decide +kernel
theorem dX3_fruitInAll_13 : decode cX3_fruitInAll 13 = .ok (.aload_n 0, 1) := by decide +kernel
theorem dX3_fruitInAll_14 : decode cX3_fruitInAll 14 = .ok (.getfield 39, 3) := by decide +kernel
theorem dX3_fruitInAll_17 : decode cX3_fruitInAll 17 = .ok (.iload_n 2, 1) := by decide +kernel
theorem dX3_fruitInAll_18 : decode cX3_fruitInAll 18 = .ok (.iaload, 1) := by decide +kernel
theorem dX3_fruitInAll_19 : decode cX3_fruitInAll 19 = .ok (.iadd, 1) := by decide +kernel
theorem dX3_fruitInAll_20 : decode cX3_fruitInAll 20 = .ok (.istore_n 1, 1) := by decide +kernel
theorem dX3_fruitInAll_21 : decode cX3_fruitInAll 21 = .ok (.iinc 2 1, 3) := by decide +kernel
theorem dX3_fruitInAll_24 : decode cX3_fruitInAll 24 = .ok (.goto (-20), 3) := by decide +kernel
theorem dX3_fruitInAll_27 : decode cX3_fruitInAll 27 = .ok (.iload_n 1, 1) := by decide +kernel
theorem dX3_fruitInAll_28 : decode cX3_fruitInAll 28 = .ok (.ireturn, 1) := by decide +kernel
set_option maxRecDepth 20000 in
theorem ggX3_addFruit_X3_has : GoodIn wsX3_addFruit wsX3_has := goodIn_r _ [6] (by decide +kernel) (by decide +kernel)
set_option maxRecDepth 20000 in
theorem gX3_addFruit_X3_has : GoodIn wsX3_addFruit (va_wsS RX3 61 yX3_has wsX3_has) := goodIn_app (goodIn_of _ (by decide +kernel)) ggX3_addFruit_X3_has
theorem dX3_addFruit_0 : decode cX3_addFruit 0 = .ok (.iconst 0, 1) := by decide +kernel
theorem dX3_addFruit_1 : decode cX3_addFruit 1 = .ok (.istore_n 3, 1) := by decide +kernel
theorem dX3_addFruit_2 : decode cX3_addFruit 2 = .ok (.iload_n 3, 1) := by decide +kernel
theorem dX3_addFruit_3 : decode cX3_addFruit 3 = .ok (.aload_n 0, 1) := by decide +kernel
theorem dX3_addFruit_4 : decode cX3_addFruit 4 = .ok (.getfield 49, 3) := by decide +kernel
theorem dX3_addFruit_7 : decode cX3_addFruit 7 = .ok (.if_icmp .ge 27, 3) := by decide +kernel
theorem dX3_addFruit_10 : decode cX3_addFruit 10 = .ok (.iload_n 1, 1) := by decide +kernel
theorem dX3_addFruit_11 : decode cX3_addFruit 11 = .ok (.iload_n 3, 1) := by decide +kernel
theorem dX3_addFruit_12 : decode cX3_addFruit 12 = .ok (.invokestatic 61, 3) := by decide +kernel
theorem dX3_addFruit_15 : decode cX3_addFruit 15 = .ok (.ifCond .eq 13, 3) := by decide +kernel
theorem dX3_addFruit_18 : decode cX3_addFruit 18 = .ok (.aload_n 0, 1) := by decide +kernel
theorem dX3_addFruit_19 : decode cX3_addFruit 19 = .ok (.getfield 39, 3) := by decide +kernel
theorem dX3_addFruit_22 : decode cX3_addFruit 22 = .ok (.iload_n 3, 1) := by decide +kernel
theorem dX3_addFruit_23 : decode cX3_addFruit 23 = .ok (.dup2, 1) := by decide +kernel
theorem dX3_addFruit_24 : decode cX3_addFruit 24 = .ok (.iaload, 1) := by decide +kernel
theorem dX3_addFruit_25 : decode cX3_addFruit 25 = .ok (.iload_n 2, 1) := by decide +kernel
theorem dX3_addFruit_26 : decode cX3_addFruit 26 = .ok (.iadd, 1) := by decide +kernel
theorem dX3_addFruit_27 : decode cX3_addFruit 27 = .ok (.iastore, 1) := by decide +kernel
theorem dX3_addFruit_28 : decode cX3_addFruit 28 = .ok (.iinc 3 1, 3) := by decide +kernel
theorem dX3_addFruit_31 : decode cX3_addFruit 31 = .ok (.goto (-29), 3) := by decide +kernel
theorem dX3_addFruit_34 : decode cX3_addFruit 34 = .ok (.return_, 1) := by decide +kernel
set_option maxRecDepth 20000 in
theorem ggX3_loose_X3_isTree : GoodIn wsX3_loose wsX3_isTree := goodIn_r _ [6, 7, 8, 9, 10, 11, 12, 13, 14, 15, 16, 17, 18, 19, 20, 21] (by decide +kernel) (by decide +kernel)
set_option maxRecDepth 20000 in
theorem gX3_loose_X3_isTree : GoodIn wsX3_loose (wsV RX3 65 RX3 yX3_isTree wsX3_isTree) := goodIn_app (goodIn_of _ (by decide +kernel)) ggX3_loose_X3_isTree
theorem dX3_loose_0 : decode cX3_loose 0 = .ok (.aload_n 0, 1) := by decide +kernel
theorem dX3_loose_1 : decode cX3_loose 1 = .ok (.iload_n 1, 1) := by decide +kernel
theorem dX3_loose_2 : decode cX3_loose 2 = .ok (.invokevirtual 65, 3) := by decide +kernel
theorem dX3_loose_5 : decode cX3_loose 5 = .ok (.ifCond .eq 12, 3) := by decide +kernel
theorem dX3_loose_8 : decode cX3_loose 8 = .ok (.aload_n 0, 1) := by decide +kernel
theorem dX3_loose_9 : decode cX3_loose 9 = .ok (.getfield 33, 3) := by decide +kernel
theorem dX3_loose_12 : decode cX3_loose 12 = .ok (.iload_n 1, 1) := by decide +kernel
theorem dX3_loose_13 : decode cX3_loose 13 = .ok (.iaload, 1) := by decide +kernel
theorem dX3_loose_14 : decode cX3_loose 14 = .ok (.goto 4, 3) := by decide +kernel
theorem dX3_loose_17 : decode cX3_loose 17 = .ok (.iconst 0, 1) := by decide +kernel
theorem dX3_loose_18 : decode cX3_loose 18 = .ok (.tableswitch 36 1 4 #[30, 32, 32, 34], 30) := by decide +kernel
theorem dX3_loose_48 : decode cX3_loose 48 = .ok (.iconst 2, 1) := by decide +kernel
theorem dX3_loose_49 : decode cX3_loose 49 = .ok (.ireturn, 1) := by decide +kernel
theorem dX3_loose_50 : decode cX3_loose 50 = .ok (.iconst 1, 1) := by decide +kernel
theorem dX3_loose_51 : decode cX3_loose 51 = .ok (.ireturn, 1) := by decide +kernel
theorem dX3_loose_52 : decode cX3_loose 52 = .ok (.iconst 3, 1) := by decide +kernel
theorem dX3_loose_53 : decode cX3_loose 53 = .ok (.ireturn, 1) := by decide +kernel
theorem dX3_loose_54 : decode cX3_loose 54 = .ok (.iconst 0, 1) := by decide +kernel
theorem dX3_loose_55 : decode cX3_loose 55 = .ok (.ireturn, 1) := by decide +kernel
set_option maxRecDepth 20000 in
theorem ggX3_blown_X3_bears : GoodIn wsX3_blown wsX3_bears := goodIn_r _ [6, 7, 8, 9, 10, 5, 11, 12, 13, 14, 15, 21, 22, 23, 24, 25, 26, 27, 28, 29, 30, 31, 32, 33, 34] (by decide +kernel) (by decide +kernel)
set_option maxRecDepth 20000 in
theorem gX3_blown_X3_bears : GoodIn wsX3_blown (wsV RX3 69 RX3 yX3_bears wsX3_bears) := goodIn_app (goodIn_of _ (by decide +kernel)) ggX3_blown_X3_bears
set_option maxRecDepth 20000 in
theorem ggX3_blown_X3_loose : GoodIn wsX3_blown wsX3_loose := goodIn_r _ [19, 20, 8, 9, 10, 5, 11, 12, 21, 22, 23, 24, 25, 26, 27, 28, 29, 30, 31, 32, 33, 34] (by decide +kernel) (by decide +kernel)
set_option maxRecDepth 20000 in
theorem gX3_blown_X3_loose : GoodIn wsX3_blown (wsV RX3 72 RX3 yX3_loose wsX3_loose) := goodIn_app (goodIn_of _ (by decide +kernel)) ggX3_blown_X3_loose
theorem dX3_blown_0 : decode cX3_blown 0 = .ok (.aload_n 0, 1) := by decide +kernel
theorem dX3_blown_1 : decode cX3_blown 1 = .ok (.iload_n 1, 1) := by decide +kernel
theorem dX3_blown_2 : decode cX3_blown 2 = .ok (.iconst 0, 1) := by decide +kernel
theorem dX3_blown_3 : decode cX3_blown 3 = .ok (.invokevirtual 69, 3) := by decide +kernel
theorem dX3_blown_6 : decode cX3_blown 6 = .ok (.ifCond .eq 13, 3) := by decide +kernel
theorem dX3_blown_9 : decode cX3_blown 9 = .ok (.iload_n 2, 1) := by decide +kernel
theorem dX3_blown_10 : decode cX3_blown 10 = .ok (.ifCond .lt 9, 3) := by decide +kernel
theorem dX3_blown_13 : decode cX3_blown 13 = .ok (.iload_n 2, 1) := by decide +kernel
theorem dX3_blown_14 : decode cX3_blown 14 = .ok (.bipush 12, 2) := by decide +kernel
theorem dX3_blown_16 : decode cX3_blown 16 = .ok (.if_icmp .lt 5, 3) := by decide +kernel
theorem dX3_blown_19 : decode cX3_blown 19 = .ok (.iconst 0, 1) := by decide +kernel
theorem dX3_blown_20 : decode cX3_blown 20 = .ok (.ireturn, 1) := by decide +kernel
theorem dX3_blown_21 : decode cX3_blown 21 = .ok (.aload_n 0, 1) := by decide +kernel
theorem dX3_blown_22 : decode cX3_blown 22 = .ok (.iload_n 1, 1) := by decide +kernel
theorem dX3_blown_23 : decode cX3_blown 23 = .ok (.invokevirtual 72, 3) := by decide +kernel
theorem dX3_blown_26 : decode cX3_blown 26 = .ok (.aload_n 0, 1) := by decide +kernel
theorem dX3_blown_27 : decode cX3_blown 27 = .ok (.getfield 9, 3) := by decide +kernel
theorem dX3_blown_30 : decode cX3_blown 30 = .ok (.iload_n 2, 1) := by decide +kernel
theorem dX3_blown_31 : decode cX3_blown 31 = .ok (.iaload, 1) := by decide +kernel
theorem dX3_blown_32 : decode cX3_blown 32 = .ok (.imul, 1) := by decide +kernel
theorem dX3_blown_33 : decode cX3_blown 33 = .ok (.ireturn, 1) := by decide +kernel
set_option maxRecDepth 20000 in
theorem ggX3_hornsHeardBy_X3_isGrave : GoodIn wsX3_hornsHeardBy wsX3_isGrave := goodIn_r _ [6, 7, 28, 29, 30, 31, 32, 33, 34, 35, 36, 37, 38, 39, 40, 41] (by decide +kernel) (by decide +kernel)
set_option maxRecDepth 20000 in
theorem gX3_hornsHeardBy_X3_isGrave : GoodIn wsX3_hornsHeardBy (wsV RX3 76 RX3 yX3_isGrave wsX3_isGrave) := goodIn_app (goodIn_of _ (by decide +kernel)) ggX3_hornsHeardBy_X3_isGrave
set_option maxRecDepth 20000 in
theorem ggX3_hornsHeardBy_X3_isCracked : GoodIn wsX3_hornsHeardBy wsX3_isCracked := goodIn_r _ [11, 12, 13, 14, 5, 15, 28, 29, 30, 31, 32, 33, 34, 35, 36, 37, 38, 39, 40, 41] (by decide +kernel) (by decide +kernel)
set_option maxRecDepth 20000 in
theorem gX3_hornsHeardBy_X3_isCracked : GoodIn wsX3_hornsHeardBy (wsV RX3 79 RX3 yX3_isCracked wsX3_isCracked) := goodIn_app (goodIn_of _ (by decide +kernel)) ggX3_hornsHeardBy_X3_isCracked
set_option maxRecDepth 20000 in
theorem ggX3_hornsHeardBy_X3_arrives : GoodIn wsX3_hornsHeardBy wsX3_arrives := goodIn_r _ [19, 20, 21, 22, 23, 24, 25, 26, 27, 28, 29, 30, 31, 32, 33, 34, 35, 36, 37, 38, 39, 40, 41] (by decide +kernel) (by decide +kernel)
set_option maxRecDepth 20000 in
theorem gX3_hornsHeardBy_X3_arrives : GoodIn wsX3_hornsHeardBy (wsV RX3 82 RX3 yX3_arrives wsX3_arrives) := goodIn_app (goodIn_of _ (by decide +kernel)) ggX3_hornsHeardBy_X3_arrives
theorem dX3_hornsHeardBy_0 : decode cX3_hornsHeardBy 0 = .ok (.iconst 0, 1) := by decide +kernel
theorem dX3_hornsHeardBy_1 : decode cX3_hornsHeardBy 1 = .ok (.istore_n 2, 1) := by decide +kernel
theorem dX3_hornsHeardBy_2 : decode cX3_hornsHeardBy 2 = .ok (.iconst 0, 1) := by decide +kernel
theorem dX3_hornsHeardBy_3 : decode cX3_hornsHeardBy 3 = .ok (.istore_n 3, 1) := by decide +kernel
theorem dX3_hornsHeardBy_4 : decode cX3_hornsHeardBy 4 = .ok (.iload_n 3, 1) := by decide +kernel
theorem dX3_hornsHeardBy_5 : decode cX3_hornsHeardBy 5 = .ok (.aload_n 0, 1) := by decide +kernel
theorem dX3_hornsHeardBy_6 : decode cX3_hornsHeardBy 6 = .ok (.getfield 46, 3) := by decide +kernel
theorem dX3_hornsHeardBy_9 : decode cX3_hornsHeardBy 9 = .ok (.if_icmp .ge 42, 3) := by decide +kernel
theorem dX3_hornsHeardBy_12 : decode cX3_hornsHeardBy 12 = .ok (.aload_n 0, 1) := by decide +kernel
theorem dX3_hornsHeardBy_13 : decode cX3_hornsHeardBy 13 = .ok (.iload_n 1, 1) := by decide +kernel
theorem dX3_hornsHeardBy_14 : decode cX3_hornsHeardBy 14 = .ok (.invokevirtual 76, 3) := by decide +kernel
theorem dX3_hornsHeardBy_17 : decode cX3_hornsHeardBy 17 = .ok (.ifCond .eq 28, 3) := by decide +kernel
theorem dX3_hornsHeardBy_20 : decode cX3_hornsHeardBy 20 = .ok (.aload_n 0, 1) := by decide +kernel
theorem dX3_hornsHeardBy_21 : decode cX3_hornsHeardBy 21 = .ok (.iload_n 3, 1) := by decide +kernel
theorem dX3_hornsHeardBy_22 : decode cX3_hornsHeardBy 22 = .ok (.invokevirtual 79, 3) := by decide +kernel
theorem dX3_hornsHeardBy_25 : decode cX3_hornsHeardBy 25 = .ok (.ifCond .ne 20, 3) := by decide +kernel
theorem dX3_hornsHeardBy_28 : decode cX3_hornsHeardBy 28 = .ok (.aload_n 0, 1) := by decide +kernel
theorem dX3_hornsHeardBy_29 : decode cX3_hornsHeardBy 29 = .ok (.iload_n 3, 1) := by decide +kernel
theorem dX3_hornsHeardBy_30 : decode cX3_hornsHeardBy 30 = .ok (.iload_n 1, 1) := by decide +kernel
theorem dX3_hornsHeardBy_31 : decode cX3_hornsHeardBy 31 = .ok (.invokevirtual 82, 3) := by decide +kernel
theorem dX3_hornsHeardBy_34 : decode cX3_hornsHeardBy 34 = .ok (.bipush 10, 2) := by decide +kernel
theorem dX3_hornsHeardBy_36 : decode cX3_hornsHeardBy 36 = .ok (.if_icmp .lt 9, 3) := by decide +kernel
theorem dX3_hornsHeardBy_39 : decode cX3_hornsHeardBy 39 = .ok (.iload_n 2, 1) := by decide +kernel
theorem dX3_hornsHeardBy_40 : decode cX3_hornsHeardBy 40 = .ok (.iconst 1, 1) := by decide +kernel
theorem dX3_hornsHeardBy_41 : decode cX3_hornsHeardBy 41 = .ok (.iload_n 3, 1) := by decide +kernel
theorem dX3_hornsHeardBy_42 : decode cX3_hornsHeardBy 42 = .ok (.ishl, 1) := by decide +kernel
theorem dX3_hornsHeardBy_43 : decode cX3_hornsHeardBy 43 = .ok (.ior, 1) := by decide +kernel
theorem dX3_hornsHeardBy_44 : decode cX3_hornsHeardBy 44 = .ok (.istore_n 2, 1) := by decide +kernel
theorem dX3_hornsHeardBy_45 : decode cX3_hornsHeardBy 45 = .ok (.iinc 3 1, 3) := by decide +kernel
theorem dX3_hornsHeardBy_48 : decode cX3_hornsHeardBy 48 = .ok (.goto (-44), 3) := by decide +kernel
theorem dX3_hornsHeardBy_51 : decode cX3_hornsHeardBy 51 = .ok (.iload_n 2, 1) := by decide +kernel
theorem dX3_hornsHeardBy_52 : decode cX3_hornsHeardBy 52 = .ok (.ireturn, 1) := by decide +kernel
set_option maxRecDepth 20000 in
theorem ggX3_treeOf_X3_isGrave : GoodIn wsX3_treeOf wsX3_isGrave := goodIn_r _ [13, 14, 27, 28, 29, 30, 31, 32, 33, 34, 35, 36, 37, 38, 39, 40] (by decide +kernel) (by decide +kernel)
set_option maxRecDepth 20000 in
theorem gX3_treeOf_X3_isGrave : GoodIn wsX3_treeOf (wsV RX3 76 RX3 yX3_isGrave wsX3_isGrave) := goodIn_app (goodIn_of _ (by decide +kernel)) ggX3_treeOf_X3_isGrave
set_option maxRecDepth 20000 in
theorem ggX3_treeOf_X3_bears : GoodIn wsX3_treeOf wsX3_bears := goodIn_r _ [18, 19, 20, 21, 22, 12, 23, 2, 24, 25, 26, 27, 28, 29, 30, 31, 32, 33, 34, 35, 36, 37, 38, 39, 40] (by decide +kernel) (by decide +kernel)
set_option maxRecDepth 20000 in
theorem gX3_treeOf_X3_bears : GoodIn wsX3_treeOf (wsV RX3 69 RX3 yX3_bears wsX3_bears) := goodIn_app (goodIn_of _ (by decide +kernel)) ggX3_treeOf_X3_bears
theorem dX3_treeOf_0 : decode cX3_treeOf 0 = .ok (.ldc 86, 2) := by decide +kernel
theorem dX3_treeOf_2 : decode cX3_treeOf 2 = .ok (.istore_n 3, 1) := by decide +kernel
theorem dX3_treeOf_3 : decode cX3_treeOf 3 = .ok (.iconst 4, 1) := by decide +kernel
theorem dX3_treeOf_4 : decode cX3_treeOf 4 = .ok (.istore 4, 2) := by decide +kernel
theorem dX3_treeOf_6 : decode cX3_treeOf 6 = .ok (.iconst 0, 1) := by decide +kernel
theorem dX3_treeOf_7 : decode cX3_treeOf 7 = .ok (.istore 5, 2) := by decide +kernel
theorem dX3_treeOf_9 : decode cX3_treeOf 9 = .ok (.iload 5, 2) := by decide +kernel
theorem dX3_treeOf_11 : decode cX3_treeOf 11 = .ok (.aload_n 0, 1) := by decide +kernel
theorem dX3_treeOf_12 : decode cX3_treeOf 12 = .ok (.getfield 49, 3) := by decide +kernel
theorem dX3_treeOf_15 : decode cX3_treeOf 15 = .ok (.if_icmp .ge 71, 3) := by decide +kernel
theorem dX3_treeOf_18 : decode cX3_treeOf 18 = .ok (.aload_n 0, 1) := by decide +kernel
theorem dX3_treeOf_19 : decode cX3_treeOf 19 = .ok (.iload_n 1, 1) := by decide +kernel
theorem dX3_treeOf_20 : decode cX3_treeOf 20 = .ok (.invokevirtual 76, 3) := by decide +kernel
theorem dX3_treeOf_23 : decode cX3_treeOf 23 = .ok (.ifCond .eq 57, 3) := by decide +kernel
theorem dX3_treeOf_26 : decode cX3_treeOf 26 = .ok (.aload_n 0, 1) := by decide +kernel
theorem dX3_treeOf_27 : decode cX3_treeOf 27 = .ok (.iload 5, 2) := by decide +kernel
theorem dX3_treeOf_29 : decode cX3_treeOf 29 = .ok (.iload_n 2, 1) := by decide +kernel
theorem dX3_treeOf_30 : decode cX3_treeOf 30 = .ok (.invokevirtual 69, 3) := by decide +kernel
theorem dX3_treeOf_33 : decode cX3_treeOf 33 = .ok (.ifCond .eq 47, 3) := by decide +kernel
theorem dX3_treeOf_36 : decode cX3_treeOf 36 = .ok (.aload_n 0, 1) := by decide +kernel
theorem dX3_treeOf_37 : decode cX3_treeOf 37 = .ok (.getfield 36, 3) := by decide +kernel
theorem dX3_treeOf_40 : decode cX3_treeOf 40 = .ok (.iload 5, 2) := by decide +kernel
theorem dX3_treeOf_42 : decode cX3_treeOf 42 = .ok (.iaload, 1) := by decide +kernel
theorem dX3_treeOf_43 : decode cX3_treeOf 43 = .ok (.aload_n 0, 1) := by decide +kernel
theorem dX3_treeOf_44 : decode cX3_treeOf 44 = .ok (.getfield 15, 3) := by decide +kernel
theorem dX3_treeOf_47 : decode cX3_treeOf 47 = .ok (.iload_n 1, 1) := by decide +kernel
theorem dX3_treeOf_48 : decode cX3_treeOf 48 = .ok (.iaload, 1) := by decide +kernel
theorem dX3_treeOf_49 : decode cX3_treeOf 49 = .ok (.isub, 1) := by decide +kernel
theorem dX3_treeOf_50 : decode cX3_treeOf 50 = .ok (.invokestatic 87, 3) := by decide +kernel
theorem dX3_treeOf_53 : decode cX3_treeOf 53 = .ok (.iload 4, 2) := by decide +kernel
theorem dX3_treeOf_55 : decode cX3_treeOf 55 = .ok (.if_icmp .ge 25, 3) := by decide +kernel
theorem dX3_treeOf_58 : decode cX3_treeOf 58 = .ok (.iload 5, 2) := by decide +kernel
theorem dX3_treeOf_60 : decode cX3_treeOf 60 = .ok (.istore_n 3, 1) := by decide +kernel
theorem dX3_treeOf_61 : decode cX3_treeOf 61 = .ok (.aload_n 0, 1) := by decide +kernel
theorem dX3_treeOf_62 : decode cX3_treeOf 62 = .ok (.getfield 36, 3) := by decide +kernel
theorem dX3_treeOf_65 : decode cX3_treeOf 65 = .ok (.iload 5, 2) := by decide +kernel
theorem dX3_treeOf_67 : decode cX3_treeOf 67 = .ok (.iaload, 1) := by decide +kernel
theorem dX3_treeOf_68 : decode cX3_treeOf 68 = .ok (.aload_n 0, 1) := by decide +kernel
theorem dX3_treeOf_69 : decode cX3_treeOf 69 = .ok (.getfield 15, 3) := by decide +kernel
theorem dX3_treeOf_72 : decode cX3_treeOf 72 = .ok (.iload_n 1, 1) := by decide +kernel
theorem dX3_treeOf_73 : decode cX3_treeOf 73 = .ok (.iaload, 1) := by decide +kernel
theorem dX3_treeOf_74 : decode cX3_treeOf 74 = .ok (.isub, 1) := by decide +kernel
theorem dX3_treeOf_75 : decode cX3_treeOf 75 = .ok (.invokestatic 87, 3) := by decide +kernel
theorem dX3_treeOf_78 : decode cX3_treeOf 78 = .ok (.istore 4, 2) := by decide +kernel
theorem dX3_treeOf_80 : decode cX3_treeOf 80 = .ok (.iinc 5 1, 3) := by decide +kernel
theorem dX3_treeOf_83 : decode cX3_treeOf 83 = .ok (.goto (-74), 3) := by decide +kernel
theorem dX3_treeOf_86 : decode cX3_treeOf 86 = .ok (.iload_n 3, 1) := by decide +kernel
theorem dX3_treeOf_87 : decode cX3_treeOf 87 = .ok (.ireturn, 1) := by decide +kernel
set_option maxRecDepth 20000 in
theorem ggX3_gravesOf_X3_treeOf : GoodIn wsX3_gravesOf wsX3_treeOf := goodIn_r _ [6, 7, 8, 9, 10, 11, 12, 13, 14, 15, 16, 17, 5, 18, 1, 19, 20, 21, 22, 23, 24, 25, 26, 27, 28, 29, 30, 31, 32, 33, 34, 35, 36, 37, 38, 39, 40, 41, 42, 43, 44] (by decide +kernel) (by decide +kernel)
set_option maxRecDepth 20000 in
theorem gX3_gravesOf_X3_treeOf : GoodIn wsX3_gravesOf (wsV RX3 92 RX3 yX3_treeOf wsX3_treeOf) := goodIn_app (goodIn_of _ (by decide +kernel)) ggX3_gravesOf_X3_treeOf
theorem dX3_gravesOf_0 : decode cX3_gravesOf 0 = .ok (.iconst 0, 1) := by decide +kernel
theorem dX3_gravesOf_1 : decode cX3_gravesOf 1 = .ok (.istore_n 2, 1) := by decide +kernel
theorem dX3_gravesOf_2 : decode cX3_gravesOf 2 = .ok (.iconst 0, 1) := by decide +kernel
theorem dX3_gravesOf_3 : decode cX3_gravesOf 3 = .ok (.istore_n 3, 1) := by decide +kernel
theorem dX3_gravesOf_4 : decode cX3_gravesOf 4 = .ok (.iload_n 3, 1) := by decide +kernel
theorem dX3_gravesOf_5 : decode cX3_gravesOf 5 = .ok (.aload_n 0, 1) := by decide +kernel
theorem dX3_gravesOf_6 : decode cX3_gravesOf 6 = .ok (.getfield 42, 3) := by decide +kernel
theorem dX3_gravesOf_9 : decode cX3_gravesOf 9 = .ok (.if_icmp .ge 25, 3) := by decide +kernel
theorem dX3_gravesOf_12 : decode cX3_gravesOf 12 = .ok (.aload_n 0, 1) := by decide +kernel
theorem dX3_gravesOf_13 : decode cX3_gravesOf 13 = .ok (.iload_n 3, 1) := by decide +kernel
theorem dX3_gravesOf_14 : decode cX3_gravesOf 14 = .ok (.iconst 0, 1) := by decide +kernel
theorem dX3_gravesOf_15 : decode cX3_gravesOf 15 = .ok (.invokevirtual 92, 3) := by decide +kernel
theorem dX3_gravesOf_18 : decode cX3_gravesOf 18 = .ok (.iload_n 1, 1) := by decide +kernel
theorem dX3_gravesOf_19 : decode cX3_gravesOf 19 = .ok (.if_icmp .ne 9, 3) := by decide +kernel
theorem dX3_gravesOf_22 : decode cX3_gravesOf 22 = .ok (.iload_n 2, 1) := by decide +kernel
theorem dX3_gravesOf_23 : decode cX3_gravesOf 23 = .ok (.iconst 1, 1) := by decide +kernel
theorem dX3_gravesOf_24 : decode cX3_gravesOf 24 = .ok (.iload_n 3, 1) := by decide +kernel
theorem dX3_gravesOf_25 : decode cX3_gravesOf 25 = .ok (.ishl, 1) := by decide +kernel
theorem dX3_gravesOf_26 : decode cX3_gravesOf 26 = .ok (.ior, 1) := by decide +kernel
theorem dX3_gravesOf_27 : decode cX3_gravesOf 27 = .ok (.istore_n 2, 1) := by decide +kernel
theorem dX3_gravesOf_28 : decode cX3_gravesOf 28 = .ok (.iinc 3 1, 3) := by decide +kernel
theorem dX3_gravesOf_31 : decode cX3_gravesOf 31 = .ok (.goto (-27), 3) := by decide +kernel
theorem dX3_gravesOf_34 : decode cX3_gravesOf 34 = .ok (.iload_n 2, 1) := by decide +kernel
theorem dX3_gravesOf_35 : decode cX3_gravesOf 35 = .ok (.ireturn, 1) := by decide +kernel
set_option maxRecDepth 20000 in
theorem ggX3_minding_X3_hornsHeardBy : GoodIn wsX3_minding wsX3_hornsHeardBy := goodIn_r _ [8, 9, 10, 11, 12, 7, 13, 1, 14, 15, 16, 17, 18, 19, 20, 21, 22, 23, 24, 25, 26, 27, 28, 29, 30, 31, 32, 33, 49, 50, 51, 52, 53, 54, 55, 56, 57, 58, 59, 60, 61, 62] (by decide +kernel) (by decide +kernel)
set_option maxRecDepth 20000 in
theorem gX3_minding_X3_hornsHeardBy : GoodIn wsX3_minding (wsV RX3 95 RX3 yX3_hornsHeardBy wsX3_hornsHeardBy) := goodIn_app (goodIn_of _ (by decide +kernel)) ggX3_minding_X3_hornsHeardBy
set_option maxRecDepth 20000 in
theorem ggX3_minding_X3_treeOf : GoodIn wsX3_minding wsX3_treeOf := goodIn_r _ [37, 3, 38, 39, 28, 29, 30, 31, 32, 10, 11, 12, 7, 13, 1, 40, 41, 42, 43, 44, 45, 46, 47, 48, 19, 20, 21, 49, 50, 51, 52, 53, 54, 55, 56, 57, 58, 59, 60, 61, 62] (by decide +kernel) (by decide +kernel)
set_option maxRecDepth 20000 in
theorem gX3_minding_X3_treeOf : GoodIn wsX3_minding (wsV RX3 92 RX3 yX3_treeOf wsX3_treeOf) := goodIn_app (goodIn_of _ (by decide +kernel)) ggX3_minding_X3_treeOf
theorem dX3_minding_0 : decode cX3_minding 0 = .ok (.iconst 0, 1) := by decide +kernel
theorem dX3_minding_1 : decode cX3_minding 1 = .ok (.istore 4, 2) := by decide +kernel
theorem dX3_minding_3 : decode cX3_minding 3 = .ok (.iconst 0, 1) := by decide +kernel
theorem dX3_minding_4 : decode cX3_minding 4 = .ok (.istore 5, 2) := by decide +kernel
theorem dX3_minding_6 : decode cX3_minding 6 = .ok (.iload 5, 2) := by decide +kernel
theorem dX3_minding_8 : decode cX3_minding 8 = .ok (.aload_n 0, 1) := by decide +kernel
theorem dX3_minding_9 : decode cX3_minding 9 = .ok (.getfield 42, 3) := by decide +kernel
theorem dX3_minding_12 : decode cX3_minding 12 = .ok (.if_icmp .ge 53, 3) := by decide +kernel
theorem dX3_minding_15 : decode cX3_minding 15 = .ok (.aload_n 0, 1) := by decide +kernel
theorem dX3_minding_16 : decode cX3_minding 16 = .ok (.getfield 24, 3) := by decide +kernel
theorem dX3_minding_19 : decode cX3_minding 19 = .ok (.iload 5, 2) := by decide +kernel
theorem dX3_minding_21 : decode cX3_minding 21 = .ok (.iaload, 1) := by decide +kernel
theorem dX3_minding_22 : decode cX3_minding 22 = .ok (.iload_n 1, 1) := by decide +kernel
theorem dX3_minding_23 : decode cX3_minding 23 = .ok (.iand, 1) := by decide +kernel
theorem dX3_minding_24 : decode cX3_minding 24 = .ok (.ifCond .eq 35, 3) := by decide +kernel
theorem dX3_minding_27 : decode cX3_minding 27 = .ok (.aload_n 0, 1) := by decide +kernel
theorem dX3_minding_28 : decode cX3_minding 28 = .ok (.iload 5, 2) := by decide +kernel
theorem dX3_minding_30 : decode cX3_minding 30 = .ok (.invokevirtual 95, 3) := by decide +kernel
theorem dX3_minding_33 : decode cX3_minding 33 = .ok (.iload_n 2, 1) := by decide +kernel
theorem dX3_minding_34 : decode cX3_minding 34 = .ok (.iand, 1) := by decide +kernel
theorem dX3_minding_35 : decode cX3_minding 35 = .ok (.ifCond .eq 24, 3) := by decide +kernel
theorem dX3_minding_38 : decode cX3_minding 38 = .ok (.aload_n 0, 1) := by decide +kernel
theorem dX3_minding_39 : decode cX3_minding 39 = .ok (.iload 5, 2) := by decide +kernel
theorem dX3_minding_41 : decode cX3_minding 41 = .ok (.iload_n 3, 1) := by decide +kernel
theorem dX3_minding_42 : decode cX3_minding 42 = .ok (.invokevirtual 92, 3) := by decide +kernel
theorem dX3_minding_45 : decode cX3_minding 45 = .ok (.ldc 86, 2) := by decide +kernel
theorem dX3_minding_47 : decode cX3_minding 47 = .ok (.if_icmp .eq 12, 3) := by decide +kernel
theorem dX3_minding_50 : decode cX3_minding 50 = .ok (.iload 4, 2) := by decide +kernel
theorem dX3_minding_52 : decode cX3_minding 52 = .ok (.iconst 1, 1) := by decide +kernel
theorem dX3_minding_53 : decode cX3_minding 53 = .ok (.iload 5, 2) := by decide +kernel
theorem dX3_minding_55 : decode cX3_minding 55 = .ok (.ishl, 1) := by decide +kernel
theorem dX3_minding_56 : decode cX3_minding 56 = .ok (.ior, 1) := by decide +kernel
theorem dX3_minding_57 : decode cX3_minding 57 = .ok (.istore 4, 2) := by decide +kernel
theorem dX3_minding_59 : decode cX3_minding 59 = .ok (.iinc 5 1, 3) := by decide +kernel
theorem dX3_minding_62 : decode cX3_minding 62 = .ok (.goto (-56), 3) := by decide +kernel
theorem dX3_minding_65 : decode cX3_minding 65 = .ok (.iload 4, 2) := by decide +kernel
theorem dX3_minding_67 : decode cX3_minding 67 = .ok (.ireturn, 1) := by decide +kernel
set_option maxRecDepth 20000 in
theorem ggX3_withTemper_X3_has : GoodIn wsX3_withTemper wsX3_has := goodIn_r _ [6] (by decide +kernel) (by decide +kernel)
set_option maxRecDepth 20000 in
theorem gX3_withTemper_X3_has : GoodIn wsX3_withTemper (va_wsS RX3 61 yX3_has wsX3_has) := goodIn_app (goodIn_of _ (by decide +kernel)) ggX3_withTemper_X3_has
theorem dX3_withTemper_0 : decode cX3_withTemper 0 = .ok (.iconst 0, 1) := by decide +kernel
theorem dX3_withTemper_1 : decode cX3_withTemper 1 = .ok (.istore_n 2, 1) := by decide +kernel
theorem dX3_withTemper_2 : decode cX3_withTemper 2 = .ok (.iconst 0, 1) := by decide +kernel
theorem dX3_withTemper_3 : decode cX3_withTemper 3 = .ok (.istore_n 3, 1) := by decide +kernel
theorem dX3_withTemper_4 : decode cX3_withTemper 4 = .ok (.iload_n 3, 1) := by decide +kernel
theorem dX3_withTemper_5 : decode cX3_withTemper 5 = .ok (.aload_n 0, 1) := by decide +kernel
theorem dX3_withTemper_6 : decode cX3_withTemper 6 = .ok (.getfield 42, 3) := by decide +kernel
theorem dX3_withTemper_9 : decode cX3_withTemper 9 = .ok (.if_icmp .ge 32, 3) := by decide +kernel
theorem dX3_withTemper_12 : decode cX3_withTemper 12 = .ok (.iload_n 1, 1) := by decide +kernel
theorem dX3_withTemper_13 : decode cX3_withTemper 13 = .ok (.iload_n 3, 1) := by decide +kernel
theorem dX3_withTemper_14 : decode cX3_withTemper 14 = .ok (.invokestatic 61, 3) := by decide +kernel
theorem dX3_withTemper_17 : decode cX3_withTemper 17 = .ok (.ifCond .eq 18, 3) := by decide +kernel
theorem dX3_withTemper_20 : decode cX3_withTemper 20 = .ok (.aload_n 0, 1) := by decide +kernel
theorem dX3_withTemper_21 : decode cX3_withTemper 21 = .ok (.getfield 21, 3) := by decide +kernel
theorem dX3_withTemper_24 : decode cX3_withTemper 24 = .ok (.iload_n 3, 1) := by decide +kernel
theorem dX3_withTemper_25 : decode cX3_withTemper 25 = .ok (.iaload, 1) := by decide +kernel
theorem dX3_withTemper_26 : decode cX3_withTemper 26 = .ok (.ifCond .le 9, 3) := by decide +kernel
theorem dX3_withTemper_29 : decode cX3_withTemper 29 = .ok (.iload_n 2, 1) := by decide +kernel
theorem dX3_withTemper_30 : decode cX3_withTemper 30 = .ok (.iconst 1, 1) := by decide +kernel
theorem dX3_withTemper_31 : decode cX3_withTemper 31 = .ok (.iload_n 3, 1) := by decide +kernel
theorem dX3_withTemper_32 : decode cX3_withTemper 32 = .ok (.ishl, 1) := by decide +kernel
theorem dX3_withTemper_33 : decode cX3_withTemper 33 = .ok (.ior, 1) := by decide +kernel
theorem dX3_withTemper_34 : decode cX3_withTemper 34 = .ok (.istore_n 2, 1) := by decide +kernel
theorem dX3_withTemper_35 : decode cX3_withTemper 35 = .ok (.iinc 3 1, 3) := by decide +kernel
theorem dX3_withTemper_38 : decode cX3_withTemper 38 = .ok (.goto (-34), 3) := by decide +kernel
theorem dX3_withTemper_41 : decode cX3_withTemper 41 = .ok (.iload_n 2, 1) := by decide +kernel
theorem dX3_withTemper_42 : decode cX3_withTemper 42 = .ok (.ireturn, 1) := by decide +kernel
set_option maxRecDepth 20000 in
theorem ggX3_passing_X3_keptBy : GoodIn wsX3_passing wsX3_keptBy := goodIn_r _ [7, 8, 9, 10, 11, 6, 12, 13, 14, 15, 16, 36, 37, 38, 39, 40, 41, 42, 43, 44, 45, 46, 47, 48, 49] (by decide +kernel) (by decide +kernel)
set_option maxRecDepth 20000 in
theorem gX3_passing_X3_keptBy : GoodIn wsX3_passing (wsV RX3 100 RX3 yX3_keptBy wsX3_keptBy) := goodIn_app (goodIn_of _ (by decide +kernel)) ggX3_passing_X3_keptBy
set_option maxRecDepth 20000 in
theorem ggX3_passing_X3_bears : GoodIn wsX3_passing wsX3_bears := goodIn_r _ [20, 21, 22, 23, 24, 6, 25, 2, 10, 11, 12, 36, 37, 38, 39, 40, 41, 42, 43, 44, 45, 46, 47, 48, 49] (by decide +kernel) (by decide +kernel)
set_option maxRecDepth 20000 in
theorem gX3_passing_X3_bears : GoodIn wsX3_passing (wsV RX3 69 RX3 yX3_bears wsX3_bears) := goodIn_app (goodIn_of _ (by decide +kernel)) ggX3_passing_X3_bears
set_option maxRecDepth 20000 in
theorem ggX3_passing_X3_blown : GoodIn wsX3_passing wsX3_blown := goodIn_r _ [29, 30, 17, 18, 19, 6, 20, 21, 22, 23, 24, 25, 2, 10, 11, 12, 31, 32, 33, 34, 35, 36, 37, 38, 39, 40, 41, 42, 43, 44, 45, 46, 47, 48, 49] (by decide +kernel) (by decide +kernel)
set_option maxRecDepth 20000 in
theorem gX3_passing_X3_blown : GoodIn wsX3_passing (wsV RX3 104 RX3 yX3_blown wsX3_blown) := goodIn_app (goodIn_of _ (by decide +kernel)) ggX3_passing_X3_blown
set_option maxRecDepth 20000 in
theorem ggX3_passing_X3_kept : GoodIn wsX3_passing wsX3_kept := goodIn_r _ [15, 16] (by decide +kernel) (by decide +kernel)
set_option maxRecDepth 20000 in
theorem gX3_passing_X3_kept : GoodIn wsX3_passing (va_wsS RX3 107 yX3_kept wsX3_kept) := goodIn_app (goodIn_of _ (by decide +kernel)) ggX3_passing_X3_kept
theorem dX3_passing_0 : decode cX3_passing 0 = .ok (.aload_n 0, 1) := by decide +kernel
theorem dX3_passing_1 : decode cX3_passing 1 = .ok (.iload_n 1, 1) := by decide +kernel
theorem dX3_passing_2 : decode cX3_passing 2 = .ok (.ldc2_w 98, 3) := by decide +kernel
theorem dX3_passing_5 : decode cX3_passing 5 = .ok (.invokevirtual 100, 3) := by decide +kernel
theorem dX3_passing_8 : decode cX3_passing 8 = .ok (.lstore 4, 2) := by decide +kernel
theorem dX3_passing_10 : decode cX3_passing 10 = .ok (.iconst 0, 1) := by decide +kernel
theorem dX3_passing_11 : decode cX3_passing 11 = .ok (.istore 6, 2) := by decide +kernel
theorem dX3_passing_13 : decode cX3_passing 13 = .ok (.iload 6, 2) := by decide +kernel
theorem dX3_passing_15 : decode cX3_passing 15 = .ok (.aload_n 0, 1) := by decide +kernel
theorem dX3_passing_16 : decode cX3_passing 16 = .ok (.getfield 49, 3) := by decide +kernel
theorem dX3_passing_19 : decode cX3_passing 19 = .ok (.if_icmp .ge 33, 3) := by decide +kernel
theorem dX3_passing_22 : decode cX3_passing 22 = .ok (.aload_n 0, 1) := by decide +kernel
theorem dX3_passing_23 : decode cX3_passing 23 = .ok (.iload 6, 2) := by decide +kernel
theorem dX3_passing_25 : decode cX3_passing 25 = .ok (.iload_n 3, 1) := by decide +kernel
theorem dX3_passing_26 : decode cX3_passing 26 = .ok (.invokevirtual 69, 3) := by decide +kernel
theorem dX3_passing_29 : decode cX3_passing 29 = .ok (.ifCond .eq 17, 3) := by decide +kernel
theorem dX3_passing_32 : decode cX3_passing 32 = .ok (.lload 4, 2) := by decide +kernel
theorem dX3_passing_34 : decode cX3_passing 34 = .ok (.aload_n 0, 1) := by decide +kernel
theorem dX3_passing_35 : decode cX3_passing 35 = .ok (.iload 6, 2) := by decide +kernel
theorem dX3_passing_37 : decode cX3_passing 37 = .ok (.iload_n 2, 1) := by decide +kernel
theorem dX3_passing_38 : decode cX3_passing 38 = .ok (.invokevirtual 104, 3) := by decide +kernel
theorem dX3_passing_41 : decode cX3_passing 41 = .ok (.invokestatic 107, 3) := by decide +kernel
theorem dX3_passing_44 : decode cX3_passing 44 = .ok (.lstore 4, 2) := by decide +kernel
theorem dX3_passing_46 : decode cX3_passing 46 = .ok (.iinc 6 1, 3) := by decide +kernel
theorem dX3_passing_49 : decode cX3_passing 49 = .ok (.goto (-36), 3) := by decide +kernel
theorem dX3_passing_52 : decode cX3_passing 52 = .ok (.lload 4, 2) := by decide +kernel
theorem dX3_passing_54 : decode cX3_passing 54 = .ok (.lreturn, 1) := by decide +kernel
set_option maxRecDepth 20000 in
theorem ggX3_keptBy_X3_has : GoodIn wsX3_keptBy wsX3_has := goodIn_r _ [6] (by decide +kernel) (by decide +kernel)
set_option maxRecDepth 20000 in
theorem gX3_keptBy_X3_has : GoodIn wsX3_keptBy (va_wsS RX3 61 yX3_has wsX3_has) := goodIn_app (goodIn_of _ (by decide +kernel)) ggX3_keptBy_X3_has
set_option maxRecDepth 20000 in
theorem ggX3_keptBy_X3_kept : GoodIn wsX3_keptBy wsX3_kept := goodIn_r _ [9, 10] (by decide +kernel) (by decide +kernel)
set_option maxRecDepth 20000 in
theorem gX3_keptBy_X3_kept : GoodIn wsX3_keptBy (va_wsS RX3 107 yX3_kept wsX3_kept) := goodIn_app (goodIn_of _ (by decide +kernel)) ggX3_keptBy_X3_kept
theorem dX3_keptBy_0 : decode cX3_keptBy 0 = .ok (.lload_n 2, 1) := by decide +kernel
theorem dX3_keptBy_1 : decode cX3_keptBy 1 = .ok (.lstore 4, 2) := by decide +kernel
theorem dX3_keptBy_3 : decode cX3_keptBy 3 = .ok (.iconst 0, 1) := by decide +kernel
theorem dX3_keptBy_4 : decode cX3_keptBy 4 = .ok (.istore 6, 2) := by decide +kernel
theorem dX3_keptBy_6 : decode cX3_keptBy 6 = .ok (.iload 6, 2) := by decide +kernel
theorem dX3_keptBy_8 : decode cX3_keptBy 8 = .ok (.aload_n 0, 1) := by decide +kernel
theorem dX3_keptBy_9 : decode cX3_keptBy 9 = .ok (.getfield 42, 3) := by decide +kernel
theorem dX3_keptBy_12 : decode cX3_keptBy 12 = .ok (.if_icmp .ge 32, 3) := by decide +kernel
theorem dX3_keptBy_15 : decode cX3_keptBy 15 = .ok (.iload_n 1, 1) := by decide +kernel
theorem dX3_keptBy_16 : decode cX3_keptBy 16 = .ok (.iload 6, 2) := by decide +kernel
theorem dX3_keptBy_18 : decode cX3_keptBy 18 = .ok (.invokestatic 61, 3) := by decide +kernel
theorem dX3_keptBy_21 : decode cX3_keptBy 21 = .ok (.ifCond .eq 17, 3) := by decide +kernel
theorem dX3_keptBy_24 : decode cX3_keptBy 24 = .ok (.lload 4, 2) := by decide +kernel
theorem dX3_keptBy_26 : decode cX3_keptBy 26 = .ok (.aload_n 0, 1) := by decide +kernel
theorem dX3_keptBy_27 : decode cX3_keptBy 27 = .ok (.getfield 21, 3) := by decide +kernel
theorem dX3_keptBy_30 : decode cX3_keptBy 30 = .ok (.iload 6, 2) := by decide +kernel
theorem dX3_keptBy_32 : decode cX3_keptBy 32 = .ok (.iaload, 1) := by decide +kernel
theorem dX3_keptBy_33 : decode cX3_keptBy 33 = .ok (.invokestatic 107, 3) := by decide +kernel
theorem dX3_keptBy_36 : decode cX3_keptBy 36 = .ok (.lstore 4, 2) := by decide +kernel
theorem dX3_keptBy_38 : decode cX3_keptBy 38 = .ok (.iinc 6 1, 3) := by decide +kernel
theorem dX3_keptBy_41 : decode cX3_keptBy 41 = .ok (.goto (-35), 3) := by decide +kernel
theorem dX3_keptBy_44 : decode cX3_keptBy 44 = .ok (.lload 4, 2) := by decide +kernel
theorem dX3_keptBy_46 : decode cX3_keptBy 46 = .ok (.lreturn, 1) := by decide +kernel
theorem dX3_kept_0 : decode cX3_kept 0 = .ok (.lload_n 0, 1) := by decide +kernel
theorem dX3_kept_1 : decode cX3_kept 1 = .ok (.ldc2_w 111, 3) := by decide +kernel
theorem dX3_kept_4 : decode cX3_kept 4 = .ok (.ldiv, 1) := by decide +kernel
theorem dX3_kept_5 : decode cX3_kept 5 = .ok (.bipush 10, 2) := by decide +kernel
theorem dX3_kept_7 : decode cX3_kept 7 = .ok (.iload_n 2, 1) := by decide +kernel
theorem dX3_kept_8 : decode cX3_kept 8 = .ok (.isub, 1) := by decide +kernel
theorem dX3_kept_9 : decode cX3_kept 9 = .ok (.i2l, 1) := by decide +kernel
theorem dX3_kept_10 : decode cX3_kept 10 = .ok (.lmul, 1) := by decide +kernel
theorem dX3_kept_11 : decode cX3_kept 11 = .ok (.lreturn, 1) := by decide +kernel
set_option maxRecDepth 20000 in
theorem ggX3_bestWay_X3_minding : GoodIn wsX3_bestWay wsX3_minding := goodIn_r _ [8, 9, 10, 1, 11, 12, 13, 7, 14, 3, 15, 16, 17, 18, 19, 20, 21, 22, 23, 24, 25, 26, 27, 28, 29, 30, 31, 32, 33, 34, 35, 36, 37, 38, 39, 40, 41, 42, 43, 44, 45, 46, 47, 48, 49, 50, 51, 52, 53, 82, 83, 84, 85, 86, 87, 88, 89, 90, 91, 92, 93, 94, 95] (by decide +kernel) (by decide +kernel)
set_option maxRecDepth 20000 in
theorem gX3_bestWay_X3_minding : GoodIn wsX3_bestWay (wsV RX3 115 RX3 yX3_minding wsX3_minding) := goodIn_app (goodIn_of _ (by decide +kernel)) ggX3_bestWay_X3_minding
set_option maxRecDepth 20000 in
theorem ggX3_bestWay_X3_hearing : GoodIn wsX3_bestWay wsX3_hearing := goodIn_r _ [57, 9, 11, 12, 13, 7, 14, 3, 15, 16, 17, 18, 19, 20, 21, 22, 23, 24, 25, 26, 27, 28, 29, 30, 31, 32, 33, 34, 35, 36, 37, 38, 82, 83, 84, 85, 86, 87, 88, 89, 90, 91, 92, 93, 94, 95] (by decide +kernel) (by decide +kernel)
set_option maxRecDepth 20000 in
theorem gX3_bestWay_X3_hearing : GoodIn wsX3_bestWay (wsV RX3 119 RX3 yX3_hearing wsX3_hearing) := goodIn_app (goodIn_of _ (by decide +kernel)) ggX3_bestWay_X3_hearing
set_option maxRecDepth 20000 in
theorem ggX3_bestWay_X3_passing : GoodIn wsX3_bestWay wsX3_passing := goodIn_r _ [61, 62, 43, 63, 64, 65, 7, 66, 9, 67, 24, 25, 26, 68, 69, 70, 71, 45, 46, 47, 48, 49, 50, 51, 52, 53, 72, 73, 74, 75, 76, 77, 78, 79, 80, 81, 82, 83, 84, 85, 86, 87, 88, 89, 90, 91, 92, 93, 94, 95] (by decide +kernel) (by decide +kernel)
set_option maxRecDepth 20000 in
theorem gX3_bestWay_X3_passing : GoodIn wsX3_bestWay (wsV RX3 122 RX3 yX3_passing wsX3_passing) := goodIn_app (goodIn_of _ (by decide +kernel)) ggX3_bestWay_X3_passing
theorem dX3_bestWay_0 : decode cX3_bestWay 0 = .ok (.ldc 86, 2) := by decide +kernel
theorem dX3_bestWay_2 : decode cX3_bestWay 2 = .ok (.istore 5, 2) := by decide +kernel
theorem dX3_bestWay_4 : decode cX3_bestWay 4 = .ok (.ldc2_w 113, 3) := by decide +kernel
theorem dX3_bestWay_7 : decode cX3_bestWay 7 = .ok (.lstore 6, 2) := by decide +kernel
theorem dX3_bestWay_9 : decode cX3_bestWay 9 = .ok (.iconst 0, 1) := by decide +kernel
theorem dX3_bestWay_10 : decode cX3_bestWay 10 = .ok (.istore 8, 2) := by decide +kernel
theorem dX3_bestWay_12 : decode cX3_bestWay 12 = .ok (.iload 8, 2) := by decide +kernel
theorem dX3_bestWay_14 : decode cX3_bestWay 14 = .ok (.iconst 1, 1) := by decide +kernel
theorem dX3_bestWay_15 : decode cX3_bestWay 15 = .ok (.aload_n 0, 1) := by decide +kernel
theorem dX3_bestWay_16 : decode cX3_bestWay 16 = .ok (.getfield 46, 3) := by decide +kernel
theorem dX3_bestWay_19 : decode cX3_bestWay 19 = .ok (.ishl, 1) := by decide +kernel
theorem dX3_bestWay_20 : decode cX3_bestWay 20 = .ok (.if_icmp .ge 109, 3) := by decide +kernel
theorem dX3_bestWay_23 : decode cX3_bestWay 23 = .ok (.aload_n 0, 1) := by decide +kernel
theorem dX3_bestWay_24 : decode cX3_bestWay 24 = .ok (.iload_n 1, 1) := by decide +kernel
theorem dX3_bestWay_25 : decode cX3_bestWay 25 = .ok (.iload 8, 2) := by decide +kernel
theorem dX3_bestWay_27 : decode cX3_bestWay 27 = .ok (.iconst 0, 1) := by decide +kernel
theorem dX3_bestWay_28 : decode cX3_bestWay 28 = .ok (.invokevirtual 115, 3) := by decide +kernel
theorem dX3_bestWay_31 : decode cX3_bestWay 31 = .ok (.istore 9, 2) := by decide +kernel
theorem dX3_bestWay_33 : decode cX3_bestWay 33 = .ok (.aload_n 0, 1) := by decide +kernel
theorem dX3_bestWay_34 : decode cX3_bestWay 34 = .ok (.iload 8, 2) := by decide +kernel
theorem dX3_bestWay_36 : decode cX3_bestWay 36 = .ok (.invokevirtual 119, 3) := by decide +kernel
theorem dX3_bestWay_39 : decode cX3_bestWay 39 = .ok (.iload_n 2, 1) := by decide +kernel
theorem dX3_bestWay_40 : decode cX3_bestWay 40 = .ok (.if_icmp .lt 7, 3) := by decide +kernel
theorem dX3_bestWay_43 : decode cX3_bestWay 43 = .ok (.iconst 1, 1) := by decide +kernel
theorem dX3_bestWay_44 : decode cX3_bestWay 44 = .ok (.goto 4, 3) := by decide +kernel
theorem dX3_bestWay_47 : decode cX3_bestWay 47 = .ok (.iconst 0, 1) := by decide +kernel
theorem dX3_bestWay_48 : decode cX3_bestWay 48 = .ok (.istore 10, 2) := by decide +kernel
theorem dX3_bestWay_50 : decode cX3_bestWay 50 = .ok (.iload_n 3, 1) := by decide +kernel
theorem dX3_bestWay_51 : decode cX3_bestWay 51 = .ok (.istore 11, 2) := by decide +kernel
theorem dX3_bestWay_53 : decode cX3_bestWay 53 = .ok (.iload 10, 2) := by decide +kernel
theorem dX3_bestWay_55 : decode cX3_bestWay 55 = .ok (.ifCond .eq 68, 3) := by decide +kernel
theorem dX3_bestWay_58 : decode cX3_bestWay 58 = .ok (.iload 11, 2) := by decide +kernel
theorem dX3_bestWay_60 : decode cX3_bestWay 60 = .ok (.iload 4, 2) := by decide +kernel
theorem dX3_bestWay_62 : decode cX3_bestWay 62 = .ok (.if_icmp .gt 61, 3) := by decide +kernel
theorem dX3_bestWay_65 : decode cX3_bestWay 65 = .ok (.aload_n 0, 1) := by decide +kernel
theorem dX3_bestWay_66 : decode cX3_bestWay 66 = .ok (.iload 9, 2) := by decide +kernel
theorem dX3_bestWay_68 : decode cX3_bestWay 68 = .ok (.iload 11, 2) := by decide +kernel
theorem dX3_bestWay_70 : decode cX3_bestWay 70 = .ok (.iconst 0, 1) := by decide +kernel
theorem dX3_bestWay_71 : decode cX3_bestWay 71 = .ok (.invokevirtual 122, 3) := by decide +kernel
theorem dX3_bestWay_74 : decode cX3_bestWay 74 = .ok (.lstore 12, 2) := by decide +kernel
theorem dX3_bestWay_76 : decode cX3_bestWay 76 = .ok (.bipush 16, 2) := by decide +kernel
theorem dX3_bestWay_78 : decode cX3_bestWay 78 = .ok (.iload 11, 2) := by decide +kernel
theorem dX3_bestWay_80 : decode cX3_bestWay 80 = .ok (.imul, 1) := by decide +kernel
theorem dX3_bestWay_81 : decode cX3_bestWay 81 = .ok (.iload 8, 2) := by decide +kernel
theorem dX3_bestWay_83 : decode cX3_bestWay 83 = .ok (.iadd, 1) := by decide +kernel
theorem dX3_bestWay_84 : decode cX3_bestWay 84 = .ok (.istore 14, 2) := by decide +kernel
theorem dX3_bestWay_86 : decode cX3_bestWay 86 = .ok (.lload 12, 2) := by decide +kernel
theorem dX3_bestWay_88 : decode cX3_bestWay 88 = .ok (.lload 6, 2) := by decide +kernel
theorem dX3_bestWay_90 : decode cX3_bestWay 90 = .ok (.lcmp, 1) := by decide +kernel
theorem dX3_bestWay_91 : decode cX3_bestWay 91 = .ok (.ifCond .gt 18, 3) := by decide +kernel
theorem dX3_bestWay_94 : decode cX3_bestWay 94 = .ok (.lload 12, 2) := by decide +kernel
theorem dX3_bestWay_96 : decode cX3_bestWay 96 = .ok (.lload 6, 2) := by decide +kernel
theorem dX3_bestWay_98 : decode cX3_bestWay 98 = .ok (.lcmp, 1) := by decide +kernel
theorem dX3_bestWay_99 : decode cX3_bestWay 99 = .ok (.ifCond .ne 18, 3) := by decide +kernel
theorem dX3_bestWay_102 : decode cX3_bestWay 102 = .ok (.iload 14, 2) := by decide +kernel
theorem dX3_bestWay_104 : decode cX3_bestWay 104 = .ok (.iload 5, 2) := by decide +kernel
theorem dX3_bestWay_106 : decode cX3_bestWay 106 = .ok (.if_icmp .ge 11, 3) := by decide +kernel
theorem dX3_bestWay_109 : decode cX3_bestWay 109 = .ok (.lload 12, 2) := by decide +kernel
theorem dX3_bestWay_111 : decode cX3_bestWay 111 = .ok (.lstore 6, 2) := by decide +kernel
theorem dX3_bestWay_113 : decode cX3_bestWay 113 = .ok (.iload 14, 2) := by decide +kernel
theorem dX3_bestWay_115 : decode cX3_bestWay 115 = .ok (.istore 5, 2) := by decide +kernel
theorem dX3_bestWay_117 : decode cX3_bestWay 117 = .ok (.iinc 11 1, 3) := by decide +kernel
theorem dX3_bestWay_120 : decode cX3_bestWay 120 = .ok (.goto (-67), 3) := by decide +kernel
theorem dX3_bestWay_123 : decode cX3_bestWay 123 = .ok (.iinc 8 1, 3) := by decide +kernel
theorem dX3_bestWay_126 : decode cX3_bestWay 126 = .ok (.goto (-114), 3) := by decide +kernel
theorem dX3_bestWay_129 : decode cX3_bestWay 129 = .ok (.iload 5, 2) := by decide +kernel
theorem dX3_bestWay_131 : decode cX3_bestWay 131 = .ok (.ireturn, 1) := by decide +kernel
set_option maxRecDepth 20000 in
theorem ggX3_fewestGone_J6_bitCount_0f7a4 : GoodIn wsX3_fewestGone wsJ6_bitCount_0f7a4 := goodIn_r _ [7, 8, 9, 10] (by decide +kernel) (by decide +kernel)
set_option maxRecDepth 20000 in
theorem gX3_fewestGone_J6_bitCount_0f7a4 : GoodIn wsX3_fewestGone (va_wsS RX3 126 yJ6_bitCount_0f7a4 wsJ6_bitCount_0f7a4) := goodIn_app (goodIn_of _ (by decide +kernel)) ggX3_fewestGone_J6_bitCount_0f7a4
set_option maxRecDepth 20000 in
theorem ggX3_fewestGone_X3_minding : GoodIn wsX3_fewestGone wsX3_minding := goodIn_r _ [15, 16, 17, 1, 18, 19, 20, 14, 21, 22, 23, 24, 25, 26, 27, 28, 29, 30, 31, 32, 33, 34, 35, 36, 37, 38, 39, 40, 41, 42, 43, 44, 45, 46, 47, 48, 49, 50, 2, 51, 52, 53, 54, 55, 56, 57, 58, 59, 60, 85, 86, 87, 88, 89, 90, 91, 92, 93, 94, 95, 96, 97, 98] (by decide +kernel) (by decide +kernel)
set_option maxRecDepth 20000 in
theorem gX3_fewestGone_X3_minding : GoodIn wsX3_fewestGone (wsV RX3 115 RX3 yX3_minding wsX3_minding) := goodIn_app (goodIn_of _ (by decide +kernel)) ggX3_fewestGone_X3_minding
set_option maxRecDepth 20000 in
theorem ggX3_fewestGone_X3_passing : GoodIn wsX3_fewestGone wsX3_passing := goodIn_r _ [64, 65, 2, 66, 67, 68, 14, 69, 16, 70, 32, 33, 34, 71, 72, 73, 74, 52, 53, 54, 55, 56, 57, 58, 59, 60, 75, 76, 77, 78, 79, 80, 81, 82, 83, 84, 85, 86, 87, 88, 89, 90, 91, 92, 93, 94, 95, 96, 97, 98] (by decide +kernel) (by decide +kernel)
set_option maxRecDepth 20000 in
theorem gX3_fewestGone_X3_passing : GoodIn wsX3_fewestGone (wsV RX3 122 RX3 yX3_passing wsX3_passing) := goodIn_app (goodIn_of _ (by decide +kernel)) ggX3_fewestGone_X3_passing
theorem dX3_fewestGone_0 : decode cX3_fewestGone 0 = .ok (.ldc 86, 2) := by decide +kernel
theorem dX3_fewestGone_2 : decode cX3_fewestGone 2 = .ok (.istore 5, 2) := by decide +kernel
theorem dX3_fewestGone_4 : decode cX3_fewestGone 4 = .ok (.iconst 5, 1) := by decide +kernel
theorem dX3_fewestGone_5 : decode cX3_fewestGone 5 = .ok (.istore 6, 2) := by decide +kernel
theorem dX3_fewestGone_7 : decode cX3_fewestGone 7 = .ok (.iconst 0, 1) := by decide +kernel
theorem dX3_fewestGone_8 : decode cX3_fewestGone 8 = .ok (.istore 7, 2) := by decide +kernel
theorem dX3_fewestGone_10 : decode cX3_fewestGone 10 = .ok (.iload 7, 2) := by decide +kernel
theorem dX3_fewestGone_12 : decode cX3_fewestGone 12 = .ok (.iconst 1, 1) := by decide +kernel
theorem dX3_fewestGone_13 : decode cX3_fewestGone 13 = .ok (.aload_n 0, 1) := by decide +kernel
theorem dX3_fewestGone_14 : decode cX3_fewestGone 14 = .ok (.getfield 49, 3) := by decide +kernel
theorem dX3_fewestGone_17 : decode cX3_fewestGone 17 = .ok (.ishl, 1) := by decide +kernel
theorem dX3_fewestGone_18 : decode cX3_fewestGone 18 = .ok (.if_icmp .ge 56, 3) := by decide +kernel
theorem dX3_fewestGone_21 : decode cX3_fewestGone 21 = .ok (.iload 7, 2) := by decide +kernel
theorem dX3_fewestGone_23 : decode cX3_fewestGone 23 = .ok (.invokestatic 126, 3) := by decide +kernel
theorem dX3_fewestGone_26 : decode cX3_fewestGone 26 = .ok (.iload 6, 2) := by decide +kernel
theorem dX3_fewestGone_28 : decode cX3_fewestGone 28 = .ok (.if_icmp .ge 40, 3) := by decide +kernel
theorem dX3_fewestGone_31 : decode cX3_fewestGone 31 = .ok (.aload_n 0, 1) := by decide +kernel
theorem dX3_fewestGone_32 : decode cX3_fewestGone 32 = .ok (.aload_n 0, 1) := by decide +kernel
theorem dX3_fewestGone_33 : decode cX3_fewestGone 33 = .ok (.iload_n 1, 1) := by decide +kernel
theorem dX3_fewestGone_34 : decode cX3_fewestGone 34 = .ok (.iload_n 2, 1) := by decide +kernel
theorem dX3_fewestGone_35 : decode cX3_fewestGone 35 = .ok (.iload 7, 2) := by decide +kernel
theorem dX3_fewestGone_37 : decode cX3_fewestGone 37 = .ok (.invokevirtual 115, 3) := by decide +kernel
theorem dX3_fewestGone_40 : decode cX3_fewestGone 40 = .ok (.iload_n 3, 1) := by decide +kernel
theorem dX3_fewestGone_41 : decode cX3_fewestGone 41 = .ok (.iload 7, 2) := by decide +kernel
theorem dX3_fewestGone_43 : decode cX3_fewestGone 43 = .ok (.invokevirtual 122, 3) := by decide +kernel
theorem dX3_fewestGone_46 : decode cX3_fewestGone 46 = .ok (.ldc2_w 131, 3) := by decide +kernel
theorem dX3_fewestGone_49 : decode cX3_fewestGone 49 = .ok (.iload 4, 2) := by decide +kernel
theorem dX3_fewestGone_51 : decode cX3_fewestGone 51 = .ok (.i2l, 1) := by decide +kernel
theorem dX3_fewestGone_52 : decode cX3_fewestGone 52 = .ok (.lmul, 1) := by decide +kernel
theorem dX3_fewestGone_53 : decode cX3_fewestGone 53 = .ok (.lcmp, 1) := by decide +kernel
theorem dX3_fewestGone_54 : decode cX3_fewestGone 54 = .ok (.ifCond .lt 14, 3) := by decide +kernel
theorem dX3_fewestGone_57 : decode cX3_fewestGone 57 = .ok (.iload 7, 2) := by decide +kernel
theorem dX3_fewestGone_59 : decode cX3_fewestGone 59 = .ok (.istore 5, 2) := by decide +kernel
theorem dX3_fewestGone_61 : decode cX3_fewestGone 61 = .ok (.iload 7, 2) := by decide +kernel
theorem dX3_fewestGone_63 : decode cX3_fewestGone 63 = .ok (.invokestatic 126, 3) := by decide +kernel
theorem dX3_fewestGone_66 : decode cX3_fewestGone 66 = .ok (.istore 6, 2) := by decide +kernel
theorem dX3_fewestGone_68 : decode cX3_fewestGone 68 = .ok (.iinc 7 1, 3) := by decide +kernel
theorem dX3_fewestGone_71 : decode cX3_fewestGone 71 = .ok (.goto (-61), 3) := by decide +kernel
theorem dX3_fewestGone_74 : decode cX3_fewestGone 74 = .ok (.iload 5, 2) := by decide +kernel
theorem dX3_fewestGone_76 : decode cX3_fewestGone 76 = .ok (.ireturn, 1) := by decide +kernel
set_option maxRecDepth 20000 in
theorem ggX3_drawFallen_X3_bears : GoodIn wsX3_drawFallen wsX3_bears := goodIn_r _ [11, 12, 13, 14, 15, 10, 16, 1, 17, 18, 19, 45, 46, 47, 48, 49, 50, 51, 52, 53, 54, 55, 56, 57, 58] (by decide +kernel) (by decide +kernel)
set_option maxRecDepth 20000 in
theorem gX3_drawFallen_X3_bears : GoodIn wsX3_drawFallen (wsV RX3 69 RX3 yX3_bears wsX3_bears) := goodIn_app (goodIn_of _ (by decide +kernel)) ggX3_drawFallen_X3_bears
set_option maxRecDepth 20000 in
theorem ggX3_drawFallen_X3_blown : GoodIn wsX3_drawFallen wsX3_blown := goodIn_r _ [23, 24, 7, 8, 9, 10, 11, 12, 13, 14, 15, 16, 1, 17, 18, 19, 25, 26, 27, 28, 29, 45, 46, 47, 48, 49, 50, 51, 52, 53, 54, 55, 56, 57, 58] (by decide +kernel) (by decide +kernel)
set_option maxRecDepth 20000 in
theorem gX3_drawFallen_X3_blown : GoodIn wsX3_drawFallen (wsV RX3 104 RX3 yX3_blown wsX3_blown) := goodIn_app (goodIn_of _ (by decide +kernel)) ggX3_drawFallen_X3_blown
set_option maxRecDepth 20000 in
theorem ggX3_drawFallen_X3_has : GoodIn wsX3_drawFallen wsX3_has := goodIn_r _ [19] (by decide +kernel) (by decide +kernel)
set_option maxRecDepth 20000 in
theorem gX3_drawFallen_X3_has : GoodIn wsX3_drawFallen (va_wsS RX3 61 yX3_has wsX3_has) := goodIn_app (goodIn_of _ (by decide +kernel)) ggX3_drawFallen_X3_has
set_option maxRecDepth 20000 in
theorem ggX3_drawFallen_X3_treeOf : GoodIn wsX3_drawFallen wsX3_treeOf := goodIn_r _ [33, 34, 1, 35, 36, 37, 38, 39, 40, 41, 42, 43, 10, 44, 5, 7, 8, 9, 11, 12, 13, 14, 15, 16, 17, 18, 19, 45, 46, 47, 48, 49, 50, 51, 52, 53, 54, 55, 56, 57, 58] (by decide +kernel) (by decide +kernel)
set_option maxRecDepth 20000 in
theorem gX3_drawFallen_X3_treeOf : GoodIn wsX3_drawFallen (wsV RX3 92 RX3 yX3_treeOf wsX3_treeOf) := goodIn_app (goodIn_of _ (by decide +kernel)) ggX3_drawFallen_X3_treeOf
theorem dX3_drawFallen_0 : decode cX3_drawFallen 0 = .ok (.iconst 0, 1) := by decide +kernel
theorem dX3_drawFallen_1 : decode cX3_drawFallen 1 = .ok (.istore 4, 2) := by decide +kernel
theorem dX3_drawFallen_3 : decode cX3_drawFallen 3 = .ok (.iload_n 3, 1) := by decide +kernel
theorem dX3_drawFallen_4 : decode cX3_drawFallen 4 = .ok (.i2l, 1) := by decide +kernel
theorem dX3_drawFallen_5 : decode cX3_drawFallen 5 = .ok (.lstore 5, 2) := by decide +kernel
theorem dX3_drawFallen_7 : decode cX3_drawFallen 7 = .ok (.iconst 0, 1) := by decide +kernel
theorem dX3_drawFallen_8 : decode cX3_drawFallen 8 = .ok (.istore 7, 2) := by decide +kernel
theorem dX3_drawFallen_10 : decode cX3_drawFallen 10 = .ok (.iload 7, 2) := by decide +kernel
theorem dX3_drawFallen_12 : decode cX3_drawFallen 12 = .ok (.aload_n 0, 1) := by decide +kernel
theorem dX3_drawFallen_13 : decode cX3_drawFallen 13 = .ok (.getfield 49, 3) := by decide +kernel
theorem dX3_drawFallen_16 : decode cX3_drawFallen 16 = .ok (.if_icmp .ge 151, 3) := by decide +kernel
theorem dX3_drawFallen_19 : decode cX3_drawFallen 19 = .ok (.aload_n 0, 1) := by decide +kernel
theorem dX3_drawFallen_20 : decode cX3_drawFallen 20 = .ok (.iload 7, 2) := by decide +kernel
theorem dX3_drawFallen_22 : decode cX3_drawFallen 22 = .ok (.iconst 0, 1) := by decide +kernel
theorem dX3_drawFallen_23 : decode cX3_drawFallen 23 = .ok (.invokevirtual 69, 3) := by decide +kernel
theorem dX3_drawFallen_26 : decode cX3_drawFallen 26 = .ok (.ifCond .eq 135, 3) := by decide +kernel
theorem dX3_drawFallen_29 : decode cX3_drawFallen 29 = .ok (.lload 5, 2) := by decide +kernel
theorem dX3_drawFallen_31 : decode cX3_drawFallen 31 = .ok (.ldc2_w 133, 3) := by decide +kernel
theorem dX3_drawFallen_34 : decode cX3_drawFallen 34 = .ok (.lmul, 1) := by decide +kernel
theorem dX3_drawFallen_35 : decode cX3_drawFallen 35 = .ok (.ldc2_w 135, 3) := by decide +kernel
theorem dX3_drawFallen_38 : decode cX3_drawFallen 38 = .ok (.lrem, 1) := by decide +kernel
theorem dX3_drawFallen_39 : decode cX3_drawFallen 39 = .ok (.lstore 5, 2) := by decide +kernel
theorem dX3_drawFallen_41 : decode cX3_drawFallen 41 = .ok (.lload 5, 2) := by decide +kernel
theorem dX3_drawFallen_43 : decode cX3_drawFallen 43 = .ok (.ldc2_w 111, 3) := by decide +kernel
theorem dX3_drawFallen_46 : decode cX3_drawFallen 46 = .ok (.lrem, 1) := by decide +kernel
theorem dX3_drawFallen_47 : decode cX3_drawFallen 47 = .ok (.aload_n 0, 1) := by decide +kernel
theorem dX3_drawFallen_48 : decode cX3_drawFallen 48 = .ok (.iload 7, 2) := by decide +kernel
theorem dX3_drawFallen_50 : decode cX3_drawFallen 50 = .ok (.iload_n 2, 1) := by decide +kernel
theorem dX3_drawFallen_51 : decode cX3_drawFallen 51 = .ok (.invokevirtual 104, 3) := by decide +kernel
theorem dX3_drawFallen_54 : decode cX3_drawFallen 54 = .ok (.i2l, 1) := by decide +kernel
theorem dX3_drawFallen_55 : decode cX3_drawFallen 55 = .ok (.lcmp, 1) := by decide +kernel
theorem dX3_drawFallen_56 : decode cX3_drawFallen 56 = .ok (.ifCond .ge 7, 3) := by decide +kernel
theorem dX3_drawFallen_59 : decode cX3_drawFallen 59 = .ok (.iconst 1, 1) := by decide +kernel
theorem dX3_drawFallen_60 : decode cX3_drawFallen 60 = .ok (.goto 4, 3) := by decide +kernel
theorem dX3_drawFallen_63 : decode cX3_drawFallen 63 = .ok (.iconst 0, 1) := by decide +kernel
theorem dX3_drawFallen_64 : decode cX3_drawFallen 64 = .ok (.istore 8, 2) := by decide +kernel
theorem dX3_drawFallen_66 : decode cX3_drawFallen 66 = .ok (.iconst 0, 1) := by decide +kernel
theorem dX3_drawFallen_67 : decode cX3_drawFallen 67 = .ok (.istore 9, 2) := by decide +kernel
theorem dX3_drawFallen_69 : decode cX3_drawFallen 69 = .ok (.iload 9, 2) := by decide +kernel
theorem dX3_drawFallen_71 : decode cX3_drawFallen 71 = .ok (.aload_n 0, 1) := by decide +kernel
theorem dX3_drawFallen_72 : decode cX3_drawFallen 72 = .ok (.getfield 42, 3) := by decide +kernel
theorem dX3_drawFallen_75 : decode cX3_drawFallen 75 = .ok (.if_icmp .ge 72, 3) := by decide +kernel
theorem dX3_drawFallen_78 : decode cX3_drawFallen 78 = .ok (.iload_n 1, 1) := by decide +kernel
theorem dX3_drawFallen_79 : decode cX3_drawFallen 79 = .ok (.iload 9, 2) := by decide +kernel
theorem dX3_drawFallen_81 : decode cX3_drawFallen 81 = .ok (.invokestatic 61, 3) := by decide +kernel
theorem dX3_drawFallen_84 : decode cX3_drawFallen 84 = .ok (.ifCond .eq 57, 3) := by decide +kernel
theorem dX3_drawFallen_87 : decode cX3_drawFallen 87 = .ok (.aload_n 0, 1) := by decide +kernel
theorem dX3_drawFallen_88 : decode cX3_drawFallen 88 = .ok (.iload 9, 2) := by decide +kernel
theorem dX3_drawFallen_90 : decode cX3_drawFallen 90 = .ok (.iconst 0, 1) := by decide +kernel
theorem dX3_drawFallen_91 : decode cX3_drawFallen 91 = .ok (.invokevirtual 92, 3) := by decide +kernel
theorem dX3_drawFallen_94 : decode cX3_drawFallen 94 = .ok (.iload 7, 2) := by decide +kernel
theorem dX3_drawFallen_96 : decode cX3_drawFallen 96 = .ok (.if_icmp .ne 45, 3) := by decide +kernel
theorem dX3_drawFallen_99 : decode cX3_drawFallen 99 = .ok (.lload 5, 2) := by decide +kernel
theorem dX3_drawFallen_101 : decode cX3_drawFallen 101 = .ok (.ldc2_w 133, 3) := by decide +kernel
theorem dX3_drawFallen_104 : decode cX3_drawFallen 104 = .ok (.lmul, 1) := by decide +kernel
theorem dX3_drawFallen_105 : decode cX3_drawFallen 105 = .ok (.ldc2_w 135, 3) := by decide +kernel
theorem dX3_drawFallen_108 : decode cX3_drawFallen 108 = .ok (.lrem, 1) := by decide +kernel
theorem dX3_drawFallen_109 : decode cX3_drawFallen 109 = .ok (.lstore 5, 2) := by decide +kernel
theorem dX3_drawFallen_111 : decode cX3_drawFallen 111 = .ok (.lload 5, 2) := by decide +kernel
theorem dX3_drawFallen_113 : decode cX3_drawFallen 113 = .ok (.ldc2_w 111, 3) := by decide +kernel
theorem dX3_drawFallen_116 : decode cX3_drawFallen 116 = .ok (.lrem, 1) := by decide +kernel
theorem dX3_drawFallen_117 : decode cX3_drawFallen 117 = .ok (.aload_n 0, 1) := by decide +kernel
theorem dX3_drawFallen_118 : decode cX3_drawFallen 118 = .ok (.getfield 21, 3) := by decide +kernel
theorem dX3_drawFallen_121 : decode cX3_drawFallen 121 = .ok (.iload 9, 2) := by decide +kernel
theorem dX3_drawFallen_123 : decode cX3_drawFallen 123 = .ok (.iaload, 1) := by decide +kernel
theorem dX3_drawFallen_124 : decode cX3_drawFallen 124 = .ok (.i2l, 1) := by decide +kernel
theorem dX3_drawFallen_125 : decode cX3_drawFallen 125 = .ok (.lcmp, 1) := by decide +kernel
theorem dX3_drawFallen_126 : decode cX3_drawFallen 126 = .ok (.ifCond .lt 8, 3) := by decide +kernel
theorem dX3_drawFallen_129 : decode cX3_drawFallen 129 = .ok (.iload 8, 2) := by decide +kernel
theorem dX3_drawFallen_131 : decode cX3_drawFallen 131 = .ok (.ifCond .eq 7, 3) := by decide +kernel
theorem dX3_drawFallen_134 : decode cX3_drawFallen 134 = .ok (.iconst 1, 1) := by decide +kernel
theorem dX3_drawFallen_135 : decode cX3_drawFallen 135 = .ok (.goto 4, 3) := by decide +kernel
theorem dX3_drawFallen_138 : decode cX3_drawFallen 138 = .ok (.iconst 0, 1) := by decide +kernel
theorem dX3_drawFallen_139 : decode cX3_drawFallen 139 = .ok (.istore 8, 2) := by decide +kernel
theorem dX3_drawFallen_141 : decode cX3_drawFallen 141 = .ok (.iinc 9 1, 3) := by decide +kernel
theorem dX3_drawFallen_144 : decode cX3_drawFallen 144 = .ok (.goto (-75), 3) := by decide +kernel
theorem dX3_drawFallen_147 : decode cX3_drawFallen 147 = .ok (.iload 8, 2) := by decide +kernel
theorem dX3_drawFallen_149 : decode cX3_drawFallen 149 = .ok (.ifCond .eq 12, 3) := by decide +kernel
theorem dX3_drawFallen_152 : decode cX3_drawFallen 152 = .ok (.iload 4, 2) := by decide +kernel
theorem dX3_drawFallen_154 : decode cX3_drawFallen 154 = .ok (.iconst 1, 1) := by decide +kernel
theorem dX3_drawFallen_155 : decode cX3_drawFallen 155 = .ok (.iload 7, 2) := by decide +kernel
theorem dX3_drawFallen_157 : decode cX3_drawFallen 157 = .ok (.ishl, 1) := by decide +kernel
theorem dX3_drawFallen_158 : decode cX3_drawFallen 158 = .ok (.ior, 1) := by decide +kernel
theorem dX3_drawFallen_159 : decode cX3_drawFallen 159 = .ok (.istore 4, 2) := by decide +kernel
theorem dX3_drawFallen_161 : decode cX3_drawFallen 161 = .ok (.iinc 7 1, 3) := by decide +kernel
theorem dX3_drawFallen_164 : decode cX3_drawFallen 164 = .ok (.goto (-154), 3) := by decide +kernel
theorem dX3_drawFallen_167 : decode cX3_drawFallen 167 = .ok (.iload 4, 2) := by decide +kernel
theorem dX3_drawFallen_169 : decode cX3_drawFallen 169 = .ok (.ireturn, 1) := by decide +kernel
theorem dX3_arrives_0 : decode cX3_arrives 0 = .ok (.aload_n 0, 1) := by decide +kernel
theorem dX3_arrives_1 : decode cX3_arrives 1 = .ok (.getfield 30, 3) := by decide +kernel
theorem dX3_arrives_4 : decode cX3_arrives 4 = .ok (.iload_n 1, 1) := by decide +kernel
theorem dX3_arrives_5 : decode cX3_arrives 5 = .ok (.iaload, 1) := by decide +kernel
theorem dX3_arrives_6 : decode cX3_arrives 6 = .ok (.aload_n 0, 1) := by decide +kernel
theorem dX3_arrives_7 : decode cX3_arrives 7 = .ok (.getfield 27, 3) := by decide +kernel
theorem dX3_arrives_10 : decode cX3_arrives 10 = .ok (.iload_n 1, 1) := by decide +kernel
theorem dX3_arrives_11 : decode cX3_arrives 11 = .ok (.iaload, 1) := by decide +kernel
theorem dX3_arrives_12 : decode cX3_arrives 12 = .ok (.aload_n 0, 1) := by decide +kernel
theorem dX3_arrives_13 : decode cX3_arrives 13 = .ok (.getfield 15, 3) := by decide +kernel
theorem dX3_arrives_16 : decode cX3_arrives 16 = .ok (.iload_n 2, 1) := by decide +kernel
theorem dX3_arrives_17 : decode cX3_arrives 17 = .ok (.iaload, 1) := by decide +kernel
theorem dX3_arrives_18 : decode cX3_arrives 18 = .ok (.isub, 1) := by decide +kernel
theorem dX3_arrives_19 : decode cX3_arrives 19 = .ok (.invokestatic 87, 3) := by decide +kernel
theorem dX3_arrives_22 : decode cX3_arrives 22 = .ok (.isub, 1) := by decide +kernel
theorem dX3_arrives_23 : decode cX3_arrives 23 = .ok (.aload_n 0, 1) := by decide +kernel
theorem dX3_arrives_24 : decode cX3_arrives 24 = .ok (.getfield 18, 3) := by decide +kernel
theorem dX3_arrives_27 : decode cX3_arrives 27 = .ok (.iload_n 2, 1) := by decide +kernel
theorem dX3_arrives_28 : decode cX3_arrives 28 = .ok (.iaload, 1) := by decide +kernel
theorem dX3_arrives_29 : decode cX3_arrives 29 = .ok (.iadd, 1) := by decide +kernel
theorem dX3_arrives_30 : decode cX3_arrives 30 = .ok (.ireturn, 1) := by decide +kernel
set_option maxRecDepth 20000 in
theorem ggX3_bears_X3_isTree : GoodIn wsX3_bears wsX3_isTree := goodIn_r _ [6, 7, 11, 12, 13, 14, 15, 16, 17, 18, 19, 20, 21, 22, 23, 24] (by decide +kernel) (by decide +kernel)
set_option maxRecDepth 20000 in
theorem gX3_bears_X3_isTree : GoodIn wsX3_bears (wsV RX3 65 RX3 yX3_isTree wsX3_isTree) := goodIn_app (goodIn_of _ (by decide +kernel)) ggX3_bears_X3_isTree
set_option maxRecDepth 20000 in
theorem ggX3_bears_X3_has : GoodIn wsX3_bears wsX3_has := goodIn_r _ [10] (by decide +kernel) (by decide +kernel)
set_option maxRecDepth 20000 in
theorem gX3_bears_X3_has : GoodIn wsX3_bears (va_wsS RX3 61 yX3_has wsX3_has) := goodIn_app (goodIn_of _ (by decide +kernel)) ggX3_bears_X3_has
theorem dX3_bears_0 : decode cX3_bears 0 = .ok (.aload_n 0, 1) := by decide +kernel
theorem dX3_bears_1 : decode cX3_bears 1 = .ok (.iload_n 1, 1) := by decide +kernel
theorem dX3_bears_2 : decode cX3_bears 2 = .ok (.invokevirtual 65, 3) := by decide +kernel
theorem dX3_bears_5 : decode cX3_bears 5 = .ok (.ifCond .eq 24, 3) := by decide +kernel
theorem dX3_bears_8 : decode cX3_bears 8 = .ok (.aload_n 0, 1) := by decide +kernel
theorem dX3_bears_9 : decode cX3_bears 9 = .ok (.getfield 39, 3) := by decide +kernel
theorem dX3_bears_12 : decode cX3_bears 12 = .ok (.iload_n 1, 1) := by decide +kernel
theorem dX3_bears_13 : decode cX3_bears 13 = .ok (.iaload, 1) := by decide +kernel
theorem dX3_bears_14 : decode cX3_bears 14 = .ok (.ifCond .le 15, 3) := by decide +kernel
theorem dX3_bears_17 : decode cX3_bears 17 = .ok (.iload_n 2, 1) := by decide +kernel
theorem dX3_bears_18 : decode cX3_bears 18 = .ok (.iload_n 1, 1) := by decide +kernel
theorem dX3_bears_19 : decode cX3_bears 19 = .ok (.invokestatic 61, 3) := by decide +kernel
theorem dX3_bears_22 : decode cX3_bears 22 = .ok (.ifCond .ne 7, 3) := by decide +kernel
theorem dX3_bears_25 : decode cX3_bears 25 = .ok (.iconst 1, 1) := by decide +kernel
theorem dX3_bears_26 : decode cX3_bears 26 = .ok (.goto 4, 3) := by decide +kernel
theorem dX3_bears_29 : decode cX3_bears 29 = .ok (.iconst 0, 1) := by decide +kernel
theorem dX3_bears_30 : decode cX3_bears 30 = .ok (.ireturn, 1) := by decide +kernel
set_option maxRecDepth 20000 in
theorem ggX3_hearing_X3_hornsHeardBy : GoodIn wsX3_hearing wsX3_hornsHeardBy := goodIn_r _ [6, 7, 8, 9, 10, 5, 11, 1, 12, 13, 14, 15, 16, 17, 18, 19, 20, 21, 22, 23, 24, 25, 26, 27, 28, 29, 30, 31, 32, 33, 34, 35, 36, 37, 38, 39, 40, 41, 42, 43, 44, 45] (by decide +kernel) (by decide +kernel)
set_option maxRecDepth 20000 in
theorem gX3_hearing_X3_hornsHeardBy : GoodIn wsX3_hearing (wsV RX3 95 RX3 yX3_hornsHeardBy wsX3_hornsHeardBy) := goodIn_app (goodIn_of _ (by decide +kernel)) ggX3_hearing_X3_hornsHeardBy
theorem dX3_hearing_0 : decode cX3_hearing 0 = .ok (.iconst 0, 1) := by decide +kernel
theorem dX3_hearing_1 : decode cX3_hearing 1 = .ok (.istore_n 2, 1) := by decide +kernel
theorem dX3_hearing_2 : decode cX3_hearing 2 = .ok (.iconst 0, 1) := by decide +kernel
theorem dX3_hearing_3 : decode cX3_hearing 3 = .ok (.istore_n 3, 1) := by decide +kernel
theorem dX3_hearing_4 : decode cX3_hearing 4 = .ok (.iload_n 3, 1) := by decide +kernel
theorem dX3_hearing_5 : decode cX3_hearing 5 = .ok (.aload_n 0, 1) := by decide +kernel
theorem dX3_hearing_6 : decode cX3_hearing 6 = .ok (.getfield 42, 3) := by decide +kernel
theorem dX3_hearing_9 : decode cX3_hearing 9 = .ok (.if_icmp .ge 22, 3) := by decide +kernel
theorem dX3_hearing_12 : decode cX3_hearing 12 = .ok (.aload_n 0, 1) := by decide +kernel
theorem dX3_hearing_13 : decode cX3_hearing 13 = .ok (.iload_n 3, 1) := by decide +kernel
theorem dX3_hearing_14 : decode cX3_hearing 14 = .ok (.invokevirtual 95, 3) := by decide +kernel
theorem dX3_hearing_17 : decode cX3_hearing 17 = .ok (.iload_n 1, 1) := by decide +kernel
theorem dX3_hearing_18 : decode cX3_hearing 18 = .ok (.iand, 1) := by decide +kernel
theorem dX3_hearing_19 : decode cX3_hearing 19 = .ok (.ifCond .eq 6, 3) := by decide +kernel
theorem dX3_hearing_22 : decode cX3_hearing 22 = .ok (.iinc 2 1, 3) := by decide +kernel
theorem dX3_hearing_25 : decode cX3_hearing 25 = .ok (.iinc 3 1, 3) := by decide +kernel
theorem dX3_hearing_28 : decode cX3_hearing 28 = .ok (.goto (-24), 3) := by decide +kernel
theorem dX3_hearing_31 : decode cX3_hearing 31 = .ok (.iload_n 2, 1) := by decide +kernel
theorem dX3_hearing_32 : decode cX3_hearing 32 = .ok (.ireturn, 1) := by decide +kernel
theorem dX3_has_0 : decode cX3_has 0 = .ok (.iload_n 0, 1) := by decide +kernel
theorem dX3_has_1 : decode cX3_has 1 = .ok (.iload_n 1, 1) := by decide +kernel
theorem dX3_has_2 : decode cX3_has 2 = .ok (.ishr, 1) := by decide +kernel
theorem dX3_has_3 : decode cX3_has 3 = .ok (.iconst 1, 1) := by decide +kernel
theorem dX3_has_4 : decode cX3_has 4 = .ok (.iand, 1) := by decide +kernel
theorem dX3_has_5 : decode cX3_has 5 = .ok (.ifCond .eq 7, 3) := by decide +kernel
theorem dX3_has_8 : decode cX3_has 8 = .ok (.iconst 1, 1) := by decide +kernel
theorem dX3_has_9 : decode cX3_has 9 = .ok (.goto 4, 3) := by decide +kernel
theorem dX3_has_12 : decode cX3_has 12 = .ok (.iconst 0, 1) := by decide +kernel
theorem dX3_has_13 : decode cX3_has 13 = .ok (.ireturn, 1) := by decide +kernel
