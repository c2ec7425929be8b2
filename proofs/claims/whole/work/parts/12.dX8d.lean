theorem dX8_picks_0 : decode cX8_picks 0 = .ok (.aload_n 0, 1) := by decide +kernel
theorem dX8_picks_1 : decode cX8_picks 1 = .ok (.iconst 0, 1) := by decide +kernel
theorem dX8_picks_2 : decode cX8_picks 2 = .ok (.putfield 41, 3) := by decide +kernel
theorem dX8_picks_5 : decode cX8_picks 5 = .ok (.aload_n 0, 1) := by decide +kernel
theorem dX8_picks_6 : decode cX8_picks 6 = .ok (.getfield 184, 3) := by decide +kernel
theorem dX8_picks_9 : decode cX8_picks 9 = .ok (.ifCond .ne 7, 3) := by decide +kernel
theorem dX8_picks_12 : decode cX8_picks 12 = .ok (.ldc2_w 223, 3) := by decide +kernel
theorem dX8_picks_15 : decode cX8_picks 15 = .ok (.lreturn, 1) := by decide +kernel
theorem dX8_picks_16 : decode cX8_picks 16 = .ok (.iload_n 1, 1) := by decide +kernel
theorem dX8_picks_17 : decode cX8_picks 17 = .ok (.invokestatic 225, 3) := by decide +kernel
theorem dX8_picks_20 : decode cX8_picks 20 = .ok (.ifCond .eq 30, 3) := by decide +kernel
theorem dX8_picks_23 : decode cX8_picks 23 = .ok (.iload_n 2, 1) := by decide +kernel
theorem dX8_picks_24 : decode cX8_picks 24 = .ok (.invokestatic 228, 3) := by decide +kernel
theorem dX8_picks_27 : decode cX8_picks 27 = .ok (.ifCond .eq 23, 3) := by decide +kernel
theorem dX8_picks_30 : decode cX8_picks 30 = .ok (.iload_n 3, 1) := by decide +kernel
theorem dX8_picks_31 : decode cX8_picks 31 = .ok (.invokestatic 231, 3) := by decide +kernel
theorem dX8_picks_34 : decode cX8_picks 34 = .ok (.ifCond .eq 16, 3) := by decide +kernel
theorem dX8_picks_37 : decode cX8_picks 37 = .ok (.iload 4, 2) := by decide +kernel
theorem dX8_picks_39 : decode cX8_picks 39 = .ok (.i2l, 1) := by decide +kernel
theorem dX8_picks_40 : decode cX8_picks 40 = .ok (.lconst 0, 1) := by decide +kernel
theorem dX8_picks_41 : decode cX8_picks 41 = .ok (.ldc2_w 289, 3) := by decide +kernel
theorem dX8_picks_44 : decode cX8_picks 44 = .ok (.invokestatic 52, 3) := by decide +kernel
theorem dX8_picks_47 : decode cX8_picks 47 = .ok (.ifCond .ne 7, 3) := by decide +kernel
theorem dX8_picks_50 : decode cX8_picks 50 = .ok (.ldc2_w 62, 3) := by decide +kernel
theorem dX8_picks_53 : decode cX8_picks 53 = .ok (.lreturn, 1) := by decide +kernel
theorem dX8_picks_54 : decode cX8_picks 54 = .ok (.ldc 80, 2) := by decide +kernel
theorem dX8_picks_56 : decode cX8_picks 56 = .ok (.istore 5, 2) := by decide +kernel
theorem dX8_picks_58 : decode cX8_picks 58 = .ok (.iconst 0, 1) := by decide +kernel
theorem dX8_picks_59 : decode cX8_picks 59 = .ok (.istore 6, 2) := by decide +kernel
theorem dX8_picks_61 : decode cX8_picks 61 = .ok (.iload 6, 2) := by decide +kernel
theorem dX8_picks_63 : decode cX8_picks 63 = .ok (.iconst 1, 1) := by decide +kernel
theorem dX8_picks_64 : decode cX8_picks 64 = .ok (.aload_n 0, 1) := by decide +kernel
theorem dX8_picks_65 : decode cX8_picks 65 = .ok (.getfield 19, 3) := by decide +kernel
theorem dX8_picks_68 : decode cX8_picks 68 = .ok (.iconst 2, 1) := by decide +kernel
theorem dX8_picks_69 : decode cX8_picks 69 = .ok (.iaload, 1) := by decide +kernel
theorem dX8_picks_70 : decode cX8_picks 70 = .ok (.ishl, 1) := by decide +kernel
theorem dX8_picks_71 : decode cX8_picks 71 = .ok (.if_icmp .ge 79, 3) := by decide +kernel
theorem dX8_picks_74 : decode cX8_picks 74 = .ok (.aload_n 0, 1) := by decide +kernel
theorem dX8_picks_75 : decode cX8_picks 75 = .ok (.iload_n 1, 1) := by decide +kernel
theorem dX8_picks_76 : decode cX8_picks 76 = .ok (.iload_n 2, 1) := by decide +kernel
theorem dX8_picks_77 : decode cX8_picks 77 = .ok (.iload_n 3, 1) := by decide +kernel
theorem dX8_picks_78 : decode cX8_picks 78 = .ok (.iload 6, 2) := by decide +kernel
theorem dX8_picks_80 : decode cX8_picks 80 = .ok (.invokevirtual 279, 3) := by decide +kernel
theorem dX8_picks_83 : decode cX8_picks 83 = .ok (.aload_n 0, 1) := by decide +kernel
theorem dX8_picks_84 : decode cX8_picks 84 = .ok (.getfield 266, 3) := by decide +kernel
theorem dX8_picks_87 : decode cX8_picks 87 = .ok (.ldc2_w 289, 3) := by decide +kernel
theorem dX8_picks_90 : decode cX8_picks 90 = .ok (.lmul, 1) := by decide +kernel
theorem dX8_picks_91 : decode cX8_picks 91 = .ok (.iload 4, 2) := by decide +kernel
theorem dX8_picks_93 : decode cX8_picks 93 = .ok (.i2l, 1) := by decide +kernel
theorem dX8_picks_94 : decode cX8_picks 94 = .ok (.aload_n 0, 1) := by decide +kernel
theorem dX8_picks_95 : decode cX8_picks 95 = .ok (.getfield 269, 3) := by decide +kernel
theorem dX8_picks_98 : decode cX8_picks 98 = .ok (.lmul, 1) := by decide +kernel
theorem dX8_picks_99 : decode cX8_picks 99 = .ok (.lcmp, 1) := by decide +kernel
theorem dX8_picks_100 : decode cX8_picks 100 = .ok (.ifCond .lt 7, 3) := by decide +kernel
theorem dX8_picks_103 : decode cX8_picks 103 = .ok (.iconst 1, 1) := by decide +kernel
theorem dX8_picks_104 : decode cX8_picks 104 = .ok (.goto 4, 3) := by decide +kernel
theorem dX8_picks_107 : decode cX8_picks 107 = .ok (.iconst 0, 1) := by decide +kernel
theorem dX8_picks_108 : decode cX8_picks 108 = .ok (.istore 7, 2) := by decide +kernel
theorem dX8_picks_110 : decode cX8_picks 110 = .ok (.iload 7, 2) := by decide +kernel
theorem dX8_picks_112 : decode cX8_picks 112 = .ok (.ifCond .eq 28, 3) := by decide +kernel
theorem dX8_picks_115 : decode cX8_picks 115 = .ok (.iload 5, 2) := by decide +kernel
theorem dX8_picks_117 : decode cX8_picks 117 = .ok (.ldc 80, 2) := by decide +kernel
theorem dX8_picks_119 : decode cX8_picks 119 = .ok (.if_icmp .eq 16, 3) := by decide +kernel
theorem dX8_picks_122 : decode cX8_picks 122 = .ok (.iload 6, 2) := by decide +kernel
theorem dX8_picks_124 : decode cX8_picks 124 = .ok (.invokestatic 291, 3) := by decide +kernel
theorem dX8_picks_127 : decode cX8_picks 127 = .ok (.iload 5, 2) := by decide +kernel
theorem dX8_picks_129 : decode cX8_picks 129 = .ok (.invokestatic 291, 3) := by decide +kernel
theorem dX8_picks_132 : decode cX8_picks 132 = .ok (.if_icmp .ge 8, 3) := by decide +kernel
theorem dX8_picks_135 : decode cX8_picks 135 = .ok (.iload 6, 2) := by decide +kernel
theorem dX8_picks_137 : decode cX8_picks 137 = .ok (.goto 5, 3) := by decide +kernel
theorem dX8_picks_140 : decode cX8_picks 140 = .ok (.iload 5, 2) := by decide +kernel
theorem dX8_picks_142 : decode cX8_picks 142 = .ok (.istore 5, 2) := by decide +kernel
theorem dX8_picks_144 : decode cX8_picks 144 = .ok (.iinc 6 1, 3) := by decide +kernel
theorem dX8_picks_147 : decode cX8_picks 147 = .ok (.goto (-86), 3) := by decide +kernel
theorem dX8_picks_150 : decode cX8_picks 150 = .ok (.iload 5, 2) := by decide +kernel
theorem dX8_picks_152 : decode cX8_picks 152 = .ok (.i2l, 1) := by decide +kernel
theorem dX8_picks_153 : decode cX8_picks 153 = .ok (.lreturn, 1) := by decide +kernel
set_option maxRecDepth 20000 in
theorem ggX8_council_X8_areHorns : GoodIn wsX8_council wsX8_areHorns := goodIn_r _ [15, 16, 17, 18, 14, 19] (by decide +kernel) (by decide +kernel)
set_option maxRecDepth 20000 in
theorem gX8_council_X8_areHorns : GoodIn wsX8_council (va_wsS RX8 228 yX8_areHorns wsX8_areHorns) := goodIn_app (goodIn_of _ (by decide +kernel)) ggX8_council_X8_areHorns
set_option maxRecDepth 20000 in
theorem ggX8_council_X8_isHour : GoodIn wsX8_council wsX8_isHour := goodIn_r _ [22, 23, 17, 18, 14, 19] (by decide +kernel) (by decide +kernel)
set_option maxRecDepth 20000 in
theorem gX8_council_X8_isHour : GoodIn wsX8_council (va_wsS RX8 231 yX8_isHour wsX8_isHour) := goodIn_app (goodIn_of _ (by decide +kernel)) ggX8_council_X8_isHour
set_option maxRecDepth 20000 in
theorem ggX8_council_X8_isRow : GoodIn wsX8_council wsX8_isRow := goodIn_r _ [26, 27, 17, 18, 14, 19] (by decide +kernel) (by decide +kernel)
set_option maxRecDepth 20000 in
theorem gX8_council_X8_isRow : GoodIn wsX8_council (va_wsS RX8 56 yX8_isRow wsX8_isRow) := goodIn_app (goodIn_of _ (by decide +kernel)) ggX8_council_X8_isRow
set_option maxRecDepth 20000 in
theorem ggX8_council_X8_in : GoodIn wsX8_council wsX8_in := goodIn_r _ [19] (by decide +kernel) (by decide +kernel)
set_option maxRecDepth 20000 in
theorem gX8_council_X8_in : GoodIn wsX8_council (va_wsS RX8 52 yX8_in wsX8_in) := goodIn_app (goodIn_of _ (by decide +kernel)) ggX8_council_X8_in
set_option maxRecDepth 20000 in
theorem ggX8_council_X8_finding : GoodIn wsX8_council wsX8_finding := goodIn_r _ [31, 9, 32, 81, 82, 83, 84, 85, 86, 87, 88, 89, 90, 91, 92, 93, 94, 95, 96, 97, 98, 99, 100, 101, 102, 103, 104, 105, 106, 107] (by decide +kernel) (by decide +kernel)
set_option maxRecDepth 20000 in
theorem gX8_council_X8_finding : GoodIn wsX8_council (wsV RX8 64 RX8 yX8_finding wsX8_finding) := goodIn_app (goodIn_of _ (by decide +kernel)) ggX8_council_X8_finding
set_option maxRecDepth 20000 in
theorem ggX8_council_X8_isMatter : GoodIn wsX8_council wsX8_isMatter := goodIn_r _ [35, 16, 17, 18, 14, 19] (by decide +kernel) (by decide +kernel)
set_option maxRecDepth 20000 in
theorem gX8_council_X8_isMatter : GoodIn wsX8_council (va_wsS RX8 225 yX8_isMatter wsX8_isMatter) := goodIn_app (goodIn_of _ (by decide +kernel)) ggX8_council_X8_isMatter
set_option maxRecDepth 20000 in
theorem ggX8_council_X8_passes : GoodIn wsX8_council wsX8_passes := goodIn_r _ [39, 40, 41, 42, 43, 14, 44, 45, 46, 47, 48, 49, 50, 51, 52, 10, 11, 53, 54, 55, 56, 57, 58, 59, 60, 61, 62, 63, 64, 65, 66, 67, 68, 69, 70, 71, 72, 73, 74, 75, 76, 77, 81, 82, 83, 84, 85, 86, 87, 88, 89, 90, 91, 92, 93, 94, 95, 96, 97, 98, 99, 100, 101, 102, 103, 104, 105, 106, 107] (by decide +kernel) (by decide +kernel)
set_option maxRecDepth 20000 in
theorem gX8_council_X8_passes : GoodIn wsX8_council (wsV RX8 275 RX8 yX8_passes wsX8_passes) := goodIn_app (goodIn_of _ (by decide +kernel)) ggX8_council_X8_passes
set_option maxRecDepth 20000 in
theorem ggX8_council_X8_partOf : GoodIn wsX8_council wsX8_partOf := goodIn_r _ [80] (by decide +kernel) (by decide +kernel)
set_option maxRecDepth 20000 in
theorem gX8_council_X8_partOf : GoodIn wsX8_council (va_wsS RX8 282 yX8_partOf wsX8_partOf) := goodIn_app (goodIn_of _ (by decide +kernel)) ggX8_council_X8_partOf
theorem dX8_council_0 : decode cX8_council 0 = .ok (.aload_n 0, 1) := by decide +kernel
theorem dX8_council_1 : decode cX8_council 1 = .ok (.iconst 0, 1) := by decide +kernel
theorem dX8_council_2 : decode cX8_council 2 = .ok (.putfield 41, 3) := by decide +kernel
theorem dX8_council_5 : decode cX8_council 5 = .ok (.aload_n 0, 1) := by decide +kernel
theorem dX8_council_6 : decode cX8_council 6 = .ok (.getfield 184, 3) := by decide +kernel
theorem dX8_council_9 : decode cX8_council 9 = .ok (.ifCond .ne 7, 3) := by decide +kernel
theorem dX8_council_12 : decode cX8_council 12 = .ok (.ldc2_w 223, 3) := by decide +kernel
theorem dX8_council_15 : decode cX8_council 15 = .ok (.lreturn, 1) := by decide +kernel
theorem dX8_council_16 : decode cX8_council 16 = .ok (.iload_n 1, 1) := by decide +kernel
theorem dX8_council_17 : decode cX8_council 17 = .ok (.invokestatic 228, 3) := by decide +kernel
theorem dX8_council_20 : decode cX8_council 20 = .ok (.ifCond .eq 50, 3) := by decide +kernel
theorem dX8_council_23 : decode cX8_council 23 = .ok (.iload_n 2, 1) := by decide +kernel
theorem dX8_council_24 : decode cX8_council 24 = .ok (.invokestatic 231, 3) := by decide +kernel
theorem dX8_council_27 : decode cX8_council 27 = .ok (.ifCond .eq 43, 3) := by decide +kernel
theorem dX8_council_30 : decode cX8_council 30 = .ok (.iload_n 3, 1) := by decide +kernel
theorem dX8_council_31 : decode cX8_council 31 = .ok (.invokestatic 56, 3) := by decide +kernel
theorem dX8_council_34 : decode cX8_council 34 = .ok (.ifCond .eq 36, 3) := by decide +kernel
theorem dX8_council_37 : decode cX8_council 37 = .ok (.iload 5, 2) := by decide +kernel
theorem dX8_council_39 : decode cX8_council 39 = .ok (.i2l, 1) := by decide +kernel
theorem dX8_council_40 : decode cX8_council 40 = .ok (.lconst 1, 1) := by decide +kernel
theorem dX8_council_41 : decode cX8_council 41 = .ok (.ldc2_w 60, 3) := by decide +kernel
theorem dX8_council_44 : decode cX8_council 44 = .ok (.invokestatic 52, 3) := by decide +kernel
theorem dX8_council_47 : decode cX8_council 47 = .ok (.ifCond .eq 23, 3) := by decide +kernel
theorem dX8_council_50 : decode cX8_council 50 = .ok (.iload_n 2, 1) := by decide +kernel
theorem dX8_council_51 : decode cX8_council 51 = .ok (.iload 5, 2) := by decide +kernel
theorem dX8_council_53 : decode cX8_council 53 = .ok (.iadd, 1) := by decide +kernel
theorem dX8_council_54 : decode cX8_council 54 = .ok (.bipush 12, 2) := by decide +kernel
theorem dX8_council_56 : decode cX8_council 56 = .ok (.if_icmp .gt 14, 3) := by decide +kernel
theorem dX8_council_59 : decode cX8_council 59 = .ok (.iload 6, 2) := by decide +kernel
theorem dX8_council_61 : decode cX8_council 61 = .ok (.i2l, 1) := by decide +kernel
theorem dX8_council_62 : decode cX8_council 62 = .ok (.lconst 0, 1) := by decide +kernel
theorem dX8_council_63 : decode cX8_council 63 = .ok (.lconst 1, 1) := by decide +kernel
theorem dX8_council_64 : decode cX8_council 64 = .ok (.invokestatic 52, 3) := by decide +kernel
theorem dX8_council_67 : decode cX8_council 67 = .ok (.ifCond .ne 7, 3) := by decide +kernel
theorem dX8_council_70 : decode cX8_council 70 = .ok (.ldc2_w 62, 3) := by decide +kernel
theorem dX8_council_73 : decode cX8_council 73 = .ok (.lreturn, 1) := by decide +kernel
theorem dX8_council_74 : decode cX8_council 74 = .ok (.aload_n 0, 1) := by decide +kernel
theorem dX8_council_75 : decode cX8_council 75 = .ok (.getfield 9, 3) := by decide +kernel
theorem dX8_council_78 : decode cX8_council 78 = .ok (.iload_n 3, 1) := by decide +kernel
theorem dX8_council_79 : decode cX8_council 79 = .ok (.iaload, 1) := by decide +kernel
theorem dX8_council_80 : decode cX8_council 80 = .ok (.ifCond .ge 9, 3) := by decide +kernel
theorem dX8_council_83 : decode cX8_council 83 = .ok (.aload_n 0, 1) := by decide +kernel
theorem dX8_council_84 : decode cX8_council 84 = .ok (.iconst 1, 1) := by decide +kernel
theorem dX8_council_85 : decode cX8_council 85 = .ok (.invokevirtual 64, 3) := by decide +kernel
theorem dX8_council_88 : decode cX8_council 88 = .ok (.lreturn, 1) := by decide +kernel
theorem dX8_council_89 : decode cX8_council 89 = .ok (.iload 4, 2) := by decide +kernel
theorem dX8_council_91 : decode cX8_council 91 = .ok (.ifCond .lt 21, 3) := by decide +kernel
theorem dX8_council_94 : decode cX8_council 94 = .ok (.iload 4, 2) := by decide +kernel
theorem dX8_council_96 : decode cX8_council 96 = .ok (.i2l, 1) := by decide +kernel
theorem dX8_council_97 : decode cX8_council 97 = .ok (.iload 5, 2) := by decide +kernel
theorem dX8_council_99 : decode cX8_council 99 = .ok (.i2l, 1) := by decide +kernel
theorem dX8_council_100 : decode cX8_council 100 = .ok (.ladd, 1) := by decide +kernel
theorem dX8_council_101 : decode cX8_council 101 = .ok (.aload_n 0, 1) := by decide +kernel
theorem dX8_council_102 : decode cX8_council 102 = .ok (.getfield 13, 3) := by decide +kernel
theorem dX8_council_105 : decode cX8_council 105 = .ok (.iload_n 3, 1) := by decide +kernel
theorem dX8_council_106 : decode cX8_council 106 = .ok (.iaload, 1) := by decide +kernel
theorem dX8_council_107 : decode cX8_council 107 = .ok (.i2l, 1) := by decide +kernel
theorem dX8_council_108 : decode cX8_council 108 = .ok (.lcmp, 1) := by decide +kernel
theorem dX8_council_109 : decode cX8_council 109 = .ok (.ifCond .le 9, 3) := by decide +kernel
theorem dX8_council_112 : decode cX8_council 112 = .ok (.aload_n 0, 1) := by decide +kernel
theorem dX8_council_113 : decode cX8_council 113 = .ok (.iconst 2, 1) := by decide +kernel
theorem dX8_council_114 : decode cX8_council 114 = .ok (.invokevirtual 64, 3) := by decide +kernel
theorem dX8_council_117 : decode cX8_council 117 = .ok (.lreturn, 1) := by decide +kernel
theorem dX8_council_118 : decode cX8_council 118 = .ok (.iconst 0, 1) := by decide +kernel
theorem dX8_council_119 : decode cX8_council 119 = .ok (.istore 7, 2) := by decide +kernel
theorem dX8_council_121 : decode cX8_council 121 = .ok (.iload 7, 2) := by decide +kernel
theorem dX8_council_123 : decode cX8_council 123 = .ok (.iload 5, 2) := by decide +kernel
theorem dX8_council_125 : decode cX8_council 125 = .ok (.if_icmp .ge 34, 3) := by decide +kernel
theorem dX8_council_128 : decode cX8_council 128 = .ok (.aload_n 0, 1) := by decide +kernel
theorem dX8_council_129 : decode cX8_council 129 = .ok (.getfield 16, 3) := by decide +kernel
theorem dX8_council_132 : decode cX8_council 132 = .ok (.bipush 40, 2) := by decide +kernel
theorem dX8_council_134 : decode cX8_council 134 = .ok (.iload_n 3, 1) := by decide +kernel
theorem dX8_council_135 : decode cX8_council 135 = .ok (.imul, 1) := by decide +kernel
theorem dX8_council_136 : decode cX8_council 136 = .ok (.iload 4, 2) := by decide +kernel
theorem dX8_council_138 : decode cX8_council 138 = .ok (.iadd, 1) := by decide +kernel
theorem dX8_council_139 : decode cX8_council 139 = .ok (.iload 7, 2) := by decide +kernel
theorem dX8_council_141 : decode cX8_council 141 = .ok (.iadd, 1) := by decide +kernel
theorem dX8_council_142 : decode cX8_council 142 = .ok (.iaload, 1) := by decide +kernel
theorem dX8_council_143 : decode cX8_council 143 = .ok (.invokestatic 225, 3) := by decide +kernel
theorem dX8_council_146 : decode cX8_council 146 = .ok (.ifCond .ne 7, 3) := by decide +kernel
theorem dX8_council_149 : decode cX8_council 149 = .ok (.ldc2_w 62, 3) := by decide +kernel
theorem dX8_council_152 : decode cX8_council 152 = .ok (.lreturn, 1) := by decide +kernel
theorem dX8_council_153 : decode cX8_council 153 = .ok (.iinc 7 1, 3) := by decide +kernel
theorem dX8_council_156 : decode cX8_council 156 = .ok (.goto (-35), 3) := by decide +kernel
theorem dX8_council_159 : decode cX8_council 159 = .ok (.aload_n 0, 1) := by decide +kernel
theorem dX8_council_160 : decode cX8_council 160 = .ok (.iconst 0, 1) := by decide +kernel
theorem dX8_council_161 : decode cX8_council 161 = .ok (.putfield 45, 3) := by decide +kernel
theorem dX8_council_164 : decode cX8_council 164 = .ok (.aload_n 0, 1) := by decide +kernel
theorem dX8_council_165 : decode cX8_council 165 = .ok (.lconst 1, 1) := by decide +kernel
theorem dX8_council_166 : decode cX8_council 166 = .ok (.putfield 266, 3) := by decide +kernel
theorem dX8_council_169 : decode cX8_council 169 = .ok (.aload_n 0, 1) := by decide +kernel
theorem dX8_council_170 : decode cX8_council 170 = .ok (.lconst 1, 1) := by decide +kernel
theorem dX8_council_171 : decode cX8_council 171 = .ok (.putfield 269, 3) := by decide +kernel
theorem dX8_council_174 : decode cX8_council 174 = .ok (.iconst 0, 1) := by decide +kernel
theorem dX8_council_175 : decode cX8_council 175 = .ok (.istore 7, 2) := by decide +kernel
theorem dX8_council_177 : decode cX8_council 177 = .ok (.iload 7, 2) := by decide +kernel
theorem dX8_council_179 : decode cX8_council 179 = .ok (.iload 5, 2) := by decide +kernel
theorem dX8_council_181 : decode cX8_council 181 = .ok (.if_icmp .ge 34, 3) := by decide +kernel
theorem dX8_council_184 : decode cX8_council 184 = .ok (.aload_n 0, 1) := by decide +kernel
theorem dX8_council_185 : decode cX8_council 185 = .ok (.aload_n 0, 1) := by decide +kernel
theorem dX8_council_186 : decode cX8_council 186 = .ok (.getfield 16, 3) := by decide +kernel
theorem dX8_council_189 : decode cX8_council 189 = .ok (.bipush 40, 2) := by decide +kernel
theorem dX8_council_191 : decode cX8_council 191 = .ok (.iload_n 3, 1) := by decide +kernel
theorem dX8_council_192 : decode cX8_council 192 = .ok (.imul, 1) := by decide +kernel
theorem dX8_council_193 : decode cX8_council 193 = .ok (.iload 4, 2) := by decide +kernel
theorem dX8_council_195 : decode cX8_council 195 = .ok (.iadd, 1) := by decide +kernel
theorem dX8_council_196 : decode cX8_council 196 = .ok (.iload 7, 2) := by decide +kernel
theorem dX8_council_198 : decode cX8_council 198 = .ok (.iadd, 1) := by decide +kernel
theorem dX8_council_199 : decode cX8_council 199 = .ok (.iaload, 1) := by decide +kernel
theorem dX8_council_200 : decode cX8_council 200 = .ok (.iload_n 1, 1) := by decide +kernel
theorem dX8_council_201 : decode cX8_council 201 = .ok (.iload_n 2, 1) := by decide +kernel
theorem dX8_council_202 : decode cX8_council 202 = .ok (.iload 7, 2) := by decide +kernel
theorem dX8_council_204 : decode cX8_council 204 = .ok (.iadd, 1) := by decide +kernel
theorem dX8_council_205 : decode cX8_council 205 = .ok (.iconst 0, 1) := by decide +kernel
theorem dX8_council_206 : decode cX8_council 206 = .ok (.invokevirtual 275, 3) := by decide +kernel
theorem dX8_council_209 : decode cX8_council 209 = .ok (.iinc 7 1, 3) := by decide +kernel
theorem dX8_council_212 : decode cX8_council 212 = .ok (.goto (-35), 3) := by decide +kernel
theorem dX8_council_215 : decode cX8_council 215 = .ok (.aload_n 0, 1) := by decide +kernel
theorem dX8_council_216 : decode cX8_council 216 = .ok (.getfield 266, 3) := by decide +kernel
theorem dX8_council_219 : decode cX8_council 219 = .ok (.aload_n 0, 1) := by decide +kernel
theorem dX8_council_220 : decode cX8_council 220 = .ok (.getfield 269, 3) := by decide +kernel
theorem dX8_council_223 : decode cX8_council 223 = .ok (.iload 6, 2) := by decide +kernel
theorem dX8_council_225 : decode cX8_council 225 = .ok (.invokestatic 282, 3) := by decide +kernel
theorem dX8_council_228 : decode cX8_council 228 = .ok (.lreturn, 1) := by decide +kernel
set_option maxRecDepth 20000 in
theorem ggX8_image_X8_in : GoodIn wsX8_image wsX8_in := goodIn_r _ [11] (by decide +kernel) (by decide +kernel)
set_option maxRecDepth 20000 in
theorem gX8_image_X8_in : GoodIn wsX8_image (va_wsS RX8 52 yX8_in wsX8_in) := goodIn_app (goodIn_of _ (by decide +kernel)) ggX8_image_X8_in
theorem dX8_image_0 : decode cX8_image 0 = .ok (.aload_n 0, 1) := by decide +kernel
theorem dX8_image_1 : decode cX8_image 1 = .ok (.iconst 0, 1) := by decide +kernel
theorem dX8_image_2 : decode cX8_image 2 = .ok (.putfield 41, 3) := by decide +kernel
theorem dX8_image_5 : decode cX8_image 5 = .ok (.iload_n 1, 1) := by decide +kernel
theorem dX8_image_6 : decode cX8_image 6 = .ok (.i2l, 1) := by decide +kernel
theorem dX8_image_7 : decode cX8_image 7 = .ok (.lconst 0, 1) := by decide +kernel
theorem dX8_image_8 : decode cX8_image 8 = .ok (.lconst 1, 1) := by decide +kernel
theorem dX8_image_9 : decode cX8_image 9 = .ok (.invokestatic 52, 3) := by decide +kernel
theorem dX8_image_12 : decode cX8_image 12 = .ok (.ifCond .ne 7, 3) := by decide +kernel
theorem dX8_image_15 : decode cX8_image 15 = .ok (.ldc2_w 62, 3) := by decide +kernel
theorem dX8_image_18 : decode cX8_image 18 = .ok (.lreturn, 1) := by decide +kernel
theorem dX8_image_19 : decode cX8_image 19 = .ok (.aload_n 0, 1) := by decide +kernel
theorem dX8_image_20 : decode cX8_image 20 = .ok (.getfield 184, 3) := by decide +kernel
theorem dX8_image_23 : decode cX8_image 23 = .ok (.ifCond .ne 7, 3) := by decide +kernel
theorem dX8_image_26 : decode cX8_image 26 = .ok (.ldc2_w 223, 3) := by decide +kernel
theorem dX8_image_29 : decode cX8_image 29 = .ok (.lreturn, 1) := by decide +kernel
theorem dX8_image_30 : decode cX8_image 30 = .ok (.iconst 0, 1) := by decide +kernel
theorem dX8_image_31 : decode cX8_image 31 = .ok (.istore_n 2, 1) := by decide +kernel
theorem dX8_image_32 : decode cX8_image 32 = .ok (.iload_n 2, 1) := by decide +kernel
theorem dX8_image_33 : decode cX8_image 33 = .ok (.bipush 59, 2) := by decide +kernel
theorem dX8_image_35 : decode cX8_image 35 = .ok (.if_icmp .ge 26, 3) := by decide +kernel
theorem dX8_image_38 : decode cX8_image 38 = .ok (.aload_n 0, 1) := by decide +kernel
theorem dX8_image_39 : decode cX8_image 39 = .ok (.getfield 35, 3) := by decide +kernel
theorem dX8_image_42 : decode cX8_image 42 = .ok (.bipush 59, 2) := by decide +kernel
theorem dX8_image_44 : decode cX8_image 44 = .ok (.iload_n 1, 1) := by decide +kernel
theorem dX8_image_45 : decode cX8_image 45 = .ok (.imul, 1) := by decide +kernel
theorem dX8_image_46 : decode cX8_image 46 = .ok (.iload_n 2, 1) := by decide +kernel
theorem dX8_image_47 : decode cX8_image 47 = .ok (.iadd, 1) := by decide +kernel
theorem dX8_image_48 : decode cX8_image 48 = .ok (.aload_n 0, 1) := by decide +kernel
theorem dX8_image_49 : decode cX8_image 49 = .ok (.getfield 19, 3) := by decide +kernel
theorem dX8_image_52 : decode cX8_image 52 = .ok (.iload_n 2, 1) := by decide +kernel
theorem dX8_image_53 : decode cX8_image 53 = .ok (.iaload, 1) := by decide +kernel
theorem dX8_image_54 : decode cX8_image 54 = .ok (.iastore, 1) := by decide +kernel
theorem dX8_image_55 : decode cX8_image 55 = .ok (.iinc 2 1, 3) := by decide +kernel
theorem dX8_image_58 : decode cX8_image 58 = .ok (.goto (-26), 3) := by decide +kernel
theorem dX8_image_61 : decode cX8_image 61 = .ok (.aload_n 0, 1) := by decide +kernel
theorem dX8_image_62 : decode cX8_image 62 = .ok (.getfield 31, 3) := by decide +kernel
theorem dX8_image_65 : decode cX8_image 65 = .ok (.iload_n 1, 1) := by decide +kernel
theorem dX8_image_66 : decode cX8_image 66 = .ok (.iconst 1, 1) := by decide +kernel
theorem dX8_image_67 : decode cX8_image 67 = .ok (.bastore, 1) := by decide +kernel
theorem dX8_image_68 : decode cX8_image 68 = .ok (.lconst 1, 1) := by decide +kernel
theorem dX8_image_69 : decode cX8_image 69 = .ok (.lreturn, 1) := by decide +kernel
set_option maxRecDepth 20000 in
theorem ggX8_restore_X8_in : GoodIn wsX8_restore wsX8_in := goodIn_r _ [11] (by decide +kernel) (by decide +kernel)
set_option maxRecDepth 20000 in
theorem gX8_restore_X8_in : GoodIn wsX8_restore (va_wsS RX8 52 yX8_in wsX8_in) := goodIn_app (goodIn_of _ (by decide +kernel)) ggX8_restore_X8_in
theorem dX8_restore_0 : decode cX8_restore 0 = .ok (.aload_n 0, 1) := by decide +kernel
theorem dX8_restore_1 : decode cX8_restore 1 = .ok (.iconst 0, 1) := by decide +kernel
theorem dX8_restore_2 : decode cX8_restore 2 = .ok (.putfield 41, 3) := by decide +kernel
theorem dX8_restore_5 : decode cX8_restore 5 = .ok (.iload_n 1, 1) := by decide +kernel
theorem dX8_restore_6 : decode cX8_restore 6 = .ok (.i2l, 1) := by decide +kernel
theorem dX8_restore_7 : decode cX8_restore 7 = .ok (.lconst 0, 1) := by decide +kernel
theorem dX8_restore_8 : decode cX8_restore 8 = .ok (.lconst 1, 1) := by decide +kernel
theorem dX8_restore_9 : decode cX8_restore 9 = .ok (.invokestatic 52, 3) := by decide +kernel
theorem dX8_restore_12 : decode cX8_restore 12 = .ok (.ifCond .ne 7, 3) := by decide +kernel
theorem dX8_restore_15 : decode cX8_restore 15 = .ok (.ldc2_w 62, 3) := by decide +kernel
theorem dX8_restore_18 : decode cX8_restore 18 = .ok (.lreturn, 1) := by decide +kernel
theorem dX8_restore_19 : decode cX8_restore 19 = .ok (.aload_n 0, 1) := by decide +kernel
theorem dX8_restore_20 : decode cX8_restore 20 = .ok (.getfield 31, 3) := by decide +kernel
theorem dX8_restore_23 : decode cX8_restore 23 = .ok (.iload_n 1, 1) := by decide +kernel
theorem dX8_restore_24 : decode cX8_restore 24 = .ok (.baload, 1) := by decide +kernel
theorem dX8_restore_25 : decode cX8_restore 25 = .ok (.ifCond .ne 7, 3) := by decide +kernel
theorem dX8_restore_28 : decode cX8_restore 28 = .ok (.ldc2_w 223, 3) := by decide +kernel
theorem dX8_restore_31 : decode cX8_restore 31 = .ok (.lreturn, 1) := by decide +kernel
theorem dX8_restore_32 : decode cX8_restore 32 = .ok (.iconst 0, 1) := by decide +kernel
theorem dX8_restore_33 : decode cX8_restore 33 = .ok (.istore_n 2, 1) := by decide +kernel
theorem dX8_restore_34 : decode cX8_restore 34 = .ok (.iload_n 2, 1) := by decide +kernel
theorem dX8_restore_35 : decode cX8_restore 35 = .ok (.bipush 59, 2) := by decide +kernel
theorem dX8_restore_37 : decode cX8_restore 37 = .ok (.if_icmp .ge 26, 3) := by decide +kernel
theorem dX8_restore_40 : decode cX8_restore 40 = .ok (.aload_n 0, 1) := by decide +kernel
theorem dX8_restore_41 : decode cX8_restore 41 = .ok (.getfield 19, 3) := by decide +kernel
theorem dX8_restore_44 : decode cX8_restore 44 = .ok (.iload_n 2, 1) := by decide +kernel
theorem dX8_restore_45 : decode cX8_restore 45 = .ok (.aload_n 0, 1) := by decide +kernel
theorem dX8_restore_46 : decode cX8_restore 46 = .ok (.getfield 35, 3) := by decide +kernel
theorem dX8_restore_49 : decode cX8_restore 49 = .ok (.bipush 59, 2) := by decide +kernel
theorem dX8_restore_51 : decode cX8_restore 51 = .ok (.iload_n 1, 1) := by decide +kernel
theorem dX8_restore_52 : decode cX8_restore 52 = .ok (.imul, 1) := by decide +kernel
theorem dX8_restore_53 : decode cX8_restore 53 = .ok (.iload_n 2, 1) := by decide +kernel
theorem dX8_restore_54 : decode cX8_restore 54 = .ok (.iadd, 1) := by decide +kernel
theorem dX8_restore_55 : decode cX8_restore 55 = .ok (.iaload, 1) := by decide +kernel
theorem dX8_restore_56 : decode cX8_restore 56 = .ok (.iastore, 1) := by decide +kernel
theorem dX8_restore_57 : decode cX8_restore 57 = .ok (.iinc 2 1, 3) := by decide +kernel
theorem dX8_restore_60 : decode cX8_restore 60 = .ok (.goto (-26), 3) := by decide +kernel
theorem dX8_restore_63 : decode cX8_restore 63 = .ok (.aload_n 0, 1) := by decide +kernel
theorem dX8_restore_64 : decode cX8_restore 64 = .ok (.iconst 0, 1) := by decide +kernel
theorem dX8_restore_65 : decode cX8_restore 65 = .ok (.putfield 188, 3) := by decide +kernel
theorem dX8_restore_68 : decode cX8_restore 68 = .ok (.lconst 1, 1) := by decide +kernel
theorem dX8_restore_69 : decode cX8_restore 69 = .ok (.lreturn, 1) := by decide +kernel
theorem dX8_kindOf_0 : decode cX8_kindOf 0 = .ok (.aload_n 0, 1) := by decide +kernel
theorem dX8_kindOf_1 : decode cX8_kindOf 1 = .ok (.getfield 19, 3) := by decide +kernel
theorem dX8_kindOf_4 : decode cX8_kindOf 4 = .ok (.bipush 47, 2) := by decide +kernel
theorem dX8_kindOf_6 : decode cX8_kindOf 6 = .ok (.iconst 3, 1) := by decide +kernel
theorem dX8_kindOf_7 : decode cX8_kindOf 7 = .ok (.iload_n 1, 1) := by decide +kernel
theorem dX8_kindOf_8 : decode cX8_kindOf 8 = .ok (.imul, 1) := by decide +kernel
theorem dX8_kindOf_9 : decode cX8_kindOf 9 = .ok (.iadd, 1) := by decide +kernel
theorem dX8_kindOf_10 : decode cX8_kindOf 10 = .ok (.iaload, 1) := by decide +kernel
theorem dX8_kindOf_11 : decode cX8_kindOf 11 = .ok (.ireturn, 1) := by decide +kernel
theorem dX8_isOf_0 : decode cX8_isOf 0 = .ok (.iload_n 1, 1) := by decide +kernel
theorem dX8_isOf_1 : decode cX8_isOf 1 = .ok (.ifCond .eq 38, 3) := by decide +kernel
theorem dX8_isOf_4 : decode cX8_isOf 4 = .ok (.iload_n 0, 1) := by decide +kernel
theorem dX8_isOf_5 : decode cX8_isOf 5 = .ok (.iload_n 1, 1) := by decide +kernel
theorem dX8_isOf_6 : decode cX8_isOf 6 = .ok (.if_icmp .eq 33, 3) := by decide +kernel
theorem dX8_isOf_9 : decode cX8_isOf 9 = .ok (.iload_n 1, 1) := by decide +kernel
theorem dX8_isOf_10 : decode cX8_isOf 10 = .ok (.iconst 1, 1) := by decide +kernel
theorem dX8_isOf_11 : decode cX8_isOf 11 = .ok (.if_icmp .ne 8, 3) := by decide +kernel
theorem dX8_isOf_14 : decode cX8_isOf 14 = .ok (.iload_n 0, 1) := by decide +kernel
theorem dX8_isOf_15 : decode cX8_isOf 15 = .ok (.iconst 4, 1) := by decide +kernel
theorem dX8_isOf_16 : decode cX8_isOf 16 = .ok (.if_icmp .lt 23, 3) := by decide +kernel
theorem dX8_isOf_19 : decode cX8_isOf 19 = .ok (.iload_n 1, 1) := by decide +kernel
theorem dX8_isOf_20 : decode cX8_isOf 20 = .ok (.iconst 2, 1) := by decide +kernel
theorem dX8_isOf_21 : decode cX8_isOf 21 = .ok (.if_icmp .ne 8, 3) := by decide +kernel
theorem dX8_isOf_24 : decode cX8_isOf 24 = .ok (.iload_n 0, 1) := by decide +kernel
theorem dX8_isOf_25 : decode cX8_isOf 25 = .ok (.iconst 3, 1) := by decide +kernel
theorem dX8_isOf_26 : decode cX8_isOf 26 = .ok (.if_icmp .eq 13, 3) := by decide +kernel
theorem dX8_isOf_29 : decode cX8_isOf 29 = .ok (.iload_n 1, 1) := by decide +kernel
theorem dX8_isOf_30 : decode cX8_isOf 30 = .ok (.iconst 4, 1) := by decide +kernel
theorem dX8_isOf_31 : decode cX8_isOf 31 = .ok (.if_icmp .ne 12, 3) := by decide +kernel
theorem dX8_isOf_34 : decode cX8_isOf 34 = .ok (.iload_n 0, 1) := by decide +kernel
theorem dX8_isOf_35 : decode cX8_isOf 35 = .ok (.iconst 5, 1) := by decide +kernel
theorem dX8_isOf_36 : decode cX8_isOf 36 = .ok (.if_icmp .ne 7, 3) := by decide +kernel
theorem dX8_isOf_39 : decode cX8_isOf 39 = .ok (.iconst 1, 1) := by decide +kernel
theorem dX8_isOf_40 : decode cX8_isOf 40 = .ok (.goto 4, 3) := by decide +kernel
theorem dX8_isOf_43 : decode cX8_isOf 43 = .ok (.iconst 0, 1) := by decide +kernel
theorem dX8_isOf_44 : decode cX8_isOf 44 = .ok (.ireturn, 1) := by decide +kernel
set_option maxRecDepth 20000 in
theorem ggX8_kind_X8_isTree : GoodIn wsX8_kind wsX8_isTree := goodIn_r _ [7, 8, 9, 10, 6, 11, 16, 17, 18, 19, 20, 21, 22, 23, 24, 25, 26, 27, 28, 29, 30, 31, 32, 33, 34, 35, 36, 37, 38, 39, 40, 41, 42] (by decide +kernel) (by decide +kernel)
set_option maxRecDepth 20000 in
theorem gX8_kind_X8_isTree : GoodIn wsX8_kind (wsV RX8 249 RX8 yX8_isTree wsX8_isTree) := goodIn_app (goodIn_of _ (by decide +kernel)) ggX8_kind_X8_isTree
set_option maxRecDepth 20000 in
theorem ggX8_kind_X8_kindOf : GoodIn wsX8_kind wsX8_kindOf := goodIn_r _ [15, 8, 16, 17, 18, 19, 20, 21, 22, 23, 24, 25, 26, 27, 28, 29, 30, 31, 32, 33, 34, 35, 36, 37, 38, 39, 40, 41, 42] (by decide +kernel) (by decide +kernel)
set_option maxRecDepth 20000 in
theorem gX8_kind_X8_kindOf : GoodIn wsX8_kind (wsV RX8 294 RX8 yX8_kindOf wsX8_kindOf) := goodIn_app (goodIn_of _ (by decide +kernel)) ggX8_kind_X8_kindOf
theorem dX8_kind_0 : decode cX8_kind 0 = .ok (.aload_n 0, 1) := by decide +kernel
theorem dX8_kind_1 : decode cX8_kind 1 = .ok (.iconst 0, 1) := by decide +kernel
theorem dX8_kind_2 : decode cX8_kind 2 = .ok (.putfield 41, 3) := by decide +kernel
theorem dX8_kind_5 : decode cX8_kind 5 = .ok (.aload_n 0, 1) := by decide +kernel
theorem dX8_kind_6 : decode cX8_kind 6 = .ok (.iload_n 1, 1) := by decide +kernel
theorem dX8_kind_7 : decode cX8_kind 7 = .ok (.invokevirtual 249, 3) := by decide +kernel
theorem dX8_kind_10 : decode cX8_kind 10 = .ok (.ifCond .eq 12, 3) := by decide +kernel
theorem dX8_kind_13 : decode cX8_kind 13 = .ok (.aload_n 0, 1) := by decide +kernel
theorem dX8_kind_14 : decode cX8_kind 14 = .ok (.iload_n 1, 1) := by decide +kernel
theorem dX8_kind_15 : decode cX8_kind 15 = .ok (.invokevirtual 294, 3) := by decide +kernel
theorem dX8_kind_18 : decode cX8_kind 18 = .ok (.i2l, 1) := by decide +kernel
theorem dX8_kind_19 : decode cX8_kind 19 = .ok (.goto 6, 3) := by decide +kernel
theorem dX8_kind_22 : decode cX8_kind 22 = .ok (.ldc2_w 62, 3) := by decide +kernel
theorem dX8_kind_25 : decode cX8_kind 25 = .ok (.lreturn, 1) := by decide +kernel
set_option maxRecDepth 20000 in
theorem ggX8_as_X8_isTree : GoodIn wsX8_as wsX8_isTree := goodIn_r _ [9, 10, 11, 12, 8, 13, 26, 27, 28, 29, 30, 31, 32, 33, 34, 35, 36, 37, 38, 39, 40, 41, 42, 43, 44, 45, 46, 47, 48, 49, 50, 51, 52] (by decide +kernel) (by decide +kernel)
set_option maxRecDepth 20000 in
theorem gX8_as_X8_isTree : GoodIn wsX8_as (wsV RX8 249 RX8 yX8_isTree wsX8_isTree) := goodIn_app (goodIn_of _ (by decide +kernel)) ggX8_as_X8_isTree
set_option maxRecDepth 20000 in
theorem ggX8_as_X8_in : GoodIn wsX8_as wsX8_in := goodIn_r _ [13] (by decide +kernel) (by decide +kernel)
set_option maxRecDepth 20000 in
theorem gX8_as_X8_in : GoodIn wsX8_as (va_wsS RX8 52 yX8_in wsX8_in) := goodIn_app (goodIn_of _ (by decide +kernel)) ggX8_as_X8_in
set_option maxRecDepth 20000 in
theorem ggX8_as_X8_kindOf : GoodIn wsX8_as wsX8_kindOf := goodIn_r _ [17, 10, 26, 27, 28, 29, 30, 31, 32, 33, 34, 35, 36, 37, 38, 39, 40, 41, 42, 43, 44, 45, 46, 47, 48, 49, 50, 51, 52] (by decide +kernel) (by decide +kernel)
set_option maxRecDepth 20000 in
theorem gX8_as_X8_kindOf : GoodIn wsX8_as (wsV RX8 294 RX8 yX8_kindOf wsX8_kindOf) := goodIn_app (goodIn_of _ (by decide +kernel)) ggX8_as_X8_kindOf
set_option maxRecDepth 20000 in
theorem ggX8_as_X8_isOf : GoodIn wsX8_as wsX8_isOf := goodIn_r _ [20] (by decide +kernel) (by decide +kernel)
set_option maxRecDepth 20000 in
theorem gX8_as_X8_isOf : GoodIn wsX8_as (va_wsS RX8 297 yX8_isOf wsX8_isOf) := goodIn_app (goodIn_of _ (by decide +kernel)) ggX8_as_X8_isOf
set_option maxRecDepth 20000 in
theorem ggX8_as_X8_finding : GoodIn wsX8_as wsX8_finding := goodIn_r _ [24, 4, 25, 26, 27, 28, 29, 30, 31, 32, 33, 34, 35, 36, 37, 38, 39, 40, 41, 42, 43, 44, 45, 46, 47, 48, 49, 50, 51, 52] (by decide +kernel) (by decide +kernel)
set_option maxRecDepth 20000 in
theorem gX8_as_X8_finding : GoodIn wsX8_as (wsV RX8 64 RX8 yX8_finding wsX8_finding) := goodIn_app (goodIn_of _ (by decide +kernel)) ggX8_as_X8_finding
theorem dX8_as_0 : decode cX8_as 0 = .ok (.aload_n 0, 1) := by decide +kernel
theorem dX8_as_1 : decode cX8_as 1 = .ok (.iconst 0, 1) := by decide +kernel
theorem dX8_as_2 : decode cX8_as 2 = .ok (.putfield 41, 3) := by decide +kernel
theorem dX8_as_5 : decode cX8_as 5 = .ok (.aload_n 0, 1) := by decide +kernel
theorem dX8_as_6 : decode cX8_as 6 = .ok (.iload_n 1, 1) := by decide +kernel
theorem dX8_as_7 : decode cX8_as 7 = .ok (.invokevirtual 249, 3) := by decide +kernel
theorem dX8_as_10 : decode cX8_as 10 = .ok (.ifCond .eq 15, 3) := by decide +kernel
theorem dX8_as_13 : decode cX8_as 13 = .ok (.iload_n 2, 1) := by decide +kernel
theorem dX8_as_14 : decode cX8_as 14 = .ok (.i2l, 1) := by decide +kernel
theorem dX8_as_15 : decode cX8_as 15 = .ok (.lconst 0, 1) := by decide +kernel
theorem dX8_as_16 : decode cX8_as 16 = .ok (.ldc2_w 262, 3) := by decide +kernel
theorem dX8_as_19 : decode cX8_as 19 = .ok (.invokestatic 52, 3) := by decide +kernel
theorem dX8_as_22 : decode cX8_as 22 = .ok (.ifCond .ne 7, 3) := by decide +kernel
theorem dX8_as_25 : decode cX8_as 25 = .ok (.ldc2_w 62, 3) := by decide +kernel
theorem dX8_as_28 : decode cX8_as 28 = .ok (.lreturn, 1) := by decide +kernel
theorem dX8_as_29 : decode cX8_as 29 = .ok (.aload_n 0, 1) := by decide +kernel
theorem dX8_as_30 : decode cX8_as 30 = .ok (.iconst 0, 1) := by decide +kernel
theorem dX8_as_31 : decode cX8_as 31 = .ok (.putfield 45, 3) := by decide +kernel
theorem dX8_as_34 : decode cX8_as 34 = .ok (.aload_n 0, 1) := by decide +kernel
theorem dX8_as_35 : decode cX8_as 35 = .ok (.iload_n 1, 1) := by decide +kernel
theorem dX8_as_36 : decode cX8_as 36 = .ok (.invokevirtual 294, 3) := by decide +kernel
theorem dX8_as_39 : decode cX8_as 39 = .ok (.iload_n 2, 1) := by decide +kernel
theorem dX8_as_40 : decode cX8_as 40 = .ok (.invokestatic 297, 3) := by decide +kernel
theorem dX8_as_43 : decode cX8_as 43 = .ok (.ifCond .eq 8, 3) := by decide +kernel
theorem dX8_as_46 : decode cX8_as 46 = .ok (.iload_n 1, 1) := by decide +kernel
theorem dX8_as_47 : decode cX8_as 47 = .ok (.i2l, 1) := by decide +kernel
theorem dX8_as_48 : decode cX8_as 48 = .ok (.goto 8, 3) := by decide +kernel
theorem dX8_as_51 : decode cX8_as 51 = .ok (.aload_n 0, 1) := by decide +kernel
theorem dX8_as_52 : decode cX8_as 52 = .ok (.iconst 3, 1) := by decide +kernel
theorem dX8_as_53 : decode cX8_as 53 = .ok (.invokevirtual 64, 3) := by decide +kernel
theorem dX8_as_56 : decode cX8_as 56 = .ok (.lreturn, 1) := by decide +kernel
theorem dX8_began_0 : decode cX8_began 0 = .ok (.aload_n 0, 1) := by decide +kernel
theorem dX8_began_1 : decode cX8_began 1 = .ok (.getfield 301, 3) := by decide +kernel
theorem dX8_began_4 : decode cX8_began 4 = .ok (.bipush 16, 2) := by decide +kernel
theorem dX8_began_6 : decode cX8_began 6 = .ok (.if_icmp .ge 23, 3) := by decide +kernel
theorem dX8_began_9 : decode cX8_began 9 = .ok (.aload_n 0, 1) := by decide +kernel
theorem dX8_began_10 : decode cX8_began 10 = .ok (.getfield 38, 3) := by decide +kernel
theorem dX8_began_13 : decode cX8_began 13 = .ok (.aload_n 0, 1) := by decide +kernel
theorem dX8_began_14 : decode cX8_began 14 = .ok (.getfield 301, 3) := by decide +kernel
theorem dX8_began_17 : decode cX8_began 17 = .ok (.iload_n 1, 1) := by decide +kernel
theorem dX8_began_18 : decode cX8_began 18 = .ok (.iastore, 1) := by decide +kernel
theorem dX8_began_19 : decode cX8_began 19 = .ok (.aload_n 0, 1) := by decide +kernel
theorem dX8_began_20 : decode cX8_began 20 = .ok (.dup, 1) := by decide +kernel
theorem dX8_began_21 : decode cX8_began 21 = .ok (.getfield 301, 3) := by decide +kernel
theorem dX8_began_24 : decode cX8_began 24 = .ok (.iconst 1, 1) := by decide +kernel
theorem dX8_began_25 : decode cX8_began 25 = .ok (.iadd, 1) := by decide +kernel
theorem dX8_began_26 : decode cX8_began 26 = .ok (.putfield 301, 3) := by decide +kernel
theorem dX8_began_29 : decode cX8_began 29 = .ok (.return_, 1) := by decide +kernel
set_option maxRecDepth 20000 in
theorem ggX8_plainSize_X8_began : GoodIn wsX8_plainSize wsX8_began := goodIn_r _ [5, 6, 7, 13, 14, 15, 16, 17, 18, 19, 20, 21, 22, 23, 24, 25, 26, 27, 28, 29, 30, 31, 32, 33, 34, 35, 36, 37, 38, 39] (by decide +kernel) (by decide +kernel)
set_option maxRecDepth 20000 in
theorem gX8_plainSize_X8_began : GoodIn wsX8_plainSize (wsV RX8 304 RX8 yX8_began wsX8_began) := goodIn_app (goodIn_of _ (by decide +kernel)) ggX8_plainSize_X8_began
set_option maxRecDepth 20000 in
theorem ggX8_plainSize_X8_fruit : GoodIn wsX8_plainSize wsX8_fruit := goodIn_r _ [11, 12, 13, 14, 15, 16, 17, 18, 19, 20, 21, 22, 23, 24, 25, 26, 27, 28, 29, 30, 31, 32, 33, 34, 35, 36, 37, 38, 39] (by decide +kernel) (by decide +kernel)
set_option maxRecDepth 20000 in
theorem gX8_plainSize_X8_fruit : GoodIn wsX8_plainSize (wsV RX8 200 RX8 yX8_fruit wsX8_fruit) := goodIn_app (goodIn_of _ (by decide +kernel)) ggX8_plainSize_X8_fruit
theorem dX8_plainSize_0 : decode cX8_plainSize 0 = .ok (.aload_n 0, 1) := by decide +kernel
theorem dX8_plainSize_1 : decode cX8_plainSize 1 = .ok (.bipush 10, 2) := by decide +kernel
theorem dX8_plainSize_3 : decode cX8_plainSize 3 = .ok (.invokevirtual 304, 3) := by decide +kernel
theorem dX8_plainSize_6 : decode cX8_plainSize 6 = .ok (.aload_n 0, 1) := by decide +kernel
theorem dX8_plainSize_7 : decode cX8_plainSize 7 = .ok (.iload_n 1, 1) := by decide +kernel
theorem dX8_plainSize_8 : decode cX8_plainSize 8 = .ok (.invokevirtual 200, 3) := by decide +kernel
theorem dX8_plainSize_11 : decode cX8_plainSize 11 = .ok (.ireturn, 1) := by decide +kernel
set_option maxRecDepth 20000 in
theorem ggX8_markOf_X8_kindOf : GoodIn wsX8_markOf wsX8_kindOf := goodIn_r _ [5, 6, 21, 22, 23, 24, 25, 26, 27, 28, 29, 30, 31, 32, 33, 34, 35, 36, 37, 38, 39, 40, 41, 42, 43, 44, 45, 46, 47] (by decide +kernel) (by decide +kernel)
set_option maxRecDepth 20000 in
theorem gX8_markOf_X8_kindOf : GoodIn wsX8_markOf (wsV RX8 294 RX8 yX8_kindOf wsX8_kindOf) := goodIn_app (goodIn_of _ (by decide +kernel)) ggX8_markOf_X8_kindOf
set_option maxRecDepth 20000 in
theorem ggX8_markOf_X8_began : GoodIn wsX8_markOf wsX8_began := goodIn_r _ [10, 11, 12, 21, 22, 23, 24, 25, 26, 27, 28, 29, 30, 31, 32, 33, 34, 35, 36, 37, 38, 39, 40, 41, 42, 43, 44, 45, 46, 47] (by decide +kernel) (by decide +kernel)
set_option maxRecDepth 20000 in
theorem gX8_markOf_X8_began : GoodIn wsX8_markOf (wsV RX8 304 RX8 yX8_began wsX8_began) := goodIn_app (goodIn_of _ (by decide +kernel)) ggX8_markOf_X8_began
set_option maxRecDepth 20000 in
theorem ggX8_markOf_X8_loose : GoodIn wsX8_markOf wsX8_loose := goodIn_r _ [16, 6, 21, 22, 23, 24, 25, 26, 27, 28, 29, 30, 31, 32, 33, 34, 35, 36, 37, 38, 39, 40, 41, 42, 43, 44, 45, 46, 47] (by decide +kernel) (by decide +kernel)
set_option maxRecDepth 20000 in
theorem gX8_markOf_X8_loose : GoodIn wsX8_markOf (wsV RX8 236 RX8 yX8_loose wsX8_loose) := goodIn_app (goodIn_of _ (by decide +kernel)) ggX8_markOf_X8_loose
set_option maxRecDepth 20000 in
theorem ggX8_markOf_X8_placeOf : GoodIn wsX8_markOf wsX8_placeOf := goodIn_r _ [20, 6, 21, 22, 23, 24, 25, 26, 27, 28, 29, 30, 31, 32, 33, 34, 35, 36, 37, 38, 39, 40, 41, 42, 43, 44, 45, 46, 47] (by decide +kernel) (by decide +kernel)
set_option maxRecDepth 20000 in
theorem gX8_markOf_X8_placeOf : GoodIn wsX8_markOf (wsV RX8 197 RX8 yX8_placeOf wsX8_placeOf) := goodIn_app (goodIn_of _ (by decide +kernel)) ggX8_markOf_X8_placeOf
theorem dX8_markOf_0 : decode cX8_markOf 0 = .ok (.aload_n 0, 1) := by decide +kernel
theorem dX8_markOf_1 : decode cX8_markOf 1 = .ok (.iload_n 1, 1) := by decide +kernel
theorem dX8_markOf_2 : decode cX8_markOf 2 = .ok (.invokevirtual 294, 3) := by decide +kernel
theorem dX8_markOf_5 : decode cX8_markOf 5 = .ok (.istore_n 2, 1) := by decide +kernel
theorem dX8_markOf_6 : decode cX8_markOf 6 = .ok (.iload_n 2, 1) := by decide +kernel
theorem dX8_markOf_7 : decode cX8_markOf 7 = .ok (.iconst 4, 1) := by decide +kernel
theorem dX8_markOf_8 : decode cX8_markOf 8 = .ok (.if_icmp .lt 26, 3) := by decide +kernel
theorem dX8_markOf_11 : decode cX8_markOf 11 = .ok (.aload_n 0, 1) := by decide +kernel
theorem dX8_markOf_12 : decode cX8_markOf 12 = .ok (.bipush 23, 2) := by decide +kernel
theorem dX8_markOf_14 : decode cX8_markOf 14 = .ok (.invokevirtual 304, 3) := by decide +kernel
theorem dX8_markOf_17 : decode cX8_markOf 17 = .ok (.aload_n 0, 1) := by decide +kernel
theorem dX8_markOf_18 : decode cX8_markOf 18 = .ok (.bipush 20, 2) := by decide +kernel
theorem dX8_markOf_20 : decode cX8_markOf 20 = .ok (.invokevirtual 304, 3) := by decide +kernel
theorem dX8_markOf_23 : decode cX8_markOf 23 = .ok (.iload_n 1, 1) := by decide +kernel
theorem dX8_markOf_24 : decode cX8_markOf 24 = .ok (.bipush 10, 2) := by decide +kernel
theorem dX8_markOf_26 : decode cX8_markOf 26 = .ok (.aload_n 0, 1) := by decide +kernel
theorem dX8_markOf_27 : decode cX8_markOf 27 = .ok (.iload_n 1, 1) := by decide +kernel
theorem dX8_markOf_28 : decode cX8_markOf 28 = .ok (.invokevirtual 236, 3) := by decide +kernel
theorem dX8_markOf_31 : decode cX8_markOf 31 = .ok (.imul, 1) := by decide +kernel
theorem dX8_markOf_32 : decode cX8_markOf 32 = .ok (.iadd, 1) := by decide +kernel
theorem dX8_markOf_33 : decode cX8_markOf 33 = .ok (.ireturn, 1) := by decide +kernel
theorem dX8_markOf_34 : decode cX8_markOf 34 = .ok (.iload_n 2, 1) := by decide +kernel
theorem dX8_markOf_35 : decode cX8_markOf 35 = .ok (.iconst 3, 1) := by decide +kernel
theorem dX8_markOf_36 : decode cX8_markOf 36 = .ok (.if_icmp .ne 9, 3) := by decide +kernel
theorem dX8_markOf_39 : decode cX8_markOf 39 = .ok (.aload_n 0, 1) := by decide +kernel
theorem dX8_markOf_40 : decode cX8_markOf 40 = .ok (.bipush 24, 2) := by decide +kernel
theorem dX8_markOf_42 : decode cX8_markOf 42 = .ok (.invokevirtual 304, 3) := by decide +kernel
theorem dX8_markOf_45 : decode cX8_markOf 45 = .ok (.iload_n 2, 1) := by decide +kernel
theorem dX8_markOf_46 : decode cX8_markOf 46 = .ok (.iconst 1, 1) := by decide +kernel
theorem dX8_markOf_47 : decode cX8_markOf 47 = .ok (.if_icmp .eq 9, 3) := by decide +kernel
theorem dX8_markOf_50 : decode cX8_markOf 50 = .ok (.aload_n 0, 1) := by decide +kernel
theorem dX8_markOf_51 : decode cX8_markOf 51 = .ok (.bipush 22, 2) := by decide +kernel
theorem dX8_markOf_53 : decode cX8_markOf 53 = .ok (.invokevirtual 304, 3) := by decide +kernel
theorem dX8_markOf_56 : decode cX8_markOf 56 = .ok (.aload_n 0, 1) := by decide +kernel
theorem dX8_markOf_57 : decode cX8_markOf 57 = .ok (.bipush 21, 2) := by decide +kernel
theorem dX8_markOf_59 : decode cX8_markOf 59 = .ok (.invokevirtual 304, 3) := by decide +kernel
theorem dX8_markOf_62 : decode cX8_markOf 62 = .ok (.aload_n 0, 1) := by decide +kernel
theorem dX8_markOf_63 : decode cX8_markOf 63 = .ok (.bipush 20, 2) := by decide +kernel
theorem dX8_markOf_65 : decode cX8_markOf 65 = .ok (.invokevirtual 304, 3) := by decide +kernel
theorem dX8_markOf_68 : decode cX8_markOf 68 = .ok (.iload_n 1, 1) := by decide +kernel
theorem dX8_markOf_69 : decode cX8_markOf 69 = .ok (.aload_n 0, 1) := by decide +kernel
theorem dX8_markOf_70 : decode cX8_markOf 70 = .ok (.iload_n 1, 1) := by decide +kernel
theorem dX8_markOf_71 : decode cX8_markOf 71 = .ok (.invokevirtual 197, 3) := by decide +kernel
theorem dX8_markOf_74 : decode cX8_markOf 74 = .ok (.iadd, 1) := by decide +kernel
theorem dX8_markOf_75 : decode cX8_markOf 75 = .ok (.iload_n 2, 1) := by decide +kernel
theorem dX8_markOf_76 : decode cX8_markOf 76 = .ok (.iconst 1, 1) := by decide +kernel
theorem dX8_markOf_77 : decode cX8_markOf 77 = .ok (.if_icmp .ne 7, 3) := by decide +kernel
theorem dX8_markOf_80 : decode cX8_markOf 80 = .ok (.iconst 0, 1) := by decide +kernel
theorem dX8_markOf_81 : decode cX8_markOf 81 = .ok (.goto 6, 3) := by decide +kernel
theorem dX8_markOf_84 : decode cX8_markOf 84 = .ok (.sipush 1000, 3) := by decide +kernel
theorem dX8_markOf_87 : decode cX8_markOf 87 = .ok (.isub, 1) := by decide +kernel
theorem dX8_markOf_88 : decode cX8_markOf 88 = .ok (.istore_n 3, 1) := by decide +kernel
theorem dX8_markOf_89 : decode cX8_markOf 89 = .ok (.iload_n 2, 1) := by decide +kernel
theorem dX8_markOf_90 : decode cX8_markOf 90 = .ok (.iconst 3, 1) := by decide +kernel
theorem dX8_markOf_91 : decode cX8_markOf 91 = .ok (.if_icmp .ne 9, 3) := by decide +kernel
theorem dX8_markOf_94 : decode cX8_markOf 94 = .ok (.iconst 2, 1) := by decide +kernel
theorem dX8_markOf_95 : decode cX8_markOf 95 = .ok (.iload_n 3, 1) := by decide +kernel
theorem dX8_markOf_96 : decode cX8_markOf 96 = .ok (.imul, 1) := by decide +kernel
theorem dX8_markOf_97 : decode cX8_markOf 97 = .ok (.goto 4, 3) := by decide +kernel
theorem dX8_markOf_100 : decode cX8_markOf 100 = .ok (.iload_n 3, 1) := by decide +kernel
theorem dX8_markOf_101 : decode cX8_markOf 101 = .ok (.ireturn, 1) := by decide +kernel
set_option maxRecDepth 20000 in
theorem ggX8_sizeOf_X8_kindOf : GoodIn wsX8_sizeOf wsX8_kindOf := goodIn_r _ [5, 6, 33, 34, 35, 36, 37, 38, 39, 40, 41, 42, 43, 44, 45, 46, 47, 48, 49, 50, 51, 52, 53, 54, 55, 56, 57, 58, 59] (by decide +kernel) (by decide +kernel)
set_option maxRecDepth 20000 in
theorem gX8_sizeOf_X8_kindOf : GoodIn wsX8_sizeOf (wsV RX8 294 RX8 yX8_kindOf wsX8_kindOf) := goodIn_app (goodIn_of _ (by decide +kernel)) ggX8_sizeOf_X8_kindOf
set_option maxRecDepth 20000 in
theorem ggX8_sizeOf_X8_began : GoodIn wsX8_sizeOf wsX8_began := goodIn_r _ [10, 11, 12, 33, 34, 35, 36, 37, 38, 39, 40, 41, 42, 43, 44, 45, 46, 47, 48, 49, 50, 51, 52, 53, 54, 55, 56, 57, 58, 59] (by decide +kernel) (by decide +kernel)
set_option maxRecDepth 20000 in
theorem gX8_sizeOf_X8_began : GoodIn wsX8_sizeOf (wsV RX8 304 RX8 yX8_began wsX8_began) := goodIn_app (goodIn_of _ (by decide +kernel)) ggX8_sizeOf_X8_began
set_option maxRecDepth 20000 in
theorem ggX8_sizeOf_X8_plainSize : GoodIn wsX8_sizeOf wsX8_plainSize := goodIn_r _ [16, 7, 8, 9, 4, 10, 11, 12, 17, 18, 19, 20, 6, 33, 34, 35, 36, 37, 38, 39, 40, 41, 42, 43, 44, 45, 46, 47, 48, 49, 50, 51, 52, 53, 54, 55, 56, 57, 58, 59] (by decide +kernel) (by decide +kernel)
set_option maxRecDepth 20000 in
theorem gX8_sizeOf_X8_plainSize : GoodIn wsX8_sizeOf (wsV RX8 307 RX8 yX8_plainSize wsX8_plainSize) := goodIn_app (goodIn_of _ (by decide +kernel)) ggX8_sizeOf_X8_plainSize
set_option maxRecDepth 20000 in
theorem ggX8_sizeOf_X8_markOf : GoodIn wsX8_sizeOf wsX8_markOf := goodIn_r _ [24, 1, 2, 3, 4, 5, 6, 7, 8, 9, 10, 11, 12, 25, 26, 27, 28, 29, 30, 31, 32, 33, 34, 35, 36, 37, 38, 39, 40, 41, 42, 43, 44, 45, 46, 47, 48, 49, 50, 51, 52, 53, 54, 55, 56, 57, 58, 59] (by decide +kernel) (by decide +kernel)
set_option maxRecDepth 20000 in
theorem gX8_sizeOf_X8_markOf : GoodIn wsX8_sizeOf (wsV RX8 310 RX8 yX8_markOf wsX8_markOf) := goodIn_app (goodIn_of _ (by decide +kernel)) ggX8_sizeOf_X8_markOf
theorem dX8_sizeOf_0 : decode cX8_sizeOf 0 = .ok (.aload_n 0, 1) := by decide +kernel
theorem dX8_sizeOf_1 : decode cX8_sizeOf 1 = .ok (.iload_n 1, 1) := by decide +kernel
theorem dX8_sizeOf_2 : decode cX8_sizeOf 2 = .ok (.invokevirtual 294, 3) := by decide +kernel
theorem dX8_sizeOf_5 : decode cX8_sizeOf 5 = .ok (.istore_n 2, 1) := by decide +kernel
theorem dX8_sizeOf_6 : decode cX8_sizeOf 6 = .ok (.iload_n 2, 1) := by decide +kernel
theorem dX8_sizeOf_7 : decode cX8_sizeOf 7 = .ok (.iconst 3, 1) := by decide +kernel
theorem dX8_sizeOf_8 : decode cX8_sizeOf 8 = .ok (.if_icmp .eq 8, 3) := by decide +kernel
theorem dX8_sizeOf_11 : decode cX8_sizeOf 11 = .ok (.iload_n 2, 1) := by decide +kernel
theorem dX8_sizeOf_12 : decode cX8_sizeOf 12 = .ok (.iconst 5, 1) := by decide +kernel
theorem dX8_sizeOf_13 : decode cX8_sizeOf 13 = .ok (.if_icmp .ne 19, 3) := by decide +kernel
theorem dX8_sizeOf_16 : decode cX8_sizeOf 16 = .ok (.aload_n 0, 1) := by decide +kernel
theorem dX8_sizeOf_17 : decode cX8_sizeOf 17 = .ok (.iload_n 2, 1) := by decide +kernel
theorem dX8_sizeOf_18 : decode cX8_sizeOf 18 = .ok (.iconst 3, 1) := by decide +kernel
theorem dX8_sizeOf_19 : decode cX8_sizeOf 19 = .ok (.if_icmp .ne 8, 3) := by decide +kernel
theorem dX8_sizeOf_22 : decode cX8_sizeOf 22 = .ok (.bipush 12, 2) := by decide +kernel
theorem dX8_sizeOf_24 : decode cX8_sizeOf 24 = .ok (.goto 5, 3) := by decide +kernel
theorem dX8_sizeOf_27 : decode cX8_sizeOf 27 = .ok (.bipush 14, 2) := by decide +kernel
theorem dX8_sizeOf_29 : decode cX8_sizeOf 29 = .ok (.invokevirtual 304, 3) := by decide +kernel
theorem dX8_sizeOf_32 : decode cX8_sizeOf 32 = .ok (.aload_n 0, 1) := by decide +kernel
theorem dX8_sizeOf_33 : decode cX8_sizeOf 33 = .ok (.iload_n 2, 1) := by decide +kernel
theorem dX8_sizeOf_34 : decode cX8_sizeOf 34 = .ok (.iconst 4, 1) := by decide +kernel
theorem dX8_sizeOf_35 : decode cX8_sizeOf 35 = .ok (.if_icmp .ge 8, 3) := by decide +kernel
theorem dX8_sizeOf_38 : decode cX8_sizeOf 38 = .ok (.bipush 11, 2) := by decide +kernel
theorem dX8_sizeOf_40 : decode cX8_sizeOf 40 = .ok (.goto 5, 3) := by decide +kernel
theorem dX8_sizeOf_43 : decode cX8_sizeOf 43 = .ok (.bipush 13, 2) := by decide +kernel
theorem dX8_sizeOf_45 : decode cX8_sizeOf 45 = .ok (.invokevirtual 304, 3) := by decide +kernel
theorem dX8_sizeOf_48 : decode cX8_sizeOf 48 = .ok (.aload_n 0, 1) := by decide +kernel
theorem dX8_sizeOf_49 : decode cX8_sizeOf 49 = .ok (.iload_n 1, 1) := by decide +kernel
theorem dX8_sizeOf_50 : decode cX8_sizeOf 50 = .ok (.invokevirtual 307, 3) := by decide +kernel
theorem dX8_sizeOf_53 : decode cX8_sizeOf 53 = .ok (.istore_n 3, 1) := by decide +kernel
theorem dX8_sizeOf_54 : decode cX8_sizeOf 54 = .ok (.aload_n 0, 1) := by decide +kernel
theorem dX8_sizeOf_55 : decode cX8_sizeOf 55 = .ok (.iload_n 1, 1) := by decide +kernel
theorem dX8_sizeOf_56 : decode cX8_sizeOf 56 = .ok (.invokevirtual 310, 3) := by decide +kernel
theorem dX8_sizeOf_59 : decode cX8_sizeOf 59 = .ok (.istore 4, 2) := by decide +kernel
theorem dX8_sizeOf_61 : decode cX8_sizeOf 61 = .ok (.iload_n 2, 1) := by decide +kernel
theorem dX8_sizeOf_62 : decode cX8_sizeOf 62 = .ok (.iconst 3, 1) := by decide +kernel
theorem dX8_sizeOf_63 : decode cX8_sizeOf 63 = .ok (.if_icmp .ne 11, 3) := by decide +kernel
theorem dX8_sizeOf_66 : decode cX8_sizeOf 66 = .ok (.iload_n 3, 1) := by decide +kernel
theorem dX8_sizeOf_67 : decode cX8_sizeOf 67 = .ok (.ineg, 1) := by decide +kernel
theorem dX8_sizeOf_68 : decode cX8_sizeOf 68 = .ok (.iload 4, 2) := by decide +kernel
theorem dX8_sizeOf_70 : decode cX8_sizeOf 70 = .ok (.isub, 1) := by decide +kernel
theorem dX8_sizeOf_71 : decode cX8_sizeOf 71 = .ok (.goto 33, 3) := by decide +kernel
theorem dX8_sizeOf_74 : decode cX8_sizeOf 74 = .ok (.iload_n 2, 1) := by decide +kernel
theorem dX8_sizeOf_75 : decode cX8_sizeOf 75 = .ok (.iconst 4, 1) := by decide +kernel
theorem dX8_sizeOf_76 : decode cX8_sizeOf 76 = .ok (.if_icmp .ge 10, 3) := by decide +kernel
theorem dX8_sizeOf_79 : decode cX8_sizeOf 79 = .ok (.iload_n 3, 1) := by decide +kernel
theorem dX8_sizeOf_80 : decode cX8_sizeOf 80 = .ok (.iload 4, 2) := by decide +kernel
theorem dX8_sizeOf_82 : decode cX8_sizeOf 82 = .ok (.iadd, 1) := by decide +kernel
theorem dX8_sizeOf_83 : decode cX8_sizeOf 83 = .ok (.goto 21, 3) := by decide +kernel
theorem dX8_sizeOf_86 : decode cX8_sizeOf 86 = .ok (.iload_n 2, 1) := by decide +kernel
theorem dX8_sizeOf_87 : decode cX8_sizeOf 87 = .ok (.iconst 4, 1) := by decide +kernel
theorem dX8_sizeOf_88 : decode cX8_sizeOf 88 = .ok (.if_icmp .ne 10, 3) := by decide +kernel
theorem dX8_sizeOf_91 : decode cX8_sizeOf 91 = .ok (.iload_n 3, 1) := by decide +kernel
theorem dX8_sizeOf_92 : decode cX8_sizeOf 92 = .ok (.iload 4, 2) := by decide +kernel
theorem dX8_sizeOf_94 : decode cX8_sizeOf 94 = .ok (.isub, 1) := by decide +kernel
theorem dX8_sizeOf_95 : decode cX8_sizeOf 95 = .ok (.goto 9, 3) := by decide +kernel
theorem dX8_sizeOf_98 : decode cX8_sizeOf 98 = .ok (.iconst 2, 1) := by decide +kernel
theorem dX8_sizeOf_99 : decode cX8_sizeOf 99 = .ok (.iload_n 3, 1) := by decide +kernel
theorem dX8_sizeOf_100 : decode cX8_sizeOf 100 = .ok (.iload 4, 2) := by decide +kernel
theorem dX8_sizeOf_102 : decode cX8_sizeOf 102 = .ok (.isub, 1) := by decide +kernel
theorem dX8_sizeOf_103 : decode cX8_sizeOf 103 = .ok (.imul, 1) := by decide +kernel
theorem dX8_sizeOf_104 : decode cX8_sizeOf 104 = .ok (.ireturn, 1) := by decide +kernel
set_option maxRecDepth 20000 in
theorem ggX8_shape_X8_isTree : GoodIn wsX8_shape wsX8_isTree := goodIn_r _ [8, 9, 10, 11, 7, 12, 46, 47, 48, 49, 50, 51, 52, 53, 54, 55, 56, 57, 58, 59, 60, 61, 62, 63, 64, 65, 66, 67, 68, 69, 70, 71, 72] (by decide +kernel) (by decide +kernel)
set_option maxRecDepth 20000 in
theorem gX8_shape_X8_isTree : GoodIn wsX8_shape (wsV RX8 249 RX8 yX8_isTree wsX8_isTree) := goodIn_app (goodIn_of _ (by decide +kernel)) ggX8_shape_X8_isTree
set_option maxRecDepth 20000 in
theorem ggX8_shape_X8_in : GoodIn wsX8_shape wsX8_in := goodIn_r _ [12] (by decide +kernel) (by decide +kernel)
set_option maxRecDepth 20000 in
theorem gX8_shape_X8_in : GoodIn wsX8_shape (va_wsS RX8 52 yX8_in wsX8_in) := goodIn_app (goodIn_of _ (by decide +kernel)) ggX8_shape_X8_in
set_option maxRecDepth 20000 in
theorem ggX8_shape_X8_sizeOf : GoodIn wsX8_shape wsX8_sizeOf := goodIn_r _ [16, 17, 18, 19, 7, 20, 9, 21, 22, 23, 24, 3, 25, 26, 27, 28, 29, 30, 31, 32, 33, 34, 35, 36, 37, 38, 39, 40, 41, 42, 43, 44, 45, 46, 47, 48, 49, 50, 51, 52, 53, 54, 55, 56, 57, 58, 59, 60, 61, 62, 63, 64, 65, 66, 67, 68, 69, 70, 71, 72] (by decide +kernel) (by decide +kernel)
set_option maxRecDepth 20000 in
theorem gX8_shape_X8_sizeOf : GoodIn wsX8_shape (wsV RX8 313 RX8 yX8_sizeOf wsX8_sizeOf) := goodIn_app (goodIn_of _ (by decide +kernel)) ggX8_shape_X8_sizeOf
set_option maxRecDepth 20000 in
theorem ggX8_shape_X8_markOf : GoodIn wsX8_shape wsX8_markOf := goodIn_r _ [37, 17, 18, 19, 7, 20, 9, 21, 22, 23, 24, 3, 25, 38, 39, 40, 41, 42, 43, 44, 45, 46, 47, 48, 49, 50, 51, 52, 53, 54, 55, 56, 57, 58, 59, 60, 61, 62, 63, 64, 65, 66, 67, 68, 69, 70, 71, 72] (by decide +kernel) (by decide +kernel)
set_option maxRecDepth 20000 in
theorem gX8_shape_X8_markOf : GoodIn wsX8_shape (wsV RX8 310 RX8 yX8_markOf wsX8_markOf) := goodIn_app (goodIn_of _ (by decide +kernel)) ggX8_shape_X8_markOf
theorem dX8_shape_0 : decode cX8_shape 0 = .ok (.aload_n 0, 1) := by decide +kernel
theorem dX8_shape_1 : decode cX8_shape 1 = .ok (.iconst 0, 1) := by decide +kernel
theorem dX8_shape_2 : decode cX8_shape 2 = .ok (.putfield 41, 3) := by decide +kernel
theorem dX8_shape_5 : decode cX8_shape 5 = .ok (.aload_n 0, 1) := by decide +kernel
theorem dX8_shape_6 : decode cX8_shape 6 = .ok (.iload_n 1, 1) := by decide +kernel
theorem dX8_shape_7 : decode cX8_shape 7 = .ok (.invokevirtual 249, 3) := by decide +kernel
theorem dX8_shape_10 : decode cX8_shape 10 = .ok (.ifCond .eq 13, 3) := by decide +kernel
theorem dX8_shape_13 : decode cX8_shape 13 = .ok (.iload_n 2, 1) := by decide +kernel
theorem dX8_shape_14 : decode cX8_shape 14 = .ok (.i2l, 1) := by decide +kernel
theorem dX8_shape_15 : decode cX8_shape 15 = .ok (.lconst 0, 1) := by decide +kernel
theorem dX8_shape_16 : decode cX8_shape 16 = .ok (.lconst 1, 1) := by decide +kernel
theorem dX8_shape_17 : decode cX8_shape 17 = .ok (.invokestatic 52, 3) := by decide +kernel
theorem dX8_shape_20 : decode cX8_shape 20 = .ok (.ifCond .ne 7, 3) := by decide +kernel
theorem dX8_shape_23 : decode cX8_shape 23 = .ok (.ldc2_w 62, 3) := by decide +kernel
theorem dX8_shape_26 : decode cX8_shape 26 = .ok (.lreturn, 1) := by decide +kernel
theorem dX8_shape_27 : decode cX8_shape 27 = .ok (.aload_n 0, 1) := by decide +kernel
theorem dX8_shape_28 : decode cX8_shape 28 = .ok (.iconst 0, 1) := by decide +kernel
theorem dX8_shape_29 : decode cX8_shape 29 = .ok (.putfield 301, 3) := by decide +kernel
theorem dX8_shape_32 : decode cX8_shape 32 = .ok (.iload_n 2, 1) := by decide +kernel
theorem dX8_shape_33 : decode cX8_shape 33 = .ok (.ifCond .ne 12, 3) := by decide +kernel
theorem dX8_shape_36 : decode cX8_shape 36 = .ok (.aload_n 0, 1) := by decide +kernel
theorem dX8_shape_37 : decode cX8_shape 37 = .ok (.iload_n 1, 1) := by decide +kernel
theorem dX8_shape_38 : decode cX8_shape 38 = .ok (.invokevirtual 313, 3) := by decide +kernel
theorem dX8_shape_41 : decode cX8_shape 41 = .ok (.i2l, 1) := by decide +kernel
theorem dX8_shape_42 : decode cX8_shape 42 = .ok (.goto 9, 3) := by decide +kernel
theorem dX8_shape_45 : decode cX8_shape 45 = .ok (.aload_n 0, 1) := by decide +kernel
theorem dX8_shape_46 : decode cX8_shape 46 = .ok (.iload_n 1, 1) := by decide +kernel
theorem dX8_shape_47 : decode cX8_shape 47 = .ok (.invokevirtual 310, 3) := by decide +kernel
theorem dX8_shape_50 : decode cX8_shape 50 = .ok (.i2l, 1) := by decide +kernel
theorem dX8_shape_51 : decode cX8_shape 51 = .ok (.lreturn, 1) := by decide +kernel
set_option maxRecDepth 20000 in
theorem ggX8_trace_X8_in : GoodIn wsX8_trace wsX8_in := goodIn_r _ [8] (by decide +kernel) (by decide +kernel)
set_option maxRecDepth 20000 in
theorem gX8_trace_X8_in : GoodIn wsX8_trace (va_wsS RX8 52 yX8_in wsX8_in) := goodIn_app (goodIn_of _ (by decide +kernel)) ggX8_trace_X8_in
theorem dX8_trace_0 : decode cX8_trace 0 = .ok (.aload_n 0, 1) := by decide +kernel
theorem dX8_trace_1 : decode cX8_trace 1 = .ok (.iconst 0, 1) := by decide +kernel
theorem dX8_trace_2 : decode cX8_trace 2 = .ok (.putfield 41, 3) := by decide +kernel
theorem dX8_trace_5 : decode cX8_trace 5 = .ok (.iload_n 1, 1) := by decide +kernel
theorem dX8_trace_6 : decode cX8_trace 6 = .ok (.i2l, 1) := by decide +kernel
theorem dX8_trace_7 : decode cX8_trace 7 = .ok (.lconst 0, 1) := by decide +kernel
theorem dX8_trace_8 : decode cX8_trace 8 = .ok (.aload_n 0, 1) := by decide +kernel
theorem dX8_trace_9 : decode cX8_trace 9 = .ok (.getfield 301, 3) := by decide +kernel
theorem dX8_trace_12 : decode cX8_trace 12 = .ok (.iconst 1, 1) := by decide +kernel
theorem dX8_trace_13 : decode cX8_trace 13 = .ok (.isub, 1) := by decide +kernel
theorem dX8_trace_14 : decode cX8_trace 14 = .ok (.i2l, 1) := by decide +kernel
theorem dX8_trace_15 : decode cX8_trace 15 = .ok (.invokestatic 52, 3) := by decide +kernel
theorem dX8_trace_18 : decode cX8_trace 18 = .ok (.ifCond .eq 12, 3) := by decide +kernel
theorem dX8_trace_21 : decode cX8_trace 21 = .ok (.aload_n 0, 1) := by decide +kernel
theorem dX8_trace_22 : decode cX8_trace 22 = .ok (.getfield 38, 3) := by decide +kernel
theorem dX8_trace_25 : decode cX8_trace 25 = .ok (.iload_n 1, 1) := by decide +kernel
theorem dX8_trace_26 : decode cX8_trace 26 = .ok (.iaload, 1) := by decide +kernel
theorem dX8_trace_27 : decode cX8_trace 27 = .ok (.goto 5, 3) := by decide +kernel
theorem dX8_trace_30 : decode cX8_trace 30 = .ok (.ldc 80, 2) := by decide +kernel
theorem dX8_trace_32 : decode cX8_trace 32 = .ok (.ireturn, 1) := by decide +kernel
set_option maxRecDepth 20000 in
theorem ggX8_count_X8_fruit : GoodIn wsX8_count wsX8_fruit := goodIn_r _ [11, 3, 12, 13, 14, 15, 16, 17, 18, 19, 20, 21, 22, 23, 24, 25, 26, 27, 28, 29, 30, 31, 32, 33, 34, 35, 36, 37, 38] (by decide +kernel) (by decide +kernel)
set_option maxRecDepth 20000 in
theorem gX8_count_X8_fruit : GoodIn wsX8_count (wsV RX8 200 RX8 yX8_fruit wsX8_fruit) := goodIn_app (goodIn_of _ (by decide +kernel)) ggX8_count_X8_fruit
theorem dX8_count_0 : decode cX8_count 0 = .ok (.aload_n 0, 1) := by decide +kernel
theorem dX8_count_1 : decode cX8_count 1 = .ok (.iconst 0, 1) := by decide +kernel
theorem dX8_count_2 : decode cX8_count 2 = .ok (.putfield 41, 3) := by decide +kernel
theorem dX8_count_5 : decode cX8_count 5 = .ok (.iconst 0, 1) := by decide +kernel
theorem dX8_count_6 : decode cX8_count 6 = .ok (.istore_n 2, 1) := by decide +kernel
theorem dX8_count_7 : decode cX8_count 7 = .ok (.iload_n 1, 1) := by decide +kernel
theorem dX8_count_8 : decode cX8_count 8 = .ok (.tableswitch 174 0 6 #[44, 78, 86, 125, 133, 139, 168], 44) := by decide +kernel
theorem dX8_count_52 : decode cX8_count 52 = .ok (.iconst 0, 1) := by decide +kernel
theorem dX8_count_53 : decode cX8_count 53 = .ok (.istore_n 3, 1) := by decide +kernel
theorem dX8_count_54 : decode cX8_count 54 = .ok (.iload_n 3, 1) := by decide +kernel
theorem dX8_count_55 : decode cX8_count 55 = .ok (.bipush 8, 2) := by decide +kernel
theorem dX8_count_57 : decode cX8_count 57 = .ok (.if_icmp .ge 26, 3) := by decide +kernel
theorem dX8_count_60 : decode cX8_count 60 = .ok (.iload_n 2, 1) := by decide +kernel
theorem dX8_count_61 : decode cX8_count 61 = .ok (.aload_n 0, 1) := by decide +kernel
theorem dX8_count_62 : decode cX8_count 62 = .ok (.getfield 9, 3) := by decide +kernel
theorem dX8_count_65 : decode cX8_count 65 = .ok (.iload_n 3, 1) := by decide +kernel
theorem dX8_count_66 : decode cX8_count 66 = .ok (.iaload, 1) := by decide +kernel
theorem dX8_count_67 : decode cX8_count 67 = .ok (.ifCond .lt 7, 3) := by decide +kernel
theorem dX8_count_70 : decode cX8_count 70 = .ok (.iconst 1, 1) := by decide +kernel
theorem dX8_count_71 : decode cX8_count 71 = .ok (.goto 4, 3) := by decide +kernel
theorem dX8_count_74 : decode cX8_count 74 = .ok (.iconst 0, 1) := by decide +kernel
theorem dX8_count_75 : decode cX8_count 75 = .ok (.iadd, 1) := by decide +kernel
theorem dX8_count_76 : decode cX8_count 76 = .ok (.istore_n 2, 1) := by decide +kernel
theorem dX8_count_77 : decode cX8_count 77 = .ok (.iinc 3 1, 3) := by decide +kernel
theorem dX8_count_80 : decode cX8_count 80 = .ok (.goto (-26), 3) := by decide +kernel
theorem dX8_count_83 : decode cX8_count 83 = .ok (.iload_n 2, 1) := by decide +kernel
theorem dX8_count_84 : decode cX8_count 84 = .ok (.i2l, 1) := by decide +kernel
theorem dX8_count_85 : decode cX8_count 85 = .ok (.lreturn, 1) := by decide +kernel
theorem dX8_count_86 : decode cX8_count 86 = .ok (.aload_n 0, 1) := by decide +kernel
theorem dX8_count_87 : decode cX8_count 87 = .ok (.getfield 19, 3) := by decide +kernel
theorem dX8_count_90 : decode cX8_count 90 = .ok (.iconst 0, 1) := by decide +kernel
theorem dX8_count_91 : decode cX8_count 91 = .ok (.iaload, 1) := by decide +kernel
theorem dX8_count_92 : decode cX8_count 92 = .ok (.i2l, 1) := by decide +kernel
theorem dX8_count_93 : decode cX8_count 93 = .ok (.lreturn, 1) := by decide +kernel
theorem dX8_count_94 : decode cX8_count 94 = .ok (.iconst 0, 1) := by decide +kernel
theorem dX8_count_95 : decode cX8_count 95 = .ok (.istore_n 3, 1) := by decide +kernel
theorem dX8_count_96 : decode cX8_count 96 = .ok (.iload_n 3, 1) := by decide +kernel
theorem dX8_count_97 : decode cX8_count 97 = .ok (.aload_n 0, 1) := by decide +kernel
theorem dX8_count_98 : decode cX8_count 98 = .ok (.getfield 19, 3) := by decide +kernel
theorem dX8_count_101 : decode cX8_count 101 = .ok (.iconst 1, 1) := by decide +kernel
theorem dX8_count_102 : decode cX8_count 102 = .ok (.iaload, 1) := by decide +kernel
theorem dX8_count_103 : decode cX8_count 103 = .ok (.if_icmp .ge 27, 3) := by decide +kernel
theorem dX8_count_106 : decode cX8_count 106 = .ok (.iload_n 2, 1) := by decide +kernel
theorem dX8_count_107 : decode cX8_count 107 = .ok (.iconst 1, 1) := by decide +kernel
theorem dX8_count_108 : decode cX8_count 108 = .ok (.aload_n 0, 1) := by decide +kernel
theorem dX8_count_109 : decode cX8_count 109 = .ok (.getfield 19, 3) := by decide +kernel
theorem dX8_count_112 : decode cX8_count 112 = .ok (.bipush 35, 2) := by decide +kernel
theorem dX8_count_114 : decode cX8_count 114 = .ok (.iconst 3, 1) := by decide +kernel
theorem dX8_count_115 : decode cX8_count 115 = .ok (.iload_n 3, 1) := by decide +kernel
theorem dX8_count_116 : decode cX8_count 116 = .ok (.imul, 1) := by decide +kernel
theorem dX8_count_117 : decode cX8_count 117 = .ok (.iadd, 1) := by decide +kernel
theorem dX8_count_118 : decode cX8_count 118 = .ok (.iconst 2, 1) := by decide +kernel
theorem dX8_count_119 : decode cX8_count 119 = .ok (.iadd, 1) := by decide +kernel
theorem dX8_count_120 : decode cX8_count 120 = .ok (.iaload, 1) := by decide +kernel
theorem dX8_count_121 : decode cX8_count 121 = .ok (.isub, 1) := by decide +kernel
theorem dX8_count_122 : decode cX8_count 122 = .ok (.iadd, 1) := by decide +kernel
theorem dX8_count_123 : decode cX8_count 123 = .ok (.istore_n 2, 1) := by decide +kernel
theorem dX8_count_124 : decode cX8_count 124 = .ok (.iinc 3 1, 3) := by decide +kernel
theorem dX8_count_127 : decode cX8_count 127 = .ok (.goto (-31), 3) := by decide +kernel
theorem dX8_count_130 : decode cX8_count 130 = .ok (.iload_n 2, 1) := by decide +kernel
theorem dX8_count_131 : decode cX8_count 131 = .ok (.i2l, 1) := by decide +kernel
theorem dX8_count_132 : decode cX8_count 132 = .ok (.lreturn, 1) := by decide +kernel
theorem dX8_count_133 : decode cX8_count 133 = .ok (.aload_n 0, 1) := by decide +kernel
theorem dX8_count_134 : decode cX8_count 134 = .ok (.getfield 19, 3) := by decide +kernel
theorem dX8_count_137 : decode cX8_count 137 = .ok (.iconst 2, 1) := by decide +kernel
theorem dX8_count_138 : decode cX8_count 138 = .ok (.iaload, 1) := by decide +kernel
theorem dX8_count_139 : decode cX8_count 139 = .ok (.i2l, 1) := by decide +kernel
theorem dX8_count_140 : decode cX8_count 140 = .ok (.lreturn, 1) := by decide +kernel
theorem dX8_count_141 : decode cX8_count 141 = .ok (.aload_n 0, 1) := by decide +kernel
theorem dX8_count_142 : decode cX8_count 142 = .ok (.getfield 188, 3) := by decide +kernel
theorem dX8_count_145 : decode cX8_count 145 = .ok (.i2l, 1) := by decide +kernel
theorem dX8_count_146 : decode cX8_count 146 = .ok (.lreturn, 1) := by decide +kernel
theorem dX8_count_147 : decode cX8_count 147 = .ok (.iconst 0, 1) := by decide +kernel
theorem dX8_count_148 : decode cX8_count 148 = .ok (.istore_n 3, 1) := by decide +kernel
theorem dX8_count_149 : decode cX8_count 149 = .ok (.iload_n 3, 1) := by decide +kernel
theorem dX8_count_150 : decode cX8_count 150 = .ok (.aload_n 0, 1) := by decide +kernel
theorem dX8_count_151 : decode cX8_count 151 = .ok (.getfield 19, 3) := by decide +kernel
theorem dX8_count_154 : decode cX8_count 154 = .ok (.iconst 2, 1) := by decide +kernel
theorem dX8_count_155 : decode cX8_count 155 = .ok (.iaload, 1) := by decide +kernel
theorem dX8_count_156 : decode cX8_count 156 = .ok (.if_icmp .ge 17, 3) := by decide +kernel
theorem dX8_count_159 : decode cX8_count 159 = .ok (.iload_n 2, 1) := by decide +kernel
theorem dX8_count_160 : decode cX8_count 160 = .ok (.aload_n 0, 1) := by decide +kernel
theorem dX8_count_161 : decode cX8_count 161 = .ok (.iload_n 3, 1) := by decide +kernel
theorem dX8_count_162 : decode cX8_count 162 = .ok (.invokevirtual 200, 3) := by decide +kernel
theorem dX8_count_165 : decode cX8_count 165 = .ok (.iadd, 1) := by decide +kernel
theorem dX8_count_166 : decode cX8_count 166 = .ok (.istore_n 2, 1) := by decide +kernel
theorem dX8_count_167 : decode cX8_count 167 = .ok (.iinc 3 1, 3) := by decide +kernel
theorem dX8_count_170 : decode cX8_count 170 = .ok (.goto (-21), 3) := by decide +kernel
theorem dX8_count_173 : decode cX8_count 173 = .ok (.iload_n 2, 1) := by decide +kernel
theorem dX8_count_174 : decode cX8_count 174 = .ok (.i2l, 1) := by decide +kernel
theorem dX8_count_175 : decode cX8_count 175 = .ok (.lreturn, 1) := by decide +kernel
theorem dX8_count_176 : decode cX8_count 176 = .ok (.aload_n 0, 1) := by decide +kernel
theorem dX8_count_177 : decode cX8_count 177 = .ok (.getfield 70, 3) := by decide +kernel
theorem dX8_count_180 : decode cX8_count 180 = .ok (.i2l, 1) := by decide +kernel
theorem dX8_count_181 : decode cX8_count 181 = .ok (.lreturn, 1) := by decide +kernel
theorem dX8_count_182 : decode cX8_count 182 = .ok (.ldc2_w 62, 3) := by decide +kernel
theorem dX8_count_185 : decode cX8_count 185 = .ok (.lreturn, 1) := by decide +kernel
theorem dX8_status_0 : decode cX8_status 0 = .ok (.aload_n 0, 1) := by decide +kernel
theorem dX8_status_1 : decode cX8_status 1 = .ok (.iconst 0, 1) := by decide +kernel
theorem dX8_status_2 : decode cX8_status 2 = .ok (.putfield 41, 3) := by decide +kernel
theorem dX8_status_5 : decode cX8_status 5 = .ok (.aload_n 0, 1) := by decide +kernel
theorem dX8_status_6 : decode cX8_status 6 = .ok (.getfield 45, 3) := by decide +kernel
theorem dX8_status_9 : decode cX8_status 9 = .ok (.ireturn, 1) := by decide +kernel
