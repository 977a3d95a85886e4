theorem dX6_findPlace_117 : decode cX6_findPlace 117 = .ok (.putfield 304, 3) := by decide +kernel
theorem dX6_findPlace_120 : decode cX6_findPlace 120 = .ok (.aload_n 0, 1) := by decide +kernel
theorem dX6_findPlace_121 : decode cX6_findPlace 121 = .ok (.sipush 840, 3) := by decide +kernel
theorem dX6_findPlace_124 : decode cX6_findPlace 124 = .ok (.aload_n 0, 1) := by decide +kernel
theorem dX6_findPlace_125 : decode cX6_findPlace 125 = .ok (.getfield 64, 3) := by decide +kernel
theorem dX6_findPlace_128 : decode cX6_findPlace 128 = .ok (.aload_n 0, 1) := by decide +kernel
theorem dX6_findPlace_129 : decode cX6_findPlace 129 = .ok (.getfield 292, 3) := by decide +kernel
theorem dX6_findPlace_132 : decode cX6_findPlace 132 = .ok (.iaload, 1) := by decide +kernel
theorem dX6_findPlace_133 : decode cX6_findPlace 133 = .ok (.imul, 1) := by decide +kernel
theorem dX6_findPlace_134 : decode cX6_findPlace 134 = .ok (.sipush 840, 3) := by decide +kernel
theorem dX6_findPlace_137 : decode cX6_findPlace 137 = .ok (.aload_n 0, 1) := by decide +kernel
theorem dX6_findPlace_138 : decode cX6_findPlace 138 = .ok (.getfield 301, 3) := by decide +kernel
theorem dX6_findPlace_141 : decode cX6_findPlace 141 = .ok (.idiv, 1) := by decide +kernel
theorem dX6_findPlace_142 : decode cX6_findPlace 142 = .ok (.aload_n 0, 1) := by decide +kernel
theorem dX6_findPlace_143 : decode cX6_findPlace 143 = .ok (.getfield 64, 3) := by decide +kernel
theorem dX6_findPlace_146 : decode cX6_findPlace 146 = .ok (.aload_n 0, 1) := by decide +kernel
theorem dX6_findPlace_147 : decode cX6_findPlace 147 = .ok (.getfield 295, 3) := by decide +kernel
theorem dX6_findPlace_150 : decode cX6_findPlace 150 = .ok (.iaload, 1) := by decide +kernel
theorem dX6_findPlace_151 : decode cX6_findPlace 151 = .ok (.aload_n 0, 1) := by decide +kernel
theorem dX6_findPlace_152 : decode cX6_findPlace 152 = .ok (.getfield 64, 3) := by decide +kernel
theorem dX6_findPlace_155 : decode cX6_findPlace 155 = .ok (.aload_n 0, 1) := by decide +kernel
theorem dX6_findPlace_156 : decode cX6_findPlace 156 = .ok (.getfield 292, 3) := by decide +kernel
theorem dX6_findPlace_159 : decode cX6_findPlace 159 = .ok (.iaload, 1) := by decide +kernel
theorem dX6_findPlace_160 : decode cX6_findPlace 160 = .ok (.isub, 1) := by decide +kernel
theorem dX6_findPlace_161 : decode cX6_findPlace 161 = .ok (.imul, 1) := by decide +kernel
theorem dX6_findPlace_162 : decode cX6_findPlace 162 = .ok (.aload_n 0, 1) := by decide +kernel
theorem dX6_findPlace_163 : decode cX6_findPlace 163 = .ok (.getfield 298, 3) := by decide +kernel
theorem dX6_findPlace_166 : decode cX6_findPlace 166 = .ok (.imul, 1) := by decide +kernel
theorem dX6_findPlace_167 : decode cX6_findPlace 167 = .ok (.iadd, 1) := by decide +kernel
theorem dX6_findPlace_168 : decode cX6_findPlace 168 = .ok (.putfield 307, 3) := by decide +kernel
theorem dX6_findPlace_171 : decode cX6_findPlace 171 = .ok (.iconst 1, 1) := by decide +kernel
theorem dX6_findPlace_172 : decode cX6_findPlace 172 = .ok (.ireturn, 1) := by decide +kernel
set_option maxRecDepth 20000 in
theorem ggX6_lies_X6_isCorner : GoodIn wsX6_lies wsX6_isCorner := goodIn_r _ [8, 9, 10, 11, 7, 12] (by decide +kernel) (by decide +kernel)
set_option maxRecDepth 20000 in
theorem gX6_lies_X6_isCorner : GoodIn wsX6_lies (va_wsS RX6 285 yX6_isCorner wsX6_isCorner) := goodIn_app (goodIn_of _ (by decide +kernel)) ggX6_lies_X6_isCorner
set_option maxRecDepth 20000 in
theorem ggX6_lies_X6_in : GoodIn wsX6_lies wsX6_in := goodIn_r _ [12] (by decide +kernel) (by decide +kernel)
set_option maxRecDepth 20000 in
theorem gX6_lies_X6_in : GoodIn wsX6_lies (va_wsS RX6 130 yX6_in wsX6_in) := goodIn_app (goodIn_of _ (by decide +kernel)) ggX6_lies_X6_in
set_option maxRecDepth 20000 in
theorem ggX6_lies_X6_findPlace : GoodIn wsX6_lies wsX6_findPlace := goodIn_r _ [16, 2, 17, 3, 18, 4, 19, 20, 21, 22, 23, 24, 25, 7, 26, 27, 28, 29, 30, 31, 32, 33, 34, 35, 36, 37, 38, 39, 40, 41, 42, 43, 44, 45, 46, 47, 48, 49, 50, 51, 52, 53, 54, 55, 56, 57, 58, 59, 60, 61, 62, 63, 64, 65, 66, 67, 68, 69, 70] (by decide +kernel) (by decide +kernel)
set_option maxRecDepth 20000 in
theorem gX6_lies_X6_findPlace : GoodIn wsX6_lies (wsV RX6 316 RX6 yX6_findPlace wsX6_findPlace) := goodIn_app (goodIn_of _ (by decide +kernel)) ggX6_lies_X6_findPlace
theorem dX6_lies_0 : decode cX6_lies 0 = .ok (.iload_n 1, 1) := by decide +kernel
theorem dX6_lies_1 : decode cX6_lies 1 = .ok (.iload_n 2, 1) := by decide +kernel
theorem dX6_lies_2 : decode cX6_lies 2 = .ok (.invokestatic 285, 3) := by decide +kernel
theorem dX6_lies_5 : decode cX6_lies 5 = .ok (.ifCond .eq 15, 3) := by decide +kernel
theorem dX6_lies_8 : decode cX6_lies 8 = .ok (.iload_n 3, 1) := by decide +kernel
theorem dX6_lies_9 : decode cX6_lies 9 = .ok (.i2l, 1) := by decide +kernel
theorem dX6_lies_10 : decode cX6_lies 10 = .ok (.lconst 0, 1) := by decide +kernel
theorem dX6_lies_11 : decode cX6_lies 11 = .ok (.ldc2_w 314, 3) := by decide +kernel
theorem dX6_lies_14 : decode cX6_lies 14 = .ok (.invokestatic 130, 3) := by decide +kernel
theorem dX6_lies_17 : decode cX6_lies 17 = .ok (.ifCond .ne 7, 3) := by decide +kernel
theorem dX6_lies_20 : decode cX6_lies 20 = .ok (.sipush (-1002), 3) := by decide +kernel
theorem dX6_lies_23 : decode cX6_lies 23 = .ok (.ireturn, 1) := by decide +kernel
theorem dX6_lies_24 : decode cX6_lies 24 = .ok (.iload_n 3, 1) := by decide +kernel
theorem dX6_lies_25 : decode cX6_lies 25 = .ok (.iconst 2, 1) := by decide +kernel
theorem dX6_lies_26 : decode cX6_lies 26 = .ok (.if_icmp .ne 23, 3) := by decide +kernel
theorem dX6_lies_29 : decode cX6_lies 29 = .ok (.aload_n 0, 1) := by decide +kernel
theorem dX6_lies_30 : decode cX6_lies 30 = .ok (.getfield 58, 3) := by decide +kernel
theorem dX6_lies_33 : decode cX6_lies 33 = .ok (.bipush 9, 2) := by decide +kernel
theorem dX6_lies_35 : decode cX6_lies 35 = .ok (.iload_n 2, 1) := by decide +kernel
theorem dX6_lies_36 : decode cX6_lies 36 = .ok (.imul, 1) := by decide +kernel
theorem dX6_lies_37 : decode cX6_lies 37 = .ok (.iload_n 1, 1) := by decide +kernel
theorem dX6_lies_38 : decode cX6_lies 38 = .ok (.iadd, 1) := by decide +kernel
theorem dX6_lies_39 : decode cX6_lies 39 = .ok (.baload, 1) := by decide +kernel
theorem dX6_lies_40 : decode cX6_lies 40 = .ok (.ifCond .eq 7, 3) := by decide +kernel
theorem dX6_lies_43 : decode cX6_lies 43 = .ok (.iconst 1, 1) := by decide +kernel
theorem dX6_lies_44 : decode cX6_lies 44 = .ok (.goto 4, 3) := by decide +kernel
theorem dX6_lies_47 : decode cX6_lies 47 = .ok (.iconst 0, 1) := by decide +kernel
theorem dX6_lies_48 : decode cX6_lies 48 = .ok (.ireturn, 1) := by decide +kernel
theorem dX6_lies_49 : decode cX6_lies 49 = .ok (.aload_n 0, 1) := by decide +kernel
theorem dX6_lies_50 : decode cX6_lies 50 = .ok (.iload_n 1, 1) := by decide +kernel
theorem dX6_lies_51 : decode cX6_lies 51 = .ok (.iload_n 2, 1) := by decide +kernel
theorem dX6_lies_52 : decode cX6_lies 52 = .ok (.invokevirtual 316, 3) := by decide +kernel
theorem dX6_lies_55 : decode cX6_lies 55 = .ok (.ifCond .ne 9, 3) := by decide +kernel
theorem dX6_lies_58 : decode cX6_lies 58 = .ok (.sipush (-1003), 3) := by decide +kernel
theorem dX6_lies_61 : decode cX6_lies 61 = .ok (.goto 18, 3) := by decide +kernel
theorem dX6_lies_64 : decode cX6_lies 64 = .ok (.iload_n 3, 1) := by decide +kernel
theorem dX6_lies_65 : decode cX6_lies 65 = .ok (.ifCond .ne 10, 3) := by decide +kernel
theorem dX6_lies_68 : decode cX6_lies 68 = .ok (.aload_n 0, 1) := by decide +kernel
theorem dX6_lies_69 : decode cX6_lies 69 = .ok (.getfield 304, 3) := by decide +kernel
theorem dX6_lies_72 : decode cX6_lies 72 = .ok (.goto 7, 3) := by decide +kernel
theorem dX6_lies_75 : decode cX6_lies 75 = .ok (.aload_n 0, 1) := by decide +kernel
theorem dX6_lies_76 : decode cX6_lies 76 = .ok (.getfield 307, 3) := by decide +kernel
theorem dX6_lies_79 : decode cX6_lies 79 = .ok (.ireturn, 1) := by decide +kernel
set_option maxRecDepth 20000 in
theorem ggX6_area_X6_isQuarter : GoodIn wsX6_area wsX6_isQuarter := goodIn_r _ [8, 9, 10, 11, 7, 12] (by decide +kernel) (by decide +kernel)
set_option maxRecDepth 20000 in
theorem gX6_area_X6_isQuarter : GoodIn wsX6_area (va_wsS RX6 190 yX6_isQuarter wsX6_isQuarter) := goodIn_app (goodIn_of _ (by decide +kernel)) ggX6_area_X6_isQuarter
set_option maxRecDepth 20000 in
theorem ggX6_area_X6_findPlace : GoodIn wsX6_area wsX6_findPlace := goodIn_r _ [16, 17, 18, 2, 19, 3, 20, 21, 22, 23, 24, 25, 26, 7, 27, 28, 29, 30, 31, 32, 33, 34, 35, 36, 37, 38, 39, 40, 41, 42, 43, 44, 45, 46, 47, 48, 49, 50, 51, 52, 53, 54, 55, 56, 57, 58, 59, 60, 61, 62, 63, 64, 65, 66, 67, 68, 69, 70, 71] (by decide +kernel) (by decide +kernel)
set_option maxRecDepth 20000 in
theorem gX6_area_X6_findPlace : GoodIn wsX6_area (wsV RX6 316 RX6 yX6_findPlace wsX6_findPlace) := goodIn_app (goodIn_of _ (by decide +kernel)) ggX6_area_X6_findPlace
theorem dX6_area_0 : decode cX6_area 0 = .ok (.iload_n 1, 1) := by decide +kernel
theorem dX6_area_1 : decode cX6_area 1 = .ok (.invokestatic 190, 3) := by decide +kernel
theorem dX6_area_4 : decode cX6_area 4 = .ok (.ifCond .ne 7, 3) := by decide +kernel
theorem dX6_area_7 : decode cX6_area 7 = .ok (.ldc2_w 319, 3) := by decide +kernel
theorem dX6_area_10 : decode cX6_area 10 = .ok (.lreturn, 1) := by decide +kernel
theorem dX6_area_11 : decode cX6_area 11 = .ok (.iload_n 1, 1) := by decide +kernel
theorem dX6_area_12 : decode cX6_area 12 = .ok (.bipush 8, 2) := by decide +kernel
theorem dX6_area_14 : decode cX6_area 14 = .ok (.irem, 1) := by decide +kernel
theorem dX6_area_15 : decode cX6_area 15 = .ok (.istore_n 2, 1) := by decide +kernel
theorem dX6_area_16 : decode cX6_area 16 = .ok (.iload_n 1, 1) := by decide +kernel
theorem dX6_area_17 : decode cX6_area 17 = .ok (.bipush 8, 2) := by decide +kernel
theorem dX6_area_19 : decode cX6_area 19 = .ok (.idiv, 1) := by decide +kernel
theorem dX6_area_20 : decode cX6_area 20 = .ok (.istore_n 3, 1) := by decide +kernel
theorem dX6_area_21 : decode cX6_area 21 = .ok (.lconst 0, 1) := by decide +kernel
theorem dX6_area_22 : decode cX6_area 22 = .ok (.lstore 4, 2) := by decide +kernel
theorem dX6_area_24 : decode cX6_area 24 = .ok (.aload_n 0, 1) := by decide +kernel
theorem dX6_area_25 : decode cX6_area 25 = .ok (.iload_n 2, 1) := by decide +kernel
theorem dX6_area_26 : decode cX6_area 26 = .ok (.iload_n 3, 1) := by decide +kernel
theorem dX6_area_27 : decode cX6_area 27 = .ok (.iconst 1, 1) := by decide +kernel
theorem dX6_area_28 : decode cX6_area 28 = .ok (.iadd, 1) := by decide +kernel
theorem dX6_area_29 : decode cX6_area 29 = .ok (.invokevirtual 316, 3) := by decide +kernel
theorem dX6_area_32 : decode cX6_area 32 = .ok (.istore 6, 2) := by decide +kernel
theorem dX6_area_34 : decode cX6_area 34 = .ok (.aload_n 0, 1) := by decide +kernel
theorem dX6_area_35 : decode cX6_area 35 = .ok (.getfield 304, 3) := by decide +kernel
theorem dX6_area_38 : decode cX6_area 38 = .ok (.i2l, 1) := by decide +kernel
theorem dX6_area_39 : decode cX6_area 39 = .ok (.lstore 7, 2) := by decide +kernel
theorem dX6_area_41 : decode cX6_area 41 = .ok (.aload_n 0, 1) := by decide +kernel
theorem dX6_area_42 : decode cX6_area 42 = .ok (.getfield 307, 3) := by decide +kernel
theorem dX6_area_45 : decode cX6_area 45 = .ok (.i2l, 1) := by decide +kernel
theorem dX6_area_46 : decode cX6_area 46 = .ok (.lstore 9, 2) := by decide +kernel
theorem dX6_area_48 : decode cX6_area 48 = .ok (.iconst 0, 1) := by decide +kernel
theorem dX6_area_49 : decode cX6_area 49 = .ok (.istore 11, 2) := by decide +kernel
theorem dX6_area_51 : decode cX6_area 51 = .ok (.iload 11, 2) := by decide +kernel
theorem dX6_area_53 : decode cX6_area 53 = .ok (.iconst 4, 1) := by decide +kernel
theorem dX6_area_54 : decode cX6_area 54 = .ok (.if_icmp .ge 96, 3) := by decide +kernel
theorem dX6_area_57 : decode cX6_area 57 = .ok (.aload_n 0, 1) := by decide +kernel
theorem dX6_area_58 : decode cX6_area 58 = .ok (.iload 11, 2) := by decide +kernel
theorem dX6_area_60 : decode cX6_area 60 = .ok (.iconst 1, 1) := by decide +kernel
theorem dX6_area_61 : decode cX6_area 61 = .ok (.if_icmp .eq 9, 3) := by decide +kernel
theorem dX6_area_64 : decode cX6_area 64 = .ok (.iload 11, 2) := by decide +kernel
theorem dX6_area_66 : decode cX6_area 66 = .ok (.iconst 2, 1) := by decide +kernel
theorem dX6_area_67 : decode cX6_area 67 = .ok (.if_icmp .ne 9, 3) := by decide +kernel
theorem dX6_area_70 : decode cX6_area 70 = .ok (.iload_n 2, 1) := by decide +kernel
theorem dX6_area_71 : decode cX6_area 71 = .ok (.iconst 1, 1) := by decide +kernel
theorem dX6_area_72 : decode cX6_area 72 = .ok (.iadd, 1) := by decide +kernel
theorem dX6_area_73 : decode cX6_area 73 = .ok (.goto 4, 3) := by decide +kernel
theorem dX6_area_76 : decode cX6_area 76 = .ok (.iload_n 2, 1) := by decide +kernel
theorem dX6_area_77 : decode cX6_area 77 = .ok (.iload 11, 2) := by decide +kernel
theorem dX6_area_79 : decode cX6_area 79 = .ok (.iconst 1, 1) := by decide +kernel
theorem dX6_area_80 : decode cX6_area 80 = .ok (.if_icmp .le 9, 3) := by decide +kernel
theorem dX6_area_83 : decode cX6_area 83 = .ok (.iload_n 3, 1) := by decide +kernel
theorem dX6_area_84 : decode cX6_area 84 = .ok (.iconst 1, 1) := by decide +kernel
theorem dX6_area_85 : decode cX6_area 85 = .ok (.iadd, 1) := by decide +kernel
theorem dX6_area_86 : decode cX6_area 86 = .ok (.goto 4, 3) := by decide +kernel
theorem dX6_area_89 : decode cX6_area 89 = .ok (.iload_n 3, 1) := by decide +kernel
theorem dX6_area_90 : decode cX6_area 90 = .ok (.invokevirtual 316, 3) := by decide +kernel
theorem dX6_area_93 : decode cX6_area 93 = .ok (.ifCond .eq 12, 3) := by decide +kernel
theorem dX6_area_96 : decode cX6_area 96 = .ok (.iload 6, 2) := by decide +kernel
theorem dX6_area_98 : decode cX6_area 98 = .ok (.ifCond .eq 7, 3) := by decide +kernel
theorem dX6_area_101 : decode cX6_area 101 = .ok (.iconst 1, 1) := by decide +kernel
theorem dX6_area_102 : decode cX6_area 102 = .ok (.goto 4, 3) := by decide +kernel
theorem dX6_area_105 : decode cX6_area 105 = .ok (.iconst 0, 1) := by decide +kernel
theorem dX6_area_106 : decode cX6_area 106 = .ok (.istore 6, 2) := by decide +kernel
theorem dX6_area_108 : decode cX6_area 108 = .ok (.lload 4, 2) := by decide +kernel
theorem dX6_area_110 : decode cX6_area 110 = .ok (.lload 7, 2) := by decide +kernel
theorem dX6_area_112 : decode cX6_area 112 = .ok (.aload_n 0, 1) := by decide +kernel
theorem dX6_area_113 : decode cX6_area 113 = .ok (.getfield 307, 3) := by decide +kernel
theorem dX6_area_116 : decode cX6_area 116 = .ok (.i2l, 1) := by decide +kernel
theorem dX6_area_117 : decode cX6_area 117 = .ok (.lmul, 1) := by decide +kernel
theorem dX6_area_118 : decode cX6_area 118 = .ok (.aload_n 0, 1) := by decide +kernel
theorem dX6_area_119 : decode cX6_area 119 = .ok (.getfield 304, 3) := by decide +kernel
theorem dX6_area_122 : decode cX6_area 122 = .ok (.i2l, 1) := by decide +kernel
theorem dX6_area_123 : decode cX6_area 123 = .ok (.lload 9, 2) := by decide +kernel
theorem dX6_area_125 : decode cX6_area 125 = .ok (.lmul, 1) := by decide +kernel
theorem dX6_area_126 : decode cX6_area 126 = .ok (.lsub, 1) := by decide +kernel
theorem dX6_area_127 : decode cX6_area 127 = .ok (.ladd, 1) := by decide +kernel
theorem dX6_area_128 : decode cX6_area 128 = .ok (.lstore 4, 2) := by decide +kernel
theorem dX6_area_130 : decode cX6_area 130 = .ok (.aload_n 0, 1) := by decide +kernel
theorem dX6_area_131 : decode cX6_area 131 = .ok (.getfield 304, 3) := by decide +kernel
theorem dX6_area_134 : decode cX6_area 134 = .ok (.i2l, 1) := by decide +kernel
theorem dX6_area_135 : decode cX6_area 135 = .ok (.lstore 7, 2) := by decide +kernel
theorem dX6_area_137 : decode cX6_area 137 = .ok (.aload_n 0, 1) := by decide +kernel
theorem dX6_area_138 : decode cX6_area 138 = .ok (.getfield 307, 3) := by decide +kernel
theorem dX6_area_141 : decode cX6_area 141 = .ok (.i2l, 1) := by decide +kernel
theorem dX6_area_142 : decode cX6_area 142 = .ok (.lstore 9, 2) := by decide +kernel
theorem dX6_area_144 : decode cX6_area 144 = .ok (.iinc 11 1, 3) := by decide +kernel
theorem dX6_area_147 : decode cX6_area 147 = .ok (.goto (-96), 3) := by decide +kernel
theorem dX6_area_150 : decode cX6_area 150 = .ok (.iload 6, 2) := by decide +kernel
theorem dX6_area_152 : decode cX6_area 152 = .ok (.ifCond .eq 8, 3) := by decide +kernel
theorem dX6_area_155 : decode cX6_area 155 = .ok (.lload 4, 2) := by decide +kernel
theorem dX6_area_157 : decode cX6_area 157 = .ok (.goto 6, 3) := by decide +kernel
theorem dX6_area_160 : decode cX6_area 160 = .ok (.ldc2_w 321, 3) := by decide +kernel
theorem dX6_area_163 : decode cX6_area 163 = .ok (.lreturn, 1) := by decide +kernel
theorem dJ9_max_7cf53_0 : decode cJ9_max_7cf53 0 = .ok (.iload_n 0, 1) := by decide +kernel
theorem dJ9_max_7cf53_1 : decode cJ9_max_7cf53 1 = .ok (.iload_n 1, 1) := by decide +kernel
theorem dJ9_max_7cf53_2 : decode cJ9_max_7cf53 2 = .ok (.if_icmp .lt 7, 3) := by decide +kernel
theorem dJ9_max_7cf53_5 : decode cJ9_max_7cf53 5 = .ok (.iload_n 0, 1) := by decide +kernel
theorem dJ9_max_7cf53_6 : decode cJ9_max_7cf53 6 = .ok (.goto 4, 3) := by decide +kernel
theorem dJ9_max_7cf53_9 : decode cJ9_max_7cf53 9 = .ok (.iload_n 1, 1) := by decide +kernel
theorem dJ9_max_7cf53_10 : decode cJ9_max_7cf53 10 = .ok (.ireturn, 1) := by decide +kernel
theorem dJ9_min_7cf53_0 : decode cJ9_min_7cf53 0 = .ok (.iload_n 0, 1) := by decide +kernel
theorem dJ9_min_7cf53_1 : decode cJ9_min_7cf53 1 = .ok (.iload_n 1, 1) := by decide +kernel
theorem dJ9_min_7cf53_2 : decode cJ9_min_7cf53 2 = .ok (.if_icmp .gt 7, 3) := by decide +kernel
theorem dJ9_min_7cf53_5 : decode cJ9_min_7cf53 5 = .ok (.iload_n 0, 1) := by decide +kernel
theorem dJ9_min_7cf53_6 : decode cJ9_min_7cf53 6 = .ok (.goto 4, 3) := by decide +kernel
theorem dJ9_min_7cf53_9 : decode cJ9_min_7cf53 9 = .ok (.iload_n 1, 1) := by decide +kernel
theorem dJ9_min_7cf53_10 : decode cJ9_min_7cf53 10 = .ok (.ireturn, 1) := by decide +kernel
set_option maxRecDepth 20000 in
theorem ggJ0_length_8abf5_J0_coder_7d493 : GoodIn wsJ0_length_8abf5 wsJ0_coder_7d493 := goodIn_r _ [6, 7, 8] (by decide +kernel) (by decide +kernel)
set_option maxRecDepth 20000 in
theorem gJ0_length_8abf5_J0_coder_7d493 : GoodIn wsJ0_length_8abf5 (wsV RJ0 335 RJ0 yJ0_coder_7d493 wsJ0_coder_7d493) := goodIn_app (goodIn_of _ (by decide +kernel)) ggJ0_length_8abf5_J0_coder_7d493
theorem dJ0_length_8abf5_0 : decode cJ0_length_8abf5 0 = .ok (.aload_n 0, 1) := by decide +kernel
theorem dJ0_length_8abf5_1 : decode cJ0_length_8abf5 1 = .ok (.getfield 9, 3) := by decide +kernel
theorem dJ0_length_8abf5_4 : decode cJ0_length_8abf5 4 = .ok (.arraylength, 1) := by decide +kernel
theorem dJ0_length_8abf5_5 : decode cJ0_length_8abf5 5 = .ok (.aload_n 0, 1) := by decide +kernel
theorem dJ0_length_8abf5_6 : decode cJ0_length_8abf5 6 = .ok (.invokevirtual 335, 3) := by decide +kernel
theorem dJ0_length_8abf5_9 : decode cJ0_length_8abf5 9 = .ok (.ishr, 1) := by decide +kernel
theorem dJ0_length_8abf5_10 : decode cJ0_length_8abf5 10 = .ok (.ireturn, 1) := by decide +kernel
set_option maxRecDepth 20000 in
theorem ggJ0_charAt_5068e_J0_isLatin1_aae02 : GoodIn wsJ0_charAt_5068e wsJ0_isLatin1_aae02 := goodIn_r _ [6, 7, 8] (by decide +kernel) (by decide +kernel)
set_option maxRecDepth 20000 in
theorem gJ0_charAt_5068e_J0_isLatin1_aae02 : GoodIn wsJ0_charAt_5068e (wsV RJ0 492 RJ0 yJ0_isLatin1_aae02 wsJ0_isLatin1_aae02) := goodIn_app (goodIn_of _ (by decide +kernel)) ggJ0_charAt_5068e_J0_isLatin1_aae02
set_option maxRecDepth 20000 in
theorem ggJ0_charAt_5068e_J1_charAt_3b067 : GoodIn wsJ0_charAt_5068e wsJ1_charAt_3b067 := goodIn_r _ [12, 13, 14, 5, 15, 16, 17, 18, 19, 20] (by decide +kernel) (by decide +kernel)
set_option maxRecDepth 20000 in
theorem gJ0_charAt_5068e_J1_charAt_3b067 : GoodIn wsJ0_charAt_5068e (va_wsS RJ0 495 yJ1_charAt_3b067 wsJ1_charAt_3b067) := goodIn_app (goodIn_of _ (by decide +kernel)) ggJ0_charAt_5068e_J1_charAt_3b067
set_option maxRecDepth 20000 in
theorem ggJ0_charAt_5068e_J2_charAt_3b067 : GoodIn wsJ0_charAt_5068e wsJ2_charAt_3b067 := goodIn_r _ [24, 25, 26, 23, 27, 28, 29, 30, 31, 14, 5, 15, 16, 17, 18, 19, 20, 32, 33, 34, 35, 36, 37] (by decide +kernel) (by decide +kernel)
set_option maxRecDepth 20000 in
theorem gJ0_charAt_5068e_J2_charAt_3b067 : GoodIn wsJ0_charAt_5068e (va_wsS RJ0 498 yJ2_charAt_3b067 wsJ2_charAt_3b067) := goodIn_app (goodIn_of _ (by decide +kernel)) ggJ0_charAt_5068e_J2_charAt_3b067
theorem dJ0_charAt_5068e_0 : decode cJ0_charAt_5068e 0 = .ok (.aload_n 0, 1) := by decide +kernel
theorem dJ0_charAt_5068e_1 : decode cJ0_charAt_5068e 1 = .ok (.invokevirtual 492, 3) := by decide +kernel
theorem dJ0_charAt_5068e_4 : decode cJ0_charAt_5068e 4 = .ok (.ifCond .eq 12, 3) := by decide +kernel
theorem dJ0_charAt_5068e_7 : decode cJ0_charAt_5068e 7 = .ok (.aload_n 0, 1) := by decide +kernel
theorem dJ0_charAt_5068e_8 : decode cJ0_charAt_5068e 8 = .ok (.getfield 9, 3) := by decide +kernel
theorem dJ0_charAt_5068e_11 : decode cJ0_charAt_5068e 11 = .ok (.iload_n 1, 1) := by decide +kernel
theorem dJ0_charAt_5068e_12 : decode cJ0_charAt_5068e 12 = .ok (.invokestatic 495, 3) := by decide +kernel
theorem dJ0_charAt_5068e_15 : decode cJ0_charAt_5068e 15 = .ok (.ireturn, 1) := by decide +kernel
theorem dJ0_charAt_5068e_16 : decode cJ0_charAt_5068e 16 = .ok (.aload_n 0, 1) := by decide +kernel
theorem dJ0_charAt_5068e_17 : decode cJ0_charAt_5068e 17 = .ok (.getfield 9, 3) := by decide +kernel
theorem dJ0_charAt_5068e_20 : decode cJ0_charAt_5068e 20 = .ok (.iload_n 1, 1) := by decide +kernel
theorem dJ0_charAt_5068e_21 : decode cJ0_charAt_5068e 21 = .ok (.invokestatic 498, 3) := by decide +kernel
theorem dJ0_charAt_5068e_24 : decode cJ0_charAt_5068e 24 = .ok (.ireturn, 1) := by decide +kernel
theorem dJ0_coder_7d493_0 : decode cJ0_coder_7d493 0 = .ok (.getstatic 38, 3) := by decide +kernel
theorem dJ0_coder_7d493_3 : decode cJ0_coder_7d493 3 = .ok (.ifCond .eq 10, 3) := by decide +kernel
theorem dJ0_coder_7d493_6 : decode cJ0_coder_7d493 6 = .ok (.aload_n 0, 1) := by decide +kernel
theorem dJ0_coder_7d493_7 : decode cJ0_coder_7d493 7 = .ok (.getfield 15, 3) := by decide +kernel
theorem dJ0_coder_7d493_10 : decode cJ0_coder_7d493 10 = .ok (.goto 4, 3) := by decide +kernel
theorem dJ0_coder_7d493_13 : decode cJ0_coder_7d493 13 = .ok (.iconst 1, 1) := by decide +kernel
theorem dJ0_coder_7d493_14 : decode cJ0_coder_7d493 14 = .ok (.ireturn, 1) := by decide +kernel
theorem dJ0_isLatin1_aae02_0 : decode cJ0_isLatin1_aae02 0 = .ok (.getstatic 38, 3) := by decide +kernel
theorem dJ0_isLatin1_aae02_3 : decode cJ0_isLatin1_aae02 3 = .ok (.ifCond .eq 14, 3) := by decide +kernel
theorem dJ0_isLatin1_aae02_6 : decode cJ0_isLatin1_aae02 6 = .ok (.aload_n 0, 1) := by decide +kernel
theorem dJ0_isLatin1_aae02_7 : decode cJ0_isLatin1_aae02 7 = .ok (.getfield 15, 3) := by decide +kernel
theorem dJ0_isLatin1_aae02_10 : decode cJ0_isLatin1_aae02 10 = .ok (.ifCond .ne 7, 3) := by decide +kernel
theorem dJ0_isLatin1_aae02_13 : decode cJ0_isLatin1_aae02 13 = .ok (.iconst 1, 1) := by decide +kernel
theorem dJ0_isLatin1_aae02_14 : decode cJ0_isLatin1_aae02 14 = .ok (.goto 4, 3) := by decide +kernel
theorem dJ0_isLatin1_aae02_17 : decode cJ0_isLatin1_aae02 17 = .ok (.iconst 0, 1) := by decide +kernel
theorem dJ0_isLatin1_aae02_18 : decode cJ0_isLatin1_aae02 18 = .ok (.ireturn, 1) := by decide +kernel
set_option maxRecDepth 20000 in
theorem ggJ0_checkIndex_df160_J3_checkIndex_8e157 : GoodIn wsJ0_checkIndex_df160 wsJ3_checkIndex_8e157 := goodIn_r _ [5] (by decide +kernel) (by decide +kernel)
set_option maxRecDepth 20000 in
theorem gJ0_checkIndex_df160_J3_checkIndex_8e157 : GoodIn wsJ0_checkIndex_df160 (va_wsS RJ0 1059 yJ3_checkIndex_8e157 wsJ3_checkIndex_8e157) := goodIn_app (goodIn_of _ (by decide +kernel)) ggJ0_checkIndex_df160_J3_checkIndex_8e157
theorem dJ0_checkIndex_df160_0 : decode cJ0_checkIndex_df160 0 = .ok (.iload_n 0, 1) := by decide +kernel
theorem dJ0_checkIndex_df160_1 : decode cJ0_checkIndex_df160 1 = .ok (.iload_n 1, 1) := by decide +kernel
theorem dJ0_checkIndex_df160_2 : decode cJ0_checkIndex_df160 2 = .ok (.getstatic 1053, 3) := by decide +kernel
theorem dJ0_checkIndex_df160_5 : decode cJ0_checkIndex_df160 5 = .ok (.invokestatic 1059, 3) := by decide +kernel
theorem dJ0_checkIndex_df160_8 : decode cJ0_checkIndex_df160 8 = .ok (.pop, 1) := by decide +kernel
theorem dJ0_checkIndex_df160_9 : decode cJ0_checkIndex_df160 9 = .ok (.return_, 1) := by decide +kernel
set_option maxRecDepth 20000 in
theorem ggJ1_charAt_3b067_J0_checkIndex_df160 : GoodIn wsJ1_charAt_3b067 wsJ0_checkIndex_df160 := goodIn_r _ [4, 5, 6, 7, 8, 9] (by decide +kernel) (by decide +kernel)
set_option maxRecDepth 20000 in
theorem gJ1_charAt_3b067_J0_checkIndex_df160 : GoodIn wsJ1_charAt_3b067 (va_wsS RJ1 9 yJ0_checkIndex_df160 wsJ0_checkIndex_df160) := goodIn_app (goodIn_of _ (by decide +kernel)) ggJ1_charAt_3b067_J0_checkIndex_df160
theorem dJ1_charAt_3b067_0 : decode cJ1_charAt_3b067 0 = .ok (.iload_n 1, 1) := by decide +kernel
theorem dJ1_charAt_3b067_1 : decode cJ1_charAt_3b067 1 = .ok (.aload_n 0, 1) := by decide +kernel
theorem dJ1_charAt_3b067_2 : decode cJ1_charAt_3b067 2 = .ok (.arraylength, 1) := by decide +kernel
theorem dJ1_charAt_3b067_3 : decode cJ1_charAt_3b067 3 = .ok (.invokestatic 9, 3) := by decide +kernel
theorem dJ1_charAt_3b067_6 : decode cJ1_charAt_3b067 6 = .ok (.aload_n 0, 1) := by decide +kernel
theorem dJ1_charAt_3b067_7 : decode cJ1_charAt_3b067 7 = .ok (.iload_n 1, 1) := by decide +kernel
theorem dJ1_charAt_3b067_8 : decode cJ1_charAt_3b067 8 = .ok (.baload, 1) := by decide +kernel
theorem dJ1_charAt_3b067_9 : decode cJ1_charAt_3b067 9 = .ok (.sipush 255, 3) := by decide +kernel
theorem dJ1_charAt_3b067_12 : decode cJ1_charAt_3b067 12 = .ok (.iand, 1) := by decide +kernel
theorem dJ1_charAt_3b067_13 : decode cJ1_charAt_3b067 13 = .ok (.i2c, 1) := by decide +kernel
theorem dJ1_charAt_3b067_14 : decode cJ1_charAt_3b067 14 = .ok (.ireturn, 1) := by decide +kernel
set_option maxRecDepth 20000 in
theorem ggJ2_getChar_3b067_J2_length_9d52b : GoodIn wsJ2_getChar_3b067 wsJ2_length_9d52b := goodIn_r _ [7] (by decide +kernel) (by decide +kernel)
set_option maxRecDepth 20000 in
theorem gJ2_getChar_3b067_J2_length_9d52b : GoodIn wsJ2_getChar_3b067 (va_wsS RJ2 48 yJ2_length_9d52b wsJ2_length_9d52b) := goodIn_app (goodIn_of _ (by decide +kernel)) ggJ2_getChar_3b067_J2_length_9d52b
theorem dJ2_getChar_3b067_0 : decode cJ2_getChar_3b067 0 = .ok (.getstatic 44, 3) := by decide +kernel
theorem dJ2_getChar_3b067_3 : decode cJ2_getChar_3b067 3 = .ok (.ifCond .ne 25, 3) := by decide +kernel
theorem dJ2_getChar_3b067_6 : decode cJ2_getChar_3b067 6 = .ok (.iload_n 1, 1) := by decide +kernel
theorem dJ2_getChar_3b067_7 : decode cJ2_getChar_3b067 7 = .ok (.ifCond .lt 11, 3) := by decide +kernel
theorem dJ2_getChar_3b067_10 : decode cJ2_getChar_3b067 10 = .ok (.iload_n 1, 1) := by decide +kernel
theorem dJ2_getChar_3b067_11 : decode cJ2_getChar_3b067 11 = .ok (.aload_n 0, 1) := by decide +kernel
theorem dJ2_getChar_3b067_12 : decode cJ2_getChar_3b067 12 = .ok (.invokestatic 48, 3) := by decide +kernel
theorem dJ2_getChar_3b067_15 : decode cJ2_getChar_3b067 15 = .ok (.if_icmp .lt 13, 3) := by decide +kernel
theorem dJ2_getChar_3b067_18 : decode cJ2_getChar_3b067 18 = .ok (.new 52, 3) := by decide +kernel
theorem dJ2_getChar_3b067_21 : decode cJ2_getChar_3b067 21 = .ok (.dup, 1) := by decide +kernel
theorem dJ2_getChar_3b067_22 : decode cJ2_getChar_3b067 22 = .ok (.ldc 54, 2) := by decide +kernel
theorem dJ2_getChar_3b067_24 : decode cJ2_getChar_3b067 24 = .ok (.invokespecial 56, 3) := by decide +kernel
theorem dJ2_getChar_3b067_27 : decode cJ2_getChar_3b067 27 = .ok (.athrow, 1) := by decide +kernel
theorem dJ2_getChar_3b067_28 : decode cJ2_getChar_3b067 28 = .ok (.iload_n 1, 1) := by decide +kernel
theorem dJ2_getChar_3b067_29 : decode cJ2_getChar_3b067 29 = .ok (.iconst 1, 1) := by decide +kernel
theorem dJ2_getChar_3b067_30 : decode cJ2_getChar_3b067 30 = .ok (.ishl, 1) := by decide +kernel
theorem dJ2_getChar_3b067_31 : decode cJ2_getChar_3b067 31 = .ok (.istore_n 1, 1) := by decide +kernel
theorem dJ2_getChar_3b067_32 : decode cJ2_getChar_3b067 32 = .ok (.aload_n 0, 1) := by decide +kernel
theorem dJ2_getChar_3b067_33 : decode cJ2_getChar_3b067 33 = .ok (.iload_n 1, 1) := by decide +kernel
theorem dJ2_getChar_3b067_34 : decode cJ2_getChar_3b067 34 = .ok (.iinc 1 1, 3) := by decide +kernel
theorem dJ2_getChar_3b067_37 : decode cJ2_getChar_3b067 37 = .ok (.baload, 1) := by decide +kernel
theorem dJ2_getChar_3b067_38 : decode cJ2_getChar_3b067 38 = .ok (.sipush 255, 3) := by decide +kernel
theorem dJ2_getChar_3b067_41 : decode cJ2_getChar_3b067 41 = .ok (.iand, 1) := by decide +kernel
theorem dJ2_getChar_3b067_42 : decode cJ2_getChar_3b067 42 = .ok (.getstatic 59, 3) := by decide +kernel
theorem dJ2_getChar_3b067_45 : decode cJ2_getChar_3b067 45 = .ok (.ishl, 1) := by decide +kernel
theorem dJ2_getChar_3b067_46 : decode cJ2_getChar_3b067 46 = .ok (.aload_n 0, 1) := by decide +kernel
theorem dJ2_getChar_3b067_47 : decode cJ2_getChar_3b067 47 = .ok (.iload_n 1, 1) := by decide +kernel
theorem dJ2_getChar_3b067_48 : decode cJ2_getChar_3b067 48 = .ok (.baload, 1) := by decide +kernel
theorem dJ2_getChar_3b067_49 : decode cJ2_getChar_3b067 49 = .ok (.sipush 255, 3) := by decide +kernel
theorem dJ2_getChar_3b067_52 : decode cJ2_getChar_3b067 52 = .ok (.iand, 1) := by decide +kernel
theorem dJ2_getChar_3b067_53 : decode cJ2_getChar_3b067 53 = .ok (.getstatic 63, 3) := by decide +kernel
theorem dJ2_getChar_3b067_56 : decode cJ2_getChar_3b067 56 = .ok (.ishl, 1) := by decide +kernel
theorem dJ2_getChar_3b067_57 : decode cJ2_getChar_3b067 57 = .ok (.ior, 1) := by decide +kernel
theorem dJ2_getChar_3b067_58 : decode cJ2_getChar_3b067 58 = .ok (.i2c, 1) := by decide +kernel
theorem dJ2_getChar_3b067_59 : decode cJ2_getChar_3b067 59 = .ok (.ireturn, 1) := by decide +kernel
theorem dJ2_length_9d52b_0 : decode cJ2_length_9d52b 0 = .ok (.aload_n 0, 1) := by decide +kernel
theorem dJ2_length_9d52b_1 : decode cJ2_length_9d52b 1 = .ok (.arraylength, 1) := by decide +kernel
theorem dJ2_length_9d52b_2 : decode cJ2_length_9d52b 2 = .ok (.iconst 1, 1) := by decide +kernel
theorem dJ2_length_9d52b_3 : decode cJ2_length_9d52b 3 = .ok (.ishr, 1) := by decide +kernel
theorem dJ2_length_9d52b_4 : decode cJ2_length_9d52b 4 = .ok (.ireturn, 1) := by decide +kernel
set_option maxRecDepth 20000 in
theorem ggJ2_charAt_3b067_J2_checkIndex_2214a : GoodIn wsJ2_charAt_3b067 wsJ2_checkIndex_2214a := goodIn_r _ [4, 5, 6, 3, 7, 8, 9, 10, 11, 12, 13, 14, 15, 16] (by decide +kernel) (by decide +kernel)
set_option maxRecDepth 20000 in
theorem gJ2_charAt_3b067_J2_checkIndex_2214a : GoodIn wsJ2_charAt_3b067 (va_wsS RJ2 67 yJ2_checkIndex_2214a wsJ2_checkIndex_2214a) := goodIn_app (goodIn_of _ (by decide +kernel)) ggJ2_charAt_3b067_J2_checkIndex_2214a
set_option maxRecDepth 20000 in
theorem ggJ2_charAt_3b067_J2_getChar_3b067 : GoodIn wsJ2_charAt_3b067 wsJ2_getChar_3b067 := goodIn_r _ [19, 20, 21, 22, 5, 6, 3, 7] (by decide +kernel) (by decide +kernel)
set_option maxRecDepth 20000 in
theorem gJ2_charAt_3b067_J2_getChar_3b067 : GoodIn wsJ2_charAt_3b067 (va_wsS RJ2 71 yJ2_getChar_3b067 wsJ2_getChar_3b067) := goodIn_app (goodIn_of _ (by decide +kernel)) ggJ2_charAt_3b067_J2_getChar_3b067
theorem dJ2_charAt_3b067_0 : decode cJ2_charAt_3b067 0 = .ok (.iload_n 1, 1) := by decide +kernel
theorem dJ2_charAt_3b067_1 : decode cJ2_charAt_3b067 1 = .ok (.aload_n 0, 1) := by decide +kernel
theorem dJ2_charAt_3b067_2 : decode cJ2_charAt_3b067 2 = .ok (.invokestatic 67, 3) := by decide +kernel
theorem dJ2_charAt_3b067_5 : decode cJ2_charAt_3b067 5 = .ok (.aload_n 0, 1) := by decide +kernel
theorem dJ2_charAt_3b067_6 : decode cJ2_charAt_3b067 6 = .ok (.iload_n 1, 1) := by decide +kernel
theorem dJ2_charAt_3b067_7 : decode cJ2_charAt_3b067 7 = .ok (.invokestatic 71, 3) := by decide +kernel
theorem dJ2_charAt_3b067_10 : decode cJ2_charAt_3b067 10 = .ok (.ireturn, 1) := by decide +kernel
set_option maxRecDepth 20000 in
theorem ggJ2_checkIndex_2214a_J2_length_9d52b : GoodIn wsJ2_checkIndex_2214a wsJ2_length_9d52b := goodIn_r _ [4] (by decide +kernel) (by decide +kernel)
set_option maxRecDepth 20000 in
theorem gJ2_checkIndex_2214a_J2_length_9d52b : GoodIn wsJ2_checkIndex_2214a (va_wsS RJ2 48 yJ2_length_9d52b wsJ2_length_9d52b) := goodIn_app (goodIn_of _ (by decide +kernel)) ggJ2_checkIndex_2214a_J2_length_9d52b
set_option maxRecDepth 20000 in
theorem ggJ2_checkIndex_2214a_J0_checkIndex_df160 : GoodIn wsJ2_checkIndex_2214a wsJ0_checkIndex_df160 := goodIn_r _ [8, 9, 10, 11, 12, 13] (by decide +kernel) (by decide +kernel)
set_option maxRecDepth 20000 in
theorem gJ2_checkIndex_2214a_J0_checkIndex_df160 : GoodIn wsJ2_checkIndex_2214a (va_wsS RJ2 414 yJ0_checkIndex_df160 wsJ0_checkIndex_df160) := goodIn_app (goodIn_of _ (by decide +kernel)) ggJ2_checkIndex_2214a_J0_checkIndex_df160
theorem dJ2_checkIndex_2214a_0 : decode cJ2_checkIndex_2214a 0 = .ok (.iload_n 0, 1) := by decide +kernel
theorem dJ2_checkIndex_2214a_1 : decode cJ2_checkIndex_2214a 1 = .ok (.aload_n 1, 1) := by decide +kernel
theorem dJ2_checkIndex_2214a_2 : decode cJ2_checkIndex_2214a 2 = .ok (.invokestatic 48, 3) := by decide +kernel
theorem dJ2_checkIndex_2214a_5 : decode cJ2_checkIndex_2214a 5 = .ok (.invokestatic 414, 3) := by decide +kernel
theorem dJ2_checkIndex_2214a_8 : decode cJ2_checkIndex_2214a 8 = .ok (.return_, 1) := by decide +kernel
theorem dJ3_checkIndex_8e157_0 : decode cJ3_checkIndex_8e157 0 = .ok (.iload_n 0, 1) := by decide +kernel
theorem dJ3_checkIndex_8e157_1 : decode cJ3_checkIndex_8e157 1 = .ok (.ifCond .lt 8, 3) := by decide +kernel
theorem dJ3_checkIndex_8e157_4 : decode cJ3_checkIndex_8e157 4 = .ok (.iload_n 0, 1) := by decide +kernel
theorem dJ3_checkIndex_8e157_5 : decode cJ3_checkIndex_8e157 5 = .ok (.iload_n 1, 1) := by decide +kernel
theorem dJ3_checkIndex_8e157_6 : decode cJ3_checkIndex_8e157 6 = .ok (.if_icmp .lt 10, 3) := by decide +kernel
theorem dJ3_checkIndex_8e157_9 : decode cJ3_checkIndex_8e157 9 = .ok (.aload_n 2, 1) := by decide +kernel
theorem dJ3_checkIndex_8e157_10 : decode cJ3_checkIndex_8e157 10 = .ok (.iload_n 0, 1) := by decide +kernel
theorem dJ3_checkIndex_8e157_11 : decode cJ3_checkIndex_8e157 11 = .ok (.iload_n 1, 1) := by decide +kernel
theorem dJ3_checkIndex_8e157_12 : decode cJ3_checkIndex_8e157 12 = .ok (.invokestatic 95, 3) := by decide +kernel
theorem dJ3_checkIndex_8e157_15 : decode cJ3_checkIndex_8e157 15 = .ok (.athrow, 1) := by decide +kernel
theorem dJ3_checkIndex_8e157_16 : decode cJ3_checkIndex_8e157 16 = .ok (.iload_n 0, 1) := by decide +kernel
theorem dJ3_checkIndex_8e157_17 : decode cJ3_checkIndex_8e157 17 = .ok (.ireturn, 1) := by decide +kernel
