theorem dX4_workProve_10 : decode cX4_workProve 10 = .ok (.aload_n 0, 1) := by decide +kernel
theorem dX4_workProve_11 : decode cX4_workProve 11 = .ok (.getfield 61, 3) := by decide +kernel
theorem dX4_workProve_14 : decode cX4_workProve 14 = .ok (.getfield 76, 3) := by decide +kernel
theorem dX4_workProve_17 : decode cX4_workProve 17 = .ok (.iload_n 1, 1) := by decide +kernel
theorem dX4_workProve_18 : decode cX4_workProve 18 = .ok (.iaload, 1) := by decide +kernel
theorem dX4_workProve_19 : decode cX4_workProve 19 = .ok (.istore_n 3, 1) := by decide +kernel
theorem dX4_workProve_20 : decode cX4_workProve 20 = .ok (.aload_n 0, 1) := by decide +kernel
theorem dX4_workProve_21 : decode cX4_workProve 21 = .ok (.iload_n 2, 1) := by decide +kernel
theorem dX4_workProve_22 : decode cX4_workProve 22 = .ok (.aload_n 0, 1) := by decide +kernel
theorem dX4_workProve_23 : decode cX4_workProve 23 = .ok (.getfield 61, 3) := by decide +kernel
theorem dX4_workProve_26 : decode cX4_workProve 26 = .ok (.getfield 86, 3) := by decide +kernel
theorem dX4_workProve_29 : decode cX4_workProve 29 = .ok (.iload_n 1, 1) := by decide +kernel
theorem dX4_workProve_30 : decode cX4_workProve 30 = .ok (.iaload, 1) := by decide +kernel
theorem dX4_workProve_31 : decode cX4_workProve 31 = .ok (.invokevirtual 134, 3) := by decide +kernel
theorem dX4_workProve_34 : decode cX4_workProve 34 = .ok (.ifCond .ne 6, 3) := by decide +kernel
theorem dX4_workProve_37 : decode cX4_workProve 37 = .ok (.bipush 8, 2) := by decide +kernel
theorem dX4_workProve_39 : decode cX4_workProve 39 = .ok (.ireturn, 1) := by decide +kernel
theorem dX4_workProve_40 : decode cX4_workProve 40 = .ok (.aload_n 0, 1) := by decide +kernel
theorem dX4_workProve_41 : decode cX4_workProve 41 = .ok (.getfield 37, 3) := by decide +kernel
theorem dX4_workProve_44 : decode cX4_workProve 44 = .ok (.iload_n 2, 1) := by decide +kernel
theorem dX4_workProve_45 : decode cX4_workProve 45 = .ok (.iaload, 1) := by decide +kernel
theorem dX4_workProve_46 : decode cX4_workProve 46 = .ok (.istore 4, 2) := by decide +kernel
theorem dX4_workProve_48 : decode cX4_workProve 48 = .ok (.aload_n 0, 1) := by decide +kernel
theorem dX4_workProve_49 : decode cX4_workProve 49 = .ok (.getfield 28, 3) := by decide +kernel
theorem dX4_workProve_52 : decode cX4_workProve 52 = .ok (.iload 4, 2) := by decide +kernel
theorem dX4_workProve_54 : decode cX4_workProve 54 = .ok (.iaload, 1) := by decide +kernel
theorem dX4_workProve_55 : decode cX4_workProve 55 = .ok (.istore 5, 2) := by decide +kernel
theorem dX4_workProve_57 : decode cX4_workProve 57 = .ok (.iload_n 3, 1) := by decide +kernel
theorem dX4_workProve_58 : decode cX4_workProve 58 = .ok (.aload_n 0, 1) := by decide +kernel
theorem dX4_workProve_59 : decode cX4_workProve 59 = .ok (.getfield 61, 3) := by decide +kernel
theorem dX4_workProve_62 : decode cX4_workProve 62 = .ok (.getfield 76, 3) := by decide +kernel
theorem dX4_workProve_65 : decode cX4_workProve 65 = .ok (.iload 4, 2) := by decide +kernel
theorem dX4_workProve_67 : decode cX4_workProve 67 = .ok (.iaload, 1) := by decide +kernel
theorem dX4_workProve_68 : decode cX4_workProve 68 = .ok (.isub, 1) := by decide +kernel
theorem dX4_workProve_69 : decode cX4_workProve 69 = .ok (.aload_n 0, 1) := by decide +kernel
theorem dX4_workProve_70 : decode cX4_workProve 70 = .ok (.getfield 57, 3) := by decide +kernel
theorem dX4_workProve_73 : decode cX4_workProve 73 = .ok (.iload 5, 2) := by decide +kernel
theorem dX4_workProve_75 : decode cX4_workProve 75 = .ok (.iconst 4, 1) := by decide +kernel
theorem dX4_workProve_76 : decode cX4_workProve 76 = .ok (.invokevirtual 121, 3) := by decide +kernel
theorem dX4_workProve_79 : decode cX4_workProve 79 = .ok (.if_icmp .le 6, 3) := by decide +kernel
theorem dX4_workProve_82 : decode cX4_workProve 82 = .ok (.bipush 12, 2) := by decide +kernel
theorem dX4_workProve_84 : decode cX4_workProve 84 = .ok (.ireturn, 1) := by decide +kernel
theorem dX4_workProve_85 : decode cX4_workProve 85 = .ok (.aload_n 0, 1) := by decide +kernel
theorem dX4_workProve_86 : decode cX4_workProve 86 = .ok (.iload 4, 2) := by decide +kernel
theorem dX4_workProve_88 : decode cX4_workProve 88 = .ok (.aload_n 0, 1) := by decide +kernel
theorem dX4_workProve_89 : decode cX4_workProve 89 = .ok (.getfield 61, 3) := by decide +kernel
theorem dX4_workProve_92 : decode cX4_workProve 92 = .ok (.getfield 76, 3) := by decide +kernel
theorem dX4_workProve_95 : decode cX4_workProve 95 = .ok (.iload 4, 2) := by decide +kernel
theorem dX4_workProve_97 : decode cX4_workProve 97 = .ok (.iaload, 1) := by decide +kernel
theorem dX4_workProve_98 : decode cX4_workProve 98 = .ok (.iload_n 3, 1) := by decide +kernel
theorem dX4_workProve_99 : decode cX4_workProve 99 = .ok (.iconst 1, 1) := by decide +kernel
theorem dX4_workProve_100 : decode cX4_workProve 100 = .ok (.isub, 1) := by decide +kernel
theorem dX4_workProve_101 : decode cX4_workProve 101 = .ok (.invokevirtual 145, 3) := by decide +kernel
theorem dX4_workProve_104 : decode cX4_workProve 104 = .ok (.aload_n 0, 1) := by decide +kernel
theorem dX4_workProve_105 : decode cX4_workProve 105 = .ok (.getfield 149, 3) := by decide +kernel
theorem dX4_workProve_108 : decode cX4_workProve 108 = .ok (.aload_n 0, 1) := by decide +kernel
theorem dX4_workProve_109 : decode cX4_workProve 109 = .ok (.getfield 57, 3) := by decide +kernel
theorem dX4_workProve_112 : decode cX4_workProve 112 = .ok (.iload 5, 2) := by decide +kernel
theorem dX4_workProve_114 : decode cX4_workProve 114 = .ok (.iconst 1, 1) := by decide +kernel
theorem dX4_workProve_115 : decode cX4_workProve 115 = .ok (.invokevirtual 121, 3) := by decide +kernel
theorem dX4_workProve_118 : decode cX4_workProve 118 = .ok (.if_icmp .ge 6, 3) := by decide +kernel
theorem dX4_workProve_121 : decode cX4_workProve 121 = .ok (.bipush 13, 2) := by decide +kernel
theorem dX4_workProve_123 : decode cX4_workProve 123 = .ok (.ireturn, 1) := by decide +kernel
theorem dX4_workProve_124 : decode cX4_workProve 124 = .ok (.aload_n 0, 1) := by decide +kernel
theorem dX4_workProve_125 : decode cX4_workProve 125 = .ok (.getfield 152, 3) := by decide +kernel
theorem dX4_workProve_128 : decode cX4_workProve 128 = .ok (.aload_n 0, 1) := by decide +kernel
theorem dX4_workProve_129 : decode cX4_workProve 129 = .ok (.getfield 57, 3) := by decide +kernel
theorem dX4_workProve_132 : decode cX4_workProve 132 = .ok (.iload 5, 2) := by decide +kernel
theorem dX4_workProve_134 : decode cX4_workProve 134 = .ok (.iconst 2, 1) := by decide +kernel
theorem dX4_workProve_135 : decode cX4_workProve 135 = .ok (.invokevirtual 121, 3) := by decide +kernel
theorem dX4_workProve_138 : decode cX4_workProve 138 = .ok (.if_icmp .le 6, 3) := by decide +kernel
theorem dX4_workProve_141 : decode cX4_workProve 141 = .ok (.bipush 14, 2) := by decide +kernel
theorem dX4_workProve_143 : decode cX4_workProve 143 = .ok (.ireturn, 1) := by decide +kernel
theorem dX4_workProve_144 : decode cX4_workProve 144 = .ok (.aload_n 0, 1) := by decide +kernel
theorem dX4_workProve_145 : decode cX4_workProve 145 = .ok (.iload_n 2, 1) := by decide +kernel
theorem dX4_workProve_146 : decode cX4_workProve 146 = .ok (.invokevirtual 155, 3) := by decide +kernel
theorem dX4_workProve_149 : decode cX4_workProve 149 = .ok (.aload_n 0, 1) := by decide +kernel
theorem dX4_workProve_150 : decode cX4_workProve 150 = .ok (.getfield 57, 3) := by decide +kernel
theorem dX4_workProve_153 : decode cX4_workProve 153 = .ok (.iload 5, 2) := by decide +kernel
theorem dX4_workProve_155 : decode cX4_workProve 155 = .ok (.iconst 3, 1) := by decide +kernel
theorem dX4_workProve_156 : decode cX4_workProve 156 = .ok (.invokevirtual 121, 3) := by decide +kernel
theorem dX4_workProve_159 : decode cX4_workProve 159 = .ok (.if_icmp .ge 6, 3) := by decide +kernel
theorem dX4_workProve_162 : decode cX4_workProve 162 = .ok (.bipush 15, 2) := by decide +kernel
theorem dX4_workProve_164 : decode cX4_workProve 164 = .ok (.ireturn, 1) := by decide +kernel
theorem dX4_workProve_165 : decode cX4_workProve 165 = .ok (.aload_n 0, 1) := by decide +kernel
theorem dX4_workProve_166 : decode cX4_workProve 166 = .ok (.getfield 19, 3) := by decide +kernel
theorem dX4_workProve_169 : decode cX4_workProve 169 = .ok (.iload 4, 2) := by decide +kernel
theorem dX4_workProve_171 : decode cX4_workProve 171 = .ok (.iconst 2, 1) := by decide +kernel
theorem dX4_workProve_172 : decode cX4_workProve 172 = .ok (.iastore, 1) := by decide +kernel
theorem dX4_workProve_173 : decode cX4_workProve 173 = .ok (.aload_n 0, 1) := by decide +kernel
theorem dX4_workProve_174 : decode cX4_workProve 174 = .ok (.getfield 31, 3) := by decide +kernel
theorem dX4_workProve_177 : decode cX4_workProve 177 = .ok (.iload 4, 2) := by decide +kernel
theorem dX4_workProve_179 : decode cX4_workProve 179 = .ok (.iload_n 3, 1) := by decide +kernel
theorem dX4_workProve_180 : decode cX4_workProve 180 = .ok (.aload_n 0, 1) := by decide +kernel
theorem dX4_workProve_181 : decode cX4_workProve 181 = .ok (.getfield 57, 3) := by decide +kernel
theorem dX4_workProve_184 : decode cX4_workProve 184 = .ok (.iload 5, 2) := by decide +kernel
theorem dX4_workProve_186 : decode cX4_workProve 186 = .ok (.bipush 8, 2) := by decide +kernel
theorem dX4_workProve_188 : decode cX4_workProve 188 = .ok (.invokevirtual 121, 3) := by decide +kernel
theorem dX4_workProve_191 : decode cX4_workProve 191 = .ok (.iadd, 1) := by decide +kernel
theorem dX4_workProve_192 : decode cX4_workProve 192 = .ok (.iastore, 1) := by decide +kernel
theorem dX4_workProve_193 : decode cX4_workProve 193 = .ok (.iconst 0, 1) := by decide +kernel
theorem dX4_workProve_194 : decode cX4_workProve 194 = .ok (.ireturn, 1) := by decide +kernel
set_option maxRecDepth 20000 in
theorem ggX4_workDeath_X4_holderOf : GoodIn wsX4_workDeath wsX4_holderOf := goodIn_r _ [10, 4, 3, 11, 12, 13, 14, 15, 16, 17, 18, 19, 20, 21, 22, 23, 24, 25, 26, 27, 28] (by decide +kernel) (by decide +kernel)
set_option maxRecDepth 20000 in
theorem gX4_workDeath_X4_holderOf : GoodIn wsX4_workDeath (wsV RX4 161 RX4 yX4_holderOf wsX4_holderOf) := goodIn_app (goodIn_of _ (by decide +kernel)) ggX4_workDeath_X4_holderOf
theorem dX4_workDeath_0 : decode cX4_workDeath 0 = .ok (.aload_n 0, 1) := by decide +kernel
theorem dX4_workDeath_1 : decode cX4_workDeath 1 = .ok (.getfield 61, 3) := by decide +kernel
theorem dX4_workDeath_4 : decode cX4_workDeath 4 = .ok (.getfield 86, 3) := by decide +kernel
theorem dX4_workDeath_7 : decode cX4_workDeath 7 = .ok (.iload_n 1, 1) := by decide +kernel
theorem dX4_workDeath_8 : decode cX4_workDeath 8 = .ok (.iaload, 1) := by decide +kernel
theorem dX4_workDeath_9 : decode cX4_workDeath 9 = .ok (.istore_n 2, 1) := by decide +kernel
theorem dX4_workDeath_10 : decode cX4_workDeath 10 = .ok (.aload_n 0, 1) := by decide +kernel
theorem dX4_workDeath_11 : decode cX4_workDeath 11 = .ok (.getfield 61, 3) := by decide +kernel
theorem dX4_workDeath_14 : decode cX4_workDeath 14 = .ok (.getfield 158, 3) := by decide +kernel
theorem dX4_workDeath_17 : decode cX4_workDeath 17 = .ok (.iload_n 1, 1) := by decide +kernel
theorem dX4_workDeath_18 : decode cX4_workDeath 18 = .ok (.iaload, 1) := by decide +kernel
theorem dX4_workDeath_19 : decode cX4_workDeath 19 = .ok (.istore_n 3, 1) := by decide +kernel
theorem dX4_workDeath_20 : decode cX4_workDeath 20 = .ok (.iload_n 3, 1) := by decide +kernel
theorem dX4_workDeath_21 : decode cX4_workDeath 21 = .ok (.iload_n 2, 1) := by decide +kernel
theorem dX4_workDeath_22 : decode cX4_workDeath 22 = .ok (.if_icmp .eq 12, 3) := by decide +kernel
theorem dX4_workDeath_25 : decode cX4_workDeath 25 = .ok (.aload_n 0, 1) := by decide +kernel
theorem dX4_workDeath_26 : decode cX4_workDeath 26 = .ok (.getfield 46, 3) := by decide +kernel
theorem dX4_workDeath_29 : decode cX4_workDeath 29 = .ok (.iload_n 3, 1) := by decide +kernel
theorem dX4_workDeath_30 : decode cX4_workDeath 30 = .ok (.baload, 1) := by decide +kernel
theorem dX4_workDeath_31 : decode cX4_workDeath 31 = .ok (.ifCond .eq 6, 3) := by decide +kernel
theorem dX4_workDeath_34 : decode cX4_workDeath 34 = .ok (.bipush 16, 2) := by decide +kernel
theorem dX4_workDeath_36 : decode cX4_workDeath 36 = .ok (.ireturn, 1) := by decide +kernel
theorem dX4_workDeath_37 : decode cX4_workDeath 37 = .ok (.aload_n 0, 1) := by decide +kernel
theorem dX4_workDeath_38 : decode cX4_workDeath 38 = .ok (.getfield 46, 3) := by decide +kernel
theorem dX4_workDeath_41 : decode cX4_workDeath 41 = .ok (.iload_n 2, 1) := by decide +kernel
theorem dX4_workDeath_42 : decode cX4_workDeath 42 = .ok (.iconst 1, 1) := by decide +kernel
theorem dX4_workDeath_43 : decode cX4_workDeath 43 = .ok (.bastore, 1) := by decide +kernel
theorem dX4_workDeath_44 : decode cX4_workDeath 44 = .ok (.iconst 0, 1) := by decide +kernel
theorem dX4_workDeath_45 : decode cX4_workDeath 45 = .ok (.istore 4, 2) := by decide +kernel
theorem dX4_workDeath_47 : decode cX4_workDeath 47 = .ok (.iload 4, 2) := by decide +kernel
theorem dX4_workDeath_49 : decode cX4_workDeath 49 = .ok (.bipush 64, 2) := by decide +kernel
theorem dX4_workDeath_51 : decode cX4_workDeath 51 = .ok (.if_icmp .ge 50, 3) := by decide +kernel
theorem dX4_workDeath_54 : decode cX4_workDeath 54 = .ok (.aload_n 0, 1) := by decide +kernel
theorem dX4_workDeath_55 : decode cX4_workDeath 55 = .ok (.iload 4, 2) := by decide +kernel
theorem dX4_workDeath_57 : decode cX4_workDeath 57 = .ok (.invokevirtual 161, 3) := by decide +kernel
theorem dX4_workDeath_60 : decode cX4_workDeath 60 = .ok (.iload_n 2, 1) := by decide +kernel
theorem dX4_workDeath_61 : decode cX4_workDeath 61 = .ok (.if_icmp .ne 34, 3) := by decide +kernel
theorem dX4_workDeath_64 : decode cX4_workDeath 64 = .ok (.aload_n 0, 1) := by decide +kernel
theorem dX4_workDeath_65 : decode cX4_workDeath 65 = .ok (.getfield 22, 3) := by decide +kernel
theorem dX4_workDeath_68 : decode cX4_workDeath 68 = .ok (.aload_n 0, 1) := by decide +kernel
theorem dX4_workDeath_69 : decode cX4_workDeath 69 = .ok (.getfield 37, 3) := by decide +kernel
theorem dX4_workDeath_72 : decode cX4_workDeath 72 = .ok (.iload 4, 2) := by decide +kernel
theorem dX4_workDeath_74 : decode cX4_workDeath 74 = .ok (.iaload, 1) := by decide +kernel
theorem dX4_workDeath_75 : decode cX4_workDeath 75 = .ok (.iload_n 3, 1) := by decide +kernel
theorem dX4_workDeath_76 : decode cX4_workDeath 76 = .ok (.iastore, 1) := by decide +kernel
theorem dX4_workDeath_77 : decode cX4_workDeath 77 = .ok (.aload_n 0, 1) := by decide +kernel
theorem dX4_workDeath_78 : decode cX4_workDeath 78 = .ok (.getfield 25, 3) := by decide +kernel
theorem dX4_workDeath_81 : decode cX4_workDeath 81 = .ok (.aload_n 0, 1) := by decide +kernel
theorem dX4_workDeath_82 : decode cX4_workDeath 82 = .ok (.getfield 37, 3) := by decide +kernel
theorem dX4_workDeath_85 : decode cX4_workDeath 85 = .ok (.iload 4, 2) := by decide +kernel
theorem dX4_workDeath_87 : decode cX4_workDeath 87 = .ok (.iaload, 1) := by decide +kernel
theorem dX4_workDeath_88 : decode cX4_workDeath 88 = .ok (.dup2, 1) := by decide +kernel
theorem dX4_workDeath_89 : decode cX4_workDeath 89 = .ok (.iaload, 1) := by decide +kernel
theorem dX4_workDeath_90 : decode cX4_workDeath 90 = .ok (.iconst 1, 1) := by decide +kernel
theorem dX4_workDeath_91 : decode cX4_workDeath 91 = .ok (.iload_n 3, 1) := by decide +kernel
theorem dX4_workDeath_92 : decode cX4_workDeath 92 = .ok (.ishl, 1) := by decide +kernel
theorem dX4_workDeath_93 : decode cX4_workDeath 93 = .ok (.ior, 1) := by decide +kernel
theorem dX4_workDeath_94 : decode cX4_workDeath 94 = .ok (.iastore, 1) := by decide +kernel
theorem dX4_workDeath_95 : decode cX4_workDeath 95 = .ok (.iinc 4 1, 3) := by decide +kernel
theorem dX4_workDeath_98 : decode cX4_workDeath 98 = .ok (.goto (-51), 3) := by decide +kernel
theorem dX4_workDeath_101 : decode cX4_workDeath 101 = .ok (.iconst 0, 1) := by decide +kernel
theorem dX4_workDeath_102 : decode cX4_workDeath 102 = .ok (.ireturn, 1) := by decide +kernel
theorem dX4_end_0 : decode cX4_end 0 = .ok (.aload_n 0, 1) := by decide +kernel
theorem dX4_end_1 : decode cX4_end 1 = .ok (.getfield 19, 3) := by decide +kernel
theorem dX4_end_4 : decode cX4_end 4 = .ok (.aload_n 0, 1) := by decide +kernel
theorem dX4_end_5 : decode cX4_end 5 = .ok (.getfield 37, 3) := by decide +kernel
theorem dX4_end_8 : decode cX4_end 8 = .ok (.iload_n 1, 1) := by decide +kernel
theorem dX4_end_9 : decode cX4_end 9 = .ok (.iaload, 1) := by decide +kernel
theorem dX4_end_10 : decode cX4_end 10 = .ok (.iconst 3, 1) := by decide +kernel
theorem dX4_end_11 : decode cX4_end 11 = .ok (.iastore, 1) := by decide +kernel
theorem dX4_end_12 : decode cX4_end 12 = .ok (.aload_n 0, 1) := by decide +kernel
theorem dX4_end_13 : decode cX4_end 13 = .ok (.getfield 37, 3) := by decide +kernel
theorem dX4_end_16 : decode cX4_end 16 = .ok (.iload_n 1, 1) := by decide +kernel
theorem dX4_end_17 : decode cX4_end 17 = .ok (.iconst (-1), 1) := by decide +kernel
theorem dX4_end_18 : decode cX4_end 18 = .ok (.iastore, 1) := by decide +kernel
theorem dX4_end_19 : decode cX4_end 19 = .ok (.return_, 1) := by decide +kernel
theorem dX4_isRailroads_0 : decode cX4_isRailroads 0 = .ok (.iload_n 1, 1) := by decide +kernel
theorem dX4_isRailroads_1 : decode cX4_isRailroads 1 = .ok (.bipush 8, 2) := by decide +kernel
theorem dX4_isRailroads_3 : decode cX4_isRailroads 3 = .ok (.irem, 1) := by decide +kernel
theorem dX4_isRailroads_4 : decode cX4_isRailroads 4 = .ok (.istore_n 3, 1) := by decide +kernel
theorem dX4_isRailroads_5 : decode cX4_isRailroads 5 = .ok (.iload_n 1, 1) := by decide +kernel
theorem dX4_isRailroads_6 : decode cX4_isRailroads 6 = .ok (.bipush 8, 2) := by decide +kernel
theorem dX4_isRailroads_8 : decode cX4_isRailroads 8 = .ok (.idiv, 1) := by decide +kernel
theorem dX4_isRailroads_9 : decode cX4_isRailroads 9 = .ok (.istore 4, 2) := by decide +kernel
theorem dX4_isRailroads_11 : decode cX4_isRailroads 11 = .ok (.iload_n 2, 1) := by decide +kernel
theorem dX4_isRailroads_12 : decode cX4_isRailroads 12 = .ok (.aload_n 0, 1) := by decide +kernel
theorem dX4_isRailroads_13 : decode cX4_isRailroads 13 = .ok (.getfield 9, 3) := by decide +kernel
theorem dX4_isRailroads_16 : decode cX4_isRailroads 16 = .ok (.if_icmp .lt 21, 3) := by decide +kernel
theorem dX4_isRailroads_19 : decode cX4_isRailroads 19 = .ok (.iload_n 3, 1) := by decide +kernel
theorem dX4_isRailroads_20 : decode cX4_isRailroads 20 = .ok (.iconst 2, 1) := by decide +kernel
theorem dX4_isRailroads_21 : decode cX4_isRailroads 21 = .ok (.idiv, 1) := by decide +kernel
theorem dX4_isRailroads_22 : decode cX4_isRailroads 22 = .ok (.iload 4, 2) := by decide +kernel
theorem dX4_isRailroads_24 : decode cX4_isRailroads 24 = .ok (.iconst 2, 1) := by decide +kernel
theorem dX4_isRailroads_25 : decode cX4_isRailroads 25 = .ok (.idiv, 1) := by decide +kernel
theorem dX4_isRailroads_26 : decode cX4_isRailroads 26 = .ok (.iadd, 1) := by decide +kernel
theorem dX4_isRailroads_27 : decode cX4_isRailroads 27 = .ok (.iconst 2, 1) := by decide +kernel
theorem dX4_isRailroads_28 : decode cX4_isRailroads 28 = .ok (.irem, 1) := by decide +kernel
theorem dX4_isRailroads_29 : decode cX4_isRailroads 29 = .ok (.iconst 1, 1) := by decide +kernel
theorem dX4_isRailroads_30 : decode cX4_isRailroads 30 = .ok (.if_icmp .ne 7, 3) := by decide +kernel
theorem dX4_isRailroads_33 : decode cX4_isRailroads 33 = .ok (.iconst 1, 1) := by decide +kernel
theorem dX4_isRailroads_34 : decode cX4_isRailroads 34 = .ok (.goto 4, 3) := by decide +kernel
theorem dX4_isRailroads_37 : decode cX4_isRailroads 37 = .ok (.iconst 0, 1) := by decide +kernel
theorem dX4_isRailroads_38 : decode cX4_isRailroads 38 = .ok (.ireturn, 1) := by decide +kernel
theorem dX4_isHeldLive_0 : decode cX4_isHeldLive 0 = .ok (.aload_n 0, 1) := by decide +kernel
theorem dX4_isHeldLive_1 : decode cX4_isHeldLive 1 = .ok (.getfield 37, 3) := by decide +kernel
theorem dX4_isHeldLive_4 : decode cX4_isHeldLive 4 = .ok (.iload_n 1, 1) := by decide +kernel
theorem dX4_isHeldLive_5 : decode cX4_isHeldLive 5 = .ok (.iaload, 1) := by decide +kernel
theorem dX4_isHeldLive_6 : decode cX4_isHeldLive 6 = .ok (.iconst (-1), 1) := by decide +kernel
theorem dX4_isHeldLive_7 : decode cX4_isHeldLive 7 = .ok (.if_icmp .eq 22, 3) := by decide +kernel
theorem dX4_isHeldLive_10 : decode cX4_isHeldLive 10 = .ok (.aload_n 0, 1) := by decide +kernel
theorem dX4_isHeldLive_11 : decode cX4_isHeldLive 11 = .ok (.getfield 19, 3) := by decide +kernel
theorem dX4_isHeldLive_14 : decode cX4_isHeldLive 14 = .ok (.aload_n 0, 1) := by decide +kernel
theorem dX4_isHeldLive_15 : decode cX4_isHeldLive 15 = .ok (.getfield 37, 3) := by decide +kernel
theorem dX4_isHeldLive_18 : decode cX4_isHeldLive 18 = .ok (.iload_n 1, 1) := by decide +kernel
theorem dX4_isHeldLive_19 : decode cX4_isHeldLive 19 = .ok (.iaload, 1) := by decide +kernel
theorem dX4_isHeldLive_20 : decode cX4_isHeldLive 20 = .ok (.iaload, 1) := by decide +kernel
theorem dX4_isHeldLive_21 : decode cX4_isHeldLive 21 = .ok (.iconst 1, 1) := by decide +kernel
theorem dX4_isHeldLive_22 : decode cX4_isHeldLive 22 = .ok (.if_icmp .ne 7, 3) := by decide +kernel
theorem dX4_isHeldLive_25 : decode cX4_isHeldLive 25 = .ok (.iconst 1, 1) := by decide +kernel
theorem dX4_isHeldLive_26 : decode cX4_isHeldLive 26 = .ok (.goto 4, 3) := by decide +kernel
theorem dX4_isHeldLive_29 : decode cX4_isHeldLive 29 = .ok (.iconst 0, 1) := by decide +kernel
theorem dX4_isHeldLive_30 : decode cX4_isHeldLive 30 = .ok (.ireturn, 1) := by decide +kernel
set_option maxRecDepth 20000 in
theorem ggX4_isHeldLiveBy_X4_isHeldLive : GoodIn wsX4_isHeldLiveBy wsX4_isHeldLive := goodIn_r _ [7, 2, 8, 9, 10, 11, 12, 13, 14, 15, 16, 17, 18, 19, 20, 21, 22, 23, 24, 25, 26] (by decide +kernel) (by decide +kernel)
set_option maxRecDepth 20000 in
theorem gX4_isHeldLiveBy_X4_isHeldLive : GoodIn wsX4_isHeldLiveBy (wsV RX4 141 RX4 yX4_isHeldLive wsX4_isHeldLive) := goodIn_app (goodIn_of _ (by decide +kernel)) ggX4_isHeldLiveBy_X4_isHeldLive
theorem dX4_isHeldLiveBy_0 : decode cX4_isHeldLiveBy 0 = .ok (.aload_n 0, 1) := by decide +kernel
theorem dX4_isHeldLiveBy_1 : decode cX4_isHeldLiveBy 1 = .ok (.iload_n 1, 1) := by decide +kernel
theorem dX4_isHeldLiveBy_2 : decode cX4_isHeldLiveBy 2 = .ok (.invokevirtual 141, 3) := by decide +kernel
theorem dX4_isHeldLiveBy_5 : decode cX4_isHeldLiveBy 5 = .ok (.ifCond .eq 22, 3) := by decide +kernel
theorem dX4_isHeldLiveBy_8 : decode cX4_isHeldLiveBy 8 = .ok (.aload_n 0, 1) := by decide +kernel
theorem dX4_isHeldLiveBy_9 : decode cX4_isHeldLiveBy 9 = .ok (.getfield 22, 3) := by decide +kernel
theorem dX4_isHeldLiveBy_12 : decode cX4_isHeldLiveBy 12 = .ok (.aload_n 0, 1) := by decide +kernel
theorem dX4_isHeldLiveBy_13 : decode cX4_isHeldLiveBy 13 = .ok (.getfield 37, 3) := by decide +kernel
theorem dX4_isHeldLiveBy_16 : decode cX4_isHeldLiveBy 16 = .ok (.iload_n 1, 1) := by decide +kernel
theorem dX4_isHeldLiveBy_17 : decode cX4_isHeldLiveBy 17 = .ok (.iaload, 1) := by decide +kernel
theorem dX4_isHeldLiveBy_18 : decode cX4_isHeldLiveBy 18 = .ok (.iaload, 1) := by decide +kernel
theorem dX4_isHeldLiveBy_19 : decode cX4_isHeldLiveBy 19 = .ok (.iload_n 2, 1) := by decide +kernel
theorem dX4_isHeldLiveBy_20 : decode cX4_isHeldLiveBy 20 = .ok (.if_icmp .ne 7, 3) := by decide +kernel
theorem dX4_isHeldLiveBy_23 : decode cX4_isHeldLiveBy 23 = .ok (.iconst 1, 1) := by decide +kernel
theorem dX4_isHeldLiveBy_24 : decode cX4_isHeldLiveBy 24 = .ok (.goto 4, 3) := by decide +kernel
theorem dX4_isHeldLiveBy_27 : decode cX4_isHeldLiveBy 27 = .ok (.iconst 0, 1) := by decide +kernel
theorem dX4_isHeldLiveBy_28 : decode cX4_isHeldLiveBy 28 = .ok (.ireturn, 1) := by decide +kernel
theorem dX4_holderOf_0 : decode cX4_holderOf 0 = .ok (.aload_n 0, 1) := by decide +kernel
theorem dX4_holderOf_1 : decode cX4_holderOf 1 = .ok (.getfield 37, 3) := by decide +kernel
theorem dX4_holderOf_4 : decode cX4_holderOf 4 = .ok (.iload_n 1, 1) := by decide +kernel
theorem dX4_holderOf_5 : decode cX4_holderOf 5 = .ok (.iaload, 1) := by decide +kernel
theorem dX4_holderOf_6 : decode cX4_holderOf 6 = .ok (.iconst (-1), 1) := by decide +kernel
theorem dX4_holderOf_7 : decode cX4_holderOf 7 = .ok (.if_icmp .ne 7, 3) := by decide +kernel
theorem dX4_holderOf_10 : decode cX4_holderOf 10 = .ok (.iconst (-1), 1) := by decide +kernel
theorem dX4_holderOf_11 : decode cX4_holderOf 11 = .ok (.goto 14, 3) := by decide +kernel
theorem dX4_holderOf_14 : decode cX4_holderOf 14 = .ok (.aload_n 0, 1) := by decide +kernel
theorem dX4_holderOf_15 : decode cX4_holderOf 15 = .ok (.getfield 22, 3) := by decide +kernel
theorem dX4_holderOf_18 : decode cX4_holderOf 18 = .ok (.aload_n 0, 1) := by decide +kernel
theorem dX4_holderOf_19 : decode cX4_holderOf 19 = .ok (.getfield 37, 3) := by decide +kernel
theorem dX4_holderOf_22 : decode cX4_holderOf 22 = .ok (.iload_n 1, 1) := by decide +kernel
theorem dX4_holderOf_23 : decode cX4_holderOf 23 = .ok (.iaload, 1) := by decide +kernel
theorem dX4_holderOf_24 : decode cX4_holderOf 24 = .ok (.iaload, 1) := by decide +kernel
theorem dX4_holderOf_25 : decode cX4_holderOf 25 = .ok (.ireturn, 1) := by decide +kernel
set_option maxRecDepth 20000 in
theorem ggX4_standing_X4_isRailroads : GoodIn wsX4_standing wsX4_isRailroads := goodIn_r _ [8, 9, 10, 11, 12, 13, 14, 15, 16, 17, 18, 19, 20, 21, 22, 23, 24, 25, 26, 27] (by decide +kernel) (by decide +kernel)
set_option maxRecDepth 20000 in
theorem gX4_standing_X4_isRailroads : GoodIn wsX4_standing (wsV RX4 127 RX4 yX4_isRailroads wsX4_isRailroads) := goodIn_app (goodIn_of _ (by decide +kernel)) ggX4_standing_X4_isRailroads
theorem dX4_standing_0 : decode cX4_standing 0 = .ok (.aload_n 0, 1) := by decide +kernel
theorem dX4_standing_1 : decode cX4_standing 1 = .ok (.getfield 37, 3) := by decide +kernel
theorem dX4_standing_4 : decode cX4_standing 4 = .ok (.iload_n 1, 1) := by decide +kernel
theorem dX4_standing_5 : decode cX4_standing 5 = .ok (.iaload, 1) := by decide +kernel
theorem dX4_standing_6 : decode cX4_standing 6 = .ok (.istore_n 3, 1) := by decide +kernel
theorem dX4_standing_7 : decode cX4_standing 7 = .ok (.iload_n 3, 1) := by decide +kernel
theorem dX4_standing_8 : decode cX4_standing 8 = .ok (.iconst (-1), 1) := by decide +kernel
theorem dX4_standing_9 : decode cX4_standing 9 = .ok (.if_icmp .ne 18, 3) := by decide +kernel
theorem dX4_standing_12 : decode cX4_standing 12 = .ok (.aload_n 0, 1) := by decide +kernel
theorem dX4_standing_13 : decode cX4_standing 13 = .ok (.iload_n 1, 1) := by decide +kernel
theorem dX4_standing_14 : decode cX4_standing 14 = .ok (.iload_n 2, 1) := by decide +kernel
theorem dX4_standing_15 : decode cX4_standing 15 = .ok (.invokevirtual 127, 3) := by decide +kernel
theorem dX4_standing_18 : decode cX4_standing 18 = .ok (.ifCond .eq 7, 3) := by decide +kernel
theorem dX4_standing_21 : decode cX4_standing 21 = .ok (.iconst 4, 1) := by decide +kernel
theorem dX4_standing_22 : decode cX4_standing 22 = .ok (.goto 4, 3) := by decide +kernel
theorem dX4_standing_25 : decode cX4_standing 25 = .ok (.iconst 0, 1) := by decide +kernel
theorem dX4_standing_26 : decode cX4_standing 26 = .ok (.ireturn, 1) := by decide +kernel
theorem dX4_standing_27 : decode cX4_standing 27 = .ok (.aload_n 0, 1) := by decide +kernel
theorem dX4_standing_28 : decode cX4_standing 28 = .ok (.getfield 19, 3) := by decide +kernel
theorem dX4_standing_31 : decode cX4_standing 31 = .ok (.iload_n 3, 1) := by decide +kernel
theorem dX4_standing_32 : decode cX4_standing 32 = .ok (.iaload, 1) := by decide +kernel
theorem dX4_standing_33 : decode cX4_standing 33 = .ok (.iconst 2, 1) := by decide +kernel
theorem dX4_standing_34 : decode cX4_standing 34 = .ok (.if_icmp .ne 15, 3) := by decide +kernel
theorem dX4_standing_37 : decode cX4_standing 37 = .ok (.iload_n 2, 1) := by decide +kernel
theorem dX4_standing_38 : decode cX4_standing 38 = .ok (.aload_n 0, 1) := by decide +kernel
theorem dX4_standing_39 : decode cX4_standing 39 = .ok (.getfield 31, 3) := by decide +kernel
theorem dX4_standing_42 : decode cX4_standing 42 = .ok (.iload_n 3, 1) := by decide +kernel
theorem dX4_standing_43 : decode cX4_standing 43 = .ok (.iaload, 1) := by decide +kernel
theorem dX4_standing_44 : decode cX4_standing 44 = .ok (.if_icmp .lt 5, 3) := by decide +kernel
theorem dX4_standing_47 : decode cX4_standing 47 = .ok (.iconst 3, 1) := by decide +kernel
theorem dX4_standing_48 : decode cX4_standing 48 = .ok (.ireturn, 1) := by decide +kernel
theorem dX4_standing_49 : decode cX4_standing 49 = .ok (.aload_n 0, 1) := by decide +kernel
theorem dX4_standing_50 : decode cX4_standing 50 = .ok (.getfield 19, 3) := by decide +kernel
theorem dX4_standing_53 : decode cX4_standing 53 = .ok (.iload_n 3, 1) := by decide +kernel
theorem dX4_standing_54 : decode cX4_standing 54 = .ok (.iaload, 1) := by decide +kernel
theorem dX4_standing_55 : decode cX4_standing 55 = .ok (.ireturn, 1) := by decide +kernel
theorem dX4_preferredOn_0 : decode cX4_preferredOn 0 = .ok (.aload_n 0, 1) := by decide +kernel
theorem dX4_preferredOn_1 : decode cX4_preferredOn 1 = .ok (.getfield 40, 3) := by decide +kernel
theorem dX4_preferredOn_4 : decode cX4_preferredOn 4 = .ok (.iload_n 1, 1) := by decide +kernel
theorem dX4_preferredOn_5 : decode cX4_preferredOn 5 = .ok (.iaload, 1) := by decide +kernel
theorem dX4_preferredOn_6 : decode cX4_preferredOn 6 = .ok (.iconst (-1), 1) := by decide +kernel
theorem dX4_preferredOn_7 : decode cX4_preferredOn 7 = .ok (.if_icmp .eq 22, 3) := by decide +kernel
theorem dX4_preferredOn_10 : decode cX4_preferredOn 10 = .ok (.iload_n 2, 1) := by decide +kernel
theorem dX4_preferredOn_11 : decode cX4_preferredOn 11 = .ok (.aload_n 0, 1) := by decide +kernel
theorem dX4_preferredOn_12 : decode cX4_preferredOn 12 = .ok (.getfield 43, 3) := by decide +kernel
theorem dX4_preferredOn_15 : decode cX4_preferredOn 15 = .ok (.iload_n 1, 1) := by decide +kernel
theorem dX4_preferredOn_16 : decode cX4_preferredOn 16 = .ok (.iaload, 1) := by decide +kernel
theorem dX4_preferredOn_17 : decode cX4_preferredOn 17 = .ok (.if_icmp .gt 12, 3) := by decide +kernel
theorem dX4_preferredOn_20 : decode cX4_preferredOn 20 = .ok (.aload_n 0, 1) := by decide +kernel
theorem dX4_preferredOn_21 : decode cX4_preferredOn 21 = .ok (.getfield 40, 3) := by decide +kernel
theorem dX4_preferredOn_24 : decode cX4_preferredOn 24 = .ok (.iload_n 1, 1) := by decide +kernel
theorem dX4_preferredOn_25 : decode cX4_preferredOn 25 = .ok (.iaload, 1) := by decide +kernel
theorem dX4_preferredOn_26 : decode cX4_preferredOn 26 = .ok (.goto 4, 3) := by decide +kernel
theorem dX4_preferredOn_29 : decode cX4_preferredOn 29 = .ok (.iconst (-1), 1) := by decide +kernel
theorem dX4_preferredOn_30 : decode cX4_preferredOn 30 = .ok (.ireturn, 1) := by decide +kernel
set_option maxRecDepth 20000 in
theorem ggX4_daysLived_X4_lookAtLiving : GoodIn wsX4_daysLived wsX4_lookAtLiving := goodIn_r _ [8, 3, 9, 2, 10, 11, 12, 13, 14, 15, 16, 17, 18, 19, 7, 20, 21, 22, 23, 24, 25, 26, 27, 28, 29, 30, 31, 32, 33, 34, 35, 36, 37, 38, 39, 40, 41, 42, 43, 44, 45, 46, 47, 48] (by decide +kernel) (by decide +kernel)
set_option maxRecDepth 20000 in
theorem gX4_daysLived_X4_lookAtLiving : GoodIn wsX4_daysLived (wsV RX4 145 RX4 yX4_lookAtLiving wsX4_lookAtLiving) := goodIn_app (goodIn_of _ (by decide +kernel)) ggX4_daysLived_X4_lookAtLiving
theorem dX4_daysLived_0 : decode cX4_daysLived 0 = .ok (.aload_n 0, 1) := by decide +kernel
theorem dX4_daysLived_1 : decode cX4_daysLived 1 = .ok (.getfield 37, 3) := by decide +kernel
theorem dX4_daysLived_4 : decode cX4_daysLived 4 = .ok (.iload_n 1, 1) := by decide +kernel
theorem dX4_daysLived_5 : decode cX4_daysLived 5 = .ok (.iaload, 1) := by decide +kernel
theorem dX4_daysLived_6 : decode cX4_daysLived 6 = .ok (.istore_n 3, 1) := by decide +kernel
theorem dX4_daysLived_7 : decode cX4_daysLived 7 = .ok (.iload_n 3, 1) := by decide +kernel
theorem dX4_daysLived_8 : decode cX4_daysLived 8 = .ok (.iconst (-1), 1) := by decide +kernel
theorem dX4_daysLived_9 : decode cX4_daysLived 9 = .ok (.if_icmp .ne 5, 3) := by decide +kernel
theorem dX4_daysLived_12 : decode cX4_daysLived 12 = .ok (.iconst 0, 1) := by decide +kernel
theorem dX4_daysLived_13 : decode cX4_daysLived 13 = .ok (.ireturn, 1) := by decide +kernel
theorem dX4_daysLived_14 : decode cX4_daysLived 14 = .ok (.aload_n 0, 1) := by decide +kernel
theorem dX4_daysLived_15 : decode cX4_daysLived 15 = .ok (.iload_n 3, 1) := by decide +kernel
theorem dX4_daysLived_16 : decode cX4_daysLived 16 = .ok (.aload_n 0, 1) := by decide +kernel
theorem dX4_daysLived_17 : decode cX4_daysLived 17 = .ok (.getfield 61, 3) := by decide +kernel
theorem dX4_daysLived_20 : decode cX4_daysLived 20 = .ok (.getfield 76, 3) := by decide +kernel
theorem dX4_daysLived_23 : decode cX4_daysLived 23 = .ok (.iload_n 3, 1) := by decide +kernel
theorem dX4_daysLived_24 : decode cX4_daysLived 24 = .ok (.iaload, 1) := by decide +kernel
theorem dX4_daysLived_25 : decode cX4_daysLived 25 = .ok (.iload_n 2, 1) := by decide +kernel
theorem dX4_daysLived_26 : decode cX4_daysLived 26 = .ok (.invokevirtual 145, 3) := by decide +kernel
theorem dX4_daysLived_29 : decode cX4_daysLived 29 = .ok (.aload_n 0, 1) := by decide +kernel
theorem dX4_daysLived_30 : decode cX4_daysLived 30 = .ok (.getfield 149, 3) := by decide +kernel
theorem dX4_daysLived_33 : decode cX4_daysLived 33 = .ok (.ireturn, 1) := by decide +kernel
set_option maxRecDepth 20000 in
theorem ggX4_lookAtLiving_X4_isDoneByHolder : GoodIn wsX4_lookAtLiving wsX4_isDoneByHolder := goodIn_r _ [15, 16, 3, 17, 18, 19, 20, 21, 22, 23, 24, 25, 26, 27, 28, 29, 30, 31, 32, 33, 34, 35, 36, 37, 38, 39, 40, 41, 42, 43] (by decide +kernel) (by decide +kernel)
set_option maxRecDepth 20000 in
theorem gX4_lookAtLiving_X4_isDoneByHolder : GoodIn wsX4_lookAtLiving (wsV RX4 164 RX4 yX4_isDoneByHolder wsX4_isDoneByHolder) := goodIn_app (goodIn_of _ (by decide +kernel)) ggX4_lookAtLiving_X4_isDoneByHolder
theorem dX4_lookAtLiving_0 : decode cX4_lookAtLiving 0 = .ok (.aload_n 0, 1) := by decide +kernel
theorem dX4_lookAtLiving_1 : decode cX4_lookAtLiving 1 = .ok (.iconst 0, 1) := by decide +kernel
theorem dX4_lookAtLiving_2 : decode cX4_lookAtLiving 2 = .ok (.putfield 149, 3) := by decide +kernel
theorem dX4_lookAtLiving_5 : decode cX4_lookAtLiving 5 = .ok (.aload_n 0, 1) := by decide +kernel
theorem dX4_lookAtLiving_6 : decode cX4_lookAtLiving 6 = .ok (.iconst 0, 1) := by decide +kernel
theorem dX4_lookAtLiving_7 : decode cX4_lookAtLiving 7 = .ok (.putfield 152, 3) := by decide +kernel
theorem dX4_lookAtLiving_10 : decode cX4_lookAtLiving 10 = .ok (.iload_n 2, 1) := by decide +kernel
theorem dX4_lookAtLiving_11 : decode cX4_lookAtLiving 11 = .ok (.istore 4, 2) := by decide +kernel
theorem dX4_lookAtLiving_13 : decode cX4_lookAtLiving 13 = .ok (.iconst 0, 1) := by decide +kernel
theorem dX4_lookAtLiving_14 : decode cX4_lookAtLiving 14 = .ok (.istore 5, 2) := by decide +kernel
theorem dX4_lookAtLiving_16 : decode cX4_lookAtLiving 16 = .ok (.iload 5, 2) := by decide +kernel
theorem dX4_lookAtLiving_18 : decode cX4_lookAtLiving 18 = .ok (.aload_n 0, 1) := by decide +kernel
theorem dX4_lookAtLiving_19 : decode cX4_lookAtLiving 19 = .ok (.getfield 61, 3) := by decide +kernel
theorem dX4_lookAtLiving_22 : decode cX4_lookAtLiving 22 = .ok (.getfield 68, 3) := by decide +kernel
theorem dX4_lookAtLiving_25 : decode cX4_lookAtLiving 25 = .ok (.if_icmp .ge 129, 3) := by decide +kernel
theorem dX4_lookAtLiving_28 : decode cX4_lookAtLiving 28 = .ok (.aload_n 0, 1) := by decide +kernel
theorem dX4_lookAtLiving_29 : decode cX4_lookAtLiving 29 = .ok (.getfield 61, 3) := by decide +kernel
theorem dX4_lookAtLiving_32 : decode cX4_lookAtLiving 32 = .ok (.getfield 73, 3) := by decide +kernel
theorem dX4_lookAtLiving_35 : decode cX4_lookAtLiving 35 = .ok (.iload 5, 2) := by decide +kernel
theorem dX4_lookAtLiving_37 : decode cX4_lookAtLiving 37 = .ok (.iaload, 1) := by decide +kernel
theorem dX4_lookAtLiving_38 : decode cX4_lookAtLiving 38 = .ok (.istore 6, 2) := by decide +kernel
theorem dX4_lookAtLiving_40 : decode cX4_lookAtLiving 40 = .ok (.aload_n 0, 1) := by decide +kernel
theorem dX4_lookAtLiving_41 : decode cX4_lookAtLiving 41 = .ok (.iload 6, 2) := by decide +kernel
theorem dX4_lookAtLiving_43 : decode cX4_lookAtLiving 43 = .ok (.iconst 1, 1) := by decide +kernel
theorem dX4_lookAtLiving_44 : decode cX4_lookAtLiving 44 = .ok (.iload_n 1, 1) := by decide +kernel
theorem dX4_lookAtLiving_45 : decode cX4_lookAtLiving 45 = .ok (.invokevirtual 164, 3) := by decide +kernel
theorem dX4_lookAtLiving_48 : decode cX4_lookAtLiving 48 = .ok (.ifCond .ne 6, 3) := by decide +kernel
theorem dX4_lookAtLiving_51 : decode cX4_lookAtLiving 51 = .ok (.goto 97, 3) := by decide +kernel
theorem dX4_lookAtLiving_54 : decode cX4_lookAtLiving 54 = .ok (.aload_n 0, 1) := by decide +kernel
theorem dX4_lookAtLiving_55 : decode cX4_lookAtLiving 55 = .ok (.getfield 61, 3) := by decide +kernel
theorem dX4_lookAtLiving_58 : decode cX4_lookAtLiving 58 = .ok (.getfield 76, 3) := by decide +kernel
theorem dX4_lookAtLiving_61 : decode cX4_lookAtLiving 61 = .ok (.iload 6, 2) := by decide +kernel
theorem dX4_lookAtLiving_63 : decode cX4_lookAtLiving 63 = .ok (.iaload, 1) := by decide +kernel
theorem dX4_lookAtLiving_64 : decode cX4_lookAtLiving 64 = .ok (.iload 4, 2) := by decide +kernel
theorem dX4_lookAtLiving_66 : decode cX4_lookAtLiving 66 = .ok (.invokestatic 168, 3) := by decide +kernel
theorem dX4_lookAtLiving_69 : decode cX4_lookAtLiving 69 = .ok (.istore 7, 2) := by decide +kernel
theorem dX4_lookAtLiving_71 : decode cX4_lookAtLiving 71 = .ok (.aload_n 0, 1) := by decide +kernel
theorem dX4_lookAtLiving_72 : decode cX4_lookAtLiving 72 = .ok (.getfield 61, 3) := by decide +kernel
theorem dX4_lookAtLiving_75 : decode cX4_lookAtLiving 75 = .ok (.getfield 76, 3) := by decide +kernel
theorem dX4_lookAtLiving_78 : decode cX4_lookAtLiving 78 = .ok (.iload 6, 2) := by decide +kernel
theorem dX4_lookAtLiving_80 : decode cX4_lookAtLiving 80 = .ok (.iaload, 1) := by decide +kernel
theorem dX4_lookAtLiving_81 : decode cX4_lookAtLiving 81 = .ok (.aload_n 0, 1) := by decide +kernel
theorem dX4_lookAtLiving_82 : decode cX4_lookAtLiving 82 = .ok (.getfield 61, 3) := by decide +kernel
theorem dX4_lookAtLiving_85 : decode cX4_lookAtLiving 85 = .ok (.getfield 158, 3) := by decide +kernel
theorem dX4_lookAtLiving_88 : decode cX4_lookAtLiving 88 = .ok (.iload 6, 2) := by decide +kernel
theorem dX4_lookAtLiving_90 : decode cX4_lookAtLiving 90 = .ok (.iaload, 1) := by decide +kernel
theorem dX4_lookAtLiving_91 : decode cX4_lookAtLiving 91 = .ok (.iadd, 1) := by decide +kernel
theorem dX4_lookAtLiving_92 : decode cX4_lookAtLiving 92 = .ok (.iconst 1, 1) := by decide +kernel
theorem dX4_lookAtLiving_93 : decode cX4_lookAtLiving 93 = .ok (.isub, 1) := by decide +kernel
theorem dX4_lookAtLiving_94 : decode cX4_lookAtLiving 94 = .ok (.iload_n 3, 1) := by decide +kernel
theorem dX4_lookAtLiving_95 : decode cX4_lookAtLiving 95 = .ok (.invokestatic 173, 3) := by decide +kernel
theorem dX4_lookAtLiving_98 : decode cX4_lookAtLiving 98 = .ok (.istore 8, 2) := by decide +kernel
theorem dX4_lookAtLiving_100 : decode cX4_lookAtLiving 100 = .ok (.iload 7, 2) := by decide +kernel
theorem dX4_lookAtLiving_102 : decode cX4_lookAtLiving 102 = .ok (.iload 8, 2) := by decide +kernel
theorem dX4_lookAtLiving_104 : decode cX4_lookAtLiving 104 = .ok (.if_icmp .le 6, 3) := by decide +kernel
theorem dX4_lookAtLiving_107 : decode cX4_lookAtLiving 107 = .ok (.goto 41, 3) := by decide +kernel
theorem dX4_lookAtLiving_110 : decode cX4_lookAtLiving 110 = .ok (.aload_n 0, 1) := by decide +kernel
theorem dX4_lookAtLiving_111 : decode cX4_lookAtLiving 111 = .ok (.aload_n 0, 1) := by decide +kernel
theorem dX4_lookAtLiving_112 : decode cX4_lookAtLiving 112 = .ok (.getfield 152, 3) := by decide +kernel
theorem dX4_lookAtLiving_115 : decode cX4_lookAtLiving 115 = .ok (.iload 7, 2) := by decide +kernel
theorem dX4_lookAtLiving_117 : decode cX4_lookAtLiving 117 = .ok (.iload 4, 2) := by decide +kernel
theorem dX4_lookAtLiving_119 : decode cX4_lookAtLiving 119 = .ok (.isub, 1) := by decide +kernel
theorem dX4_lookAtLiving_120 : decode cX4_lookAtLiving 120 = .ok (.invokestatic 168, 3) := by decide +kernel
theorem dX4_lookAtLiving_123 : decode cX4_lookAtLiving 123 = .ok (.putfield 152, 3) := by decide +kernel
theorem dX4_lookAtLiving_126 : decode cX4_lookAtLiving 126 = .ok (.aload_n 0, 1) := by decide +kernel
theorem dX4_lookAtLiving_127 : decode cX4_lookAtLiving 127 = .ok (.dup, 1) := by decide +kernel
theorem dX4_lookAtLiving_128 : decode cX4_lookAtLiving 128 = .ok (.getfield 149, 3) := by decide +kernel
theorem dX4_lookAtLiving_131 : decode cX4_lookAtLiving 131 = .ok (.iload 8, 2) := by decide +kernel
theorem dX4_lookAtLiving_133 : decode cX4_lookAtLiving 133 = .ok (.iload 7, 2) := by decide +kernel
theorem dX4_lookAtLiving_135 : decode cX4_lookAtLiving 135 = .ok (.isub, 1) := by decide +kernel
theorem dX4_lookAtLiving_136 : decode cX4_lookAtLiving 136 = .ok (.iconst 1, 1) := by decide +kernel
theorem dX4_lookAtLiving_137 : decode cX4_lookAtLiving 137 = .ok (.iadd, 1) := by decide +kernel
theorem dX4_lookAtLiving_138 : decode cX4_lookAtLiving 138 = .ok (.iadd, 1) := by decide +kernel
theorem dX4_lookAtLiving_139 : decode cX4_lookAtLiving 139 = .ok (.putfield 149, 3) := by decide +kernel
theorem dX4_lookAtLiving_142 : decode cX4_lookAtLiving 142 = .ok (.iload 8, 2) := by decide +kernel
theorem dX4_lookAtLiving_144 : decode cX4_lookAtLiving 144 = .ok (.iconst 1, 1) := by decide +kernel
theorem dX4_lookAtLiving_145 : decode cX4_lookAtLiving 145 = .ok (.iadd, 1) := by decide +kernel
theorem dX4_lookAtLiving_146 : decode cX4_lookAtLiving 146 = .ok (.istore 4, 2) := by decide +kernel
theorem dX4_lookAtLiving_148 : decode cX4_lookAtLiving 148 = .ok (.iinc 5 1, 3) := by decide +kernel
theorem dX4_lookAtLiving_151 : decode cX4_lookAtLiving 151 = .ok (.goto (-135), 3) := by decide +kernel
theorem dX4_lookAtLiving_154 : decode cX4_lookAtLiving 154 = .ok (.aload_n 0, 1) := by decide +kernel
theorem dX4_lookAtLiving_155 : decode cX4_lookAtLiving 155 = .ok (.aload_n 0, 1) := by decide +kernel
theorem dX4_lookAtLiving_156 : decode cX4_lookAtLiving 156 = .ok (.getfield 152, 3) := by decide +kernel
theorem dX4_lookAtLiving_159 : decode cX4_lookAtLiving 159 = .ok (.iload_n 3, 1) := by decide +kernel
theorem dX4_lookAtLiving_160 : decode cX4_lookAtLiving 160 = .ok (.iconst 1, 1) := by decide +kernel
theorem dX4_lookAtLiving_161 : decode cX4_lookAtLiving 161 = .ok (.iadd, 1) := by decide +kernel
theorem dX4_lookAtLiving_162 : decode cX4_lookAtLiving 162 = .ok (.iload 4, 2) := by decide +kernel
theorem dX4_lookAtLiving_164 : decode cX4_lookAtLiving 164 = .ok (.isub, 1) := by decide +kernel
theorem dX4_lookAtLiving_165 : decode cX4_lookAtLiving 165 = .ok (.invokestatic 168, 3) := by decide +kernel
theorem dX4_lookAtLiving_168 : decode cX4_lookAtLiving 168 = .ok (.putfield 152, 3) := by decide +kernel
theorem dX4_lookAtLiving_171 : decode cX4_lookAtLiving 171 = .ok (.return_, 1) := by decide +kernel
set_option maxRecDepth 20000 in
theorem ggX4_acres_X4_isDoneByHolder : GoodIn wsX4_acres wsX4_isDoneByHolder := goodIn_r _ [8, 9, 3, 10, 11, 12, 13, 14, 15, 16, 17, 18, 19, 20, 21, 22, 23, 24, 25, 26, 27, 28, 29, 30, 31, 32, 33, 34, 35, 36] (by decide +kernel) (by decide +kernel)
set_option maxRecDepth 20000 in
theorem gX4_acres_X4_isDoneByHolder : GoodIn wsX4_acres (wsV RX4 164 RX4 yX4_isDoneByHolder wsX4_isDoneByHolder) := goodIn_app (goodIn_of _ (by decide +kernel)) ggX4_acres_X4_isDoneByHolder
theorem dX4_acres_0 : decode cX4_acres 0 = .ok (.aload_n 0, 1) := by decide +kernel
theorem dX4_acres_1 : decode cX4_acres 1 = .ok (.getfield 37, 3) := by decide +kernel
theorem dX4_acres_4 : decode cX4_acres 4 = .ok (.iload_n 1, 1) := by decide +kernel
theorem dX4_acres_5 : decode cX4_acres 5 = .ok (.iaload, 1) := by decide +kernel
theorem dX4_acres_6 : decode cX4_acres 6 = .ok (.istore_n 2, 1) := by decide +kernel
theorem dX4_acres_7 : decode cX4_acres 7 = .ok (.iload_n 2, 1) := by decide +kernel
theorem dX4_acres_8 : decode cX4_acres 8 = .ok (.iconst (-1), 1) := by decide +kernel
theorem dX4_acres_9 : decode cX4_acres 9 = .ok (.if_icmp .ne 5, 3) := by decide +kernel
theorem dX4_acres_12 : decode cX4_acres 12 = .ok (.iconst 0, 1) := by decide +kernel
theorem dX4_acres_13 : decode cX4_acres 13 = .ok (.ireturn, 1) := by decide +kernel
theorem dX4_acres_14 : decode cX4_acres 14 = .ok (.iconst 0, 1) := by decide +kernel
theorem dX4_acres_15 : decode cX4_acres 15 = .ok (.istore_n 3, 1) := by decide +kernel
theorem dX4_acres_16 : decode cX4_acres 16 = .ok (.aload_n 0, 1) := by decide +kernel
theorem dX4_acres_17 : decode cX4_acres 17 = .ok (.getfield 34, 3) := by decide +kernel
theorem dX4_acres_20 : decode cX4_acres 20 = .ok (.iload_n 2, 1) := by decide +kernel
theorem dX4_acres_21 : decode cX4_acres 21 = .ok (.iaload, 1) := by decide +kernel
theorem dX4_acres_22 : decode cX4_acres 22 = .ok (.istore 4, 2) := by decide +kernel
theorem dX4_acres_24 : decode cX4_acres 24 = .ok (.iload 4, 2) := by decide +kernel
theorem dX4_acres_26 : decode cX4_acres 26 = .ok (.aload_n 0, 1) := by decide +kernel
theorem dX4_acres_27 : decode cX4_acres 27 = .ok (.getfield 61, 3) := by decide +kernel
theorem dX4_acres_30 : decode cX4_acres 30 = .ok (.getfield 68, 3) := by decide +kernel
theorem dX4_acres_33 : decode cX4_acres 33 = .ok (.if_icmp .ge 45, 3) := by decide +kernel
theorem dX4_acres_36 : decode cX4_acres 36 = .ok (.aload_n 0, 1) := by decide +kernel
theorem dX4_acres_37 : decode cX4_acres 37 = .ok (.getfield 61, 3) := by decide +kernel
theorem dX4_acres_40 : decode cX4_acres 40 = .ok (.getfield 73, 3) := by decide +kernel
theorem dX4_acres_43 : decode cX4_acres 43 = .ok (.iload 4, 2) := by decide +kernel
theorem dX4_acres_45 : decode cX4_acres 45 = .ok (.iaload, 1) := by decide +kernel
theorem dX4_acres_46 : decode cX4_acres 46 = .ok (.istore 5, 2) := by decide +kernel
theorem dX4_acres_48 : decode cX4_acres 48 = .ok (.aload_n 0, 1) := by decide +kernel
theorem dX4_acres_49 : decode cX4_acres 49 = .ok (.iload 5, 2) := by decide +kernel
theorem dX4_acres_51 : decode cX4_acres 51 = .ok (.iconst 2, 1) := by decide +kernel
theorem dX4_acres_52 : decode cX4_acres 52 = .ok (.iload_n 2, 1) := by decide +kernel
theorem dX4_acres_53 : decode cX4_acres 53 = .ok (.invokevirtual 164, 3) := by decide +kernel
theorem dX4_acres_56 : decode cX4_acres 56 = .ok (.ifCond .eq 16, 3) := by decide +kernel
theorem dX4_acres_59 : decode cX4_acres 59 = .ok (.iload_n 3, 1) := by decide +kernel
theorem dX4_acres_60 : decode cX4_acres 60 = .ok (.aload_n 0, 1) := by decide +kernel
theorem dX4_acres_61 : decode cX4_acres 61 = .ok (.getfield 61, 3) := by decide +kernel
theorem dX4_acres_64 : decode cX4_acres 64 = .ok (.getfield 158, 3) := by decide +kernel
theorem dX4_acres_67 : decode cX4_acres 67 = .ok (.iload 5, 2) := by decide +kernel
theorem dX4_acres_69 : decode cX4_acres 69 = .ok (.iaload, 1) := by decide +kernel
theorem dX4_acres_70 : decode cX4_acres 70 = .ok (.iadd, 1) := by decide +kernel
theorem dX4_acres_71 : decode cX4_acres 71 = .ok (.istore_n 3, 1) := by decide +kernel
theorem dX4_acres_72 : decode cX4_acres 72 = .ok (.iinc 4 1, 3) := by decide +kernel
theorem dX4_acres_75 : decode cX4_acres 75 = .ok (.goto (-51), 3) := by decide +kernel
theorem dX4_acres_78 : decode cX4_acres 78 = .ok (.iload_n 3, 1) := by decide +kernel
theorem dX4_acres_79 : decode cX4_acres 79 = .ok (.ireturn, 1) := by decide +kernel
theorem dX4_isDoneByHolder_0 : decode cX4_isDoneByHolder 0 = .ok (.aload_n 0, 1) := by decide +kernel
theorem dX4_isDoneByHolder_1 : decode cX4_isDoneByHolder 1 = .ok (.getfield 15, 3) := by decide +kernel
theorem dX4_isDoneByHolder_4 : decode cX4_isDoneByHolder 4 = .ok (.iload_n 1, 1) := by decide +kernel
theorem dX4_isDoneByHolder_5 : decode cX4_isDoneByHolder 5 = .ok (.iaload, 1) := by decide +kernel
theorem dX4_isDoneByHolder_6 : decode cX4_isDoneByHolder 6 = .ok (.ifCond .ne 63, 3) := by decide +kernel
theorem dX4_isDoneByHolder_9 : decode cX4_isDoneByHolder 9 = .ok (.aload_n 0, 1) := by decide +kernel
theorem dX4_isDoneByHolder_10 : decode cX4_isDoneByHolder 10 = .ok (.getfield 61, 3) := by decide +kernel
theorem dX4_isDoneByHolder_13 : decode cX4_isDoneByHolder 13 = .ok (.getfield 89, 3) := by decide +kernel
theorem dX4_isDoneByHolder_16 : decode cX4_isDoneByHolder 16 = .ok (.iload_n 1, 1) := by decide +kernel
theorem dX4_isDoneByHolder_17 : decode cX4_isDoneByHolder 17 = .ok (.iaload, 1) := by decide +kernel
theorem dX4_isDoneByHolder_18 : decode cX4_isDoneByHolder 18 = .ok (.iload_n 2, 1) := by decide +kernel
theorem dX4_isDoneByHolder_19 : decode cX4_isDoneByHolder 19 = .ok (.if_icmp .ne 50, 3) := by decide +kernel
theorem dX4_isDoneByHolder_22 : decode cX4_isDoneByHolder 22 = .ok (.aload_n 0, 1) := by decide +kernel
theorem dX4_isDoneByHolder_23 : decode cX4_isDoneByHolder 23 = .ok (.getfield 61, 3) := by decide +kernel
theorem dX4_isDoneByHolder_26 : decode cX4_isDoneByHolder 26 = .ok (.getfield 108, 3) := by decide +kernel
theorem dX4_isDoneByHolder_29 : decode cX4_isDoneByHolder 29 = .ok (.iload_n 1, 1) := by decide +kernel
theorem dX4_isDoneByHolder_30 : decode cX4_isDoneByHolder 30 = .ok (.iaload, 1) := by decide +kernel
theorem dX4_isDoneByHolder_31 : decode cX4_isDoneByHolder 31 = .ok (.aload_n 0, 1) := by decide +kernel
theorem dX4_isDoneByHolder_32 : decode cX4_isDoneByHolder 32 = .ok (.getfield 61, 3) := by decide +kernel
theorem dX4_isDoneByHolder_35 : decode cX4_isDoneByHolder 35 = .ok (.getfield 108, 3) := by decide +kernel
theorem dX4_isDoneByHolder_38 : decode cX4_isDoneByHolder 38 = .ok (.iload_n 3, 1) := by decide +kernel
theorem dX4_isDoneByHolder_39 : decode cX4_isDoneByHolder 39 = .ok (.iaload, 1) := by decide +kernel
theorem dX4_isDoneByHolder_40 : decode cX4_isDoneByHolder 40 = .ok (.if_icmp .ne 29, 3) := by decide +kernel
theorem dX4_isDoneByHolder_43 : decode cX4_isDoneByHolder 43 = .ok (.aload_n 0, 1) := by decide +kernel
theorem dX4_isDoneByHolder_44 : decode cX4_isDoneByHolder 44 = .ok (.getfield 25, 3) := by decide +kernel
theorem dX4_isDoneByHolder_47 : decode cX4_isDoneByHolder 47 = .ok (.iload_n 3, 1) := by decide +kernel
theorem dX4_isDoneByHolder_48 : decode cX4_isDoneByHolder 48 = .ok (.iaload, 1) := by decide +kernel
theorem dX4_isDoneByHolder_49 : decode cX4_isDoneByHolder 49 = .ok (.aload_n 0, 1) := by decide +kernel
theorem dX4_isDoneByHolder_50 : decode cX4_isDoneByHolder 50 = .ok (.getfield 61, 3) := by decide +kernel
theorem dX4_isDoneByHolder_53 : decode cX4_isDoneByHolder 53 = .ok (.getfield 86, 3) := by decide +kernel
theorem dX4_isDoneByHolder_56 : decode cX4_isDoneByHolder 56 = .ok (.iload_n 1, 1) := by decide +kernel
theorem dX4_isDoneByHolder_57 : decode cX4_isDoneByHolder 57 = .ok (.iaload, 1) := by decide +kernel
theorem dX4_isDoneByHolder_58 : decode cX4_isDoneByHolder 58 = .ok (.ishr, 1) := by decide +kernel
theorem dX4_isDoneByHolder_59 : decode cX4_isDoneByHolder 59 = .ok (.iconst 1, 1) := by decide +kernel
theorem dX4_isDoneByHolder_60 : decode cX4_isDoneByHolder 60 = .ok (.iand, 1) := by decide +kernel
theorem dX4_isDoneByHolder_61 : decode cX4_isDoneByHolder 61 = .ok (.iconst 1, 1) := by decide +kernel
theorem dX4_isDoneByHolder_62 : decode cX4_isDoneByHolder 62 = .ok (.if_icmp .ne 7, 3) := by decide +kernel
theorem dX4_isDoneByHolder_65 : decode cX4_isDoneByHolder 65 = .ok (.iconst 1, 1) := by decide +kernel
theorem dX4_isDoneByHolder_66 : decode cX4_isDoneByHolder 66 = .ok (.goto 4, 3) := by decide +kernel
theorem dX4_isDoneByHolder_69 : decode cX4_isDoneByHolder 69 = .ok (.iconst 0, 1) := by decide +kernel
theorem dX4_isDoneByHolder_70 : decode cX4_isDoneByHolder 70 = .ok (.ireturn, 1) := by decide +kernel
theorem dX4_countEntries_0 : decode cX4_countEntries 0 = .ok (.iconst 0, 1) := by decide +kernel
theorem dX4_countEntries_1 : decode cX4_countEntries 1 = .ok (.istore_n 2, 1) := by decide +kernel
theorem dX4_countEntries_2 : decode cX4_countEntries 2 = .ok (.iconst 0, 1) := by decide +kernel
theorem dX4_countEntries_3 : decode cX4_countEntries 3 = .ok (.istore_n 3, 1) := by decide +kernel
theorem dX4_countEntries_4 : decode cX4_countEntries 4 = .ok (.iload_n 3, 1) := by decide +kernel
theorem dX4_countEntries_5 : decode cX4_countEntries 5 = .ok (.aload_n 0, 1) := by decide +kernel
theorem dX4_countEntries_6 : decode cX4_countEntries 6 = .ok (.getfield 61, 3) := by decide +kernel
theorem dX4_countEntries_9 : decode cX4_countEntries 9 = .ok (.getfield 68, 3) := by decide +kernel
theorem dX4_countEntries_12 : decode cX4_countEntries 12 = .ok (.if_icmp .ge 22, 3) := by decide +kernel
theorem dX4_countEntries_15 : decode cX4_countEntries 15 = .ok (.aload_n 0, 1) := by decide +kernel
theorem dX4_countEntries_16 : decode cX4_countEntries 16 = .ok (.getfield 19, 3) := by decide +kernel
theorem dX4_countEntries_19 : decode cX4_countEntries 19 = .ok (.iload_n 3, 1) := by decide +kernel
theorem dX4_countEntries_20 : decode cX4_countEntries 20 = .ok (.iaload, 1) := by decide +kernel
theorem dX4_countEntries_21 : decode cX4_countEntries 21 = .ok (.iload_n 1, 1) := by decide +kernel
theorem dX4_countEntries_22 : decode cX4_countEntries 22 = .ok (.if_icmp .ne 6, 3) := by decide +kernel
theorem dX4_countEntries_25 : decode cX4_countEntries 25 = .ok (.iinc 2 1, 3) := by decide +kernel
theorem dX4_countEntries_28 : decode cX4_countEntries 28 = .ok (.iinc 3 1, 3) := by decide +kernel
theorem dX4_countEntries_31 : decode cX4_countEntries 31 = .ok (.goto (-27), 3) := by decide +kernel
theorem dX4_countEntries_34 : decode cX4_countEntries 34 = .ok (.iload_n 2, 1) := by decide +kernel
theorem dX4_countEntries_35 : decode cX4_countEntries 35 = .ok (.ireturn, 1) := by decide +kernel
theorem dX4_countDead_0 : decode cX4_countDead 0 = .ok (.iconst 0, 1) := by decide +kernel
theorem dX4_countDead_1 : decode cX4_countDead 1 = .ok (.istore_n 1, 1) := by decide +kernel
theorem dX4_countDead_2 : decode cX4_countDead 2 = .ok (.iconst 0, 1) := by decide +kernel
theorem dX4_countDead_3 : decode cX4_countDead 3 = .ok (.istore_n 2, 1) := by decide +kernel
theorem dX4_countDead_4 : decode cX4_countDead 4 = .ok (.iload_n 2, 1) := by decide +kernel
theorem dX4_countDead_5 : decode cX4_countDead 5 = .ok (.bipush 12, 2) := by decide +kernel
theorem dX4_countDead_7 : decode cX4_countDead 7 = .ok (.if_icmp .ge 21, 3) := by decide +kernel
theorem dX4_countDead_10 : decode cX4_countDead 10 = .ok (.aload_n 0, 1) := by decide +kernel
theorem dX4_countDead_11 : decode cX4_countDead 11 = .ok (.getfield 46, 3) := by decide +kernel
theorem dX4_countDead_14 : decode cX4_countDead 14 = .ok (.iload_n 2, 1) := by decide +kernel
theorem dX4_countDead_15 : decode cX4_countDead 15 = .ok (.baload, 1) := by decide +kernel
theorem dX4_countDead_16 : decode cX4_countDead 16 = .ok (.ifCond .eq 6, 3) := by decide +kernel
theorem dX4_countDead_19 : decode cX4_countDead 19 = .ok (.iinc 1 1, 3) := by decide +kernel
theorem dX4_countDead_22 : decode cX4_countDead 22 = .ok (.iinc 2 1, 3) := by decide +kernel
theorem dX4_countDead_25 : decode cX4_countDead 25 = .ok (.goto (-21), 3) := by decide +kernel
theorem dX4_countDead_28 : decode cX4_countDead 28 = .ok (.iload_n 1, 1) := by decide +kernel
theorem dX4_countDead_29 : decode cX4_countDead 29 = .ok (.ireturn, 1) := by decide +kernel
theorem dX4_countNotDone_0 : decode cX4_countNotDone 0 = .ok (.iconst 0, 1) := by decide +kernel
theorem dX4_countNotDone_1 : decode cX4_countNotDone 1 = .ok (.istore_n 1, 1) := by decide +kernel
theorem dX4_countNotDone_2 : decode cX4_countNotDone 2 = .ok (.iconst 0, 1) := by decide +kernel
theorem dX4_countNotDone_3 : decode cX4_countNotDone 3 = .ok (.istore_n 2, 1) := by decide +kernel
theorem dX4_countNotDone_4 : decode cX4_countNotDone 4 = .ok (.iload_n 2, 1) := by decide +kernel
theorem dX4_countNotDone_5 : decode cX4_countNotDone 5 = .ok (.aload_n 0, 1) := by decide +kernel
theorem dX4_countNotDone_6 : decode cX4_countNotDone 6 = .ok (.getfield 61, 3) := by decide +kernel
theorem dX4_countNotDone_9 : decode cX4_countNotDone 9 = .ok (.getfield 68, 3) := by decide +kernel
theorem dX4_countNotDone_12 : decode cX4_countNotDone 12 = .ok (.if_icmp .ge 21, 3) := by decide +kernel
theorem dX4_countNotDone_15 : decode cX4_countNotDone 15 = .ok (.aload_n 0, 1) := by decide +kernel
theorem dX4_countNotDone_16 : decode cX4_countNotDone 16 = .ok (.getfield 15, 3) := by decide +kernel
theorem dX4_countNotDone_19 : decode cX4_countNotDone 19 = .ok (.iload_n 2, 1) := by decide +kernel
theorem dX4_countNotDone_20 : decode cX4_countNotDone 20 = .ok (.iaload, 1) := by decide +kernel
theorem dX4_countNotDone_21 : decode cX4_countNotDone 21 = .ok (.ifCond .le 6, 3) := by decide +kernel
theorem dX4_countNotDone_24 : decode cX4_countNotDone 24 = .ok (.iinc 1 1, 3) := by decide +kernel
theorem dX4_countNotDone_27 : decode cX4_countNotDone 27 = .ok (.iinc 2 1, 3) := by decide +kernel
theorem dX4_countNotDone_30 : decode cX4_countNotDone 30 = .ok (.goto (-26), 3) := by decide +kernel
theorem dX4_countNotDone_33 : decode cX4_countNotDone 33 = .ok (.iload_n 1, 1) := by decide +kernel
theorem dX4_countNotDone_34 : decode cX4_countNotDone 34 = .ok (.ireturn, 1) := by decide +kernel
set_option maxRecDepth 20000 in
theorem ggX5_init_X3_init : GoodIn wsX5_init wsX3_init := goodIn_r _ [25, 26, 2, 3, 27, 28, 29, 79, 80, 81] (by decide +kernel) (by decide +kernel)
set_option maxRecDepth 20000 in
theorem gX5_init_X3_init_n11 : GoodIn wsX5_init (wsX3_init) := ggX5_init_X3_init
set_option maxRecDepth 20000 in
theorem ggX5_init_X2_init : GoodIn wsX5_init wsX2_init := goodIn_r _ [31, 32, 2, 3, 33, 34, 35, 27, 36, 37, 38, 39, 87, 88, 89, 90, 91, 92, 93] (by decide +kernel) (by decide +kernel)
set_option maxRecDepth 20000 in
theorem gX5_init_X2_init_n18 : GoodIn wsX5_init (wsX2_init) := ggX5_init_X2_init
set_option maxRecDepth 20000 in
theorem ggX5_init_X0_init : GoodIn wsX5_init wsX0_init := goodIn_r _ [41, 42, 2, 3, 27, 43, 44, 45, 46, 47, 48, 49, 50, 94, 95, 96, 97, 98, 99, 100, 101] (by decide +kernel) (by decide +kernel)
set_option maxRecDepth 20000 in
theorem gX5_init_X0_init_n25 : GoodIn wsX5_init (wsX0_init) := ggX5_init_X0_init
set_option maxRecDepth 20000 in
theorem ggX5_init_X4_init : GoodIn wsX5_init wsX4_init := goodIn_r _ [52, 53, 2, 3, 54, 27, 55, 56, 57, 58, 59, 60, 61, 62, 63, 64, 48, 65, 66, 67, 68, 69, 102, 103, 104, 105, 106, 107, 108, 109, 110, 111, 112, 113, 114, 115, 116, 117, 118, 119] (by decide +kernel) (by decide +kernel)
set_option maxRecDepth 20000 in
theorem gX5_init_X4_init_n32 : GoodIn wsX5_init (wsX4_init) := ggX5_init_X4_init
set_option maxRecDepth 20000 in
theorem ggX5_init_X1_init : GoodIn wsX5_init wsX1_init := goodIn_r _ [71, 72, 2, 3, 48, 73, 27, 74, 75, 76, 77, 78, 120, 121, 122, 123, 124, 125, 126] (by decide +kernel) (by decide +kernel)
set_option maxRecDepth 20000 in
theorem gX5_init_X1_init_n41 : GoodIn wsX5_init (wsX1_init) := ggX5_init_X1_init
theorem dX5_init_0 : decode cX5_init 0 = .ok (.aload_n 0, 1) := by decide +kernel
theorem dX5_init_1 : decode cX5_init 1 = .ok (.invokespecial 3, 3) := by decide +kernel
theorem dX5_init_4 : decode cX5_init 4 = .ok (.aload_n 0, 1) := by decide +kernel
theorem dX5_init_5 : decode cX5_init 5 = .ok (.new 9, 3) := by decide +kernel
theorem dX5_init_8 : decode cX5_init 8 = .ok (.dup, 1) := by decide +kernel
theorem dX5_init_9 : decode cX5_init 9 = .ok (.invokespecial 11, 3) := by decide +kernel
theorem dX5_init_12 : decode cX5_init 12 = .ok (.putfield 12, 3) := by decide +kernel
theorem dX5_init_15 : decode cX5_init 15 = .ok (.aload_n 0, 1) := by decide +kernel
theorem dX5_init_16 : decode cX5_init 16 = .ok (.new 16, 3) := by decide +kernel
theorem dX5_init_19 : decode cX5_init 19 = .ok (.dup, 1) := by decide +kernel
theorem dX5_init_20 : decode cX5_init 20 = .ok (.invokespecial 18, 3) := by decide +kernel
theorem dX5_init_23 : decode cX5_init 23 = .ok (.putfield 19, 3) := by decide +kernel
theorem dX5_init_26 : decode cX5_init 26 = .ok (.aload_n 0, 1) := by decide +kernel
theorem dX5_init_27 : decode cX5_init 27 = .ok (.new 23, 3) := by decide +kernel
theorem dX5_init_30 : decode cX5_init 30 = .ok (.dup, 1) := by decide +kernel
theorem dX5_init_31 : decode cX5_init 31 = .ok (.invokespecial 25, 3) := by decide +kernel
theorem dX5_init_34 : decode cX5_init 34 = .ok (.putfield 26, 3) := by decide +kernel
theorem dX5_init_37 : decode cX5_init 37 = .ok (.aload_n 0, 1) := by decide +kernel
theorem dX5_init_38 : decode cX5_init 38 = .ok (.new 30, 3) := by decide +kernel
theorem dX5_init_41 : decode cX5_init 41 = .ok (.dup, 1) := by decide +kernel
theorem dX5_init_42 : decode cX5_init 42 = .ok (.aload_n 0, 1) := by decide +kernel
theorem dX5_init_43 : decode cX5_init 43 = .ok (.getfield 12, 3) := by decide +kernel
theorem dX5_init_46 : decode cX5_init 46 = .ok (.aload_n 0, 1) := by decide +kernel
theorem dX5_init_47 : decode cX5_init 47 = .ok (.getfield 19, 3) := by decide +kernel
theorem dX5_init_50 : decode cX5_init 50 = .ok (.aload_n 0, 1) := by decide +kernel
theorem dX5_init_51 : decode cX5_init 51 = .ok (.getfield 26, 3) := by decide +kernel
theorem dX5_init_54 : decode cX5_init 54 = .ok (.invokespecial 32, 3) := by decide +kernel
theorem dX5_init_57 : decode cX5_init 57 = .ok (.putfield 35, 3) := by decide +kernel
theorem dX5_init_60 : decode cX5_init 60 = .ok (.aload_n 0, 1) := by decide +kernel
theorem dX5_init_61 : decode cX5_init 61 = .ok (.new 39, 3) := by decide +kernel
theorem dX5_init_64 : decode cX5_init 64 = .ok (.dup, 1) := by decide +kernel
theorem dX5_init_65 : decode cX5_init 65 = .ok (.invokespecial 41, 3) := by decide +kernel
theorem dX5_init_68 : decode cX5_init 68 = .ok (.putfield 42, 3) := by decide +kernel
theorem dX5_init_71 : decode cX5_init 71 = .ok (.return_, 1) := by decide +kernel
set_option maxRecDepth 20000 in
theorem ggX5_person_X5_within : GoodIn wsX5_person wsX5_within := goodIn_r _ [5] (by decide +kernel) (by decide +kernel)
set_option maxRecDepth 20000 in
theorem gX5_person_X5_within : GoodIn wsX5_person (va_wsS RX5 46 yX5_within wsX5_within) := goodIn_app (goodIn_of _ (by decide +kernel)) ggX5_person_X5_within
set_option maxRecDepth 20000 in
theorem ggX5_person_X3_add : GoodIn wsX5_person wsX3_add := goodIn_r _ [9, 10, 11, 12, 18, 19, 20] (by decide +kernel) (by decide +kernel)
set_option maxRecDepth 20000 in
theorem gX5_person_X3_add_n54 : GoodIn wsX5_person (wsX3_add) := ggX5_person_X3_add
theorem dX5_person_0 : decode cX5_person 0 = .ok (.iload_n 1, 1) := by decide +kernel
theorem dX5_person_1 : decode cX5_person 1 = .ok (.sipush (-20000), 3) := by decide +kernel
theorem dX5_person_4 : decode cX5_person 4 = .ok (.sipush 20000, 3) := by decide +kernel
theorem dX5_person_7 : decode cX5_person 7 = .ok (.invokestatic 46, 3) := by decide +kernel
theorem dX5_person_10 : decode cX5_person 10 = .ok (.ifCond .eq 16, 3) := by decide +kernel
theorem dX5_person_13 : decode cX5_person 13 = .ok (.iload_n 2, 1) := by decide +kernel
theorem dX5_person_14 : decode cX5_person 14 = .ok (.sipush (-20000), 3) := by decide +kernel
theorem dX5_person_17 : decode cX5_person 17 = .ok (.sipush 20001, 3) := by decide +kernel
theorem dX5_person_20 : decode cX5_person 20 = .ok (.invokestatic 46, 3) := by decide +kernel
theorem dX5_person_23 : decode cX5_person 23 = .ok (.ifCond .ne 7, 3) := by decide +kernel
theorem dX5_person_26 : decode cX5_person 26 = .ok (.sipush (-1002), 3) := by decide +kernel
theorem dX5_person_29 : decode cX5_person 29 = .ok (.ireturn, 1) := by decide +kernel
theorem dX5_person_30 : decode cX5_person 30 = .ok (.aload_n 0, 1) := by decide +kernel
theorem dX5_person_31 : decode cX5_person 31 = .ok (.getfield 12, 3) := by decide +kernel
theorem dX5_person_34 : decode cX5_person 34 = .ok (.getfield 50, 3) := by decide +kernel
theorem dX5_person_37 : decode cX5_person 37 = .ok (.bipush 12, 2) := by decide +kernel
theorem dX5_person_39 : decode cX5_person 39 = .ok (.if_icmp .lt 7, 3) := by decide +kernel
theorem dX5_person_42 : decode cX5_person 42 = .ok (.sipush (-1004), 3) := by decide +kernel
theorem dX5_person_45 : decode cX5_person 45 = .ok (.ireturn, 1) := by decide +kernel
theorem dX5_person_46 : decode cX5_person 46 = .ok (.aload_n 0, 1) := by decide +kernel
theorem dX5_person_47 : decode cX5_person 47 = .ok (.getfield 12, 3) := by decide +kernel
theorem dX5_person_50 : decode cX5_person 50 = .ok (.iload_n 1, 1) := by decide +kernel
theorem dX5_person_51 : decode cX5_person 51 = .ok (.iload_n 2, 1) := by decide +kernel
theorem dX5_person_52 : decode cX5_person 52 = .ok (.invokevirtual 54, 3) := by decide +kernel
theorem dX5_person_55 : decode cX5_person 55 = .ok (.ireturn, 1) := by decide +kernel
set_option maxRecDepth 20000 in
theorem ggX5_map_X5_within : GoodIn wsX5_map wsX5_within := goodIn_r _ [5] (by decide +kernel) (by decide +kernel)
set_option maxRecDepth 20000 in
theorem gX5_map_X5_within : GoodIn wsX5_map (va_wsS RX5 46 yX5_within wsX5_within) := goodIn_app (goodIn_of _ (by decide +kernel)) ggX5_map_X5_within
theorem dX5_map_0 : decode cX5_map 0 = .ok (.iload_n 1, 1) := by decide +kernel
theorem dX5_map_1 : decode cX5_map 1 = .ok (.iconst 0, 1) := by decide +kernel
theorem dX5_map_2 : decode cX5_map 2 = .ok (.sipush 20001, 3) := by decide +kernel
theorem dX5_map_5 : decode cX5_map 5 = .ok (.invokestatic 46, 3) := by decide +kernel
theorem dX5_map_8 : decode cX5_map 8 = .ok (.ifCond .ne 7, 3) := by decide +kernel
theorem dX5_map_11 : decode cX5_map 11 = .ok (.sipush (-1002), 3) := by decide +kernel
theorem dX5_map_14 : decode cX5_map 14 = .ok (.ireturn, 1) := by decide +kernel
theorem dX5_map_15 : decode cX5_map 15 = .ok (.aload_n 0, 1) := by decide +kernel
theorem dX5_map_16 : decode cX5_map 16 = .ok (.getfield 35, 3) := by decide +kernel
theorem dX5_map_19 : decode cX5_map 19 = .ok (.getfield 58, 3) := by decide +kernel
theorem dX5_map_22 : decode cX5_map 22 = .ok (.istore_n 2, 1) := by decide +kernel
theorem dX5_map_23 : decode cX5_map 23 = .ok (.aload_n 0, 1) := by decide +kernel
theorem dX5_map_24 : decode cX5_map 24 = .ok (.getfield 35, 3) := by decide +kernel
theorem dX5_map_27 : decode cX5_map 27 = .ok (.iload_n 1, 1) := by decide +kernel
theorem dX5_map_28 : decode cX5_map 28 = .ok (.putfield 58, 3) := by decide +kernel
theorem dX5_map_31 : decode cX5_map 31 = .ok (.iload_n 2, 1) := by decide +kernel
theorem dX5_map_32 : decode cX5_map 32 = .ok (.ireturn, 1) := by decide +kernel
set_option maxRecDepth 20000 in
theorem ggX5_feed_X5_within : GoodIn wsX5_feed wsX5_within := goodIn_r _ [5] (by decide +kernel) (by decide +kernel)
set_option maxRecDepth 20000 in
theorem gX5_feed_X5_within : GoodIn wsX5_feed (va_wsS RX5 46 yX5_within wsX5_within) := goodIn_app (goodIn_of _ (by decide +kernel)) ggX5_feed_X5_within
set_option maxRecDepth 20000 in
theorem ggX5_feed_X2_append : GoodIn wsX5_feed wsX2_append := goodIn_r _ [9, 10, 11, 17, 18, 19, 20, 21, 22, 23] (by decide +kernel) (by decide +kernel)
set_option maxRecDepth 20000 in
theorem gX5_feed_X2_append_n64 : GoodIn wsX5_feed (wsX2_append) := ggX5_feed_X2_append
theorem dX5_feed_0 : decode cX5_feed 0 = .ok (.iload_n 1, 1) := by decide +kernel
theorem dX5_feed_1 : decode cX5_feed 1 = .ok (.iconst 1, 1) := by decide +kernel
theorem dX5_feed_2 : decode cX5_feed 2 = .ok (.bipush 8, 2) := by decide +kernel
theorem dX5_feed_4 : decode cX5_feed 4 = .ok (.invokestatic 46, 3) := by decide +kernel
theorem dX5_feed_7 : decode cX5_feed 7 = .ok (.ifCond .ne 7, 3) := by decide +kernel
theorem dX5_feed_10 : decode cX5_feed 10 = .ok (.sipush (-1002), 3) := by decide +kernel
theorem dX5_feed_13 : decode cX5_feed 13 = .ok (.ireturn, 1) := by decide +kernel
theorem dX5_feed_14 : decode cX5_feed 14 = .ok (.aload_n 0, 1) := by decide +kernel
theorem dX5_feed_15 : decode cX5_feed 15 = .ok (.getfield 19, 3) := by decide +kernel
theorem dX5_feed_18 : decode cX5_feed 18 = .ok (.getfield 61, 3) := by decide +kernel
theorem dX5_feed_21 : decode cX5_feed 21 = .ok (.iload_n 1, 1) := by decide +kernel
theorem dX5_feed_22 : decode cX5_feed 22 = .ok (.iadd, 1) := by decide +kernel
theorem dX5_feed_23 : decode cX5_feed 23 = .ok (.bipush 120, 2) := by decide +kernel
theorem dX5_feed_25 : decode cX5_feed 25 = .ok (.if_icmp .le 7, 3) := by decide +kernel
theorem dX5_feed_28 : decode cX5_feed 28 = .ok (.sipush (-1004), 3) := by decide +kernel
theorem dX5_feed_31 : decode cX5_feed 31 = .ok (.ireturn, 1) := by decide +kernel
theorem dX5_feed_32 : decode cX5_feed 32 = .ok (.aload_n 0, 1) := by decide +kernel
theorem dX5_feed_33 : decode cX5_feed 33 = .ok (.getfield 19, 3) := by decide +kernel
theorem dX5_feed_36 : decode cX5_feed 36 = .ok (.iload_n 1, 1) := by decide +kernel
theorem dX5_feed_37 : decode cX5_feed 37 = .ok (.lload_n 2, 1) := by decide +kernel
theorem dX5_feed_38 : decode cX5_feed 38 = .ok (.invokevirtual 64, 3) := by decide +kernel
theorem dX5_feed_41 : decode cX5_feed 41 = .ok (.ireturn, 1) := by decide +kernel
set_option maxRecDepth 20000 in
theorem ggX5_law_X5_isDay : GoodIn wsX5_law wsX5_isDay := goodIn_r _ [5, 6, 7, 4, 8] (by decide +kernel) (by decide +kernel)
set_option maxRecDepth 20000 in
theorem gX5_law_X5_isDay : GoodIn wsX5_law (va_wsS RX5 68 yX5_isDay wsX5_isDay) := goodIn_app (goodIn_of _ (by decide +kernel)) ggX5_law_X5_isDay
set_option maxRecDepth 20000 in
theorem ggX5_law_X2_enact : GoodIn wsX5_law wsX2_enact := goodIn_r _ [12, 13, 14, 15, 16, 17, 18, 19, 20, 10, 21, 22, 23, 24, 25, 26, 27, 28, 29, 30, 31, 32, 33, 34, 35, 36, 37, 38, 39, 40, 41, 42, 43, 44, 45, 46, 47, 48, 49, 50, 51, 52, 53, 54, 55, 56, 57, 58, 59, 60, 61, 62, 63, 64, 65, 66, 67, 68, 69, 70, 71, 72, 73, 74, 75, 76, 77, 78, 79, 80, 81, 82, 83, 84, 85, 86, 87, 88, 89, 90, 91, 92, 93, 94, 95, 96, 97, 98, 99, 105, 106, 107, 108, 109, 110, 111] (by decide +kernel) (by decide +kernel)
set_option maxRecDepth 20000 in
theorem gX5_law_X2_enact_n73 : GoodIn wsX5_law (wsX2_enact) := ggX5_law_X2_enact
theorem dX5_law_0 : decode cX5_law 0 = .ok (.iload_n 1, 1) := by decide +kernel
theorem dX5_law_1 : decode cX5_law 1 = .ok (.invokestatic 68, 3) := by decide +kernel
theorem dX5_law_4 : decode cX5_law 4 = .ok (.ifCond .ne 7, 3) := by decide +kernel
theorem dX5_law_7 : decode cX5_law 7 = .ok (.sipush (-1002), 3) := by decide +kernel
theorem dX5_law_10 : decode cX5_law 10 = .ok (.ireturn, 1) := by decide +kernel
theorem dX5_law_11 : decode cX5_law 11 = .ok (.aload_n 0, 1) := by decide +kernel
theorem dX5_law_12 : decode cX5_law 12 = .ok (.getfield 19, 3) := by decide +kernel
theorem dX5_law_15 : decode cX5_law 15 = .ok (.getfield 72, 3) := by decide +kernel
theorem dX5_law_18 : decode cX5_law 18 = .ok (.bipush 8, 2) := by decide +kernel
theorem dX5_law_20 : decode cX5_law 20 = .ok (.if_icmp .lt 7, 3) := by decide +kernel
theorem dX5_law_23 : decode cX5_law 23 = .ok (.sipush (-1004), 3) := by decide +kernel
theorem dX5_law_26 : decode cX5_law 26 = .ok (.ireturn, 1) := by decide +kernel
theorem dX5_law_27 : decode cX5_law 27 = .ok (.aload_n 0, 1) := by decide +kernel
theorem dX5_law_28 : decode cX5_law 28 = .ok (.getfield 19, 3) := by decide +kernel
theorem dX5_law_31 : decode cX5_law 31 = .ok (.iload_n 1, 1) := by decide +kernel
theorem dX5_law_32 : decode cX5_law 32 = .ok (.invokevirtual 73, 3) := by decide +kernel
theorem dX5_law_35 : decode cX5_law 35 = .ok (.ireturn, 1) := by decide +kernel
theorem dX5_place_0 : decode cX5_place 0 = .ok (.aload_n 0, 1) := by decide +kernel
theorem dX5_place_1 : decode cX5_place 1 = .ok (.getfield 19, 3) := by decide +kernel
theorem dX5_place_4 : decode cX5_place 4 = .ok (.getfield 77, 3) := by decide +kernel
theorem dX5_place_7 : decode cX5_place 7 = .ok (.ireturn, 1) := by decide +kernel
set_option maxRecDepth 20000 in
theorem ggX5_sets_X5_within : GoodIn wsX5_sets wsX5_within := goodIn_r _ [5] (by decide +kernel) (by decide +kernel)
set_option maxRecDepth 20000 in
theorem gX5_sets_X5_within : GoodIn wsX5_sets (va_wsS RX5 46 yX5_within wsX5_within) := goodIn_app (goodIn_of _ (by decide +kernel)) ggX5_sets_X5_within
set_option maxRecDepth 20000 in
theorem ggX5_sets_X2_valueOf : GoodIn wsX5_sets wsX2_valueOf := goodIn_r _ [9, 10, 11, 12, 13, 19, 20, 21, 22, 23, 24, 25] (by decide +kernel) (by decide +kernel)
set_option maxRecDepth 20000 in
theorem gX5_sets_X2_valueOf_n84 : GoodIn wsX5_sets (wsX2_valueOf) := ggX5_sets_X2_valueOf
theorem dX5_sets_0 : decode cX5_sets 0 = .ok (.iload_n 1, 1) := by decide +kernel
theorem dX5_sets_1 : decode cX5_sets 1 = .ok (.iconst (-1), 1) := by decide +kernel
theorem dX5_sets_2 : decode cX5_sets 2 = .ok (.if_icmp .eq 24, 3) := by decide +kernel
theorem dX5_sets_5 : decode cX5_sets 5 = .ok (.iload_n 1, 1) := by decide +kernel
theorem dX5_sets_6 : decode cX5_sets 6 = .ok (.iconst 0, 1) := by decide +kernel
theorem dX5_sets_7 : decode cX5_sets 7 = .ok (.aload_n 0, 1) := by decide +kernel
theorem dX5_sets_8 : decode cX5_sets 8 = .ok (.getfield 19, 3) := by decide +kernel
theorem dX5_sets_11 : decode cX5_sets 11 = .ok (.getfield 72, 3) := by decide +kernel
theorem dX5_sets_14 : decode cX5_sets 14 = .ok (.iconst 1, 1) := by decide +kernel
theorem dX5_sets_15 : decode cX5_sets 15 = .ok (.isub, 1) := by decide +kernel
theorem dX5_sets_16 : decode cX5_sets 16 = .ok (.invokestatic 46, 3) := by decide +kernel
theorem dX5_sets_19 : decode cX5_sets 19 = .ok (.ifCond .ne 7, 3) := by decide +kernel
theorem dX5_sets_22 : decode cX5_sets 22 = .ok (.sipush (-1001), 3) := by decide +kernel
theorem dX5_sets_25 : decode cX5_sets 25 = .ok (.ireturn, 1) := by decide +kernel
theorem dX5_sets_26 : decode cX5_sets 26 = .ok (.iload_n 2, 1) := by decide +kernel
theorem dX5_sets_27 : decode cX5_sets 27 = .ok (.iconst 0, 1) := by decide +kernel
theorem dX5_sets_28 : decode cX5_sets 28 = .ok (.bipush 9, 2) := by decide +kernel
theorem dX5_sets_30 : decode cX5_sets 30 = .ok (.invokestatic 46, 3) := by decide +kernel
theorem dX5_sets_33 : decode cX5_sets 33 = .ok (.ifCond .ne 7, 3) := by decide +kernel
theorem dX5_sets_36 : decode cX5_sets 36 = .ok (.sipush (-1002), 3) := by decide +kernel
theorem dX5_sets_39 : decode cX5_sets 39 = .ok (.ireturn, 1) := by decide +kernel
theorem dX5_sets_40 : decode cX5_sets 40 = .ok (.iload_n 2, 1) := by decide +kernel
theorem dX5_sets_41 : decode cX5_sets 41 = .ok (.bipush 9, 2) := by decide +kernel
theorem dX5_sets_43 : decode cX5_sets 43 = .ok (.if_icmp .ne 22, 3) := by decide +kernel
theorem dX5_sets_46 : decode cX5_sets 46 = .ok (.iload_n 1, 1) := by decide +kernel
theorem dX5_sets_47 : decode cX5_sets 47 = .ok (.iconst (-1), 1) := by decide +kernel
theorem dX5_sets_48 : decode cX5_sets 48 = .ok (.if_icmp .ne 7, 3) := by decide +kernel
theorem dX5_sets_51 : decode cX5_sets 51 = .ok (.iconst 0, 1) := by decide +kernel
theorem dX5_sets_52 : decode cX5_sets 52 = .ok (.goto 12, 3) := by decide +kernel
theorem dX5_sets_55 : decode cX5_sets 55 = .ok (.aload_n 0, 1) := by decide +kernel
theorem dX5_sets_56 : decode cX5_sets 56 = .ok (.getfield 19, 3) := by decide +kernel
theorem dX5_sets_59 : decode cX5_sets 59 = .ok (.getfield 80, 3) := by decide +kernel
theorem dX5_sets_62 : decode cX5_sets 62 = .ok (.iload_n 1, 1) := by decide +kernel
theorem dX5_sets_63 : decode cX5_sets 63 = .ok (.iaload, 1) := by decide +kernel
theorem dX5_sets_64 : decode cX5_sets 64 = .ok (.ireturn, 1) := by decide +kernel
theorem dX5_sets_65 : decode cX5_sets 65 = .ok (.aload_n 0, 1) := by decide +kernel
theorem dX5_sets_66 : decode cX5_sets 66 = .ok (.getfield 19, 3) := by decide +kernel
theorem dX5_sets_69 : decode cX5_sets 69 = .ok (.iload_n 1, 1) := by decide +kernel
theorem dX5_sets_70 : decode cX5_sets 70 = .ok (.iload_n 2, 1) := by decide +kernel
theorem dX5_sets_71 : decode cX5_sets 71 = .ok (.invokevirtual 84, 3) := by decide +kernel
theorem dX5_sets_74 : decode cX5_sets 74 = .ok (.ireturn, 1) := by decide +kernel
set_option maxRecDepth 20000 in
theorem ggX5_lawOf_X5_isDay : GoodIn wsX5_lawOf wsX5_isDay := goodIn_r _ [5, 6, 7, 4, 8] (by decide +kernel) (by decide +kernel)
set_option maxRecDepth 20000 in
theorem gX5_lawOf_X5_isDay : GoodIn wsX5_lawOf (va_wsS RX5 68 yX5_isDay wsX5_isDay) := goodIn_app (goodIn_of _ (by decide +kernel)) ggX5_lawOf_X5_isDay
set_option maxRecDepth 20000 in
theorem ggX5_lawOf_X2_inForce : GoodIn wsX5_lawOf wsX2_inForce := goodIn_r _ [12, 13, 14, 15, 21, 22, 23, 24, 25, 26, 27] (by decide +kernel) (by decide +kernel)
set_option maxRecDepth 20000 in
theorem gX5_lawOf_X2_inForce_n87 : GoodIn wsX5_lawOf (wsX2_inForce) := ggX5_lawOf_X2_inForce
theorem dX5_lawOf_0 : decode cX5_lawOf 0 = .ok (.iload_n 1, 1) := by decide +kernel
theorem dX5_lawOf_1 : decode cX5_lawOf 1 = .ok (.invokestatic 68, 3) := by decide +kernel
theorem dX5_lawOf_4 : decode cX5_lawOf 4 = .ok (.ifCond .ne 7, 3) := by decide +kernel
theorem dX5_lawOf_7 : decode cX5_lawOf 7 = .ok (.sipush (-1002), 3) := by decide +kernel
theorem dX5_lawOf_10 : decode cX5_lawOf 10 = .ok (.ireturn, 1) := by decide +kernel
theorem dX5_lawOf_11 : decode cX5_lawOf 11 = .ok (.aload_n 0, 1) := by decide +kernel
theorem dX5_lawOf_12 : decode cX5_lawOf 12 = .ok (.getfield 19, 3) := by decide +kernel
theorem dX5_lawOf_15 : decode cX5_lawOf 15 = .ok (.iload_n 1, 1) := by decide +kernel
theorem dX5_lawOf_16 : decode cX5_lawOf 16 = .ok (.invokevirtual 87, 3) := by decide +kernel
theorem dX5_lawOf_19 : decode cX5_lawOf 19 = .ok (.ireturn, 1) := by decide +kernel
set_option maxRecDepth 20000 in
theorem ggX5_line_X5_within : GoodIn wsX5_line wsX5_within := goodIn_r _ [5] (by decide +kernel) (by decide +kernel)
set_option maxRecDepth 20000 in
theorem gX5_line_X5_within : GoodIn wsX5_line (va_wsS RX5 46 yX5_within wsX5_within) := goodIn_app (goodIn_of _ (by decide +kernel)) ggX5_line_X5_within
set_option maxRecDepth 20000 in
theorem ggX5_line_X5_isPerson : GoodIn wsX5_line wsX5_isPerson := goodIn_r _ [9, 10, 2, 3, 4, 5, 28, 29, 30, 31, 32, 41, 42, 43] (by decide +kernel) (by decide +kernel)
set_option maxRecDepth 20000 in
theorem gX5_line_X5_isPerson : GoodIn wsX5_line (wsV RX5 90 RX5 yX5_isPerson wsX5_isPerson) := goodIn_app (goodIn_of _ (by decide +kernel)) ggX5_line_X5_isPerson
set_option maxRecDepth 20000 in
theorem ggX5_line_X5_isQuarter : GoodIn wsX5_line wsX5_isQuarter := goodIn_r _ [13, 2, 3, 4, 5] (by decide +kernel) (by decide +kernel)
set_option maxRecDepth 20000 in
theorem gX5_line_X5_isQuarter : GoodIn wsX5_line (va_wsS RX5 93 yX5_isQuarter wsX5_isQuarter) := goodIn_app (goodIn_of _ (by decide +kernel)) ggX5_line_X5_isQuarter
set_option maxRecDepth 20000 in
theorem ggX5_line_X5_isDay : GoodIn wsX5_line wsX5_isDay := goodIn_r _ [16, 2, 3, 4, 5] (by decide +kernel) (by decide +kernel)
set_option maxRecDepth 20000 in
theorem gX5_line_X5_isDay : GoodIn wsX5_line (va_wsS RX5 68 yX5_isDay wsX5_isDay) := goodIn_app (goodIn_of _ (by decide +kernel)) ggX5_line_X5_isDay
set_option maxRecDepth 20000 in
theorem ggX5_line_X5_fitsSort : GoodIn wsX5_line wsX5_fitsSort := goodIn_r _ [19, 2, 3, 4, 5] (by decide +kernel) (by decide +kernel)
set_option maxRecDepth 20000 in
theorem gX5_line_X5_fitsSort : GoodIn wsX5_line (va_wsS RX5 96 yX5_fitsSort wsX5_fitsSort) := goodIn_app (goodIn_of _ (by decide +kernel)) ggX5_line_X5_fitsSort
set_option maxRecDepth 20000 in
theorem ggX5_line_X0_add : GoodIn wsX5_line wsX0_add := goodIn_r _ [23, 24, 25, 26, 27, 33, 34, 35, 36, 37, 38, 39, 40] (by decide +kernel) (by decide +kernel)
set_option maxRecDepth 20000 in
theorem gX5_line_X0_add_n101 : GoodIn wsX5_line (wsX0_add) := ggX5_line_X0_add
theorem dX5_line_0 : decode cX5_line 0 = .ok (.iload_n 2, 1) := by decide +kernel
theorem dX5_line_1 : decode cX5_line 1 = .ok (.iconst 0, 1) := by decide +kernel
theorem dX5_line_2 : decode cX5_line 2 = .ok (.bipush 6, 2) := by decide +kernel
theorem dX5_line_4 : decode cX5_line 4 = .ok (.invokestatic 46, 3) := by decide +kernel
theorem dX5_line_7 : decode cX5_line 7 = .ok (.ifCond .ne 7, 3) := by decide +kernel
theorem dX5_line_10 : decode cX5_line 10 = .ok (.sipush (-1002), 3) := by decide +kernel
theorem dX5_line_13 : decode cX5_line 13 = .ok (.ireturn, 1) := by decide +kernel
theorem dX5_line_14 : decode cX5_line 14 = .ok (.aload_n 0, 1) := by decide +kernel
theorem dX5_line_15 : decode cX5_line 15 = .ok (.iload_n 3, 1) := by decide +kernel
theorem dX5_line_16 : decode cX5_line 16 = .ok (.invokevirtual 90, 3) := by decide +kernel
theorem dX5_line_19 : decode cX5_line 19 = .ok (.ifCond .ne 7, 3) := by decide +kernel
theorem dX5_line_22 : decode cX5_line 22 = .ok (.sipush (-1001), 3) := by decide +kernel
theorem dX5_line_25 : decode cX5_line 25 = .ok (.ireturn, 1) := by decide +kernel
theorem dX5_line_26 : decode cX5_line 26 = .ok (.iload_n 2, 1) := by decide +kernel
theorem dX5_line_27 : decode cX5_line 27 = .ok (.bipush 6, 2) := by decide +kernel
theorem dX5_line_29 : decode cX5_line 29 = .ok (.if_icmp .ne 15, 3) := by decide +kernel
theorem dX5_line_32 : decode cX5_line 32 = .ok (.aload_n 0, 1) := by decide +kernel
theorem dX5_line_33 : decode cX5_line 33 = .ok (.iload 5, 2) := by decide +kernel
theorem dX5_line_35 : decode cX5_line 35 = .ok (.invokevirtual 90, 3) := by decide +kernel
theorem dX5_line_38 : decode cX5_line 38 = .ok (.ifCond .ne 18, 3) := by decide +kernel
theorem dX5_line_41 : decode cX5_line 41 = .ok (.goto 11, 3) := by decide +kernel
theorem dX5_line_44 : decode cX5_line 44 = .ok (.iload 4, 2) := by decide +kernel
theorem dX5_line_46 : decode cX5_line 46 = .ok (.invokestatic 93, 3) := by decide +kernel
theorem dX5_line_49 : decode cX5_line 49 = .ok (.ifCond .ne 7, 3) := by decide +kernel
theorem dX5_line_52 : decode cX5_line 52 = .ok (.sipush (-1001), 3) := by decide +kernel
theorem dX5_line_55 : decode cX5_line 55 = .ok (.ireturn, 1) := by decide +kernel
theorem dX5_line_56 : decode cX5_line 56 = .ok (.iload_n 1, 1) := by decide +kernel
theorem dX5_line_57 : decode cX5_line 57 = .ok (.invokestatic 68, 3) := by decide +kernel
theorem dX5_line_60 : decode cX5_line 60 = .ok (.ifCond .eq 12, 3) := by decide +kernel
theorem dX5_line_63 : decode cX5_line 63 = .ok (.iload_n 2, 1) := by decide +kernel
theorem dX5_line_64 : decode cX5_line 64 = .ok (.iload 5, 2) := by decide +kernel
theorem dX5_line_66 : decode cX5_line 66 = .ok (.invokestatic 96, 3) := by decide +kernel
theorem dX5_line_69 : decode cX5_line 69 = .ok (.ifCond .ne 7, 3) := by decide +kernel
theorem dX5_line_72 : decode cX5_line 72 = .ok (.sipush (-1002), 3) := by decide +kernel
theorem dX5_line_75 : decode cX5_line 75 = .ok (.ireturn, 1) := by decide +kernel
theorem dX5_line_76 : decode cX5_line 76 = .ok (.aload_n 0, 1) := by decide +kernel
theorem dX5_line_77 : decode cX5_line 77 = .ok (.getfield 26, 3) := by decide +kernel
theorem dX5_line_80 : decode cX5_line 80 = .ok (.getfield 100, 3) := by decide +kernel
theorem dX5_line_83 : decode cX5_line 83 = .ok (.bipush 120, 2) := by decide +kernel
theorem dX5_line_85 : decode cX5_line 85 = .ok (.if_icmp .lt 7, 3) := by decide +kernel
theorem dX5_line_88 : decode cX5_line 88 = .ok (.sipush (-1004), 3) := by decide +kernel
theorem dX5_line_91 : decode cX5_line 91 = .ok (.ireturn, 1) := by decide +kernel
theorem dX5_line_92 : decode cX5_line 92 = .ok (.aload_n 0, 1) := by decide +kernel
theorem dX5_line_93 : decode cX5_line 93 = .ok (.getfield 26, 3) := by decide +kernel
theorem dX5_line_96 : decode cX5_line 96 = .ok (.iload_n 1, 1) := by decide +kernel
theorem dX5_line_97 : decode cX5_line 97 = .ok (.iload_n 2, 1) := by decide +kernel
theorem dX5_line_98 : decode cX5_line 98 = .ok (.invokevirtual 101, 3) := by decide +kernel
theorem dX5_line_101 : decode cX5_line 101 = .ok (.istore 6, 2) := by decide +kernel
theorem dX5_line_103 : decode cX5_line 103 = .ok (.aload_n 0, 1) := by decide +kernel
theorem dX5_line_104 : decode cX5_line 104 = .ok (.getfield 26, 3) := by decide +kernel
theorem dX5_line_107 : decode cX5_line 107 = .ok (.getfield 102, 3) := by decide +kernel
theorem dX5_line_110 : decode cX5_line 110 = .ok (.iload 6, 2) := by decide +kernel
theorem dX5_line_112 : decode cX5_line 112 = .ok (.iload_n 3, 1) := by decide +kernel
theorem dX5_line_113 : decode cX5_line 113 = .ok (.iastore, 1) := by decide +kernel
theorem dX5_line_114 : decode cX5_line 114 = .ok (.aload_n 0, 1) := by decide +kernel
theorem dX5_line_115 : decode cX5_line 115 = .ok (.getfield 26, 3) := by decide +kernel
theorem dX5_line_118 : decode cX5_line 118 = .ok (.getfield 105, 3) := by decide +kernel
theorem dX5_line_121 : decode cX5_line 121 = .ok (.iload 6, 2) := by decide +kernel
theorem dX5_line_123 : decode cX5_line 123 = .ok (.iload 4, 2) := by decide +kernel
theorem dX5_line_125 : decode cX5_line 125 = .ok (.iastore, 1) := by decide +kernel
theorem dX5_line_126 : decode cX5_line 126 = .ok (.aload_n 0, 1) := by decide +kernel
theorem dX5_line_127 : decode cX5_line 127 = .ok (.getfield 26, 3) := by decide +kernel
theorem dX5_line_130 : decode cX5_line 130 = .ok (.getfield 108, 3) := by decide +kernel
theorem dX5_line_133 : decode cX5_line 133 = .ok (.iload 6, 2) := by decide +kernel
theorem dX5_line_135 : decode cX5_line 135 = .ok (.iload 5, 2) := by decide +kernel
theorem dX5_line_137 : decode cX5_line 137 = .ok (.iastore, 1) := by decide +kernel
theorem dX5_line_138 : decode cX5_line 138 = .ok (.iload 6, 2) := by decide +kernel
theorem dX5_line_140 : decode cX5_line 140 = .ok (.ireturn, 1) := by decide +kernel
set_option maxRecDepth 20000 in
theorem ggX5_strike_X5_isLine : GoodIn wsX5_strike wsX5_isLine := goodIn_r _ [6, 1, 7, 8, 5, 9, 10, 11, 12, 13, 14, 15, 16, 17, 18, 19, 20, 21, 22] (by decide +kernel) (by decide +kernel)
set_option maxRecDepth 20000 in
theorem gX5_strike_X5_isLine : GoodIn wsX5_strike (wsV RX5 111 RX5 yX5_isLine wsX5_isLine) := goodIn_app (goodIn_of _ (by decide +kernel)) ggX5_strike_X5_isLine
theorem dX5_strike_0 : decode cX5_strike 0 = .ok (.aload_n 0, 1) := by decide +kernel
theorem dX5_strike_1 : decode cX5_strike 1 = .ok (.iload_n 1, 1) := by decide +kernel
theorem dX5_strike_2 : decode cX5_strike 2 = .ok (.invokevirtual 111, 3) := by decide +kernel
theorem dX5_strike_5 : decode cX5_strike 5 = .ok (.ifCond .ne 7, 3) := by decide +kernel
theorem dX5_strike_8 : decode cX5_strike 8 = .ok (.sipush (-1001), 3) := by decide +kernel
theorem dX5_strike_11 : decode cX5_strike 11 = .ok (.ireturn, 1) := by decide +kernel
theorem dX5_strike_12 : decode cX5_strike 12 = .ok (.aload_n 0, 1) := by decide +kernel
theorem dX5_strike_13 : decode cX5_strike 13 = .ok (.getfield 26, 3) := by decide +kernel
theorem dX5_strike_16 : decode cX5_strike 16 = .ok (.getfield 114, 3) := by decide +kernel
theorem dX5_strike_19 : decode cX5_strike 19 = .ok (.iload_n 1, 1) := by decide +kernel
theorem dX5_strike_20 : decode cX5_strike 20 = .ok (.baload, 1) := by decide +kernel
theorem dX5_strike_21 : decode cX5_strike 21 = .ok (.ifCond .eq 7, 3) := by decide +kernel
theorem dX5_strike_24 : decode cX5_strike 24 = .ok (.iconst 1, 1) := by decide +kernel
theorem dX5_strike_25 : decode cX5_strike 25 = .ok (.goto 4, 3) := by decide +kernel
theorem dX5_strike_28 : decode cX5_strike 28 = .ok (.iconst 0, 1) := by decide +kernel
theorem dX5_strike_29 : decode cX5_strike 29 = .ok (.istore_n 3, 1) := by decide +kernel
theorem dX5_strike_30 : decode cX5_strike 30 = .ok (.aload_n 0, 1) := by decide +kernel
theorem dX5_strike_31 : decode cX5_strike 31 = .ok (.getfield 26, 3) := by decide +kernel
theorem dX5_strike_34 : decode cX5_strike 34 = .ok (.getfield 114, 3) := by decide +kernel
theorem dX5_strike_37 : decode cX5_strike 37 = .ok (.iload_n 1, 1) := by decide +kernel
theorem dX5_strike_38 : decode cX5_strike 38 = .ok (.iload_n 2, 1) := by decide +kernel
theorem dX5_strike_39 : decode cX5_strike 39 = .ok (.bastore, 1) := by decide +kernel
theorem dX5_strike_40 : decode cX5_strike 40 = .ok (.iload_n 3, 1) := by decide +kernel
theorem dX5_strike_41 : decode cX5_strike 41 = .ok (.ireturn, 1) := by decide +kernel
set_option maxRecDepth 20000 in
theorem ggX5_told_X5_isLine : GoodIn wsX5_told wsX5_isLine := goodIn_r _ [6, 1, 7, 8, 5, 9, 10, 11, 12, 13, 14, 15, 16, 17, 18, 19, 20, 21, 22] (by decide +kernel) (by decide +kernel)
set_option maxRecDepth 20000 in
theorem gX5_told_X5_isLine : GoodIn wsX5_told (wsV RX5 111 RX5 yX5_isLine wsX5_isLine) := goodIn_app (goodIn_of _ (by decide +kernel)) ggX5_told_X5_isLine
theorem dX5_told_0 : decode cX5_told 0 = .ok (.aload_n 0, 1) := by decide +kernel
theorem dX5_told_1 : decode cX5_told 1 = .ok (.iload_n 1, 1) := by decide +kernel
theorem dX5_told_2 : decode cX5_told 2 = .ok (.invokevirtual 111, 3) := by decide +kernel
theorem dX5_told_5 : decode cX5_told 5 = .ok (.ifCond .ne 7, 3) := by decide +kernel
theorem dX5_told_8 : decode cX5_told 8 = .ok (.sipush (-1001), 3) := by decide +kernel
theorem dX5_told_11 : decode cX5_told 11 = .ok (.ireturn, 1) := by decide +kernel
theorem dX5_told_12 : decode cX5_told 12 = .ok (.iload_n 2, 1) := by decide +kernel
theorem dX5_told_13 : decode cX5_told 13 = .ok (.tableswitch 107 0 5 #[39, 49, 59, 69, 79, 89], 39) := by decide +kernel
theorem dX5_told_52 : decode cX5_told 52 = .ok (.aload_n 0, 1) := by decide +kernel
theorem dX5_told_53 : decode cX5_told 53 = .ok (.getfield 26, 3) := by decide +kernel
theorem dX5_told_56 : decode cX5_told 56 = .ok (.getfield 118, 3) := by decide +kernel
theorem dX5_told_59 : decode cX5_told 59 = .ok (.iload_n 1, 1) := by decide +kernel
theorem dX5_told_60 : decode cX5_told 60 = .ok (.iaload, 1) := by decide +kernel
theorem dX5_told_61 : decode cX5_told 61 = .ok (.ireturn, 1) := by decide +kernel
theorem dX5_told_62 : decode cX5_told 62 = .ok (.aload_n 0, 1) := by decide +kernel
theorem dX5_told_63 : decode cX5_told 63 = .ok (.getfield 26, 3) := by decide +kernel
theorem dX5_told_66 : decode cX5_told 66 = .ok (.getfield 121, 3) := by decide +kernel
theorem dX5_told_69 : decode cX5_told 69 = .ok (.iload_n 1, 1) := by decide +kernel
theorem dX5_told_70 : decode cX5_told 70 = .ok (.iaload, 1) := by decide +kernel
theorem dX5_told_71 : decode cX5_told 71 = .ok (.ireturn, 1) := by decide +kernel
theorem dX5_told_72 : decode cX5_told 72 = .ok (.aload_n 0, 1) := by decide +kernel
theorem dX5_told_73 : decode cX5_told 73 = .ok (.getfield 26, 3) := by decide +kernel
theorem dX5_told_76 : decode cX5_told 76 = .ok (.getfield 102, 3) := by decide +kernel
theorem dX5_told_79 : decode cX5_told 79 = .ok (.iload_n 1, 1) := by decide +kernel
theorem dX5_told_80 : decode cX5_told 80 = .ok (.iaload, 1) := by decide +kernel
theorem dX5_told_81 : decode cX5_told 81 = .ok (.ireturn, 1) := by decide +kernel
theorem dX5_told_82 : decode cX5_told 82 = .ok (.aload_n 0, 1) := by decide +kernel
theorem dX5_told_83 : decode cX5_told 83 = .ok (.getfield 26, 3) := by decide +kernel
theorem dX5_told_86 : decode cX5_told 86 = .ok (.getfield 105, 3) := by decide +kernel
theorem dX5_told_89 : decode cX5_told 89 = .ok (.iload_n 1, 1) := by decide +kernel
theorem dX5_told_90 : decode cX5_told 90 = .ok (.iaload, 1) := by decide +kernel
theorem dX5_told_91 : decode cX5_told 91 = .ok (.ireturn, 1) := by decide +kernel
theorem dX5_told_92 : decode cX5_told 92 = .ok (.aload_n 0, 1) := by decide +kernel
theorem dX5_told_93 : decode cX5_told 93 = .ok (.getfield 26, 3) := by decide +kernel
theorem dX5_told_96 : decode cX5_told 96 = .ok (.getfield 108, 3) := by decide +kernel
theorem dX5_told_99 : decode cX5_told 99 = .ok (.iload_n 1, 1) := by decide +kernel
theorem dX5_told_100 : decode cX5_told 100 = .ok (.iaload, 1) := by decide +kernel
theorem dX5_told_101 : decode cX5_told 101 = .ok (.ireturn, 1) := by decide +kernel
theorem dX5_told_102 : decode cX5_told 102 = .ok (.aload_n 0, 1) := by decide +kernel
theorem dX5_told_103 : decode cX5_told 103 = .ok (.getfield 26, 3) := by decide +kernel
theorem dX5_told_106 : decode cX5_told 106 = .ok (.getfield 114, 3) := by decide +kernel
theorem dX5_told_109 : decode cX5_told 109 = .ok (.iload_n 1, 1) := by decide +kernel
theorem dX5_told_110 : decode cX5_told 110 = .ok (.baload, 1) := by decide +kernel
theorem dX5_told_111 : decode cX5_told 111 = .ok (.ifCond .eq 7, 3) := by decide +kernel
theorem dX5_told_114 : decode cX5_told 114 = .ok (.iconst 1, 1) := by decide +kernel
theorem dX5_told_115 : decode cX5_told 115 = .ok (.goto 4, 3) := by decide +kernel
theorem dX5_told_118 : decode cX5_told 118 = .ok (.iconst 0, 1) := by decide +kernel
theorem dX5_told_119 : decode cX5_told 119 = .ok (.ireturn, 1) := by decide +kernel
theorem dX5_told_120 : decode cX5_told 120 = .ok (.sipush (-1002), 3) := by decide +kernel
theorem dX5_told_123 : decode cX5_told 123 = .ok (.ireturn, 1) := by decide +kernel
set_option maxRecDepth 20000 in
theorem ggX5_outcome_X5_isLine : GoodIn wsX5_outcome wsX5_isLine := goodIn_r _ [6, 7, 8, 9, 5, 10, 124, 125, 126, 127, 128, 147, 148, 149, 150, 151, 152, 153, 154] (by decide +kernel) (by decide +kernel)
set_option maxRecDepth 20000 in
theorem gX5_outcome_X5_isLine : GoodIn wsX5_outcome (wsV RX5 111 RX5 yX5_isLine wsX5_isLine) := goodIn_app (goodIn_of _ (by decide +kernel)) ggX5_outcome_X5_isLine
set_option maxRecDepth 20000 in
theorem ggX5_outcome_X5_isKnownBy : GoodIn wsX5_outcome wsX5_isKnownBy := goodIn_r _ [14, 7, 8, 9, 5, 10, 124, 125, 126, 127, 128, 147, 148, 149, 150, 151, 152, 153, 154] (by decide +kernel) (by decide +kernel)
set_option maxRecDepth 20000 in
theorem gX5_outcome_X5_isKnownBy : GoodIn wsX5_outcome (wsV RX5 124 RX5 yX5_isKnownBy wsX5_isKnownBy) := goodIn_app (goodIn_of _ (by decide +kernel)) ggX5_outcome_X5_isKnownBy
set_option maxRecDepth 20000 in
theorem ggX5_outcome_X5_linesOf : GoodIn wsX5_outcome wsX5_linesOf := goodIn_r _ [18, 7, 124, 125, 126, 127, 128, 147, 148, 149, 150, 151, 152, 153, 154] (by decide +kernel) (by decide +kernel)
set_option maxRecDepth 20000 in
theorem gX5_outcome_X5_linesOf : GoodIn wsX5_outcome (wsV RX5 127 RX5 yX5_linesOf wsX5_linesOf) := goodIn_app (goodIn_of _ (by decide +kernel)) ggX5_outcome_X5_linesOf
set_option maxRecDepth 20000 in
theorem ggX5_outcome_X4_through : GoodIn wsX5_outcome wsX4_through := goodIn_r _ [22, 23, 24, 25, 26, 27, 20, 28, 29, 30, 31, 32, 33, 34, 35, 36, 37, 38, 39, 40, 41, 42, 43, 44, 45, 46, 47, 48, 49, 50, 51, 52, 53, 54, 55, 56, 57, 58, 59, 60, 61, 62, 63, 64, 65, 66, 67, 68, 69, 70, 71, 72, 73, 74, 75, 76, 77, 78, 79, 80, 81, 82, 83, 84, 85, 86, 87, 88, 89, 90, 91, 92, 93, 94, 95, 96, 97, 98, 99, 100, 101, 102, 103, 104, 105, 106, 107, 108, 109, 110, 111, 112, 113, 114, 115, 116, 117, 118, 119, 120, 121, 122, 123, 129, 130, 131, 132, 133, 134, 135, 136, 137, 138, 139, 140, 141, 142, 143, 144, 145, 146, 147, 148, 149, 150, 151, 152, 153, 154, 155, 156, 157, 158, 159, 160, 161, 162, 163, 164] (by decide +kernel) (by decide +kernel)
set_option maxRecDepth 20000 in
theorem gX5_outcome_X4_through_n130 : GoodIn wsX5_outcome (wsX4_through) := ggX5_outcome_X4_through
theorem dX5_outcome_0 : decode cX5_outcome 0 = .ok (.aload_n 0, 1) := by decide +kernel
theorem dX5_outcome_1 : decode cX5_outcome 1 = .ok (.iload_n 1, 1) := by decide +kernel
theorem dX5_outcome_2 : decode cX5_outcome 2 = .ok (.invokevirtual 111, 3) := by decide +kernel
theorem dX5_outcome_5 : decode cX5_outcome 5 = .ok (.ifCond .ne 7, 3) := by decide +kernel
theorem dX5_outcome_8 : decode cX5_outcome 8 = .ok (.sipush (-1001), 3) := by decide +kernel
theorem dX5_outcome_11 : decode cX5_outcome 11 = .ok (.ireturn, 1) := by decide +kernel
theorem dX5_outcome_12 : decode cX5_outcome 12 = .ok (.aload_n 0, 1) := by decide +kernel
theorem dX5_outcome_13 : decode cX5_outcome 13 = .ok (.iload_n 2, 1) := by decide +kernel
theorem dX5_outcome_14 : decode cX5_outcome 14 = .ok (.invokevirtual 124, 3) := by decide +kernel
theorem dX5_outcome_17 : decode cX5_outcome 17 = .ok (.ifCond .ne 7, 3) := by decide +kernel
theorem dX5_outcome_20 : decode cX5_outcome 20 = .ok (.sipush (-1002), 3) := by decide +kernel
theorem dX5_outcome_23 : decode cX5_outcome 23 = .ok (.ireturn, 1) := by decide +kernel
theorem dX5_outcome_24 : decode cX5_outcome 24 = .ok (.aload_n 0, 1) := by decide +kernel
theorem dX5_outcome_25 : decode cX5_outcome 25 = .ok (.getfield 35, 3) := by decide +kernel
theorem dX5_outcome_28 : decode cX5_outcome 28 = .ok (.aload_n 0, 1) := by decide +kernel
theorem dX5_outcome_29 : decode cX5_outcome 29 = .ok (.iload_n 2, 1) := by decide +kernel
theorem dX5_outcome_30 : decode cX5_outcome 30 = .ok (.invokevirtual 127, 3) := by decide +kernel
theorem dX5_outcome_33 : decode cX5_outcome 33 = .ok (.sipush 20000, 3) := by decide +kernel
theorem dX5_outcome_36 : decode cX5_outcome 36 = .ok (.invokevirtual 130, 3) := by decide +kernel
theorem dX5_outcome_39 : decode cX5_outcome 39 = .ok (.aload_n 0, 1) := by decide +kernel
theorem dX5_outcome_40 : decode cX5_outcome 40 = .ok (.getfield 35, 3) := by decide +kernel
theorem dX5_outcome_43 : decode cX5_outcome 43 = .ok (.getfield 134, 3) := by decide +kernel
theorem dX5_outcome_46 : decode cX5_outcome 46 = .ok (.iload_n 1, 1) := by decide +kernel
theorem dX5_outcome_47 : decode cX5_outcome 47 = .ok (.iaload, 1) := by decide +kernel
theorem dX5_outcome_48 : decode cX5_outcome 48 = .ok (.ireturn, 1) := by decide +kernel
set_option maxRecDepth 20000 in
theorem ggX5_count_X0_countStruck : GoodIn wsX5_count wsX0_countStruck := goodIn_r _ [7, 8, 9, 148, 149, 150, 151, 152, 153, 154, 155] (by decide +kernel) (by decide +kernel)
set_option maxRecDepth 20000 in
theorem gX5_count_X0_countStruck_n137 : GoodIn wsX5_count (wsX0_countStruck) := ggX5_count_X0_countStruck
set_option maxRecDepth 20000 in
theorem ggX5_count_X5_countOfWork : GoodIn wsX5_count wsX5_countOfWork := goodIn_r _ [14, 15, 3, 16, 17, 13, 18, 19, 20, 21, 22, 23, 24, 25, 26, 27, 28, 29, 30, 31, 32, 33, 34, 35, 36, 37, 38, 39, 40, 41, 42, 43, 44, 45, 46, 47, 48, 49, 50, 51, 52, 53, 54, 55, 56, 57, 58, 59, 60, 61, 62, 63, 64, 65, 66, 67, 68, 69, 70, 71, 72, 73, 74, 75, 76, 77, 78, 79, 80, 81, 82, 83, 84, 85, 86, 87, 88, 89, 90, 91, 92, 93, 94, 95, 96, 97, 98, 99, 100, 101, 102, 103, 104, 105, 106, 107, 108, 109, 110, 111, 112, 113, 114, 115, 116, 117, 118, 119, 120, 121, 122, 123, 124, 125, 126, 127, 128, 129, 130, 131, 132, 133, 134, 135, 136, 137, 148, 149, 150, 151, 152, 153, 154, 155, 156, 157, 158, 159, 160, 161, 162, 163, 164, 165, 166, 167, 168, 169, 170, 171, 172, 173, 138, 139, 140, 141, 142, 143, 144, 145, 146, 147] (by decide +kernel) (by decide +kernel)
set_option maxRecDepth 20000 in
theorem gX5_count_X5_countOfWork : GoodIn wsX5_count (wsV RX5 141 RX5 yX5_countOfWork wsX5_countOfWork) := goodIn_app (goodIn_of _ (by decide +kernel)) ggX5_count_X5_countOfWork
theorem dX5_count_0 : decode cX5_count 0 = .ok (.iload_n 1, 1) := by decide +kernel
theorem dX5_count_1 : decode cX5_count 1 = .ok (.tableswitch 75 0 4 #[35, 43, 51, 59, 67], 35) := by decide +kernel
theorem dX5_count_36 : decode cX5_count 36 = .ok (.aload_n 0, 1) := by decide +kernel
theorem dX5_count_37 : decode cX5_count 37 = .ok (.getfield 12, 3) := by decide +kernel
theorem dX5_count_40 : decode cX5_count 40 = .ok (.getfield 50, 3) := by decide +kernel
theorem dX5_count_43 : decode cX5_count 43 = .ok (.ireturn, 1) := by decide +kernel
theorem dX5_count_44 : decode cX5_count 44 = .ok (.aload_n 0, 1) := by decide +kernel
theorem dX5_count_45 : decode cX5_count 45 = .ok (.getfield 19, 3) := by decide +kernel
theorem dX5_count_48 : decode cX5_count 48 = .ok (.getfield 72, 3) := by decide +kernel
theorem dX5_count_51 : decode cX5_count 51 = .ok (.ireturn, 1) := by decide +kernel
theorem dX5_count_52 : decode cX5_count 52 = .ok (.aload_n 0, 1) := by decide +kernel
theorem dX5_count_53 : decode cX5_count 53 = .ok (.getfield 26, 3) := by decide +kernel
theorem dX5_count_56 : decode cX5_count 56 = .ok (.getfield 100, 3) := by decide +kernel
theorem dX5_count_59 : decode cX5_count 59 = .ok (.ireturn, 1) := by decide +kernel
theorem dX5_count_60 : decode cX5_count 60 = .ok (.aload_n 0, 1) := by decide +kernel
theorem dX5_count_61 : decode cX5_count 61 = .ok (.getfield 26, 3) := by decide +kernel
theorem dX5_count_64 : decode cX5_count 64 = .ok (.invokevirtual 137, 3) := by decide +kernel
theorem dX5_count_67 : decode cX5_count 67 = .ok (.ireturn, 1) := by decide +kernel
theorem dX5_count_68 : decode cX5_count 68 = .ok (.aload_n 0, 1) := by decide +kernel
theorem dX5_count_69 : decode cX5_count 69 = .ok (.getfield 19, 3) := by decide +kernel
theorem dX5_count_72 : decode cX5_count 72 = .ok (.getfield 61, 3) := by decide +kernel
theorem dX5_count_75 : decode cX5_count 75 = .ok (.ireturn, 1) := by decide +kernel
theorem dX5_count_76 : decode cX5_count 76 = .ok (.aload_n 0, 1) := by decide +kernel
theorem dX5_count_77 : decode cX5_count 77 = .ok (.iload_n 1, 1) := by decide +kernel
theorem dX5_count_78 : decode cX5_count 78 = .ok (.invokevirtual 141, 3) := by decide +kernel
theorem dX5_count_81 : decode cX5_count 81 = .ok (.ireturn, 1) := by decide +kernel
set_option maxRecDepth 20000 in
theorem ggX5_countOfWork_X5_within : GoodIn wsX5_countOfWork wsX5_within := goodIn_r _ [6] (by decide +kernel) (by decide +kernel)
set_option maxRecDepth 20000 in
theorem gX5_countOfWork_X5_within : GoodIn wsX5_countOfWork (va_wsS RX5 46 yX5_within wsX5_within) := goodIn_app (goodIn_of _ (by decide +kernel)) ggX5_countOfWork_X5_within
set_option maxRecDepth 20000 in
theorem ggX5_countOfWork_X4_through : GoodIn wsX5_countOfWork wsX4_through := goodIn_r _ [10, 11, 12, 13, 14, 15, 8, 16, 17, 18, 19, 20, 21, 22, 23, 24, 25, 26, 27, 28, 29, 30, 31, 32, 33, 34, 35, 36, 37, 38, 39, 40, 41, 42, 43, 44, 45, 46, 47, 48, 49, 50, 51, 52, 53, 54, 55, 56, 57, 58, 59, 60, 61, 62, 63, 64, 65, 66, 67, 68, 69, 70, 71, 72, 73, 74, 75, 76, 77, 78, 79, 80, 81, 82, 83, 84, 85, 86, 87, 88, 89, 90, 91, 92, 93, 94, 95, 96, 97, 98, 99, 100, 101, 102, 103, 104, 105, 106, 107, 108, 109, 110, 111, 134, 135, 136, 137, 138, 139, 140, 141, 142, 143, 144, 145, 146, 147, 148, 149, 150, 151, 126, 127, 128, 129, 130, 131, 132, 133, 152, 153, 154, 155, 156, 157, 158, 159, 160, 161] (by decide +kernel) (by decide +kernel)
set_option maxRecDepth 20000 in
theorem gX5_countOfWork_X4_through_n130 : GoodIn wsX5_countOfWork (wsX4_through) := ggX5_countOfWork_X4_through
set_option maxRecDepth 20000 in
theorem ggX5_countOfWork_X4_countEntries : GoodIn wsX5_countOfWork wsX4_countEntries := goodIn_r _ [114, 11, 17, 134, 135, 136, 137, 138, 139, 140, 141, 142, 143, 144, 145, 146, 147, 148, 149, 150, 151, 126, 127, 128, 129, 130, 131, 132, 133] (by decide +kernel) (by decide +kernel)
set_option maxRecDepth 20000 in
theorem gX5_countOfWork_X4_countEntries_n144 : GoodIn wsX5_countOfWork (wsX4_countEntries) := ggX5_countOfWork_X4_countEntries
set_option maxRecDepth 20000 in
theorem ggX5_countOfWork_X4_countDead : GoodIn wsX5_countOfWork wsX4_countDead := goodIn_r _ [117, 20, 134, 135, 136, 137, 138, 139, 140, 141, 142, 143, 144, 145, 146, 147, 148, 149, 150, 151] (by decide +kernel) (by decide +kernel)
set_option maxRecDepth 20000 in
theorem gX5_countOfWork_X4_countDead_n147 : GoodIn wsX5_countOfWork (wsX4_countDead) := ggX5_countOfWork_X4_countDead
set_option maxRecDepth 20000 in
theorem ggX5_countOfWork_X4_countNotDone : GoodIn wsX5_countOfWork wsX4_countNotDone := goodIn_r _ [120, 11, 12, 134, 135, 136, 137, 138, 139, 140, 141, 142, 143, 144, 145, 146, 147, 148, 149, 150, 151, 126, 127, 128, 129, 130, 131, 132, 133] (by decide +kernel) (by decide +kernel)
set_option maxRecDepth 20000 in
theorem gX5_countOfWork_X4_countNotDone_n150 : GoodIn wsX5_countOfWork (wsX4_countNotDone) := ggX5_countOfWork_X4_countNotDone
theorem dX5_countOfWork_0 : decode cX5_countOfWork 0 = .ok (.iload_n 1, 1) := by decide +kernel
theorem dX5_countOfWork_1 : decode cX5_countOfWork 1 = .ok (.iconst 5, 1) := by decide +kernel
theorem dX5_countOfWork_2 : decode cX5_countOfWork 2 = .ok (.bipush 10, 2) := by decide +kernel
theorem dX5_countOfWork_4 : decode cX5_countOfWork 4 = .ok (.invokestatic 46, 3) := by decide +kernel
theorem dX5_countOfWork_7 : decode cX5_countOfWork 7 = .ok (.ifCond .ne 7, 3) := by decide +kernel
theorem dX5_countOfWork_10 : decode cX5_countOfWork 10 = .ok (.sipush (-1002), 3) := by decide +kernel
theorem dX5_countOfWork_13 : decode cX5_countOfWork 13 = .ok (.ireturn, 1) := by decide +kernel
theorem dX5_countOfWork_14 : decode cX5_countOfWork 14 = .ok (.aload_n 0, 1) := by decide +kernel
theorem dX5_countOfWork_15 : decode cX5_countOfWork 15 = .ok (.getfield 35, 3) := by decide +kernel
theorem dX5_countOfWork_18 : decode cX5_countOfWork 18 = .ok (.aload_n 0, 1) := by decide +kernel
theorem dX5_countOfWork_19 : decode cX5_countOfWork 19 = .ok (.getfield 26, 3) := by decide +kernel
theorem dX5_countOfWork_22 : decode cX5_countOfWork 22 = .ok (.getfield 100, 3) := by decide +kernel
theorem dX5_countOfWork_25 : decode cX5_countOfWork 25 = .ok (.sipush 20000, 3) := by decide +kernel
theorem dX5_countOfWork_28 : decode cX5_countOfWork 28 = .ok (.invokevirtual 130, 3) := by decide +kernel
theorem dX5_countOfWork_31 : decode cX5_countOfWork 31 = .ok (.iload_n 1, 1) := by decide +kernel
theorem dX5_countOfWork_32 : decode cX5_countOfWork 32 = .ok (.tableswitch 98 5 9 #[36, 63, 72, 81, 90], 36) := by decide +kernel
theorem dX5_countOfWork_68 : decode cX5_countOfWork 68 = .ok (.aload_n 0, 1) := by decide +kernel
theorem dX5_countOfWork_69 : decode cX5_countOfWork 69 = .ok (.getfield 35, 3) := by decide +kernel
theorem dX5_countOfWork_72 : decode cX5_countOfWork 72 = .ok (.iconst 1, 1) := by decide +kernel
theorem dX5_countOfWork_73 : decode cX5_countOfWork 73 = .ok (.invokevirtual 144, 3) := by decide +kernel
theorem dX5_countOfWork_76 : decode cX5_countOfWork 76 = .ok (.aload_n 0, 1) := by decide +kernel
theorem dX5_countOfWork_77 : decode cX5_countOfWork 77 = .ok (.getfield 35, 3) := by decide +kernel
theorem dX5_countOfWork_80 : decode cX5_countOfWork 80 = .ok (.iconst 2, 1) := by decide +kernel
theorem dX5_countOfWork_81 : decode cX5_countOfWork 81 = .ok (.invokevirtual 144, 3) := by decide +kernel
theorem dX5_countOfWork_84 : decode cX5_countOfWork 84 = .ok (.iadd, 1) := by decide +kernel
theorem dX5_countOfWork_85 : decode cX5_countOfWork 85 = .ok (.aload_n 0, 1) := by decide +kernel
theorem dX5_countOfWork_86 : decode cX5_countOfWork 86 = .ok (.getfield 35, 3) := by decide +kernel
theorem dX5_countOfWork_89 : decode cX5_countOfWork 89 = .ok (.iconst 3, 1) := by decide +kernel
theorem dX5_countOfWork_90 : decode cX5_countOfWork 90 = .ok (.invokevirtual 144, 3) := by decide +kernel
theorem dX5_countOfWork_93 : decode cX5_countOfWork 93 = .ok (.iadd, 1) := by decide +kernel
theorem dX5_countOfWork_94 : decode cX5_countOfWork 94 = .ok (.ireturn, 1) := by decide +kernel
theorem dX5_countOfWork_95 : decode cX5_countOfWork 95 = .ok (.aload_n 0, 1) := by decide +kernel
theorem dX5_countOfWork_96 : decode cX5_countOfWork 96 = .ok (.getfield 35, 3) := by decide +kernel
theorem dX5_countOfWork_99 : decode cX5_countOfWork 99 = .ok (.iconst 1, 1) := by decide +kernel
theorem dX5_countOfWork_100 : decode cX5_countOfWork 100 = .ok (.invokevirtual 144, 3) := by decide +kernel
theorem dX5_countOfWork_103 : decode cX5_countOfWork 103 = .ok (.ireturn, 1) := by decide +kernel
theorem dX5_countOfWork_104 : decode cX5_countOfWork 104 = .ok (.aload_n 0, 1) := by decide +kernel
theorem dX5_countOfWork_105 : decode cX5_countOfWork 105 = .ok (.getfield 35, 3) := by decide +kernel
theorem dX5_countOfWork_108 : decode cX5_countOfWork 108 = .ok (.iconst 2, 1) := by decide +kernel
theorem dX5_countOfWork_109 : decode cX5_countOfWork 109 = .ok (.invokevirtual 144, 3) := by decide +kernel
theorem dX5_countOfWork_112 : decode cX5_countOfWork 112 = .ok (.ireturn, 1) := by decide +kernel
theorem dX5_countOfWork_113 : decode cX5_countOfWork 113 = .ok (.aload_n 0, 1) := by decide +kernel
theorem dX5_countOfWork_114 : decode cX5_countOfWork 114 = .ok (.getfield 35, 3) := by decide +kernel
theorem dX5_countOfWork_117 : decode cX5_countOfWork 117 = .ok (.iconst 3, 1) := by decide +kernel
theorem dX5_countOfWork_118 : decode cX5_countOfWork 118 = .ok (.invokevirtual 144, 3) := by decide +kernel
theorem dX5_countOfWork_121 : decode cX5_countOfWork 121 = .ok (.ireturn, 1) := by decide +kernel
theorem dX5_countOfWork_122 : decode cX5_countOfWork 122 = .ok (.aload_n 0, 1) := by decide +kernel
theorem dX5_countOfWork_123 : decode cX5_countOfWork 123 = .ok (.getfield 35, 3) := by decide +kernel
theorem dX5_countOfWork_126 : decode cX5_countOfWork 126 = .ok (.invokevirtual 147, 3) := by decide +kernel
theorem dX5_countOfWork_129 : decode cX5_countOfWork 129 = .ok (.ireturn, 1) := by decide +kernel
theorem dX5_countOfWork_130 : decode cX5_countOfWork 130 = .ok (.aload_n 0, 1) := by decide +kernel
theorem dX5_countOfWork_131 : decode cX5_countOfWork 131 = .ok (.getfield 35, 3) := by decide +kernel
theorem dX5_countOfWork_134 : decode cX5_countOfWork 134 = .ok (.invokevirtual 150, 3) := by decide +kernel
theorem dX5_countOfWork_137 : decode cX5_countOfWork 137 = .ok (.ireturn, 1) := by decide +kernel
set_option maxRecDepth 20000 in
theorem ggX5_holds_X5_isQuarter : GoodIn wsX5_holds wsX5_isQuarter := goodIn_r _ [5, 6, 7, 4, 8] (by decide +kernel) (by decide +kernel)
set_option maxRecDepth 20000 in
theorem gX5_holds_X5_isQuarter : GoodIn wsX5_holds (va_wsS RX5 93 yX5_isQuarter wsX5_isQuarter) := goodIn_app (goodIn_of _ (by decide +kernel)) ggX5_holds_X5_isQuarter
set_option maxRecDepth 20000 in
theorem ggX5_holds_X5_isDay : GoodIn wsX5_holds wsX5_isDay := goodIn_r _ [11, 6, 7, 4, 8] (by decide +kernel) (by decide +kernel)
set_option maxRecDepth 20000 in
theorem gX5_holds_X5_isDay : GoodIn wsX5_holds (va_wsS RX5 68 yX5_isDay wsX5_isDay) := goodIn_app (goodIn_of _ (by decide +kernel)) ggX5_holds_X5_isDay
set_option maxRecDepth 20000 in
theorem ggX5_holds_X5_isKnownBy : GoodIn wsX5_holds wsX5_isKnownBy := goodIn_r _ [15, 16, 6, 7, 4, 8, 132, 133, 134, 135, 136, 155, 156, 157, 158, 159, 160, 161, 162] (by decide +kernel) (by decide +kernel)
set_option maxRecDepth 20000 in
theorem gX5_holds_X5_isKnownBy : GoodIn wsX5_holds (wsV RX5 124 RX5 yX5_isKnownBy wsX5_isKnownBy) := goodIn_app (goodIn_of _ (by decide +kernel)) ggX5_holds_X5_isKnownBy
set_option maxRecDepth 20000 in
theorem ggX5_holds_X5_within : GoodIn wsX5_holds wsX5_within := goodIn_r _ [8] (by decide +kernel) (by decide +kernel)
set_option maxRecDepth 20000 in
theorem gX5_holds_X5_within : GoodIn wsX5_holds (va_wsS RX5 46 yX5_within wsX5_within) := goodIn_app (goodIn_of _ (by decide +kernel)) ggX5_holds_X5_within
set_option maxRecDepth 20000 in
theorem ggX5_holds_X5_linesOf : GoodIn wsX5_holds wsX5_linesOf := goodIn_r _ [20, 16, 132, 133, 134, 135, 136, 155, 156, 157, 158, 159, 160, 161, 162] (by decide +kernel) (by decide +kernel)
set_option maxRecDepth 20000 in
theorem gX5_holds_X5_linesOf : GoodIn wsX5_holds (wsV RX5 127 RX5 yX5_linesOf wsX5_linesOf) := goodIn_app (goodIn_of _ (by decide +kernel)) ggX5_holds_X5_linesOf
set_option maxRecDepth 20000 in
theorem ggX5_holds_X4_through : GoodIn wsX5_holds wsX4_through := goodIn_r _ [24, 25, 26, 27, 28, 29, 22, 30, 31, 32, 33, 34, 35, 36, 37, 38, 39, 40, 41, 42, 43, 44, 45, 46, 47, 48, 49, 50, 51, 52, 53, 54, 55, 56, 57, 58, 59, 60, 61, 62, 63, 64, 65, 66, 67, 68, 69, 70, 71, 72, 73, 74, 75, 76, 77, 78, 79, 80, 81, 82, 83, 84, 85, 86, 87, 88, 89, 90, 91, 92, 93, 94, 95, 96, 97, 98, 99, 100, 101, 102, 103, 104, 105, 106, 107, 108, 109, 110, 111, 112, 113, 114, 115, 116, 117, 118, 119, 120, 121, 122, 123, 124, 125, 137, 138, 139, 140, 141, 142, 143, 144, 145, 146, 147, 148, 149, 150, 151, 152, 153, 154, 155, 156, 157, 158, 159, 160, 161, 162, 163, 164, 165, 166, 167, 168, 169, 170, 171, 172] (by decide +kernel) (by decide +kernel)
set_option maxRecDepth 20000 in
theorem gX5_holds_X4_through_n130 : GoodIn wsX5_holds (wsX4_through) := ggX5_holds_X4_through
set_option maxRecDepth 20000 in
theorem ggX5_holds_X4_holderOf : GoodIn wsX5_holds wsX4_holderOf := goodIn_r _ [125, 32, 46, 137, 138, 139, 140, 141, 142, 143, 144, 145, 146, 147, 148, 149, 150, 151, 152, 153, 154] (by decide +kernel) (by decide +kernel)
set_option maxRecDepth 20000 in
theorem gX5_holds_X4_holderOf_n153 : GoodIn wsX5_holds (wsX4_holderOf) := ggX5_holds_X4_holderOf
set_option maxRecDepth 20000 in
theorem ggX5_holds_X4_standing : GoodIn wsX5_holds wsX4_standing := goodIn_r _ [128, 32, 31, 113, 62, 63, 64, 22, 65, 66, 137, 138, 139, 140, 141, 142, 143, 144, 145, 146, 147, 148, 149, 150, 151, 152, 153, 154] (by decide +kernel) (by decide +kernel)
set_option maxRecDepth 20000 in
theorem gX5_holds_X4_standing_n156 : GoodIn wsX5_holds (wsX4_standing) := ggX5_holds_X4_standing
set_option maxRecDepth 20000 in
theorem ggX5_holds_X4_preferredOn : GoodIn wsX5_holds wsX4_preferredOn := goodIn_r _ [70, 33, 71, 137, 138, 139, 140, 141, 142, 143, 144, 145, 146, 147, 148, 149, 150, 151, 152, 153, 154] (by decide +kernel) (by decide +kernel)
set_option maxRecDepth 20000 in
theorem gX5_holds_X4_preferredOn_n162 : GoodIn wsX5_holds (wsX4_preferredOn) := ggX5_holds_X4_preferredOn
set_option maxRecDepth 20000 in
theorem ggX5_holds_X4_daysLived : GoodIn wsX5_holds wsX4_daysLived := goodIn_r _ [131, 32, 25, 92, 93, 94, 95, 22, 96, 97, 98, 99, 100, 101, 102, 103, 104, 105, 106, 107, 108, 26, 47, 137, 138, 139, 140, 141, 142, 143, 144, 145, 146, 147, 148, 149, 150, 151, 152, 153, 154, 155, 156, 157, 158, 159, 160, 161, 162] (by decide +kernel) (by decide +kernel)
set_option maxRecDepth 20000 in
theorem gX5_holds_X4_daysLived_n165 : GoodIn wsX5_holds (wsX4_daysLived) := ggX5_holds_X4_daysLived
set_option maxRecDepth 20000 in
theorem ggX5_holds_X4_acres : GoodIn wsX5_holds wsX4_acres := goodIn_r _ [117, 32, 49, 25, 105, 106, 107, 22, 108, 26, 47, 137, 138, 139, 140, 141, 142, 143, 144, 145, 146, 147, 148, 149, 150, 151, 152, 153, 154, 155, 156, 157, 158, 159, 160, 161, 162] (by decide +kernel) (by decide +kernel)
set_option maxRecDepth 20000 in
theorem gX5_holds_X4_acres_n168 : GoodIn wsX5_holds (wsX4_acres) := ggX5_holds_X4_acres
theorem dX5_holds_0 : decode cX5_holds 0 = .ok (.iload_n 1, 1) := by decide +kernel
theorem dX5_holds_1 : decode cX5_holds 1 = .ok (.invokestatic 93, 3) := by decide +kernel
theorem dX5_holds_4 : decode cX5_holds 4 = .ok (.ifCond .ne 7, 3) := by decide +kernel
theorem dX5_holds_7 : decode cX5_holds 7 = .ok (.sipush (-1001), 3) := by decide +kernel
theorem dX5_holds_10 : decode cX5_holds 10 = .ok (.ireturn, 1) := by decide +kernel
theorem dX5_holds_11 : decode cX5_holds 11 = .ok (.iload_n 2, 1) := by decide +kernel
theorem dX5_holds_12 : decode cX5_holds 12 = .ok (.invokestatic 68, 3) := by decide +kernel
theorem dX5_holds_15 : decode cX5_holds 15 = .ok (.ifCond .eq 21, 3) := by decide +kernel
theorem dX5_holds_18 : decode cX5_holds 18 = .ok (.aload_n 0, 1) := by decide +kernel
theorem dX5_holds_19 : decode cX5_holds 19 = .ok (.iload_n 3, 1) := by decide +kernel
theorem dX5_holds_20 : decode cX5_holds 20 = .ok (.invokevirtual 124, 3) := by decide +kernel
theorem dX5_holds_23 : decode cX5_holds 23 = .ok (.ifCond .eq 13, 3) := by decide +kernel
theorem dX5_holds_26 : decode cX5_holds 26 = .ok (.iload 4, 2) := by decide +kernel
theorem dX5_holds_28 : decode cX5_holds 28 = .ok (.iconst 0, 1) := by decide +kernel
theorem dX5_holds_29 : decode cX5_holds 29 = .ok (.iconst 5, 1) := by decide +kernel
theorem dX5_holds_30 : decode cX5_holds 30 = .ok (.invokestatic 46, 3) := by decide +kernel
theorem dX5_holds_33 : decode cX5_holds 33 = .ok (.ifCond .ne 7, 3) := by decide +kernel
theorem dX5_holds_36 : decode cX5_holds 36 = .ok (.sipush (-1002), 3) := by decide +kernel
theorem dX5_holds_39 : decode cX5_holds 39 = .ok (.ireturn, 1) := by decide +kernel
theorem dX5_holds_40 : decode cX5_holds 40 = .ok (.aload_n 0, 1) := by decide +kernel
theorem dX5_holds_41 : decode cX5_holds 41 = .ok (.getfield 35, 3) := by decide +kernel
theorem dX5_holds_44 : decode cX5_holds 44 = .ok (.aload_n 0, 1) := by decide +kernel
theorem dX5_holds_45 : decode cX5_holds 45 = .ok (.iload_n 3, 1) := by decide +kernel
theorem dX5_holds_46 : decode cX5_holds 46 = .ok (.invokevirtual 127, 3) := by decide +kernel
theorem dX5_holds_49 : decode cX5_holds 49 = .ok (.iload_n 2, 1) := by decide +kernel
theorem dX5_holds_50 : decode cX5_holds 50 = .ok (.invokevirtual 130, 3) := by decide +kernel
theorem dX5_holds_53 : decode cX5_holds 53 = .ok (.iload 4, 2) := by decide +kernel
theorem dX5_holds_55 : decode cX5_holds 55 = .ok (.tableswitch 82 0 4 #[33, 42, 52, 62, 72], 33) := by decide +kernel
theorem dX5_holds_88 : decode cX5_holds 88 = .ok (.aload_n 0, 1) := by decide +kernel
theorem dX5_holds_89 : decode cX5_holds 89 = .ok (.getfield 35, 3) := by decide +kernel
theorem dX5_holds_92 : decode cX5_holds 92 = .ok (.iload_n 1, 1) := by decide +kernel
theorem dX5_holds_93 : decode cX5_holds 93 = .ok (.invokevirtual 153, 3) := by decide +kernel
theorem dX5_holds_96 : decode cX5_holds 96 = .ok (.ireturn, 1) := by decide +kernel
theorem dX5_holds_97 : decode cX5_holds 97 = .ok (.aload_n 0, 1) := by decide +kernel
theorem dX5_holds_98 : decode cX5_holds 98 = .ok (.getfield 35, 3) := by decide +kernel
theorem dX5_holds_101 : decode cX5_holds 101 = .ok (.iload_n 1, 1) := by decide +kernel
theorem dX5_holds_102 : decode cX5_holds 102 = .ok (.iload_n 2, 1) := by decide +kernel
theorem dX5_holds_103 : decode cX5_holds 103 = .ok (.invokevirtual 156, 3) := by decide +kernel
theorem dX5_holds_106 : decode cX5_holds 106 = .ok (.ireturn, 1) := by decide +kernel
theorem dX5_holds_107 : decode cX5_holds 107 = .ok (.aload_n 0, 1) := by decide +kernel
theorem dX5_holds_108 : decode cX5_holds 108 = .ok (.getfield 35, 3) := by decide +kernel
theorem dX5_holds_111 : decode cX5_holds 111 = .ok (.getfield 159, 3) := by decide +kernel
theorem dX5_holds_114 : decode cX5_holds 114 = .ok (.iload_n 1, 1) := by decide +kernel
theorem dX5_holds_115 : decode cX5_holds 115 = .ok (.iaload, 1) := by decide +kernel
theorem dX5_holds_116 : decode cX5_holds 116 = .ok (.ireturn, 1) := by decide +kernel
theorem dX5_holds_117 : decode cX5_holds 117 = .ok (.aload_n 0, 1) := by decide +kernel
theorem dX5_holds_118 : decode cX5_holds 118 = .ok (.getfield 35, 3) := by decide +kernel
theorem dX5_holds_121 : decode cX5_holds 121 = .ok (.iload_n 1, 1) := by decide +kernel
theorem dX5_holds_122 : decode cX5_holds 122 = .ok (.iload_n 2, 1) := by decide +kernel
theorem dX5_holds_123 : decode cX5_holds 123 = .ok (.invokevirtual 162, 3) := by decide +kernel
theorem dX5_holds_126 : decode cX5_holds 126 = .ok (.ireturn, 1) := by decide +kernel
theorem dX5_holds_127 : decode cX5_holds 127 = .ok (.aload_n 0, 1) := by decide +kernel
theorem dX5_holds_128 : decode cX5_holds 128 = .ok (.getfield 35, 3) := by decide +kernel
theorem dX5_holds_131 : decode cX5_holds 131 = .ok (.iload_n 1, 1) := by decide +kernel
theorem dX5_holds_132 : decode cX5_holds 132 = .ok (.iload_n 2, 1) := by decide +kernel
theorem dX5_holds_133 : decode cX5_holds 133 = .ok (.invokevirtual 165, 3) := by decide +kernel
theorem dX5_holds_136 : decode cX5_holds 136 = .ok (.ireturn, 1) := by decide +kernel
theorem dX5_holds_137 : decode cX5_holds 137 = .ok (.aload_n 0, 1) := by decide +kernel
theorem dX5_holds_138 : decode cX5_holds 138 = .ok (.getfield 35, 3) := by decide +kernel
theorem dX5_holds_141 : decode cX5_holds 141 = .ok (.iload_n 1, 1) := by decide +kernel
theorem dX5_holds_142 : decode cX5_holds 142 = .ok (.invokevirtual 168, 3) := by decide +kernel
theorem dX5_holds_145 : decode cX5_holds 145 = .ok (.ireturn, 1) := by decide +kernel
set_option maxRecDepth 20000 in
theorem ggX5_holdings_X5_isPerson : GoodIn wsX5_holdings wsX5_isPerson := goodIn_r _ [6, 7, 8, 9, 5, 10, 125, 126, 127, 128, 129, 130, 131, 132] (by decide +kernel) (by decide +kernel)
set_option maxRecDepth 20000 in
theorem gX5_holdings_X5_isPerson : GoodIn wsX5_holdings (wsV RX5 90 RX5 yX5_isPerson wsX5_isPerson) := goodIn_app (goodIn_of _ (by decide +kernel)) ggX5_holdings_X5_isPerson
set_option maxRecDepth 20000 in
theorem ggX5_holdings_X5_isKnownBy : GoodIn wsX5_holdings wsX5_isKnownBy := goodIn_r _ [14, 15, 8, 9, 5, 10, 125, 126, 127, 128, 129, 133, 134, 135, 136, 137, 138, 139, 140] (by decide +kernel) (by decide +kernel)
set_option maxRecDepth 20000 in
theorem gX5_holdings_X5_isKnownBy : GoodIn wsX5_holdings (wsV RX5 124 RX5 yX5_isKnownBy wsX5_isKnownBy) := goodIn_app (goodIn_of _ (by decide +kernel)) ggX5_holdings_X5_isKnownBy
set_option maxRecDepth 20000 in
theorem ggX5_holdings_X5_linesOf : GoodIn wsX5_holdings wsX5_linesOf := goodIn_r _ [19, 15, 125, 126, 127, 128, 129, 133, 134, 135, 136, 137, 138, 139, 140] (by decide +kernel) (by decide +kernel)
set_option maxRecDepth 20000 in
theorem gX5_holdings_X5_linesOf : GoodIn wsX5_holdings (wsV RX5 127 RX5 yX5_linesOf wsX5_linesOf) := goodIn_app (goodIn_of _ (by decide +kernel)) ggX5_holdings_X5_linesOf
set_option maxRecDepth 20000 in
theorem ggX5_holdings_X4_through : GoodIn wsX5_holdings wsX4_through := goodIn_r _ [23, 24, 25, 26, 27, 28, 21, 29, 30, 31, 32, 33, 34, 35, 36, 37, 38, 39, 40, 41, 42, 43, 44, 45, 46, 47, 48, 49, 50, 51, 52, 53, 54, 55, 56, 57, 58, 59, 60, 61, 62, 63, 64, 65, 66, 67, 68, 69, 70, 71, 72, 73, 74, 75, 76, 77, 78, 79, 80, 81, 82, 83, 84, 85, 86, 87, 88, 89, 90, 91, 92, 93, 94, 95, 96, 97, 98, 99, 100, 101, 102, 103, 104, 105, 106, 107, 108, 109, 110, 111, 112, 113, 114, 115, 116, 117, 118, 119, 120, 121, 122, 123, 124, 141, 142, 143, 144, 145, 146, 147, 148, 149, 150, 151, 152, 153, 154, 155, 156, 157, 158, 133, 134, 135, 136, 137, 138, 139, 140, 130, 131, 132, 159, 160, 161, 162, 163, 164, 165] (by decide +kernel) (by decide +kernel)
set_option maxRecDepth 20000 in
theorem gX5_holdings_X4_through_n130 : GoodIn wsX5_holdings (wsX4_through) := ggX5_holdings_X4_through
set_option maxRecDepth 20000 in
theorem ggX5_holdings_X4_holderOf : GoodIn wsX5_holdings wsX4_holderOf := goodIn_r _ [124, 31, 45, 141, 142, 143, 144, 145, 146, 147, 148, 149, 150, 151, 152, 153, 154, 155, 156, 157, 158] (by decide +kernel) (by decide +kernel)
set_option maxRecDepth 20000 in
theorem gX5_holdings_X4_holderOf_n153 : GoodIn wsX5_holdings (wsX4_holderOf) := ggX5_holdings_X4_holderOf
theorem dX5_holdings_0 : decode cX5_holdings 0 = .ok (.aload_n 0, 1) := by decide +kernel
theorem dX5_holdings_1 : decode cX5_holdings 1 = .ok (.iload_n 1, 1) := by decide +kernel
theorem dX5_holdings_2 : decode cX5_holdings 2 = .ok (.invokevirtual 90, 3) := by decide +kernel
theorem dX5_holdings_5 : decode cX5_holdings 5 = .ok (.ifCond .ne 7, 3) := by decide +kernel
theorem dX5_holdings_8 : decode cX5_holdings 8 = .ok (.sipush (-1001), 3) := by decide +kernel
theorem dX5_holdings_11 : decode cX5_holdings 11 = .ok (.ireturn, 1) := by decide +kernel
theorem dX5_holdings_12 : decode cX5_holdings 12 = .ok (.aload_n 0, 1) := by decide +kernel
theorem dX5_holdings_13 : decode cX5_holdings 13 = .ok (.iload_n 2, 1) := by decide +kernel
theorem dX5_holdings_14 : decode cX5_holdings 14 = .ok (.invokevirtual 124, 3) := by decide +kernel
theorem dX5_holdings_17 : decode cX5_holdings 17 = .ok (.ifCond .ne 7, 3) := by decide +kernel
theorem dX5_holdings_20 : decode cX5_holdings 20 = .ok (.sipush (-1002), 3) := by decide +kernel
theorem dX5_holdings_23 : decode cX5_holdings 23 = .ok (.ireturn, 1) := by decide +kernel
theorem dX5_holdings_24 : decode cX5_holdings 24 = .ok (.aload_n 0, 1) := by decide +kernel
theorem dX5_holdings_25 : decode cX5_holdings 25 = .ok (.getfield 35, 3) := by decide +kernel
theorem dX5_holdings_28 : decode cX5_holdings 28 = .ok (.aload_n 0, 1) := by decide +kernel
theorem dX5_holdings_29 : decode cX5_holdings 29 = .ok (.iload_n 2, 1) := by decide +kernel
theorem dX5_holdings_30 : decode cX5_holdings 30 = .ok (.invokevirtual 127, 3) := by decide +kernel
theorem dX5_holdings_33 : decode cX5_holdings 33 = .ok (.sipush 20000, 3) := by decide +kernel
theorem dX5_holdings_36 : decode cX5_holdings 36 = .ok (.invokevirtual 130, 3) := by decide +kernel
theorem dX5_holdings_39 : decode cX5_holdings 39 = .ok (.iconst 0, 1) := by decide +kernel
theorem dX5_holdings_40 : decode cX5_holdings 40 = .ok (.istore_n 3, 1) := by decide +kernel
theorem dX5_holdings_41 : decode cX5_holdings 41 = .ok (.iconst 0, 1) := by decide +kernel
theorem dX5_holdings_42 : decode cX5_holdings 42 = .ok (.istore 4, 2) := by decide +kernel
theorem dX5_holdings_44 : decode cX5_holdings 44 = .ok (.iload 4, 2) := by decide +kernel
theorem dX5_holdings_46 : decode cX5_holdings 46 = .ok (.bipush 64, 2) := by decide +kernel
theorem dX5_holdings_48 : decode cX5_holdings 48 = .ok (.if_icmp .ge 25, 3) := by decide +kernel
theorem dX5_holdings_51 : decode cX5_holdings 51 = .ok (.aload_n 0, 1) := by decide +kernel
theorem dX5_holdings_52 : decode cX5_holdings 52 = .ok (.getfield 35, 3) := by decide +kernel
theorem dX5_holdings_55 : decode cX5_holdings 55 = .ok (.iload 4, 2) := by decide +kernel
theorem dX5_holdings_57 : decode cX5_holdings 57 = .ok (.invokevirtual 153, 3) := by decide +kernel
theorem dX5_holdings_60 : decode cX5_holdings 60 = .ok (.iload_n 1, 1) := by decide +kernel
theorem dX5_holdings_61 : decode cX5_holdings 61 = .ok (.if_icmp .ne 6, 3) := by decide +kernel
theorem dX5_holdings_64 : decode cX5_holdings 64 = .ok (.iinc 3 1, 3) := by decide +kernel
theorem dX5_holdings_67 : decode cX5_holdings 67 = .ok (.iinc 4 1, 3) := by decide +kernel
theorem dX5_holdings_70 : decode cX5_holdings 70 = .ok (.goto (-26), 3) := by decide +kernel
theorem dX5_holdings_73 : decode cX5_holdings 73 = .ok (.iload_n 3, 1) := by decide +kernel
theorem dX5_holdings_74 : decode cX5_holdings 74 = .ok (.ireturn, 1) := by decide +kernel
set_option maxRecDepth 20000 in
theorem ggX5_digest_X5_isKnownBy : GoodIn wsX5_digest wsX5_isKnownBy := goodIn_r _ [6, 7, 8, 9, 5, 10, 120, 121, 122, 123, 124, 143, 144, 145, 146, 147, 148, 149, 150] (by decide +kernel) (by decide +kernel)
set_option maxRecDepth 20000 in
theorem gX5_digest_X5_isKnownBy : GoodIn wsX5_digest (wsV RX5 124 RX5 yX5_isKnownBy wsX5_isKnownBy) := goodIn_app (goodIn_of _ (by decide +kernel)) ggX5_digest_X5_isKnownBy
set_option maxRecDepth 20000 in
theorem ggX5_digest_X5_linesOf : GoodIn wsX5_digest wsX5_linesOf := goodIn_r _ [14, 7, 120, 121, 122, 123, 124, 143, 144, 145, 146, 147, 148, 149, 150] (by decide +kernel) (by decide +kernel)
set_option maxRecDepth 20000 in
theorem gX5_digest_X5_linesOf : GoodIn wsX5_digest (wsV RX5 127 RX5 yX5_linesOf wsX5_linesOf) := goodIn_app (goodIn_of _ (by decide +kernel)) ggX5_digest_X5_linesOf
set_option maxRecDepth 20000 in
theorem ggX5_digest_X4_through : GoodIn wsX5_digest wsX4_through := goodIn_r _ [18, 19, 20, 21, 22, 23, 16, 24, 25, 26, 27, 28, 29, 30, 31, 32, 33, 34, 35, 36, 37, 38, 39, 40, 41, 42, 43, 44, 45, 46, 47, 48, 49, 50, 51, 52, 53, 54, 55, 56, 57, 58, 59, 60, 61, 62, 63, 64, 65, 66, 67, 68, 69, 70, 71, 72, 73, 74, 75, 76, 77, 78, 79, 80, 81, 82, 83, 84, 85, 86, 87, 88, 89, 90, 91, 92, 93, 94, 95, 96, 97, 98, 99, 100, 101, 102, 103, 104, 105, 106, 107, 108, 109, 110, 111, 112, 113, 114, 115, 116, 117, 118, 119, 125, 126, 127, 128, 129, 130, 131, 132, 133, 134, 135, 136, 137, 138, 139, 140, 141, 142, 143, 144, 145, 146, 147, 148, 149, 150, 151, 152, 153, 154, 155, 156, 157, 158, 159, 160] (by decide +kernel) (by decide +kernel)
set_option maxRecDepth 20000 in
theorem gX5_digest_X4_through_n130 : GoodIn wsX5_digest (wsX4_through) := ggX5_digest_X4_through
set_option maxRecDepth 20000 in
theorem ggX5_digest_X4_holderOf : GoodIn wsX5_digest wsX4_holderOf := goodIn_r _ [119, 26, 40, 125, 126, 127, 128, 129, 130, 131, 132, 133, 134, 135, 136, 137, 138, 139, 140, 141, 142] (by decide +kernel) (by decide +kernel)
set_option maxRecDepth 20000 in
theorem gX5_digest_X4_holderOf_n153 : GoodIn wsX5_digest (wsX4_holderOf) := ggX5_digest_X4_holderOf
theorem dX5_digest_0 : decode cX5_digest 0 = .ok (.aload_n 0, 1) := by decide +kernel
theorem dX5_digest_1 : decode cX5_digest 1 = .ok (.iload_n 1, 1) := by decide +kernel
theorem dX5_digest_2 : decode cX5_digest 2 = .ok (.invokevirtual 124, 3) := by decide +kernel
theorem dX5_digest_5 : decode cX5_digest 5 = .ok (.ifCond .ne 7, 3) := by decide +kernel
theorem dX5_digest_8 : decode cX5_digest 8 = .ok (.sipush (-1002), 3) := by decide +kernel
theorem dX5_digest_11 : decode cX5_digest 11 = .ok (.ireturn, 1) := by decide +kernel
theorem dX5_digest_12 : decode cX5_digest 12 = .ok (.aload_n 0, 1) := by decide +kernel
theorem dX5_digest_13 : decode cX5_digest 13 = .ok (.iload_n 1, 1) := by decide +kernel
theorem dX5_digest_14 : decode cX5_digest 14 = .ok (.invokevirtual 127, 3) := by decide +kernel
theorem dX5_digest_17 : decode cX5_digest 17 = .ok (.istore_n 2, 1) := by decide +kernel
theorem dX5_digest_18 : decode cX5_digest 18 = .ok (.aload_n 0, 1) := by decide +kernel
theorem dX5_digest_19 : decode cX5_digest 19 = .ok (.getfield 35, 3) := by decide +kernel
theorem dX5_digest_22 : decode cX5_digest 22 = .ok (.iload_n 2, 1) := by decide +kernel
theorem dX5_digest_23 : decode cX5_digest 23 = .ok (.sipush 20000, 3) := by decide +kernel
theorem dX5_digest_26 : decode cX5_digest 26 = .ok (.invokevirtual 130, 3) := by decide +kernel
theorem dX5_digest_29 : decode cX5_digest 29 = .ok (.bipush 7, 2) := by decide +kernel
theorem dX5_digest_31 : decode cX5_digest 31 = .ok (.istore_n 3, 1) := by decide +kernel
theorem dX5_digest_32 : decode cX5_digest 32 = .ok (.iconst 0, 1) := by decide +kernel
theorem dX5_digest_33 : decode cX5_digest 33 = .ok (.istore 4, 2) := by decide +kernel
theorem dX5_digest_35 : decode cX5_digest 35 = .ok (.iload 4, 2) := by decide +kernel
theorem dX5_digest_37 : decode cX5_digest 37 = .ok (.iload_n 2, 1) := by decide +kernel
theorem dX5_digest_38 : decode cX5_digest 38 = .ok (.if_icmp .ge 25, 3) := by decide +kernel
theorem dX5_digest_41 : decode cX5_digest 41 = .ok (.bipush 31, 2) := by decide +kernel
theorem dX5_digest_43 : decode cX5_digest 43 = .ok (.iload_n 3, 1) := by decide +kernel
theorem dX5_digest_44 : decode cX5_digest 44 = .ok (.imul, 1) := by decide +kernel
theorem dX5_digest_45 : decode cX5_digest 45 = .ok (.aload_n 0, 1) := by decide +kernel
theorem dX5_digest_46 : decode cX5_digest 46 = .ok (.getfield 35, 3) := by decide +kernel
theorem dX5_digest_49 : decode cX5_digest 49 = .ok (.getfield 134, 3) := by decide +kernel
theorem dX5_digest_52 : decode cX5_digest 52 = .ok (.iload 4, 2) := by decide +kernel
theorem dX5_digest_54 : decode cX5_digest 54 = .ok (.iaload, 1) := by decide +kernel
theorem dX5_digest_55 : decode cX5_digest 55 = .ok (.iadd, 1) := by decide +kernel
theorem dX5_digest_56 : decode cX5_digest 56 = .ok (.istore_n 3, 1) := by decide +kernel
theorem dX5_digest_57 : decode cX5_digest 57 = .ok (.iinc 4 1, 3) := by decide +kernel
theorem dX5_digest_60 : decode cX5_digest 60 = .ok (.goto (-25), 3) := by decide +kernel
theorem dX5_digest_63 : decode cX5_digest 63 = .ok (.iconst 0, 1) := by decide +kernel
theorem dX5_digest_64 : decode cX5_digest 64 = .ok (.istore 4, 2) := by decide +kernel
theorem dX5_digest_66 : decode cX5_digest 66 = .ok (.iload 4, 2) := by decide +kernel
theorem dX5_digest_68 : decode cX5_digest 68 = .ok (.bipush 64, 2) := by decide +kernel
theorem dX5_digest_70 : decode cX5_digest 70 = .ok (.if_icmp .ge 24, 3) := by decide +kernel
theorem dX5_digest_73 : decode cX5_digest 73 = .ok (.bipush 31, 2) := by decide +kernel
theorem dX5_digest_75 : decode cX5_digest 75 = .ok (.iload_n 3, 1) := by decide +kernel
theorem dX5_digest_76 : decode cX5_digest 76 = .ok (.imul, 1) := by decide +kernel
theorem dX5_digest_77 : decode cX5_digest 77 = .ok (.aload_n 0, 1) := by decide +kernel
theorem dX5_digest_78 : decode cX5_digest 78 = .ok (.getfield 35, 3) := by decide +kernel
theorem dX5_digest_81 : decode cX5_digest 81 = .ok (.iload 4, 2) := by decide +kernel
theorem dX5_digest_83 : decode cX5_digest 83 = .ok (.invokevirtual 153, 3) := by decide +kernel
theorem dX5_digest_86 : decode cX5_digest 86 = .ok (.iadd, 1) := by decide +kernel
theorem dX5_digest_87 : decode cX5_digest 87 = .ok (.istore_n 3, 1) := by decide +kernel
theorem dX5_digest_88 : decode cX5_digest 88 = .ok (.iinc 4 1, 3) := by decide +kernel
theorem dX5_digest_91 : decode cX5_digest 91 = .ok (.goto (-25), 3) := by decide +kernel
theorem dX5_digest_94 : decode cX5_digest 94 = .ok (.iload_n 3, 1) := by decide +kernel
theorem dX5_digest_95 : decode cX5_digest 95 = .ok (.ireturn, 1) := by decide +kernel
set_option maxRecDepth 20000 in
theorem ggX5_corner_X5_isCorner : GoodIn wsX5_corner wsX5_isCorner := goodIn_r _ [5, 6, 7, 4, 8] (by decide +kernel) (by decide +kernel)
set_option maxRecDepth 20000 in
theorem gX5_corner_X5_isCorner : GoodIn wsX5_corner (va_wsS RX5 171 yX5_isCorner wsX5_isCorner) := goodIn_app (goodIn_of _ (by decide +kernel)) ggX5_corner_X5_isCorner
set_option maxRecDepth 20000 in
theorem ggX5_corner_X5_within : GoodIn wsX5_corner wsX5_within := goodIn_r _ [8] (by decide +kernel) (by decide +kernel)
set_option maxRecDepth 20000 in
theorem gX5_corner_X5_within : GoodIn wsX5_corner (va_wsS RX5 46 yX5_within wsX5_within) := goodIn_app (goodIn_of _ (by decide +kernel)) ggX5_corner_X5_within
set_option maxRecDepth 20000 in
theorem ggX5_corner_X1_set : GoodIn wsX5_corner wsX1_set := goodIn_r _ [12, 13, 14, 15, 21, 22, 23, 24, 25, 26, 27] (by decide +kernel) (by decide +kernel)
set_option maxRecDepth 20000 in
theorem gX5_corner_X1_set_n174 : GoodIn wsX5_corner (wsX1_set) := ggX5_corner_X1_set
theorem dX5_corner_0 : decode cX5_corner 0 = .ok (.iload_n 1, 1) := by decide +kernel
theorem dX5_corner_1 : decode cX5_corner 1 = .ok (.iload_n 2, 1) := by decide +kernel
theorem dX5_corner_2 : decode cX5_corner 2 = .ok (.invokestatic 171, 3) := by decide +kernel
theorem dX5_corner_5 : decode cX5_corner 5 = .ok (.ifCond .eq 30, 3) := by decide +kernel
theorem dX5_corner_8 : decode cX5_corner 8 = .ok (.iload_n 3, 1) := by decide +kernel
theorem dX5_corner_9 : decode cX5_corner 9 = .ok (.sipush (-10000), 3) := by decide +kernel
theorem dX5_corner_12 : decode cX5_corner 12 = .ok (.sipush 10000, 3) := by decide +kernel
theorem dX5_corner_15 : decode cX5_corner 15 = .ok (.invokestatic 46, 3) := by decide +kernel
theorem dX5_corner_18 : decode cX5_corner 18 = .ok (.ifCond .eq 17, 3) := by decide +kernel
theorem dX5_corner_21 : decode cX5_corner 21 = .ok (.iload 4, 2) := by decide +kernel
theorem dX5_corner_23 : decode cX5_corner 23 = .ok (.sipush (-10000), 3) := by decide +kernel
theorem dX5_corner_26 : decode cX5_corner 26 = .ok (.sipush 10000, 3) := by decide +kernel
theorem dX5_corner_29 : decode cX5_corner 29 = .ok (.invokestatic 46, 3) := by decide +kernel
theorem dX5_corner_32 : decode cX5_corner 32 = .ok (.ifCond .ne 7, 3) := by decide +kernel
theorem dX5_corner_35 : decode cX5_corner 35 = .ok (.sipush (-1002), 3) := by decide +kernel
theorem dX5_corner_38 : decode cX5_corner 38 = .ok (.ireturn, 1) := by decide +kernel
theorem dX5_corner_39 : decode cX5_corner 39 = .ok (.aload_n 0, 1) := by decide +kernel
theorem dX5_corner_40 : decode cX5_corner 40 = .ok (.getfield 42, 3) := by decide +kernel
theorem dX5_corner_43 : decode cX5_corner 43 = .ok (.iload_n 1, 1) := by decide +kernel
theorem dX5_corner_44 : decode cX5_corner 44 = .ok (.iload_n 2, 1) := by decide +kernel
theorem dX5_corner_45 : decode cX5_corner 45 = .ok (.iload_n 3, 1) := by decide +kernel
theorem dX5_corner_46 : decode cX5_corner 46 = .ok (.iload 4, 2) := by decide +kernel
theorem dX5_corner_48 : decode cX5_corner 48 = .ok (.invokevirtual 174, 3) := by decide +kernel
theorem dX5_corner_51 : decode cX5_corner 51 = .ok (.iconst 1, 1) := by decide +kernel
theorem dX5_corner_52 : decode cX5_corner 52 = .ok (.ireturn, 1) := by decide +kernel
set_option maxRecDepth 20000 in
theorem ggX5_lose_X5_isCorner : GoodIn wsX5_lose wsX5_isCorner := goodIn_r _ [5, 6, 7, 4, 8] (by decide +kernel) (by decide +kernel)
set_option maxRecDepth 20000 in
theorem gX5_lose_X5_isCorner : GoodIn wsX5_lose (va_wsS RX5 171 yX5_isCorner wsX5_isCorner) := goodIn_app (goodIn_of _ (by decide +kernel)) ggX5_lose_X5_isCorner
set_option maxRecDepth 20000 in
theorem ggX5_lose_X1_forget : GoodIn wsX5_lose wsX1_forget := goodIn_r _ [12, 13, 14, 15, 16, 10, 17, 23, 24, 25, 26, 27, 28, 29] (by decide +kernel) (by decide +kernel)
set_option maxRecDepth 20000 in
theorem gX5_lose_X1_forget_n178 : GoodIn wsX5_lose (wsX1_forget) := ggX5_lose_X1_forget
theorem dX5_lose_0 : decode cX5_lose 0 = .ok (.iload_n 1, 1) := by decide +kernel
theorem dX5_lose_1 : decode cX5_lose 1 = .ok (.iload_n 2, 1) := by decide +kernel
theorem dX5_lose_2 : decode cX5_lose 2 = .ok (.invokestatic 171, 3) := by decide +kernel
theorem dX5_lose_5 : decode cX5_lose 5 = .ok (.ifCond .ne 7, 3) := by decide +kernel
theorem dX5_lose_8 : decode cX5_lose 8 = .ok (.sipush (-1002), 3) := by decide +kernel
theorem dX5_lose_11 : decode cX5_lose 11 = .ok (.ireturn, 1) := by decide +kernel
theorem dX5_lose_12 : decode cX5_lose 12 = .ok (.aload_n 0, 1) := by decide +kernel
theorem dX5_lose_13 : decode cX5_lose 13 = .ok (.getfield 42, 3) := by decide +kernel
theorem dX5_lose_16 : decode cX5_lose 16 = .ok (.iload_n 1, 1) := by decide +kernel
theorem dX5_lose_17 : decode cX5_lose 17 = .ok (.iload_n 2, 1) := by decide +kernel
theorem dX5_lose_18 : decode cX5_lose 18 = .ok (.invokevirtual 178, 3) := by decide +kernel
theorem dX5_lose_21 : decode cX5_lose 21 = .ok (.ifCond .eq 7, 3) := by decide +kernel
theorem dX5_lose_24 : decode cX5_lose 24 = .ok (.iconst 1, 1) := by decide +kernel
theorem dX5_lose_25 : decode cX5_lose 25 = .ok (.goto 4, 3) := by decide +kernel
theorem dX5_lose_28 : decode cX5_lose 28 = .ok (.iconst 0, 1) := by decide +kernel
theorem dX5_lose_29 : decode cX5_lose 29 = .ok (.ireturn, 1) := by decide +kernel
set_option maxRecDepth 20000 in
theorem ggX5_lies_X5_isCorner : GoodIn wsX5_lies wsX5_isCorner := goodIn_r _ [5, 6, 7, 4, 8] (by decide +kernel) (by decide +kernel)
set_option maxRecDepth 20000 in
theorem gX5_lies_X5_isCorner : GoodIn wsX5_lies (va_wsS RX5 171 yX5_isCorner wsX5_isCorner) := goodIn_app (goodIn_of _ (by decide +kernel)) ggX5_lies_X5_isCorner
set_option maxRecDepth 20000 in
theorem ggX5_lies_X5_within : GoodIn wsX5_lies wsX5_within := goodIn_r _ [8] (by decide +kernel) (by decide +kernel)
set_option maxRecDepth 20000 in
theorem gX5_lies_X5_within : GoodIn wsX5_lies (va_wsS RX5 46 yX5_within wsX5_within) := goodIn_app (goodIn_of _ (by decide +kernel)) ggX5_lies_X5_within
set_option maxRecDepth 20000 in
theorem ggX5_lies_X1_find : GoodIn wsX5_lies wsX1_find := goodIn_r _ [12, 13, 14, 15, 16, 17, 18, 19, 20, 10, 21, 30, 31, 32, 33, 34, 35, 36] (by decide +kernel) (by decide +kernel)
set_option maxRecDepth 20000 in
theorem gX5_lies_X1_find_n181 : GoodIn wsX5_lies (wsX1_find) := ggX5_lies_X1_find
set_option maxRecDepth 20000 in
theorem ggX5_lies_X1_isKnown : GoodIn wsX5_lies wsX1_isKnown := goodIn_r _ [24, 13, 30, 31, 32, 33, 34, 35, 36] (by decide +kernel) (by decide +kernel)
set_option maxRecDepth 20000 in
theorem gX5_lies_X1_isKnown_n190 : GoodIn wsX5_lies (wsX1_isKnown) := ggX5_lies_X1_isKnown
theorem dX5_lies_0 : decode cX5_lies 0 = .ok (.iload_n 1, 1) := by decide +kernel
theorem dX5_lies_1 : decode cX5_lies 1 = .ok (.iload_n 2, 1) := by decide +kernel
theorem dX5_lies_2 : decode cX5_lies 2 = .ok (.invokestatic 171, 3) := by decide +kernel
theorem dX5_lies_5 : decode cX5_lies 5 = .ok (.ifCond .eq 12, 3) := by decide +kernel
theorem dX5_lies_8 : decode cX5_lies 8 = .ok (.iload_n 3, 1) := by decide +kernel
theorem dX5_lies_9 : decode cX5_lies 9 = .ok (.iconst 0, 1) := by decide +kernel
theorem dX5_lies_10 : decode cX5_lies 10 = .ok (.iconst 2, 1) := by decide +kernel
theorem dX5_lies_11 : decode cX5_lies 11 = .ok (.invokestatic 46, 3) := by decide +kernel
theorem dX5_lies_14 : decode cX5_lies 14 = .ok (.ifCond .ne 7, 3) := by decide +kernel
theorem dX5_lies_17 : decode cX5_lies 17 = .ok (.sipush (-1002), 3) := by decide +kernel
theorem dX5_lies_20 : decode cX5_lies 20 = .ok (.ireturn, 1) := by decide +kernel
theorem dX5_lies_21 : decode cX5_lies 21 = .ok (.aload_n 0, 1) := by decide +kernel
theorem dX5_lies_22 : decode cX5_lies 22 = .ok (.getfield 42, 3) := by decide +kernel
theorem dX5_lies_25 : decode cX5_lies 25 = .ok (.iload_n 1, 1) := by decide +kernel
theorem dX5_lies_26 : decode cX5_lies 26 = .ok (.iload_n 2, 1) := by decide +kernel
theorem dX5_lies_27 : decode cX5_lies 27 = .ok (.invokevirtual 181, 3) := by decide +kernel
theorem dX5_lies_30 : decode cX5_lies 30 = .ok (.ifCond .ne 7, 3) := by decide +kernel
theorem dX5_lies_33 : decode cX5_lies 33 = .ok (.sipush (-1003), 3) := by decide +kernel
theorem dX5_lies_36 : decode cX5_lies 36 = .ok (.ireturn, 1) := by decide +kernel
theorem dX5_lies_37 : decode cX5_lies 37 = .ok (.iload_n 3, 1) := by decide +kernel
theorem dX5_lies_38 : decode cX5_lies 38 = .ok (.lookupswitch 42 #[(0, 26), (1, 34)], 26) := by decide +kernel
theorem dX5_lies_64 : decode cX5_lies 64 = .ok (.aload_n 0, 1) := by decide +kernel
theorem dX5_lies_65 : decode cX5_lies 65 = .ok (.getfield 42, 3) := by decide +kernel
theorem dX5_lies_68 : decode cX5_lies 68 = .ok (.getfield 184, 3) := by decide +kernel
theorem dX5_lies_71 : decode cX5_lies 71 = .ok (.ireturn, 1) := by decide +kernel
theorem dX5_lies_72 : decode cX5_lies 72 = .ok (.aload_n 0, 1) := by decide +kernel
theorem dX5_lies_73 : decode cX5_lies 73 = .ok (.getfield 42, 3) := by decide +kernel
theorem dX5_lies_76 : decode cX5_lies 76 = .ok (.getfield 187, 3) := by decide +kernel
theorem dX5_lies_79 : decode cX5_lies 79 = .ok (.ireturn, 1) := by decide +kernel
theorem dX5_lies_80 : decode cX5_lies 80 = .ok (.aload_n 0, 1) := by decide +kernel
theorem dX5_lies_81 : decode cX5_lies 81 = .ok (.getfield 42, 3) := by decide +kernel
theorem dX5_lies_84 : decode cX5_lies 84 = .ok (.iload_n 1, 1) := by decide +kernel
theorem dX5_lies_85 : decode cX5_lies 85 = .ok (.iload_n 2, 1) := by decide +kernel
theorem dX5_lies_86 : decode cX5_lies 86 = .ok (.invokevirtual 190, 3) := by decide +kernel
theorem dX5_lies_89 : decode cX5_lies 89 = .ok (.ifCond .eq 7, 3) := by decide +kernel
theorem dX5_lies_92 : decode cX5_lies 92 = .ok (.iconst 1, 1) := by decide +kernel
theorem dX5_lies_93 : decode cX5_lies 93 = .ok (.goto 4, 3) := by decide +kernel
theorem dX5_lies_96 : decode cX5_lies 96 = .ok (.iconst 0, 1) := by decide +kernel
theorem dX5_lies_97 : decode cX5_lies 97 = .ok (.ireturn, 1) := by decide +kernel
set_option maxRecDepth 20000 in
theorem ggX5_area_X5_isQuarter : GoodIn wsX5_area wsX5_isQuarter := goodIn_r _ [7, 8, 9, 6, 10] (by decide +kernel) (by decide +kernel)
set_option maxRecDepth 20000 in
theorem gX5_area_X5_isQuarter : GoodIn wsX5_area (va_wsS RX5 93 yX5_isQuarter wsX5_isQuarter) := goodIn_app (goodIn_of _ (by decide +kernel)) ggX5_area_X5_isQuarter
