set_option maxRecDepth 20000 in
theorem ggX5_area_X1_findAround : GoodIn wsX5_area wsX1_findAround := goodIn_r _ [14, 15, 16, 17, 18, 19, 20, 21, 12, 22, 23, 24, 25, 26, 27, 28, 29, 38, 39, 40, 41, 42, 43, 44] (by decide +kernel) (by decide +kernel)
set_option maxRecDepth 20000 in
theorem gX5_area_X1_findAround_n195 : GoodIn wsX5_area (wsX1_findAround) := ggX5_area_X1_findAround
set_option maxRecDepth 20000 in
theorem ggX5_area_X1_crossSum : GoodIn wsX5_area wsX1_crossSum := goodIn_r _ [32, 15, 17, 38, 39, 40, 41, 42, 43, 44] (by decide +kernel) (by decide +kernel)
set_option maxRecDepth 20000 in
theorem gX5_area_X1_crossSum_n200 : GoodIn wsX5_area (wsX1_crossSum) := ggX5_area_X1_crossSum
theorem dX5_area_0 : decode cX5_area 0 = .ok (.iload_n 1, 1) := by decide +kernel
theorem dX5_area_1 : decode cX5_area 1 = .ok (.invokestatic 93, 3) := by decide +kernel
theorem dX5_area_4 : decode cX5_area 4 = .ok (.ifCond .ne 7, 3) := by decide +kernel
theorem dX5_area_7 : decode cX5_area 7 = .ok (.ldc2_w 193, 3) := by decide +kernel
theorem dX5_area_10 : decode cX5_area 10 = .ok (.lreturn, 1) := by decide +kernel
theorem dX5_area_11 : decode cX5_area 11 = .ok (.aload_n 0, 1) := by decide +kernel
theorem dX5_area_12 : decode cX5_area 12 = .ok (.getfield 42, 3) := by decide +kernel
theorem dX5_area_15 : decode cX5_area 15 = .ok (.iload_n 1, 1) := by decide +kernel
theorem dX5_area_16 : decode cX5_area 16 = .ok (.bipush 8, 2) := by decide +kernel
theorem dX5_area_18 : decode cX5_area 18 = .ok (.irem, 1) := by decide +kernel
theorem dX5_area_19 : decode cX5_area 19 = .ok (.iload_n 1, 1) := by decide +kernel
theorem dX5_area_20 : decode cX5_area 20 = .ok (.bipush 8, 2) := by decide +kernel
theorem dX5_area_22 : decode cX5_area 22 = .ok (.idiv, 1) := by decide +kernel
theorem dX5_area_23 : decode cX5_area 23 = .ok (.invokevirtual 195, 3) := by decide +kernel
theorem dX5_area_26 : decode cX5_area 26 = .ok (.ifCond .ne 7, 3) := by decide +kernel
theorem dX5_area_29 : decode cX5_area 29 = .ok (.ldc2_w 198, 3) := by decide +kernel
theorem dX5_area_32 : decode cX5_area 32 = .ok (.lreturn, 1) := by decide +kernel
theorem dX5_area_33 : decode cX5_area 33 = .ok (.aload_n 0, 1) := by decide +kernel
theorem dX5_area_34 : decode cX5_area 34 = .ok (.getfield 42, 3) := by decide +kernel
theorem dX5_area_37 : decode cX5_area 37 = .ok (.invokevirtual 200, 3) := by decide +kernel
theorem dX5_area_40 : decode cX5_area 40 = .ok (.lreturn, 1) := by decide +kernel
theorem dX5_within_0 : decode cX5_within 0 = .ok (.iload_n 0, 1) := by decide +kernel
theorem dX5_within_1 : decode cX5_within 1 = .ok (.iload_n 1, 1) := by decide +kernel
theorem dX5_within_2 : decode cX5_within 2 = .ok (.if_icmp .lt 12, 3) := by decide +kernel
theorem dX5_within_5 : decode cX5_within 5 = .ok (.iload_n 0, 1) := by decide +kernel
theorem dX5_within_6 : decode cX5_within 6 = .ok (.iload_n 2, 1) := by decide +kernel
theorem dX5_within_7 : decode cX5_within 7 = .ok (.if_icmp .gt 7, 3) := by decide +kernel
theorem dX5_within_10 : decode cX5_within 10 = .ok (.iconst 1, 1) := by decide +kernel
theorem dX5_within_11 : decode cX5_within 11 = .ok (.goto 4, 3) := by decide +kernel
theorem dX5_within_14 : decode cX5_within 14 = .ok (.iconst 0, 1) := by decide +kernel
theorem dX5_within_15 : decode cX5_within 15 = .ok (.ireturn, 1) := by decide +kernel
set_option maxRecDepth 20000 in
theorem ggX5_isDay_X5_within : GoodIn wsX5_isDay wsX5_within := goodIn_r _ [4] (by decide +kernel) (by decide +kernel)
set_option maxRecDepth 20000 in
theorem gX5_isDay_X5_within : GoodIn wsX5_isDay (va_wsS RX5 46 yX5_within wsX5_within) := goodIn_app (goodIn_of _ (by decide +kernel)) ggX5_isDay_X5_within
theorem dX5_isDay_0 : decode cX5_isDay 0 = .ok (.iload_n 0, 1) := by decide +kernel
theorem dX5_isDay_1 : decode cX5_isDay 1 = .ok (.iconst 0, 1) := by decide +kernel
theorem dX5_isDay_2 : decode cX5_isDay 2 = .ok (.sipush 20000, 3) := by decide +kernel
theorem dX5_isDay_5 : decode cX5_isDay 5 = .ok (.invokestatic 46, 3) := by decide +kernel
theorem dX5_isDay_8 : decode cX5_isDay 8 = .ok (.ireturn, 1) := by decide +kernel
set_option maxRecDepth 20000 in
theorem ggX5_isQuarter_X5_within : GoodIn wsX5_isQuarter wsX5_within := goodIn_r _ [4] (by decide +kernel) (by decide +kernel)
set_option maxRecDepth 20000 in
theorem gX5_isQuarter_X5_within : GoodIn wsX5_isQuarter (va_wsS RX5 46 yX5_within wsX5_within) := goodIn_app (goodIn_of _ (by decide +kernel)) ggX5_isQuarter_X5_within
theorem dX5_isQuarter_0 : decode cX5_isQuarter 0 = .ok (.iload_n 0, 1) := by decide +kernel
theorem dX5_isQuarter_1 : decode cX5_isQuarter 1 = .ok (.iconst 0, 1) := by decide +kernel
theorem dX5_isQuarter_2 : decode cX5_isQuarter 2 = .ok (.bipush 63, 2) := by decide +kernel
theorem dX5_isQuarter_4 : decode cX5_isQuarter 4 = .ok (.invokestatic 46, 3) := by decide +kernel
theorem dX5_isQuarter_7 : decode cX5_isQuarter 7 = .ok (.ireturn, 1) := by decide +kernel
set_option maxRecDepth 20000 in
theorem ggX5_isCorner_X5_within : GoodIn wsX5_isCorner wsX5_within := goodIn_r _ [4] (by decide +kernel) (by decide +kernel)
set_option maxRecDepth 20000 in
theorem gX5_isCorner_X5_within : GoodIn wsX5_isCorner (va_wsS RX5 46 yX5_within wsX5_within) := goodIn_app (goodIn_of _ (by decide +kernel)) ggX5_isCorner_X5_within
theorem dX5_isCorner_0 : decode cX5_isCorner 0 = .ok (.iload_n 0, 1) := by decide +kernel
theorem dX5_isCorner_1 : decode cX5_isCorner 1 = .ok (.iconst 0, 1) := by decide +kernel
theorem dX5_isCorner_2 : decode cX5_isCorner 2 = .ok (.bipush 8, 2) := by decide +kernel
theorem dX5_isCorner_4 : decode cX5_isCorner 4 = .ok (.invokestatic 46, 3) := by decide +kernel
theorem dX5_isCorner_7 : decode cX5_isCorner 7 = .ok (.ifCond .eq 17, 3) := by decide +kernel
theorem dX5_isCorner_10 : decode cX5_isCorner 10 = .ok (.iload_n 1, 1) := by decide +kernel
theorem dX5_isCorner_11 : decode cX5_isCorner 11 = .ok (.iconst 0, 1) := by decide +kernel
theorem dX5_isCorner_12 : decode cX5_isCorner 12 = .ok (.bipush 8, 2) := by decide +kernel
theorem dX5_isCorner_14 : decode cX5_isCorner 14 = .ok (.invokestatic 46, 3) := by decide +kernel
theorem dX5_isCorner_17 : decode cX5_isCorner 17 = .ok (.ifCond .eq 7, 3) := by decide +kernel
theorem dX5_isCorner_20 : decode cX5_isCorner 20 = .ok (.iconst 1, 1) := by decide +kernel
theorem dX5_isCorner_21 : decode cX5_isCorner 21 = .ok (.goto 4, 3) := by decide +kernel
theorem dX5_isCorner_24 : decode cX5_isCorner 24 = .ok (.iconst 0, 1) := by decide +kernel
theorem dX5_isCorner_25 : decode cX5_isCorner 25 = .ok (.ireturn, 1) := by decide +kernel
set_option maxRecDepth 20000 in
theorem ggX5_isPerson_X5_within : GoodIn wsX5_isPerson wsX5_within := goodIn_r _ [5] (by decide +kernel) (by decide +kernel)
set_option maxRecDepth 20000 in
theorem gX5_isPerson_X5_within : GoodIn wsX5_isPerson (va_wsS RX5 46 yX5_within wsX5_within) := goodIn_app (goodIn_of _ (by decide +kernel)) ggX5_isPerson_X5_within
theorem dX5_isPerson_0 : decode cX5_isPerson 0 = .ok (.iload_n 1, 1) := by decide +kernel
theorem dX5_isPerson_1 : decode cX5_isPerson 1 = .ok (.iconst 0, 1) := by decide +kernel
theorem dX5_isPerson_2 : decode cX5_isPerson 2 = .ok (.aload_n 0, 1) := by decide +kernel
theorem dX5_isPerson_3 : decode cX5_isPerson 3 = .ok (.getfield 12, 3) := by decide +kernel
theorem dX5_isPerson_6 : decode cX5_isPerson 6 = .ok (.getfield 50, 3) := by decide +kernel
theorem dX5_isPerson_9 : decode cX5_isPerson 9 = .ok (.iconst 1, 1) := by decide +kernel
theorem dX5_isPerson_10 : decode cX5_isPerson 10 = .ok (.isub, 1) := by decide +kernel
theorem dX5_isPerson_11 : decode cX5_isPerson 11 = .ok (.invokestatic 46, 3) := by decide +kernel
theorem dX5_isPerson_14 : decode cX5_isPerson 14 = .ok (.ireturn, 1) := by decide +kernel
set_option maxRecDepth 20000 in
theorem ggX5_isLine_X5_within : GoodIn wsX5_isLine wsX5_within := goodIn_r _ [5] (by decide +kernel) (by decide +kernel)
set_option maxRecDepth 20000 in
theorem gX5_isLine_X5_within : GoodIn wsX5_isLine (va_wsS RX5 46 yX5_within wsX5_within) := goodIn_app (goodIn_of _ (by decide +kernel)) ggX5_isLine_X5_within
theorem dX5_isLine_0 : decode cX5_isLine 0 = .ok (.iload_n 1, 1) := by decide +kernel
theorem dX5_isLine_1 : decode cX5_isLine 1 = .ok (.iconst 0, 1) := by decide +kernel
theorem dX5_isLine_2 : decode cX5_isLine 2 = .ok (.aload_n 0, 1) := by decide +kernel
theorem dX5_isLine_3 : decode cX5_isLine 3 = .ok (.getfield 26, 3) := by decide +kernel
theorem dX5_isLine_6 : decode cX5_isLine 6 = .ok (.getfield 100, 3) := by decide +kernel
theorem dX5_isLine_9 : decode cX5_isLine 9 = .ok (.iconst 1, 1) := by decide +kernel
theorem dX5_isLine_10 : decode cX5_isLine 10 = .ok (.isub, 1) := by decide +kernel
theorem dX5_isLine_11 : decode cX5_isLine 11 = .ok (.invokestatic 46, 3) := by decide +kernel
theorem dX5_isLine_14 : decode cX5_isLine 14 = .ok (.ireturn, 1) := by decide +kernel
set_option maxRecDepth 20000 in
theorem ggX5_isKnownBy_X5_within : GoodIn wsX5_isKnownBy wsX5_within := goodIn_r _ [5] (by decide +kernel) (by decide +kernel)
set_option maxRecDepth 20000 in
theorem gX5_isKnownBy_X5_within : GoodIn wsX5_isKnownBy (va_wsS RX5 46 yX5_within wsX5_within) := goodIn_app (goodIn_of _ (by decide +kernel)) ggX5_isKnownBy_X5_within
theorem dX5_isKnownBy_0 : decode cX5_isKnownBy 0 = .ok (.iload_n 1, 1) := by decide +kernel
theorem dX5_isKnownBy_1 : decode cX5_isKnownBy 1 = .ok (.iconst (-1), 1) := by decide +kernel
theorem dX5_isKnownBy_2 : decode cX5_isKnownBy 2 = .ok (.aload_n 0, 1) := by decide +kernel
theorem dX5_isKnownBy_3 : decode cX5_isKnownBy 3 = .ok (.getfield 26, 3) := by decide +kernel
theorem dX5_isKnownBy_6 : decode cX5_isKnownBy 6 = .ok (.getfield 100, 3) := by decide +kernel
theorem dX5_isKnownBy_9 : decode cX5_isKnownBy 9 = .ok (.invokestatic 46, 3) := by decide +kernel
theorem dX5_isKnownBy_12 : decode cX5_isKnownBy 12 = .ok (.ireturn, 1) := by decide +kernel
theorem dX5_linesOf_0 : decode cX5_linesOf 0 = .ok (.iload_n 1, 1) := by decide +kernel
theorem dX5_linesOf_1 : decode cX5_linesOf 1 = .ok (.iconst (-1), 1) := by decide +kernel
theorem dX5_linesOf_2 : decode cX5_linesOf 2 = .ok (.if_icmp .ne 13, 3) := by decide +kernel
theorem dX5_linesOf_5 : decode cX5_linesOf 5 = .ok (.aload_n 0, 1) := by decide +kernel
theorem dX5_linesOf_6 : decode cX5_linesOf 6 = .ok (.getfield 26, 3) := by decide +kernel
theorem dX5_linesOf_9 : decode cX5_linesOf 9 = .ok (.getfield 100, 3) := by decide +kernel
theorem dX5_linesOf_12 : decode cX5_linesOf 12 = .ok (.goto 4, 3) := by decide +kernel
theorem dX5_linesOf_15 : decode cX5_linesOf 15 = .ok (.iload_n 1, 1) := by decide +kernel
theorem dX5_linesOf_16 : decode cX5_linesOf 16 = .ok (.ireturn, 1) := by decide +kernel
set_option maxRecDepth 20000 in
theorem ggX5_fitsSort_X5_within : GoodIn wsX5_fitsSort wsX5_within := goodIn_r _ [4] (by decide +kernel) (by decide +kernel)
set_option maxRecDepth 20000 in
theorem gX5_fitsSort_X5_within : GoodIn wsX5_fitsSort (va_wsS RX5 46 yX5_within wsX5_within) := goodIn_app (goodIn_of _ (by decide +kernel)) ggX5_fitsSort_X5_within
theorem dX5_fitsSort_0 : decode cX5_fitsSort 0 = .ok (.iload_n 0, 1) := by decide +kernel
theorem dX5_fitsSort_1 : decode cX5_fitsSort 1 = .ok (.iconst 1, 1) := by decide +kernel
theorem dX5_fitsSort_2 : decode cX5_fitsSort 2 = .ok (.if_icmp .ne 12, 3) := by decide +kernel
theorem dX5_fitsSort_5 : decode cX5_fitsSort 5 = .ok (.iload_n 1, 1) := by decide +kernel
theorem dX5_fitsSort_6 : decode cX5_fitsSort 6 = .ok (.iconst 1, 1) := by decide +kernel
theorem dX5_fitsSort_7 : decode cX5_fitsSort 7 = .ok (.sipush 5000, 3) := by decide +kernel
theorem dX5_fitsSort_10 : decode cX5_fitsSort 10 = .ok (.invokestatic 46, 3) := by decide +kernel
theorem dX5_fitsSort_13 : decode cX5_fitsSort 13 = .ok (.ireturn, 1) := by decide +kernel
theorem dX5_fitsSort_14 : decode cX5_fitsSort 14 = .ok (.iload_n 0, 1) := by decide +kernel
theorem dX5_fitsSort_15 : decode cX5_fitsSort 15 = .ok (.iconst 2, 1) := by decide +kernel
theorem dX5_fitsSort_16 : decode cX5_fitsSort 16 = .ok (.if_icmp .ne 12, 3) := by decide +kernel
theorem dX5_fitsSort_19 : decode cX5_fitsSort 19 = .ok (.iload_n 1, 1) := by decide +kernel
theorem dX5_fitsSort_20 : decode cX5_fitsSort 20 = .ok (.iconst 1, 1) := by decide +kernel
theorem dX5_fitsSort_21 : decode cX5_fitsSort 21 = .ok (.sipush 160, 3) := by decide +kernel
theorem dX5_fitsSort_24 : decode cX5_fitsSort 24 = .ok (.invokestatic 46, 3) := by decide +kernel
theorem dX5_fitsSort_27 : decode cX5_fitsSort 27 = .ok (.ireturn, 1) := by decide +kernel
theorem dX5_fitsSort_28 : decode cX5_fitsSort 28 = .ok (.iconst 1, 1) := by decide +kernel
theorem dX5_fitsSort_29 : decode cX5_fitsSort 29 = .ok (.ireturn, 1) := by decide +kernel
set_option maxRecDepth 20000 in
theorem ggX6_init_X6_setDefault : GoodIn wsX6_init wsX6_setDefault := goodIn_r _ [51, 14, 12, 52, 53, 54, 55, 56, 57, 58, 59, 60, 61, 62, 63, 64, 65, 66, 67, 68, 69, 70, 71, 72, 73, 74, 75, 76, 77, 78, 79, 80, 81, 82, 83, 84, 85, 86, 87, 88, 89, 90, 91, 92, 93, 94, 95] (by decide +kernel) (by decide +kernel)
set_option maxRecDepth 20000 in
theorem gX6_init_X6_setDefault : GoodIn wsX6_init (wsV RX6 108 RX6 yX6_setDefault wsX6_setDefault) := goodIn_app (goodIn_of _ (by decide +kernel)) ggX6_init_X6_setDefault
theorem dX6_init_0 : decode cX6_init 0 = .ok (.aload_n 0, 1) := by decide +kernel
theorem dX6_init_1 : decode cX6_init 1 = .ok (.invokespecial 1, 3) := by decide +kernel
theorem dX6_init_4 : decode cX6_init 4 = .ok (.aload_n 0, 1) := by decide +kernel
theorem dX6_init_5 : decode cX6_init 5 = .ok (.bipush 12, 2) := by decide +kernel
theorem dX6_init_7 : decode cX6_init 7 = .ok (.newarray .int, 2) := by decide +kernel
theorem dX6_init_9 : decode cX6_init 9 = .ok (.putfield 7, 3) := by decide +kernel
theorem dX6_init_12 : decode cX6_init 12 = .ok (.aload_n 0, 1) := by decide +kernel
theorem dX6_init_13 : decode cX6_init 13 = .ok (.bipush 12, 2) := by decide +kernel
theorem dX6_init_15 : decode cX6_init 15 = .ok (.newarray .int, 2) := by decide +kernel
theorem dX6_init_17 : decode cX6_init 17 = .ok (.putfield 13, 3) := by decide +kernel
theorem dX6_init_20 : decode cX6_init 20 = .ok (.aload_n 0, 1) := by decide +kernel
theorem dX6_init_21 : decode cX6_init 21 = .ok (.sipush 20001, 3) := by decide +kernel
theorem dX6_init_24 : decode cX6_init 24 = .ok (.putfield 16, 3) := by decide +kernel
theorem dX6_init_27 : decode cX6_init 27 = .ok (.aload_n 0, 1) := by decide +kernel
theorem dX6_init_28 : decode cX6_init 28 = .ok (.bipush 120, 2) := by decide +kernel
theorem dX6_init_30 : decode cX6_init 30 = .ok (.newarray .int, 2) := by decide +kernel
theorem dX6_init_32 : decode cX6_init 32 = .ok (.putfield 20, 3) := by decide +kernel
theorem dX6_init_35 : decode cX6_init 35 = .ok (.aload_n 0, 1) := by decide +kernel
theorem dX6_init_36 : decode cX6_init 36 = .ok (.iconst (-1), 1) := by decide +kernel
theorem dX6_init_37 : decode cX6_init 37 = .ok (.putfield 23, 3) := by decide +kernel
theorem dX6_init_40 : decode cX6_init 40 = .ok (.aload_n 0, 1) := by decide +kernel
theorem dX6_init_41 : decode cX6_init 41 = .ok (.bipush 8, 2) := by decide +kernel
theorem dX6_init_43 : decode cX6_init 43 = .ok (.newarray .int, 2) := by decide +kernel
theorem dX6_init_45 : decode cX6_init 45 = .ok (.putfield 26, 3) := by decide +kernel
theorem dX6_init_48 : decode cX6_init 48 = .ok (.aload_n 0, 1) := by decide +kernel
theorem dX6_init_49 : decode cX6_init 49 = .ok (.bipush 72, 2) := by decide +kernel
theorem dX6_init_51 : decode cX6_init 51 = .ok (.newarray .int, 2) := by decide +kernel
theorem dX6_init_53 : decode cX6_init 53 = .ok (.putfield 29, 3) := by decide +kernel
theorem dX6_init_56 : decode cX6_init 56 = .ok (.aload_n 0, 1) := by decide +kernel
theorem dX6_init_57 : decode cX6_init 57 = .ok (.bipush 9, 2) := by decide +kernel
theorem dX6_init_59 : decode cX6_init 59 = .ok (.newarray .int, 2) := by decide +kernel
theorem dX6_init_61 : decode cX6_init 61 = .ok (.putfield 32, 3) := by decide +kernel
theorem dX6_init_64 : decode cX6_init 64 = .ok (.aload_n 0, 1) := by decide +kernel
theorem dX6_init_65 : decode cX6_init 65 = .ok (.bipush 9, 2) := by decide +kernel
theorem dX6_init_67 : decode cX6_init 67 = .ok (.newarray .long, 2) := by decide +kernel
theorem dX6_init_69 : decode cX6_init 69 = .ok (.putfield 35, 3) := by decide +kernel
theorem dX6_init_72 : decode cX6_init 72 = .ok (.aload_n 0, 1) := by decide +kernel
theorem dX6_init_73 : decode cX6_init 73 = .ok (.bipush 120, 2) := by decide +kernel
theorem dX6_init_75 : decode cX6_init 75 = .ok (.newarray .int, 2) := by decide +kernel
theorem dX6_init_77 : decode cX6_init 77 = .ok (.putfield 39, 3) := by decide +kernel
theorem dX6_init_80 : decode cX6_init 80 = .ok (.aload_n 0, 1) := by decide +kernel
theorem dX6_init_81 : decode cX6_init 81 = .ok (.bipush 120, 2) := by decide +kernel
theorem dX6_init_83 : decode cX6_init 83 = .ok (.newarray .int, 2) := by decide +kernel
theorem dX6_init_85 : decode cX6_init 85 = .ok (.putfield 42, 3) := by decide +kernel
theorem dX6_init_88 : decode cX6_init 88 = .ok (.aload_n 0, 1) := by decide +kernel
theorem dX6_init_89 : decode cX6_init 89 = .ok (.bipush 120, 2) := by decide +kernel
theorem dX6_init_91 : decode cX6_init 91 = .ok (.newarray .int, 2) := by decide +kernel
theorem dX6_init_93 : decode cX6_init 93 = .ok (.putfield 45, 3) := by decide +kernel
theorem dX6_init_96 : decode cX6_init 96 = .ok (.aload_n 0, 1) := by decide +kernel
theorem dX6_init_97 : decode cX6_init 97 = .ok (.bipush 120, 2) := by decide +kernel
theorem dX6_init_99 : decode cX6_init 99 = .ok (.newarray .int, 2) := by decide +kernel
theorem dX6_init_101 : decode cX6_init 101 = .ok (.putfield 48, 3) := by decide +kernel
theorem dX6_init_104 : decode cX6_init 104 = .ok (.aload_n 0, 1) := by decide +kernel
theorem dX6_init_105 : decode cX6_init 105 = .ok (.bipush 120, 2) := by decide +kernel
theorem dX6_init_107 : decode cX6_init 107 = .ok (.newarray .int, 2) := by decide +kernel
theorem dX6_init_109 : decode cX6_init 109 = .ok (.putfield 51, 3) := by decide +kernel
theorem dX6_init_112 : decode cX6_init 112 = .ok (.aload_n 0, 1) := by decide +kernel
theorem dX6_init_113 : decode cX6_init 113 = .ok (.bipush 120, 2) := by decide +kernel
theorem dX6_init_115 : decode cX6_init 115 = .ok (.newarray .boolean, 2) := by decide +kernel
theorem dX6_init_117 : decode cX6_init 117 = .ok (.putfield 54, 3) := by decide +kernel
theorem dX6_init_120 : decode cX6_init 120 = .ok (.aload_n 0, 1) := by decide +kernel
theorem dX6_init_121 : decode cX6_init 121 = .ok (.bipush 81, 2) := by decide +kernel
theorem dX6_init_123 : decode cX6_init 123 = .ok (.newarray .boolean, 2) := by decide +kernel
theorem dX6_init_125 : decode cX6_init 125 = .ok (.putfield 58, 3) := by decide +kernel
theorem dX6_init_128 : decode cX6_init 128 = .ok (.aload_n 0, 1) := by decide +kernel
theorem dX6_init_129 : decode cX6_init 129 = .ok (.bipush 81, 2) := by decide +kernel
theorem dX6_init_131 : decode cX6_init 131 = .ok (.newarray .int, 2) := by decide +kernel
theorem dX6_init_133 : decode cX6_init 133 = .ok (.putfield 61, 3) := by decide +kernel
theorem dX6_init_136 : decode cX6_init 136 = .ok (.aload_n 0, 1) := by decide +kernel
theorem dX6_init_137 : decode cX6_init 137 = .ok (.bipush 81, 2) := by decide +kernel
theorem dX6_init_139 : decode cX6_init 139 = .ok (.newarray .int, 2) := by decide +kernel
theorem dX6_init_141 : decode cX6_init 141 = .ok (.putfield 64, 3) := by decide +kernel
theorem dX6_init_144 : decode cX6_init 144 = .ok (.aload_n 0, 1) := by decide +kernel
theorem dX6_init_145 : decode cX6_init 145 = .ok (.bipush 120, 2) := by decide +kernel
theorem dX6_init_147 : decode cX6_init 147 = .ok (.newarray .int, 2) := by decide +kernel
theorem dX6_init_149 : decode cX6_init 149 = .ok (.putfield 67, 3) := by decide +kernel
theorem dX6_init_152 : decode cX6_init 152 = .ok (.aload_n 0, 1) := by decide +kernel
theorem dX6_init_153 : decode cX6_init 153 = .ok (.bipush 120, 2) := by decide +kernel
theorem dX6_init_155 : decode cX6_init 155 = .ok (.newarray .int, 2) := by decide +kernel
theorem dX6_init_157 : decode cX6_init 157 = .ok (.putfield 70, 3) := by decide +kernel
theorem dX6_init_160 : decode cX6_init 160 = .ok (.aload_n 0, 1) := by decide +kernel
theorem dX6_init_161 : decode cX6_init 161 = .ok (.bipush 12, 2) := by decide +kernel
theorem dX6_init_163 : decode cX6_init 163 = .ok (.newarray .boolean, 2) := by decide +kernel
theorem dX6_init_165 : decode cX6_init 165 = .ok (.putfield 73, 3) := by decide +kernel
theorem dX6_init_168 : decode cX6_init 168 = .ok (.aload_n 0, 1) := by decide +kernel
theorem dX6_init_169 : decode cX6_init 169 = .ok (.bipush 120, 2) := by decide +kernel
theorem dX6_init_171 : decode cX6_init 171 = .ok (.newarray .int, 2) := by decide +kernel
theorem dX6_init_173 : decode cX6_init 173 = .ok (.putfield 76, 3) := by decide +kernel
theorem dX6_init_176 : decode cX6_init 176 = .ok (.aload_n 0, 1) := by decide +kernel
theorem dX6_init_177 : decode cX6_init 177 = .ok (.bipush 120, 2) := by decide +kernel
theorem dX6_init_179 : decode cX6_init 179 = .ok (.newarray .int, 2) := by decide +kernel
theorem dX6_init_181 : decode cX6_init 181 = .ok (.putfield 79, 3) := by decide +kernel
theorem dX6_init_184 : decode cX6_init 184 = .ok (.aload_n 0, 1) := by decide +kernel
theorem dX6_init_185 : decode cX6_init 185 = .ok (.bipush 120, 2) := by decide +kernel
theorem dX6_init_187 : decode cX6_init 187 = .ok (.newarray .int, 2) := by decide +kernel
theorem dX6_init_189 : decode cX6_init 189 = .ok (.putfield 82, 3) := by decide +kernel
theorem dX6_init_192 : decode cX6_init 192 = .ok (.aload_n 0, 1) := by decide +kernel
theorem dX6_init_193 : decode cX6_init 193 = .ok (.bipush 120, 2) := by decide +kernel
theorem dX6_init_195 : decode cX6_init 195 = .ok (.newarray .int, 2) := by decide +kernel
theorem dX6_init_197 : decode cX6_init 197 = .ok (.putfield 85, 3) := by decide +kernel
theorem dX6_init_200 : decode cX6_init 200 = .ok (.aload_n 0, 1) := by decide +kernel
theorem dX6_init_201 : decode cX6_init 201 = .ok (.bipush 120, 2) := by decide +kernel
theorem dX6_init_203 : decode cX6_init 203 = .ok (.newarray .int, 2) := by decide +kernel
theorem dX6_init_205 : decode cX6_init 205 = .ok (.putfield 88, 3) := by decide +kernel
theorem dX6_init_208 : decode cX6_init 208 = .ok (.aload_n 0, 1) := by decide +kernel
theorem dX6_init_209 : decode cX6_init 209 = .ok (.bipush 120, 2) := by decide +kernel
theorem dX6_init_211 : decode cX6_init 211 = .ok (.newarray .int, 2) := by decide +kernel
theorem dX6_init_213 : decode cX6_init 213 = .ok (.putfield 91, 3) := by decide +kernel
theorem dX6_init_216 : decode cX6_init 216 = .ok (.aload_n 0, 1) := by decide +kernel
theorem dX6_init_217 : decode cX6_init 217 = .ok (.bipush 120, 2) := by decide +kernel
theorem dX6_init_219 : decode cX6_init 219 = .ok (.newarray .int, 2) := by decide +kernel
theorem dX6_init_221 : decode cX6_init 221 = .ok (.putfield 94, 3) := by decide +kernel
theorem dX6_init_224 : decode cX6_init 224 = .ok (.aload_n 0, 1) := by decide +kernel
theorem dX6_init_225 : decode cX6_init 225 = .ok (.bipush 64, 2) := by decide +kernel
theorem dX6_init_227 : decode cX6_init 227 = .ok (.newarray .int, 2) := by decide +kernel
theorem dX6_init_229 : decode cX6_init 229 = .ok (.putfield 97, 3) := by decide +kernel
theorem dX6_init_232 : decode cX6_init 232 = .ok (.aload_n 0, 1) := by decide +kernel
theorem dX6_init_233 : decode cX6_init 233 = .ok (.bipush 64, 2) := by decide +kernel
theorem dX6_init_235 : decode cX6_init 235 = .ok (.newarray .int, 2) := by decide +kernel
theorem dX6_init_237 : decode cX6_init 237 = .ok (.putfield 100, 3) := by decide +kernel
theorem dX6_init_240 : decode cX6_init 240 = .ok (.aload_n 0, 1) := by decide +kernel
theorem dX6_init_241 : decode cX6_init 241 = .ok (.sipush 25200, 3) := by decide +kernel
theorem dX6_init_244 : decode cX6_init 244 = .ok (.newarray .boolean, 2) := by decide +kernel
theorem dX6_init_246 : decode cX6_init 246 = .ok (.putfield 103, 3) := by decide +kernel
theorem dX6_init_249 : decode cX6_init 249 = .ok (.aload_n 0, 1) := by decide +kernel
theorem dX6_init_250 : decode cX6_init 250 = .ok (.iconst 0, 1) := by decide +kernel
theorem dX6_init_251 : decode cX6_init 251 = .ok (.ldc2_w 106, 3) := by decide +kernel
theorem dX6_init_254 : decode cX6_init 254 = .ok (.sipush 7600, 3) := by decide +kernel
theorem dX6_init_257 : decode cX6_init 257 = .ok (.invokevirtual 108, 3) := by decide +kernel
theorem dX6_init_260 : decode cX6_init 260 = .ok (.aload_n 0, 1) := by decide +kernel
theorem dX6_init_261 : decode cX6_init 261 = .ok (.iconst 1, 1) := by decide +kernel
theorem dX6_init_262 : decode cX6_init 262 = .ok (.ldc2_w 112, 3) := by decide +kernel
theorem dX6_init_265 : decode cX6_init 265 = .ok (.sipush 1800, 3) := by decide +kernel
theorem dX6_init_268 : decode cX6_init 268 = .ok (.invokevirtual 108, 3) := by decide +kernel
theorem dX6_init_271 : decode cX6_init 271 = .ok (.aload_n 0, 1) := by decide +kernel
theorem dX6_init_272 : decode cX6_init 272 = .ok (.iconst 2, 1) := by decide +kernel
theorem dX6_init_273 : decode cX6_init 273 = .ok (.ldc2_w 114, 3) := by decide +kernel
theorem dX6_init_276 : decode cX6_init 276 = .ok (.sipush 180, 3) := by decide +kernel
theorem dX6_init_279 : decode cX6_init 279 = .ok (.invokevirtual 108, 3) := by decide +kernel
theorem dX6_init_282 : decode cX6_init 282 = .ok (.aload_n 0, 1) := by decide +kernel
theorem dX6_init_283 : decode cX6_init 283 = .ok (.iconst 3, 1) := by decide +kernel
theorem dX6_init_284 : decode cX6_init 284 = .ok (.ldc2_w 116, 3) := by decide +kernel
theorem dX6_init_287 : decode cX6_init 287 = .ok (.bipush 10, 2) := by decide +kernel
theorem dX6_init_289 : decode cX6_init 289 = .ok (.invokevirtual 108, 3) := by decide +kernel
theorem dX6_init_292 : decode cX6_init 292 = .ok (.aload_n 0, 1) := by decide +kernel
theorem dX6_init_293 : decode cX6_init 293 = .ok (.iconst 4, 1) := by decide +kernel
theorem dX6_init_294 : decode cX6_init 294 = .ok (.ldc2_w 118, 3) := by decide +kernel
theorem dX6_init_297 : decode cX6_init 297 = .ok (.sipush 2600, 3) := by decide +kernel
theorem dX6_init_300 : decode cX6_init 300 = .ok (.invokevirtual 108, 3) := by decide +kernel
theorem dX6_init_303 : decode cX6_init 303 = .ok (.aload_n 0, 1) := by decide +kernel
theorem dX6_init_304 : decode cX6_init 304 = .ok (.iconst 5, 1) := by decide +kernel
theorem dX6_init_305 : decode cX6_init 305 = .ok (.ldc2_w 120, 3) := by decide +kernel
theorem dX6_init_308 : decode cX6_init 308 = .ok (.sipush 180, 3) := by decide +kernel
theorem dX6_init_311 : decode cX6_init 311 = .ok (.invokevirtual 108, 3) := by decide +kernel
theorem dX6_init_314 : decode cX6_init 314 = .ok (.aload_n 0, 1) := by decide +kernel
theorem dX6_init_315 : decode cX6_init 315 = .ok (.bipush 6, 2) := by decide +kernel
theorem dX6_init_317 : decode cX6_init 317 = .ok (.ldc2_w 122, 3) := by decide +kernel
theorem dX6_init_320 : decode cX6_init 320 = .ok (.bipush 30, 2) := by decide +kernel
theorem dX6_init_322 : decode cX6_init 322 = .ok (.invokevirtual 108, 3) := by decide +kernel
theorem dX6_init_325 : decode cX6_init 325 = .ok (.aload_n 0, 1) := by decide +kernel
theorem dX6_init_326 : decode cX6_init 326 = .ok (.bipush 7, 2) := by decide +kernel
theorem dX6_init_328 : decode cX6_init 328 = .ok (.ldc2_w 124, 3) := by decide +kernel
theorem dX6_init_331 : decode cX6_init 331 = .ok (.iconst 1, 1) := by decide +kernel
theorem dX6_init_332 : decode cX6_init 332 = .ok (.invokevirtual 108, 3) := by decide +kernel
theorem dX6_init_335 : decode cX6_init 335 = .ok (.aload_n 0, 1) := by decide +kernel
theorem dX6_init_336 : decode cX6_init 336 = .ok (.bipush 8, 2) := by decide +kernel
theorem dX6_init_338 : decode cX6_init 338 = .ok (.ldc2_w 126, 3) := by decide +kernel
theorem dX6_init_341 : decode cX6_init 341 = .ok (.bipush 100, 2) := by decide +kernel
theorem dX6_init_343 : decode cX6_init 343 = .ok (.invokevirtual 108, 3) := by decide +kernel
theorem dX6_init_346 : decode cX6_init 346 = .ok (.iconst 0, 1) := by decide +kernel
theorem dX6_init_347 : decode cX6_init 347 = .ok (.istore_n 1, 1) := by decide +kernel
theorem dX6_init_348 : decode cX6_init 348 = .ok (.iload_n 1, 1) := by decide +kernel
theorem dX6_init_349 : decode cX6_init 349 = .ok (.bipush 81, 2) := by decide +kernel
theorem dX6_init_351 : decode cX6_init 351 = .ok (.if_icmp .ge 42, 3) := by decide +kernel
theorem dX6_init_354 : decode cX6_init 354 = .ok (.aload_n 0, 1) := by decide +kernel
theorem dX6_init_355 : decode cX6_init 355 = .ok (.getfield 58, 3) := by decide +kernel
theorem dX6_init_358 : decode cX6_init 358 = .ok (.iload_n 1, 1) := by decide +kernel
theorem dX6_init_359 : decode cX6_init 359 = .ok (.iconst 1, 1) := by decide +kernel
theorem dX6_init_360 : decode cX6_init 360 = .ok (.bastore, 1) := by decide +kernel
theorem dX6_init_361 : decode cX6_init 361 = .ok (.aload_n 0, 1) := by decide +kernel
theorem dX6_init_362 : decode cX6_init 362 = .ok (.getfield 61, 3) := by decide +kernel
theorem dX6_init_365 : decode cX6_init 365 = .ok (.iload_n 1, 1) := by decide +kernel
theorem dX6_init_366 : decode cX6_init 366 = .ok (.bipush 100, 2) := by decide +kernel
theorem dX6_init_368 : decode cX6_init 368 = .ok (.iload_n 1, 1) := by decide +kernel
theorem dX6_init_369 : decode cX6_init 369 = .ok (.bipush 9, 2) := by decide +kernel
theorem dX6_init_371 : decode cX6_init 371 = .ok (.irem, 1) := by decide +kernel
theorem dX6_init_372 : decode cX6_init 372 = .ok (.imul, 1) := by decide +kernel
theorem dX6_init_373 : decode cX6_init 373 = .ok (.iastore, 1) := by decide +kernel
theorem dX6_init_374 : decode cX6_init 374 = .ok (.aload_n 0, 1) := by decide +kernel
theorem dX6_init_375 : decode cX6_init 375 = .ok (.getfield 64, 3) := by decide +kernel
theorem dX6_init_378 : decode cX6_init 378 = .ok (.iload_n 1, 1) := by decide +kernel
theorem dX6_init_379 : decode cX6_init 379 = .ok (.bipush 100, 2) := by decide +kernel
theorem dX6_init_381 : decode cX6_init 381 = .ok (.iload_n 1, 1) := by decide +kernel
theorem dX6_init_382 : decode cX6_init 382 = .ok (.bipush 9, 2) := by decide +kernel
theorem dX6_init_384 : decode cX6_init 384 = .ok (.idiv, 1) := by decide +kernel
theorem dX6_init_385 : decode cX6_init 385 = .ok (.imul, 1) := by decide +kernel
theorem dX6_init_386 : decode cX6_init 386 = .ok (.iastore, 1) := by decide +kernel
theorem dX6_init_387 : decode cX6_init 387 = .ok (.iinc 1 1, 3) := by decide +kernel
theorem dX6_init_390 : decode cX6_init 390 = .ok (.goto (-42), 3) := by decide +kernel
theorem dX6_init_393 : decode cX6_init 393 = .ok (.return_, 1) := by decide +kernel
theorem dX6_setDefault_0 : decode cX6_setDefault 0 = .ok (.aload_n 0, 1) := by decide +kernel
theorem dX6_setDefault_1 : decode cX6_setDefault 1 = .ok (.getfield 35, 3) := by decide +kernel
theorem dX6_setDefault_4 : decode cX6_setDefault 4 = .ok (.iload_n 1, 1) := by decide +kernel
theorem dX6_setDefault_5 : decode cX6_setDefault 5 = .ok (.lload_n 2, 1) := by decide +kernel
theorem dX6_setDefault_6 : decode cX6_setDefault 6 = .ok (.lastore, 1) := by decide +kernel
theorem dX6_setDefault_7 : decode cX6_setDefault 7 = .ok (.aload_n 0, 1) := by decide +kernel
theorem dX6_setDefault_8 : decode cX6_setDefault 8 = .ok (.getfield 32, 3) := by decide +kernel
theorem dX6_setDefault_11 : decode cX6_setDefault 11 = .ok (.iload_n 1, 1) := by decide +kernel
theorem dX6_setDefault_12 : decode cX6_setDefault 12 = .ok (.iload 4, 2) := by decide +kernel
theorem dX6_setDefault_14 : decode cX6_setDefault 14 = .ok (.iastore, 1) := by decide +kernel
theorem dX6_setDefault_15 : decode cX6_setDefault 15 = .ok (.return_, 1) := by decide +kernel
theorem dX6_in_0 : decode cX6_in 0 = .ok (.lload_n 0, 1) := by decide +kernel
theorem dX6_in_1 : decode cX6_in 1 = .ok (.lload_n 2, 1) := by decide +kernel
theorem dX6_in_2 : decode cX6_in 2 = .ok (.lcmp, 1) := by decide +kernel
theorem dX6_in_3 : decode cX6_in 3 = .ok (.ifCond .lt 14, 3) := by decide +kernel
theorem dX6_in_6 : decode cX6_in 6 = .ok (.lload_n 0, 1) := by decide +kernel
theorem dX6_in_7 : decode cX6_in 7 = .ok (.lload 4, 2) := by decide +kernel
theorem dX6_in_9 : decode cX6_in 9 = .ok (.lcmp, 1) := by decide +kernel
theorem dX6_in_10 : decode cX6_in 10 = .ok (.ifCond .gt 7, 3) := by decide +kernel
theorem dX6_in_13 : decode cX6_in 13 = .ok (.iconst 1, 1) := by decide +kernel
theorem dX6_in_14 : decode cX6_in 14 = .ok (.goto 4, 3) := by decide +kernel
theorem dX6_in_17 : decode cX6_in 17 = .ok (.iconst 0, 1) := by decide +kernel
theorem dX6_in_18 : decode cX6_in 18 = .ok (.ireturn, 1) := by decide +kernel
set_option maxRecDepth 20000 in
theorem ggX6_isDay_X6_in : GoodIn wsX6_isDay wsX6_in := goodIn_r _ [5] (by decide +kernel) (by decide +kernel)
set_option maxRecDepth 20000 in
theorem gX6_isDay_X6_in : GoodIn wsX6_isDay (va_wsS RX6 130 yX6_in wsX6_in) := goodIn_app (goodIn_of _ (by decide +kernel)) ggX6_isDay_X6_in
theorem dX6_isDay_0 : decode cX6_isDay 0 = .ok (.iload_n 0, 1) := by decide +kernel
theorem dX6_isDay_1 : decode cX6_isDay 1 = .ok (.i2l, 1) := by decide +kernel
theorem dX6_isDay_2 : decode cX6_isDay 2 = .ok (.lconst 0, 1) := by decide +kernel
theorem dX6_isDay_3 : decode cX6_isDay 3 = .ok (.ldc2_w 128, 3) := by decide +kernel
theorem dX6_isDay_6 : decode cX6_isDay 6 = .ok (.invokestatic 130, 3) := by decide +kernel
theorem dX6_isDay_9 : decode cX6_isDay 9 = .ok (.ireturn, 1) := by decide +kernel
set_option maxRecDepth 20000 in
theorem ggX6_isPerson_X6_in : GoodIn wsX6_isPerson wsX6_in := goodIn_r _ [5] (by decide +kernel) (by decide +kernel)
set_option maxRecDepth 20000 in
theorem gX6_isPerson_X6_in : GoodIn wsX6_isPerson (va_wsS RX6 130 yX6_in wsX6_in) := goodIn_app (goodIn_of _ (by decide +kernel)) ggX6_isPerson_X6_in
theorem dX6_isPerson_0 : decode cX6_isPerson 0 = .ok (.iload_n 1, 1) := by decide +kernel
theorem dX6_isPerson_1 : decode cX6_isPerson 1 = .ok (.i2l, 1) := by decide +kernel
theorem dX6_isPerson_2 : decode cX6_isPerson 2 = .ok (.lconst 0, 1) := by decide +kernel
theorem dX6_isPerson_3 : decode cX6_isPerson 3 = .ok (.aload_n 0, 1) := by decide +kernel
theorem dX6_isPerson_4 : decode cX6_isPerson 4 = .ok (.getfield 134, 3) := by decide +kernel
theorem dX6_isPerson_7 : decode cX6_isPerson 7 = .ok (.iconst 1, 1) := by decide +kernel
theorem dX6_isPerson_8 : decode cX6_isPerson 8 = .ok (.isub, 1) := by decide +kernel
theorem dX6_isPerson_9 : decode cX6_isPerson 9 = .ok (.i2l, 1) := by decide +kernel
theorem dX6_isPerson_10 : decode cX6_isPerson 10 = .ok (.invokestatic 130, 3) := by decide +kernel
theorem dX6_isPerson_13 : decode cX6_isPerson 13 = .ok (.ireturn, 1) := by decide +kernel
set_option maxRecDepth 20000 in
theorem ggX6_isQuarter_X6_in : GoodIn wsX6_isQuarter wsX6_in := goodIn_r _ [5] (by decide +kernel) (by decide +kernel)
set_option maxRecDepth 20000 in
theorem gX6_isQuarter_X6_in : GoodIn wsX6_isQuarter (va_wsS RX6 130 yX6_in wsX6_in) := goodIn_app (goodIn_of _ (by decide +kernel)) ggX6_isQuarter_X6_in
theorem dX6_isQuarter_0 : decode cX6_isQuarter 0 = .ok (.iload_n 0, 1) := by decide +kernel
theorem dX6_isQuarter_1 : decode cX6_isQuarter 1 = .ok (.i2l, 1) := by decide +kernel
theorem dX6_isQuarter_2 : decode cX6_isQuarter 2 = .ok (.lconst 0, 1) := by decide +kernel
theorem dX6_isQuarter_3 : decode cX6_isQuarter 3 = .ok (.ldc2_w 137, 3) := by decide +kernel
theorem dX6_isQuarter_6 : decode cX6_isQuarter 6 = .ok (.invokestatic 130, 3) := by decide +kernel
theorem dX6_isQuarter_9 : decode cX6_isQuarter 9 = .ok (.ireturn, 1) := by decide +kernel
set_option maxRecDepth 20000 in
theorem ggX6_person_X6_in : GoodIn wsX6_person wsX6_in := goodIn_r _ [10] (by decide +kernel) (by decide +kernel)
set_option maxRecDepth 20000 in
theorem gX6_person_X6_in : GoodIn wsX6_person (va_wsS RX6 130 yX6_in wsX6_in) := goodIn_app (goodIn_of _ (by decide +kernel)) ggX6_person_X6_in
theorem dX6_person_0 : decode cX6_person 0 = .ok (.iload_n 1, 1) := by decide +kernel
theorem dX6_person_1 : decode cX6_person 1 = .ok (.i2l, 1) := by decide +kernel
theorem dX6_person_2 : decode cX6_person 2 = .ok (.ldc2_w 139, 3) := by decide +kernel
theorem dX6_person_5 : decode cX6_person 5 = .ok (.ldc2_w 128, 3) := by decide +kernel
theorem dX6_person_8 : decode cX6_person 8 = .ok (.invokestatic 130, 3) := by decide +kernel
theorem dX6_person_11 : decode cX6_person 11 = .ok (.ifCond .eq 17, 3) := by decide +kernel
theorem dX6_person_14 : decode cX6_person 14 = .ok (.iload_n 2, 1) := by decide +kernel
theorem dX6_person_15 : decode cX6_person 15 = .ok (.i2l, 1) := by decide +kernel
theorem dX6_person_16 : decode cX6_person 16 = .ok (.ldc2_w 139, 3) := by decide +kernel
theorem dX6_person_19 : decode cX6_person 19 = .ok (.ldc2_w 141, 3) := by decide +kernel
theorem dX6_person_22 : decode cX6_person 22 = .ok (.invokestatic 130, 3) := by decide +kernel
theorem dX6_person_25 : decode cX6_person 25 = .ok (.ifCond .ne 7, 3) := by decide +kernel
theorem dX6_person_28 : decode cX6_person 28 = .ok (.sipush (-1002), 3) := by decide +kernel
theorem dX6_person_31 : decode cX6_person 31 = .ok (.ireturn, 1) := by decide +kernel
theorem dX6_person_32 : decode cX6_person 32 = .ok (.aload_n 0, 1) := by decide +kernel
theorem dX6_person_33 : decode cX6_person 33 = .ok (.getfield 134, 3) := by decide +kernel
theorem dX6_person_36 : decode cX6_person 36 = .ok (.bipush 12, 2) := by decide +kernel
theorem dX6_person_38 : decode cX6_person 38 = .ok (.if_icmp .ne 7, 3) := by decide +kernel
theorem dX6_person_41 : decode cX6_person 41 = .ok (.sipush (-1004), 3) := by decide +kernel
theorem dX6_person_44 : decode cX6_person 44 = .ok (.ireturn, 1) := by decide +kernel
theorem dX6_person_45 : decode cX6_person 45 = .ok (.aload_n 0, 1) := by decide +kernel
theorem dX6_person_46 : decode cX6_person 46 = .ok (.getfield 7, 3) := by decide +kernel
theorem dX6_person_49 : decode cX6_person 49 = .ok (.aload_n 0, 1) := by decide +kernel
theorem dX6_person_50 : decode cX6_person 50 = .ok (.getfield 134, 3) := by decide +kernel
theorem dX6_person_53 : decode cX6_person 53 = .ok (.iload_n 1, 1) := by decide +kernel
theorem dX6_person_54 : decode cX6_person 54 = .ok (.iastore, 1) := by decide +kernel
theorem dX6_person_55 : decode cX6_person 55 = .ok (.aload_n 0, 1) := by decide +kernel
theorem dX6_person_56 : decode cX6_person 56 = .ok (.getfield 13, 3) := by decide +kernel
theorem dX6_person_59 : decode cX6_person 59 = .ok (.aload_n 0, 1) := by decide +kernel
theorem dX6_person_60 : decode cX6_person 60 = .ok (.getfield 134, 3) := by decide +kernel
theorem dX6_person_63 : decode cX6_person 63 = .ok (.iload_n 2, 1) := by decide +kernel
theorem dX6_person_64 : decode cX6_person 64 = .ok (.iastore, 1) := by decide +kernel
theorem dX6_person_65 : decode cX6_person 65 = .ok (.aload_n 0, 1) := by decide +kernel
theorem dX6_person_66 : decode cX6_person 66 = .ok (.dup, 1) := by decide +kernel
theorem dX6_person_67 : decode cX6_person 67 = .ok (.getfield 134, 3) := by decide +kernel
theorem dX6_person_70 : decode cX6_person 70 = .ok (.iconst 1, 1) := by decide +kernel
theorem dX6_person_71 : decode cX6_person 71 = .ok (.iadd, 1) := by decide +kernel
theorem dX6_person_72 : decode cX6_person 72 = .ok (.putfield 134, 3) := by decide +kernel
theorem dX6_person_75 : decode cX6_person 75 = .ok (.aload_n 0, 1) := by decide +kernel
theorem dX6_person_76 : decode cX6_person 76 = .ok (.getfield 134, 3) := by decide +kernel
theorem dX6_person_79 : decode cX6_person 79 = .ok (.iconst 1, 1) := by decide +kernel
theorem dX6_person_80 : decode cX6_person 80 = .ok (.isub, 1) := by decide +kernel
theorem dX6_person_81 : decode cX6_person 81 = .ok (.ireturn, 1) := by decide +kernel
set_option maxRecDepth 20000 in
theorem ggX6_map_X6_in : GoodIn wsX6_map wsX6_in := goodIn_r _ [6] (by decide +kernel) (by decide +kernel)
set_option maxRecDepth 20000 in
theorem gX6_map_X6_in : GoodIn wsX6_map (va_wsS RX6 130 yX6_in wsX6_in) := goodIn_app (goodIn_of _ (by decide +kernel)) ggX6_map_X6_in
theorem dX6_map_0 : decode cX6_map 0 = .ok (.iload_n 1, 1) := by decide +kernel
theorem dX6_map_1 : decode cX6_map 1 = .ok (.i2l, 1) := by decide +kernel
theorem dX6_map_2 : decode cX6_map 2 = .ok (.lconst 0, 1) := by decide +kernel
theorem dX6_map_3 : decode cX6_map 3 = .ok (.ldc2_w 141, 3) := by decide +kernel
theorem dX6_map_6 : decode cX6_map 6 = .ok (.invokestatic 130, 3) := by decide +kernel
theorem dX6_map_9 : decode cX6_map 9 = .ok (.ifCond .ne 7, 3) := by decide +kernel
theorem dX6_map_12 : decode cX6_map 12 = .ok (.sipush (-1002), 3) := by decide +kernel
theorem dX6_map_15 : decode cX6_map 15 = .ok (.ireturn, 1) := by decide +kernel
theorem dX6_map_16 : decode cX6_map 16 = .ok (.aload_n 0, 1) := by decide +kernel
theorem dX6_map_17 : decode cX6_map 17 = .ok (.getfield 16, 3) := by decide +kernel
theorem dX6_map_20 : decode cX6_map 20 = .ok (.istore_n 2, 1) := by decide +kernel
theorem dX6_map_21 : decode cX6_map 21 = .ok (.aload_n 0, 1) := by decide +kernel
theorem dX6_map_22 : decode cX6_map 22 = .ok (.iload_n 1, 1) := by decide +kernel
theorem dX6_map_23 : decode cX6_map 23 = .ok (.putfield 16, 3) := by decide +kernel
theorem dX6_map_26 : decode cX6_map 26 = .ok (.iload_n 2, 1) := by decide +kernel
theorem dX6_map_27 : decode cX6_map 27 = .ok (.ireturn, 1) := by decide +kernel
set_option maxRecDepth 20000 in
theorem ggX6_feed_X6_in : GoodIn wsX6_feed wsX6_in := goodIn_r _ [8] (by decide +kernel) (by decide +kernel)
set_option maxRecDepth 20000 in
theorem gX6_feed_X6_in : GoodIn wsX6_feed (va_wsS RX6 130 yX6_in wsX6_in) := goodIn_app (goodIn_of _ (by decide +kernel)) ggX6_feed_X6_in
theorem dX6_feed_0 : decode cX6_feed 0 = .ok (.iload_n 1, 1) := by decide +kernel
theorem dX6_feed_1 : decode cX6_feed 1 = .ok (.i2l, 1) := by decide +kernel
theorem dX6_feed_2 : decode cX6_feed 2 = .ok (.lconst 1, 1) := by decide +kernel
theorem dX6_feed_3 : decode cX6_feed 3 = .ok (.ldc2_w 143, 3) := by decide +kernel
theorem dX6_feed_6 : decode cX6_feed 6 = .ok (.invokestatic 130, 3) := by decide +kernel
theorem dX6_feed_9 : decode cX6_feed 9 = .ok (.ifCond .ne 7, 3) := by decide +kernel
theorem dX6_feed_12 : decode cX6_feed 12 = .ok (.sipush (-1002), 3) := by decide +kernel
theorem dX6_feed_15 : decode cX6_feed 15 = .ok (.ireturn, 1) := by decide +kernel
theorem dX6_feed_16 : decode cX6_feed 16 = .ok (.aload_n 0, 1) := by decide +kernel
theorem dX6_feed_17 : decode cX6_feed 17 = .ok (.getfield 145, 3) := by decide +kernel
theorem dX6_feed_20 : decode cX6_feed 20 = .ok (.iload_n 1, 1) := by decide +kernel
theorem dX6_feed_21 : decode cX6_feed 21 = .ok (.iadd, 1) := by decide +kernel
theorem dX6_feed_22 : decode cX6_feed 22 = .ok (.bipush 120, 2) := by decide +kernel
theorem dX6_feed_24 : decode cX6_feed 24 = .ok (.if_icmp .le 7, 3) := by decide +kernel
theorem dX6_feed_27 : decode cX6_feed 27 = .ok (.sipush (-1004), 3) := by decide +kernel
theorem dX6_feed_30 : decode cX6_feed 30 = .ok (.ireturn, 1) := by decide +kernel
theorem dX6_feed_31 : decode cX6_feed 31 = .ok (.iload_n 1, 1) := by decide +kernel
theorem dX6_feed_32 : decode cX6_feed 32 = .ok (.iconst 1, 1) := by decide +kernel
theorem dX6_feed_33 : decode cX6_feed 33 = .ok (.isub, 1) := by decide +kernel
theorem dX6_feed_34 : decode cX6_feed 34 = .ok (.istore 4, 2) := by decide +kernel
theorem dX6_feed_36 : decode cX6_feed 36 = .ok (.iload 4, 2) := by decide +kernel
theorem dX6_feed_38 : decode cX6_feed 38 = .ok (.ifCond .lt 40, 3) := by decide +kernel
theorem dX6_feed_41 : decode cX6_feed 41 = .ok (.aload_n 0, 1) := by decide +kernel
theorem dX6_feed_42 : decode cX6_feed 42 = .ok (.getfield 20, 3) := by decide +kernel
theorem dX6_feed_45 : decode cX6_feed 45 = .ok (.aload_n 0, 1) := by decide +kernel
theorem dX6_feed_46 : decode cX6_feed 46 = .ok (.getfield 145, 3) := by decide +kernel
theorem dX6_feed_49 : decode cX6_feed 49 = .ok (.lload_n 2, 1) := by decide +kernel
theorem dX6_feed_50 : decode cX6_feed 50 = .ok (.bipush 8, 2) := by decide +kernel
theorem dX6_feed_52 : decode cX6_feed 52 = .ok (.iload 4, 2) := by decide +kernel
theorem dX6_feed_54 : decode cX6_feed 54 = .ok (.imul, 1) := by decide +kernel
theorem dX6_feed_55 : decode cX6_feed 55 = .ok (.lshr, 1) := by decide +kernel
theorem dX6_feed_56 : decode cX6_feed 56 = .ok (.ldc2_w 148, 3) := by decide +kernel
theorem dX6_feed_59 : decode cX6_feed 59 = .ok (.land, 1) := by decide +kernel
theorem dX6_feed_60 : decode cX6_feed 60 = .ok (.l2i, 1) := by decide +kernel
theorem dX6_feed_61 : decode cX6_feed 61 = .ok (.iastore, 1) := by decide +kernel
theorem dX6_feed_62 : decode cX6_feed 62 = .ok (.aload_n 0, 1) := by decide +kernel
theorem dX6_feed_63 : decode cX6_feed 63 = .ok (.dup, 1) := by decide +kernel
theorem dX6_feed_64 : decode cX6_feed 64 = .ok (.getfield 145, 3) := by decide +kernel
theorem dX6_feed_67 : decode cX6_feed 67 = .ok (.iconst 1, 1) := by decide +kernel
theorem dX6_feed_68 : decode cX6_feed 68 = .ok (.iadd, 1) := by decide +kernel
theorem dX6_feed_69 : decode cX6_feed 69 = .ok (.putfield 145, 3) := by decide +kernel
theorem dX6_feed_72 : decode cX6_feed 72 = .ok (.iinc 4 (-1), 3) := by decide +kernel
theorem dX6_feed_75 : decode cX6_feed 75 = .ok (.goto (-39), 3) := by decide +kernel
theorem dX6_feed_78 : decode cX6_feed 78 = .ok (.aload_n 0, 1) := by decide +kernel
theorem dX6_feed_79 : decode cX6_feed 79 = .ok (.getfield 145, 3) := by decide +kernel
theorem dX6_feed_82 : decode cX6_feed 82 = .ok (.ireturn, 1) := by decide +kernel
theorem dX6_fails_0 : decode cX6_fails 0 = .ok (.aload_n 0, 1) := by decide +kernel
theorem dX6_fails_1 : decode cX6_fails 1 = .ok (.iload_n 2, 1) := by decide +kernel
theorem dX6_fails_2 : decode cX6_fails 2 = .ok (.putfield 23, 3) := by decide +kernel
theorem dX6_fails_5 : decode cX6_fails 5 = .ok (.bipush (-10), 2) := by decide +kernel
theorem dX6_fails_7 : decode cX6_fails 7 = .ok (.iload_n 1, 1) := by decide +kernel
theorem dX6_fails_8 : decode cX6_fails 8 = .ok (.isub, 1) := by decide +kernel
theorem dX6_fails_9 : decode cX6_fails 9 = .ok (.ireturn, 1) := by decide +kernel
set_option maxRecDepth 20000 in
theorem ggX6_wordAt_X6_in : GoodIn wsX6_wordAt wsX6_in := goodIn_r _ [8] (by decide +kernel) (by decide +kernel)
set_option maxRecDepth 20000 in
theorem gX6_wordAt_X6_in : GoodIn wsX6_wordAt (va_wsS RX6 130 yX6_in wsX6_in) := goodIn_app (goodIn_of _ (by decide +kernel)) ggX6_wordAt_X6_in
theorem dX6_wordAt_0 : decode cX6_wordAt 0 = .ok (.lconst 0, 1) := by decide +kernel
theorem dX6_wordAt_1 : decode cX6_wordAt 1 = .ok (.lstore_n 3, 1) := by decide +kernel
theorem dX6_wordAt_2 : decode cX6_wordAt 2 = .ok (.iload_n 2, 1) := by decide +kernel
theorem dX6_wordAt_3 : decode cX6_wordAt 3 = .ok (.iload_n 1, 1) := by decide +kernel
theorem dX6_wordAt_4 : decode cX6_wordAt 4 = .ok (.isub, 1) := by decide +kernel
theorem dX6_wordAt_5 : decode cX6_wordAt 5 = .ok (.bipush 7, 2) := by decide +kernel
theorem dX6_wordAt_7 : decode cX6_wordAt 7 = .ok (.if_icmp .ge 7, 3) := by decide +kernel
theorem dX6_wordAt_10 : decode cX6_wordAt 10 = .ok (.iconst 1, 1) := by decide +kernel
theorem dX6_wordAt_11 : decode cX6_wordAt 11 = .ok (.goto 4, 3) := by decide +kernel
theorem dX6_wordAt_14 : decode cX6_wordAt 14 = .ok (.iconst 0, 1) := by decide +kernel
theorem dX6_wordAt_15 : decode cX6_wordAt 15 = .ok (.istore 5, 2) := by decide +kernel
theorem dX6_wordAt_17 : decode cX6_wordAt 17 = .ok (.iload_n 1, 1) := by decide +kernel
theorem dX6_wordAt_18 : decode cX6_wordAt 18 = .ok (.istore 6, 2) := by decide +kernel
theorem dX6_wordAt_20 : decode cX6_wordAt 20 = .ok (.iload 6, 2) := by decide +kernel
theorem dX6_wordAt_22 : decode cX6_wordAt 22 = .ok (.iload_n 2, 1) := by decide +kernel
theorem dX6_wordAt_23 : decode cX6_wordAt 23 = .ok (.if_icmp .ge 47, 3) := by decide +kernel
theorem dX6_wordAt_26 : decode cX6_wordAt 26 = .ok (.iload 5, 2) := by decide +kernel
theorem dX6_wordAt_28 : decode cX6_wordAt 28 = .ok (.ifCond .eq 42, 3) := by decide +kernel
theorem dX6_wordAt_31 : decode cX6_wordAt 31 = .ok (.aload_n 0, 1) := by decide +kernel
theorem dX6_wordAt_32 : decode cX6_wordAt 32 = .ok (.getfield 20, 3) := by decide +kernel
theorem dX6_wordAt_35 : decode cX6_wordAt 35 = .ok (.iload 6, 2) := by decide +kernel
theorem dX6_wordAt_37 : decode cX6_wordAt 37 = .ok (.iaload, 1) := by decide +kernel
theorem dX6_wordAt_38 : decode cX6_wordAt 38 = .ok (.i2l, 1) := by decide +kernel
theorem dX6_wordAt_39 : decode cX6_wordAt 39 = .ok (.ldc2_w 150, 3) := by decide +kernel
theorem dX6_wordAt_42 : decode cX6_wordAt 42 = .ok (.ldc2_w 152, 3) := by decide +kernel
theorem dX6_wordAt_45 : decode cX6_wordAt 45 = .ok (.invokestatic 130, 3) := by decide +kernel
theorem dX6_wordAt_48 : decode cX6_wordAt 48 = .ok (.istore 5, 2) := by decide +kernel
theorem dX6_wordAt_50 : decode cX6_wordAt 50 = .ok (.lload_n 3, 1) := by decide +kernel
theorem dX6_wordAt_51 : decode cX6_wordAt 51 = .ok (.bipush 8, 2) := by decide +kernel
theorem dX6_wordAt_53 : decode cX6_wordAt 53 = .ok (.lshl, 1) := by decide +kernel
theorem dX6_wordAt_54 : decode cX6_wordAt 54 = .ok (.aload_n 0, 1) := by decide +kernel
theorem dX6_wordAt_55 : decode cX6_wordAt 55 = .ok (.getfield 20, 3) := by decide +kernel
theorem dX6_wordAt_58 : decode cX6_wordAt 58 = .ok (.iload 6, 2) := by decide +kernel
theorem dX6_wordAt_60 : decode cX6_wordAt 60 = .ok (.iaload, 1) := by decide +kernel
theorem dX6_wordAt_61 : decode cX6_wordAt 61 = .ok (.i2l, 1) := by decide +kernel
theorem dX6_wordAt_62 : decode cX6_wordAt 62 = .ok (.lor, 1) := by decide +kernel
theorem dX6_wordAt_63 : decode cX6_wordAt 63 = .ok (.lstore_n 3, 1) := by decide +kernel
theorem dX6_wordAt_64 : decode cX6_wordAt 64 = .ok (.iinc 6 1, 3) := by decide +kernel
theorem dX6_wordAt_67 : decode cX6_wordAt 67 = .ok (.goto (-47), 3) := by decide +kernel
theorem dX6_wordAt_70 : decode cX6_wordAt 70 = .ok (.iconst (-1), 1) := by decide +kernel
theorem dX6_wordAt_71 : decode cX6_wordAt 71 = .ok (.istore 6, 2) := by decide +kernel
theorem dX6_wordAt_73 : decode cX6_wordAt 73 = .ok (.iconst 0, 1) := by decide +kernel
theorem dX6_wordAt_74 : decode cX6_wordAt 74 = .ok (.istore 7, 2) := by decide +kernel
theorem dX6_wordAt_76 : decode cX6_wordAt 76 = .ok (.iload 7, 2) := by decide +kernel
theorem dX6_wordAt_78 : decode cX6_wordAt 78 = .ok (.bipush 9, 2) := by decide +kernel
theorem dX6_wordAt_80 : decode cX6_wordAt 80 = .ok (.if_icmp .ge 35, 3) := by decide +kernel
theorem dX6_wordAt_83 : decode cX6_wordAt 83 = .ok (.iload 5, 2) := by decide +kernel
theorem dX6_wordAt_85 : decode cX6_wordAt 85 = .ok (.ifCond .eq 30, 3) := by decide +kernel
theorem dX6_wordAt_88 : decode cX6_wordAt 88 = .ok (.aload_n 0, 1) := by decide +kernel
theorem dX6_wordAt_89 : decode cX6_wordAt 89 = .ok (.getfield 35, 3) := by decide +kernel
theorem dX6_wordAt_92 : decode cX6_wordAt 92 = .ok (.iload 7, 2) := by decide +kernel
theorem dX6_wordAt_94 : decode cX6_wordAt 94 = .ok (.laload, 1) := by decide +kernel
theorem dX6_wordAt_95 : decode cX6_wordAt 95 = .ok (.lload_n 3, 1) := by decide +kernel
theorem dX6_wordAt_96 : decode cX6_wordAt 96 = .ok (.lcmp, 1) := by decide +kernel
theorem dX6_wordAt_97 : decode cX6_wordAt 97 = .ok (.ifCond .ne 8, 3) := by decide +kernel
theorem dX6_wordAt_100 : decode cX6_wordAt 100 = .ok (.iload 7, 2) := by decide +kernel
theorem dX6_wordAt_102 : decode cX6_wordAt 102 = .ok (.goto 5, 3) := by decide +kernel
theorem dX6_wordAt_105 : decode cX6_wordAt 105 = .ok (.iload 6, 2) := by decide +kernel
theorem dX6_wordAt_107 : decode cX6_wordAt 107 = .ok (.istore 6, 2) := by decide +kernel
theorem dX6_wordAt_109 : decode cX6_wordAt 109 = .ok (.iinc 7 1, 3) := by decide +kernel
theorem dX6_wordAt_112 : decode cX6_wordAt 112 = .ok (.goto (-36), 3) := by decide +kernel
theorem dX6_wordAt_115 : decode cX6_wordAt 115 = .ok (.iload 6, 2) := by decide +kernel
theorem dX6_wordAt_117 : decode cX6_wordAt 117 = .ok (.ireturn, 1) := by decide +kernel
set_option maxRecDepth 20000 in
theorem ggX6_law_X6_isDay : GoodIn wsX6_law wsX6_isDay := goodIn_r _ [12, 13, 14, 15, 11, 16] (by decide +kernel) (by decide +kernel)
set_option maxRecDepth 20000 in
theorem gX6_law_X6_isDay : GoodIn wsX6_law (va_wsS RX6 154 yX6_isDay wsX6_isDay) := goodIn_app (goodIn_of _ (by decide +kernel)) ggX6_law_X6_isDay
set_option maxRecDepth 20000 in
theorem ggX6_law_X6_in : GoodIn wsX6_law wsX6_in := goodIn_r _ [16] (by decide +kernel) (by decide +kernel)
set_option maxRecDepth 20000 in
theorem gX6_law_X6_in : GoodIn wsX6_law (va_wsS RX6 130 yX6_in wsX6_in) := goodIn_app (goodIn_of _ (by decide +kernel)) ggX6_law_X6_in
set_option maxRecDepth 20000 in
theorem ggX6_law_X6_wordAt : GoodIn wsX6_law wsX6_wordAt := goodIn_r _ [20, 5, 21, 22, 23, 14, 15, 11, 16, 28, 29, 30, 31, 32, 33, 34, 35, 36, 37, 38, 39, 40, 41, 42, 43, 44, 45, 46, 47, 48, 49, 50, 51, 52, 53, 54, 55, 56, 57, 58, 59, 60, 61, 62, 63, 64, 65, 66, 67, 68, 69, 70, 71] (by decide +kernel) (by decide +kernel)
set_option maxRecDepth 20000 in
theorem gX6_law_X6_wordAt : GoodIn wsX6_law (wsV RX6 165 RX6 yX6_wordAt wsX6_wordAt) := goodIn_app (goodIn_of _ (by decide +kernel)) ggX6_law_X6_wordAt
set_option maxRecDepth 20000 in
theorem ggX6_law_X6_fails : GoodIn wsX6_law wsX6_fails := goodIn_r _ [27, 3, 28, 29, 30, 31, 32, 33, 34, 35, 36, 37, 38, 39, 40, 41, 42, 43, 44, 45, 46, 47, 48, 49, 50, 51, 52, 53, 54, 55, 56, 57, 58, 59, 60, 61, 62, 63, 64, 65, 66, 67, 68, 69, 70, 71] (by decide +kernel) (by decide +kernel)
set_option maxRecDepth 20000 in
theorem gX6_law_X6_fails : GoodIn wsX6_law (wsV RX6 169 RX6 yX6_fails wsX6_fails) := goodIn_app (goodIn_of _ (by decide +kernel)) ggX6_law_X6_fails
theorem dX6_law_0 : decode cX6_law 0 = .ok (.iload_n 1, 1) := by decide +kernel
theorem dX6_law_1 : decode cX6_law 1 = .ok (.invokestatic 154, 3) := by decide +kernel
theorem dX6_law_4 : decode cX6_law 4 = .ok (.ifCond .ne 7, 3) := by decide +kernel
theorem dX6_law_7 : decode cX6_law 7 = .ok (.sipush (-1002), 3) := by decide +kernel
theorem dX6_law_10 : decode cX6_law 10 = .ok (.ireturn, 1) := by decide +kernel
theorem dX6_law_11 : decode cX6_law 11 = .ok (.aload_n 0, 1) := by decide +kernel
theorem dX6_law_12 : decode cX6_law 12 = .ok (.getfield 158, 3) := by decide +kernel
theorem dX6_law_15 : decode cX6_law 15 = .ok (.bipush 8, 2) := by decide +kernel
theorem dX6_law_17 : decode cX6_law 17 = .ok (.if_icmp .ne 7, 3) := by decide +kernel
theorem dX6_law_20 : decode cX6_law 20 = .ok (.sipush (-1004), 3) := by decide +kernel
theorem dX6_law_23 : decode cX6_law 23 = .ok (.ireturn, 1) := by decide +kernel
theorem dX6_law_24 : decode cX6_law 24 = .ok (.aload_n 0, 1) := by decide +kernel
theorem dX6_law_25 : decode cX6_law 25 = .ok (.getfield 145, 3) := by decide +kernel
theorem dX6_law_28 : decode cX6_law 28 = .ok (.istore_n 2, 1) := by decide +kernel
theorem dX6_law_29 : decode cX6_law 29 = .ok (.aload_n 0, 1) := by decide +kernel
theorem dX6_law_30 : decode cX6_law 30 = .ok (.iconst 0, 1) := by decide +kernel
theorem dX6_law_31 : decode cX6_law 31 = .ok (.putfield 145, 3) := by decide +kernel
theorem dX6_law_34 : decode cX6_law 34 = .ok (.aload_n 0, 1) := by decide +kernel
theorem dX6_law_35 : decode cX6_law 35 = .ok (.iconst (-1), 1) := by decide +kernel
theorem dX6_law_36 : decode cX6_law 36 = .ok (.putfield 23, 3) := by decide +kernel
theorem dX6_law_39 : decode cX6_law 39 = .ok (.aload_n 0, 1) := by decide +kernel
theorem dX6_law_40 : decode cX6_law 40 = .ok (.getfield 158, 3) := by decide +kernel
theorem dX6_law_43 : decode cX6_law 43 = .ok (.istore_n 3, 1) := by decide +kernel
theorem dX6_law_44 : decode cX6_law 44 = .ok (.iconst 0, 1) := by decide +kernel
theorem dX6_law_45 : decode cX6_law 45 = .ok (.istore 4, 2) := by decide +kernel
theorem dX6_law_47 : decode cX6_law 47 = .ok (.iload 4, 2) := by decide +kernel
theorem dX6_law_49 : decode cX6_law 49 = .ok (.bipush 9, 2) := by decide +kernel
theorem dX6_law_51 : decode cX6_law 51 = .ok (.if_icmp .ge 22, 3) := by decide +kernel
theorem dX6_law_54 : decode cX6_law 54 = .ok (.aload_n 0, 1) := by decide +kernel
theorem dX6_law_55 : decode cX6_law 55 = .ok (.getfield 29, 3) := by decide +kernel
theorem dX6_law_58 : decode cX6_law 58 = .ok (.bipush 9, 2) := by decide +kernel
theorem dX6_law_60 : decode cX6_law 60 = .ok (.iload_n 3, 1) := by decide +kernel
theorem dX6_law_61 : decode cX6_law 61 = .ok (.imul, 1) := by decide +kernel
theorem dX6_law_62 : decode cX6_law 62 = .ok (.iload 4, 2) := by decide +kernel
theorem dX6_law_64 : decode cX6_law 64 = .ok (.iadd, 1) := by decide +kernel
theorem dX6_law_65 : decode cX6_law 65 = .ok (.iconst (-1), 1) := by decide +kernel
theorem dX6_law_66 : decode cX6_law 66 = .ok (.iastore, 1) := by decide +kernel
theorem dX6_law_67 : decode cX6_law 67 = .ok (.iinc 4 1, 3) := by decide +kernel
theorem dX6_law_70 : decode cX6_law 70 = .ok (.goto (-23), 3) := by decide +kernel
theorem dX6_law_73 : decode cX6_law 73 = .ok (.iconst (-1), 1) := by decide +kernel
theorem dX6_law_74 : decode cX6_law 74 = .ok (.istore 4, 2) := by decide +kernel
theorem dX6_law_76 : decode cX6_law 76 = .ok (.iconst 0, 1) := by decide +kernel
theorem dX6_law_77 : decode cX6_law 77 = .ok (.istore 5, 2) := by decide +kernel
theorem dX6_law_79 : decode cX6_law 79 = .ok (.iload 5, 2) := by decide +kernel
theorem dX6_law_81 : decode cX6_law 81 = .ok (.iload_n 2, 1) := by decide +kernel
theorem dX6_law_82 : decode cX6_law 82 = .ok (.if_icmp .ge 21, 3) := by decide +kernel
theorem dX6_law_85 : decode cX6_law 85 = .ok (.aload_n 0, 1) := by decide +kernel
theorem dX6_law_86 : decode cX6_law 86 = .ok (.getfield 20, 3) := by decide +kernel
theorem dX6_law_89 : decode cX6_law 89 = .ok (.iload 5, 2) := by decide +kernel
theorem dX6_law_91 : decode cX6_law 91 = .ok (.iaload, 1) := by decide +kernel
theorem dX6_law_92 : decode cX6_law 92 = .ok (.bipush 32, 2) := by decide +kernel
theorem dX6_law_94 : decode cX6_law 94 = .ok (.if_icmp .ne 9, 3) := by decide +kernel
theorem dX6_law_97 : decode cX6_law 97 = .ok (.iinc 5 1, 3) := by decide +kernel
theorem dX6_law_100 : decode cX6_law 100 = .ok (.goto (-21), 3) := by decide +kernel
theorem dX6_law_103 : decode cX6_law 103 = .ok (.iload 5, 2) := by decide +kernel
theorem dX6_law_105 : decode cX6_law 105 = .ok (.iload_n 2, 1) := by decide +kernel
theorem dX6_law_106 : decode cX6_law 106 = .ok (.if_icmp .ne 6, 3) := by decide +kernel
theorem dX6_law_109 : decode cX6_law 109 = .ok (.goto 207, 3) := by decide +kernel
theorem dX6_law_112 : decode cX6_law 112 = .ok (.iload 5, 2) := by decide +kernel
theorem dX6_law_114 : decode cX6_law 114 = .ok (.istore 6, 2) := by decide +kernel
theorem dX6_law_116 : decode cX6_law 116 = .ok (.iconst 0, 1) := by decide +kernel
theorem dX6_law_117 : decode cX6_law 117 = .ok (.istore 7, 2) := by decide +kernel
theorem dX6_law_119 : decode cX6_law 119 = .ok (.iconst 1, 1) := by decide +kernel
theorem dX6_law_120 : decode cX6_law 120 = .ok (.istore 8, 2) := by decide +kernel
theorem dX6_law_122 : decode cX6_law 122 = .ok (.iload 5, 2) := by decide +kernel
theorem dX6_law_124 : decode cX6_law 124 = .ok (.iload_n 2, 1) := by decide +kernel
theorem dX6_law_125 : decode cX6_law 125 = .ok (.if_icmp .ge 90, 3) := by decide +kernel
theorem dX6_law_128 : decode cX6_law 128 = .ok (.aload_n 0, 1) := by decide +kernel
theorem dX6_law_129 : decode cX6_law 129 = .ok (.getfield 20, 3) := by decide +kernel
theorem dX6_law_132 : decode cX6_law 132 = .ok (.iload 5, 2) := by decide +kernel
theorem dX6_law_134 : decode cX6_law 134 = .ok (.iaload, 1) := by decide +kernel
theorem dX6_law_135 : decode cX6_law 135 = .ok (.bipush 32, 2) := by decide +kernel
theorem dX6_law_137 : decode cX6_law 137 = .ok (.if_icmp .eq 78, 3) := by decide +kernel
theorem dX6_law_140 : decode cX6_law 140 = .ok (.iload 8, 2) := by decide +kernel
theorem dX6_law_142 : decode cX6_law 142 = .ok (.ifCond .eq 27, 3) := by decide +kernel
theorem dX6_law_145 : decode cX6_law 145 = .ok (.aload_n 0, 1) := by decide +kernel
theorem dX6_law_146 : decode cX6_law 146 = .ok (.getfield 20, 3) := by decide +kernel
theorem dX6_law_149 : decode cX6_law 149 = .ok (.iload 5, 2) := by decide +kernel
theorem dX6_law_151 : decode cX6_law 151 = .ok (.iaload, 1) := by decide +kernel
theorem dX6_law_152 : decode cX6_law 152 = .ok (.i2l, 1) := by decide +kernel
theorem dX6_law_153 : decode cX6_law 153 = .ok (.ldc2_w 161, 3) := by decide +kernel
theorem dX6_law_156 : decode cX6_law 156 = .ok (.ldc2_w 163, 3) := by decide +kernel
theorem dX6_law_159 : decode cX6_law 159 = .ok (.invokestatic 130, 3) := by decide +kernel
theorem dX6_law_162 : decode cX6_law 162 = .ok (.ifCond .eq 7, 3) := by decide +kernel
theorem dX6_law_165 : decode cX6_law 165 = .ok (.iconst 1, 1) := by decide +kernel
theorem dX6_law_166 : decode cX6_law 166 = .ok (.goto 4, 3) := by decide +kernel
theorem dX6_law_169 : decode cX6_law 169 = .ok (.iconst 0, 1) := by decide +kernel
theorem dX6_law_170 : decode cX6_law 170 = .ok (.istore 8, 2) := by decide +kernel
theorem dX6_law_172 : decode cX6_law 172 = .ok (.iload 8, 2) := by decide +kernel
theorem dX6_law_174 : decode cX6_law 174 = .ok (.ifCond .eq 31, 3) := by decide +kernel
theorem dX6_law_177 : decode cX6_law 177 = .ok (.iload 5, 2) := by decide +kernel
theorem dX6_law_179 : decode cX6_law 179 = .ok (.iload 6, 2) := by decide +kernel
theorem dX6_law_181 : decode cX6_law 181 = .ok (.isub, 1) := by decide +kernel
theorem dX6_law_182 : decode cX6_law 182 = .ok (.iconst 5, 1) := by decide +kernel
theorem dX6_law_183 : decode cX6_law 183 = .ok (.if_icmp .ge 22, 3) := by decide +kernel
theorem dX6_law_186 : decode cX6_law 186 = .ok (.bipush 10, 2) := by decide +kernel
theorem dX6_law_188 : decode cX6_law 188 = .ok (.iload 7, 2) := by decide +kernel
theorem dX6_law_190 : decode cX6_law 190 = .ok (.imul, 1) := by decide +kernel
theorem dX6_law_191 : decode cX6_law 191 = .ok (.aload_n 0, 1) := by decide +kernel
theorem dX6_law_192 : decode cX6_law 192 = .ok (.getfield 20, 3) := by decide +kernel
theorem dX6_law_195 : decode cX6_law 195 = .ok (.iload 5, 2) := by decide +kernel
theorem dX6_law_197 : decode cX6_law 197 = .ok (.iaload, 1) := by decide +kernel
theorem dX6_law_198 : decode cX6_law 198 = .ok (.iadd, 1) := by decide +kernel
theorem dX6_law_199 : decode cX6_law 199 = .ok (.bipush 48, 2) := by decide +kernel
theorem dX6_law_201 : decode cX6_law 201 = .ok (.isub, 1) := by decide +kernel
theorem dX6_law_202 : decode cX6_law 202 = .ok (.goto 5, 3) := by decide +kernel
theorem dX6_law_205 : decode cX6_law 205 = .ok (.iload 7, 2) := by decide +kernel
theorem dX6_law_207 : decode cX6_law 207 = .ok (.istore 7, 2) := by decide +kernel
theorem dX6_law_209 : decode cX6_law 209 = .ok (.iinc 5 1, 3) := by decide +kernel
theorem dX6_law_212 : decode cX6_law 212 = .ok (.goto (-90), 3) := by decide +kernel
theorem dX6_law_215 : decode cX6_law 215 = .ok (.iload 4, 2) := by decide +kernel
theorem dX6_law_217 : decode cX6_law 217 = .ok (.ifCond .ge 49, 3) := by decide +kernel
theorem dX6_law_220 : decode cX6_law 220 = .ok (.aload_n 0, 1) := by decide +kernel
theorem dX6_law_221 : decode cX6_law 221 = .ok (.iload 6, 2) := by decide +kernel
theorem dX6_law_223 : decode cX6_law 223 = .ok (.iload 5, 2) := by decide +kernel
theorem dX6_law_225 : decode cX6_law 225 = .ok (.invokevirtual 165, 3) := by decide +kernel
theorem dX6_law_228 : decode cX6_law 228 = .ok (.istore 4, 2) := by decide +kernel
theorem dX6_law_230 : decode cX6_law 230 = .ok (.iload 4, 2) := by decide +kernel
theorem dX6_law_232 : decode cX6_law 232 = .ok (.ifCond .ge 11, 3) := by decide +kernel
theorem dX6_law_235 : decode cX6_law 235 = .ok (.aload_n 0, 1) := by decide +kernel
theorem dX6_law_236 : decode cX6_law 236 = .ok (.iconst 1, 1) := by decide +kernel
theorem dX6_law_237 : decode cX6_law 237 = .ok (.iload 6, 2) := by decide +kernel
theorem dX6_law_239 : decode cX6_law 239 = .ok (.invokevirtual 169, 3) := by decide +kernel
theorem dX6_law_242 : decode cX6_law 242 = .ok (.ireturn, 1) := by decide +kernel
theorem dX6_law_243 : decode cX6_law 243 = .ok (.aload_n 0, 1) := by decide +kernel
theorem dX6_law_244 : decode cX6_law 244 = .ok (.getfield 29, 3) := by decide +kernel
theorem dX6_law_247 : decode cX6_law 247 = .ok (.bipush 9, 2) := by decide +kernel
theorem dX6_law_249 : decode cX6_law 249 = .ok (.iload_n 3, 1) := by decide +kernel
theorem dX6_law_250 : decode cX6_law 250 = .ok (.imul, 1) := by decide +kernel
theorem dX6_law_251 : decode cX6_law 251 = .ok (.iload 4, 2) := by decide +kernel
theorem dX6_law_253 : decode cX6_law 253 = .ok (.iadd, 1) := by decide +kernel
theorem dX6_law_254 : decode cX6_law 254 = .ok (.iaload, 1) := by decide +kernel
theorem dX6_law_255 : decode cX6_law 255 = .ok (.ifCond .lt 58, 3) := by decide +kernel
theorem dX6_law_258 : decode cX6_law 258 = .ok (.aload_n 0, 1) := by decide +kernel
theorem dX6_law_259 : decode cX6_law 259 = .ok (.iconst 3, 1) := by decide +kernel
theorem dX6_law_260 : decode cX6_law 260 = .ok (.iload 6, 2) := by decide +kernel
theorem dX6_law_262 : decode cX6_law 262 = .ok (.invokevirtual 169, 3) := by decide +kernel
theorem dX6_law_265 : decode cX6_law 265 = .ok (.ireturn, 1) := by decide +kernel
theorem dX6_law_266 : decode cX6_law 266 = .ok (.iload 8, 2) := by decide +kernel
theorem dX6_law_268 : decode cX6_law 268 = .ok (.ifCond .ne 11, 3) := by decide +kernel
theorem dX6_law_271 : decode cX6_law 271 = .ok (.aload_n 0, 1) := by decide +kernel
theorem dX6_law_272 : decode cX6_law 272 = .ok (.iconst 1, 1) := by decide +kernel
theorem dX6_law_273 : decode cX6_law 273 = .ok (.iload 6, 2) := by decide +kernel
theorem dX6_law_275 : decode cX6_law 275 = .ok (.invokevirtual 169, 3) := by decide +kernel
theorem dX6_law_278 : decode cX6_law 278 = .ok (.ireturn, 1) := by decide +kernel
theorem dX6_law_279 : decode cX6_law 279 = .ok (.iload 5, 2) := by decide +kernel
theorem dX6_law_281 : decode cX6_law 281 = .ok (.iload 6, 2) := by decide +kernel
theorem dX6_law_283 : decode cX6_law 283 = .ok (.isub, 1) := by decide +kernel
theorem dX6_law_284 : decode cX6_law 284 = .ok (.iconst 5, 1) := by decide +kernel
theorem dX6_law_285 : decode cX6_law 285 = .ok (.if_icmp .le 11, 3) := by decide +kernel
theorem dX6_law_288 : decode cX6_law 288 = .ok (.aload_n 0, 1) := by decide +kernel
theorem dX6_law_289 : decode cX6_law 289 = .ok (.iconst 2, 1) := by decide +kernel
theorem dX6_law_290 : decode cX6_law 290 = .ok (.iload 6, 2) := by decide +kernel
theorem dX6_law_292 : decode cX6_law 292 = .ok (.invokevirtual 169, 3) := by decide +kernel
theorem dX6_law_295 : decode cX6_law 295 = .ok (.ireturn, 1) := by decide +kernel
theorem dX6_law_296 : decode cX6_law 296 = .ok (.aload_n 0, 1) := by decide +kernel
theorem dX6_law_297 : decode cX6_law 297 = .ok (.getfield 29, 3) := by decide +kernel
theorem dX6_law_300 : decode cX6_law 300 = .ok (.bipush 9, 2) := by decide +kernel
theorem dX6_law_302 : decode cX6_law 302 = .ok (.iload_n 3, 1) := by decide +kernel
theorem dX6_law_303 : decode cX6_law 303 = .ok (.imul, 1) := by decide +kernel
theorem dX6_law_304 : decode cX6_law 304 = .ok (.iload 4, 2) := by decide +kernel
theorem dX6_law_306 : decode cX6_law 306 = .ok (.iadd, 1) := by decide +kernel
theorem dX6_law_307 : decode cX6_law 307 = .ok (.iload 7, 2) := by decide +kernel
theorem dX6_law_309 : decode cX6_law 309 = .ok (.iastore, 1) := by decide +kernel
theorem dX6_law_310 : decode cX6_law 310 = .ok (.iconst (-1), 1) := by decide +kernel
theorem dX6_law_311 : decode cX6_law 311 = .ok (.istore 4, 2) := by decide +kernel
theorem dX6_law_313 : decode cX6_law 313 = .ok (.goto (-234), 3) := by decide +kernel
theorem dX6_law_316 : decode cX6_law 316 = .ok (.iload 4, 2) := by decide +kernel
theorem dX6_law_318 : decode cX6_law 318 = .ok (.ifCond .lt 10, 3) := by decide +kernel
theorem dX6_law_321 : decode cX6_law 321 = .ok (.aload_n 0, 1) := by decide +kernel
theorem dX6_law_322 : decode cX6_law 322 = .ok (.iconst 1, 1) := by decide +kernel
theorem dX6_law_323 : decode cX6_law 323 = .ok (.iload_n 2, 1) := by decide +kernel
theorem dX6_law_324 : decode cX6_law 324 = .ok (.invokevirtual 169, 3) := by decide +kernel
theorem dX6_law_327 : decode cX6_law 327 = .ok (.ireturn, 1) := by decide +kernel
theorem dX6_law_328 : decode cX6_law 328 = .ok (.aload_n 0, 1) := by decide +kernel
theorem dX6_law_329 : decode cX6_law 329 = .ok (.getfield 26, 3) := by decide +kernel
theorem dX6_law_332 : decode cX6_law 332 = .ok (.iload_n 3, 1) := by decide +kernel
theorem dX6_law_333 : decode cX6_law 333 = .ok (.iload_n 1, 1) := by decide +kernel
theorem dX6_law_334 : decode cX6_law 334 = .ok (.iastore, 1) := by decide +kernel
theorem dX6_law_335 : decode cX6_law 335 = .ok (.aload_n 0, 1) := by decide +kernel
theorem dX6_law_336 : decode cX6_law 336 = .ok (.dup, 1) := by decide +kernel
theorem dX6_law_337 : decode cX6_law 337 = .ok (.getfield 158, 3) := by decide +kernel
theorem dX6_law_340 : decode cX6_law 340 = .ok (.iconst 1, 1) := by decide +kernel
theorem dX6_law_341 : decode cX6_law 341 = .ok (.iadd, 1) := by decide +kernel
theorem dX6_law_342 : decode cX6_law 342 = .ok (.putfield 158, 3) := by decide +kernel
theorem dX6_law_345 : decode cX6_law 345 = .ok (.iload_n 3, 1) := by decide +kernel
theorem dX6_law_346 : decode cX6_law 346 = .ok (.ireturn, 1) := by decide +kernel
theorem dX6_place_0 : decode cX6_place 0 = .ok (.aload_n 0, 1) := by decide +kernel
theorem dX6_place_1 : decode cX6_place 1 = .ok (.getfield 23, 3) := by decide +kernel
theorem dX6_place_4 : decode cX6_place 4 = .ok (.ireturn, 1) := by decide +kernel
theorem dX6_isBefore_0 : decode cX6_isBefore 0 = .ok (.aload_n 0, 1) := by decide +kernel
theorem dX6_isBefore_1 : decode cX6_isBefore 1 = .ok (.getfield 26, 3) := by decide +kernel
theorem dX6_isBefore_4 : decode cX6_isBefore 4 = .ok (.iload_n 1, 1) := by decide +kernel
theorem dX6_isBefore_5 : decode cX6_isBefore 5 = .ok (.iaload, 1) := by decide +kernel
theorem dX6_isBefore_6 : decode cX6_isBefore 6 = .ok (.aload_n 0, 1) := by decide +kernel
theorem dX6_isBefore_7 : decode cX6_isBefore 7 = .ok (.getfield 26, 3) := by decide +kernel
theorem dX6_isBefore_10 : decode cX6_isBefore 10 = .ok (.iload_n 2, 1) := by decide +kernel
theorem dX6_isBefore_11 : decode cX6_isBefore 11 = .ok (.iaload, 1) := by decide +kernel
theorem dX6_isBefore_12 : decode cX6_isBefore 12 = .ok (.if_icmp .lt 23, 3) := by decide +kernel
theorem dX6_isBefore_15 : decode cX6_isBefore 15 = .ok (.aload_n 0, 1) := by decide +kernel
theorem dX6_isBefore_16 : decode cX6_isBefore 16 = .ok (.getfield 26, 3) := by decide +kernel
theorem dX6_isBefore_19 : decode cX6_isBefore 19 = .ok (.iload_n 1, 1) := by decide +kernel
theorem dX6_isBefore_20 : decode cX6_isBefore 20 = .ok (.iaload, 1) := by decide +kernel
theorem dX6_isBefore_21 : decode cX6_isBefore 21 = .ok (.aload_n 0, 1) := by decide +kernel
theorem dX6_isBefore_22 : decode cX6_isBefore 22 = .ok (.getfield 26, 3) := by decide +kernel
theorem dX6_isBefore_25 : decode cX6_isBefore 25 = .ok (.iload_n 2, 1) := by decide +kernel
theorem dX6_isBefore_26 : decode cX6_isBefore 26 = .ok (.iaload, 1) := by decide +kernel
theorem dX6_isBefore_27 : decode cX6_isBefore 27 = .ok (.if_icmp .ne 12, 3) := by decide +kernel
theorem dX6_isBefore_30 : decode cX6_isBefore 30 = .ok (.iload_n 1, 1) := by decide +kernel
theorem dX6_isBefore_31 : decode cX6_isBefore 31 = .ok (.iload_n 2, 1) := by decide +kernel
theorem dX6_isBefore_32 : decode cX6_isBefore 32 = .ok (.if_icmp .ge 7, 3) := by decide +kernel
theorem dX6_isBefore_35 : decode cX6_isBefore 35 = .ok (.iconst 1, 1) := by decide +kernel
theorem dX6_isBefore_36 : decode cX6_isBefore 36 = .ok (.goto 4, 3) := by decide +kernel
theorem dX6_isBefore_39 : decode cX6_isBefore 39 = .ok (.iconst 0, 1) := by decide +kernel
theorem dX6_isBefore_40 : decode cX6_isBefore 40 = .ok (.ireturn, 1) := by decide +kernel
set_option maxRecDepth 20000 in
theorem ggX6_setBy_X6_isBefore : GoodIn wsX6_setBy wsX6_isBefore := goodIn_r _ [8, 9, 10, 11, 12, 13, 14, 15, 16, 17, 18, 19, 20, 21, 22, 23, 24, 25, 26, 27, 28, 29, 30, 31, 32, 33, 34, 35, 36, 37, 38, 39, 40, 41, 42, 43, 44, 45, 46, 47, 48, 49, 50, 51, 52, 53] (by decide +kernel) (by decide +kernel)
set_option maxRecDepth 20000 in
theorem gX6_setBy_X6_isBefore : GoodIn wsX6_setBy (wsV RX6 172 RX6 yX6_isBefore wsX6_isBefore) := goodIn_app (goodIn_of _ (by decide +kernel)) ggX6_setBy_X6_isBefore
theorem dX6_setBy_0 : decode cX6_setBy 0 = .ok (.iload_n 1, 1) := by decide +kernel
theorem dX6_setBy_1 : decode cX6_setBy 1 = .ok (.ifCond .ge 10, 3) := by decide +kernel
theorem dX6_setBy_4 : decode cX6_setBy 4 = .ok (.aload_n 0, 1) := by decide +kernel
theorem dX6_setBy_5 : decode cX6_setBy 5 = .ok (.getfield 32, 3) := by decide +kernel
theorem dX6_setBy_8 : decode cX6_setBy 8 = .ok (.iload_n 2, 1) := by decide +kernel
theorem dX6_setBy_9 : decode cX6_setBy 9 = .ok (.iaload, 1) := by decide +kernel
theorem dX6_setBy_10 : decode cX6_setBy 10 = .ok (.ireturn, 1) := by decide +kernel
theorem dX6_setBy_11 : decode cX6_setBy 11 = .ok (.aload_n 0, 1) := by decide +kernel
theorem dX6_setBy_12 : decode cX6_setBy 12 = .ok (.getfield 29, 3) := by decide +kernel
theorem dX6_setBy_15 : decode cX6_setBy 15 = .ok (.bipush 9, 2) := by decide +kernel
theorem dX6_setBy_17 : decode cX6_setBy 17 = .ok (.iload_n 1, 1) := by decide +kernel
theorem dX6_setBy_18 : decode cX6_setBy 18 = .ok (.imul, 1) := by decide +kernel
theorem dX6_setBy_19 : decode cX6_setBy 19 = .ok (.iload_n 2, 1) := by decide +kernel
theorem dX6_setBy_20 : decode cX6_setBy 20 = .ok (.iadd, 1) := by decide +kernel
theorem dX6_setBy_21 : decode cX6_setBy 21 = .ok (.iaload, 1) := by decide +kernel
theorem dX6_setBy_22 : decode cX6_setBy 22 = .ok (.ifCond .lt 7, 3) := by decide +kernel
theorem dX6_setBy_25 : decode cX6_setBy 25 = .ok (.iload_n 1, 1) := by decide +kernel
theorem dX6_setBy_26 : decode cX6_setBy 26 = .ok (.goto 4, 3) := by decide +kernel
theorem dX6_setBy_29 : decode cX6_setBy 29 = .ok (.iconst (-1), 1) := by decide +kernel
theorem dX6_setBy_30 : decode cX6_setBy 30 = .ok (.istore_n 3, 1) := by decide +kernel
theorem dX6_setBy_31 : decode cX6_setBy 31 = .ok (.iconst 0, 1) := by decide +kernel
theorem dX6_setBy_32 : decode cX6_setBy 32 = .ok (.istore 4, 2) := by decide +kernel
theorem dX6_setBy_34 : decode cX6_setBy 34 = .ok (.iload 4, 2) := by decide +kernel
theorem dX6_setBy_36 : decode cX6_setBy 36 = .ok (.aload_n 0, 1) := by decide +kernel
theorem dX6_setBy_37 : decode cX6_setBy 37 = .ok (.getfield 158, 3) := by decide +kernel
theorem dX6_setBy_40 : decode cX6_setBy 40 = .ok (.if_icmp .ge 65, 3) := by decide +kernel
theorem dX6_setBy_43 : decode cX6_setBy 43 = .ok (.aload_n 0, 1) := by decide +kernel
theorem dX6_setBy_44 : decode cX6_setBy 44 = .ok (.getfield 29, 3) := by decide +kernel
theorem dX6_setBy_47 : decode cX6_setBy 47 = .ok (.bipush 9, 2) := by decide +kernel
theorem dX6_setBy_49 : decode cX6_setBy 49 = .ok (.iload_n 1, 1) := by decide +kernel
theorem dX6_setBy_50 : decode cX6_setBy 50 = .ok (.imul, 1) := by decide +kernel
theorem dX6_setBy_51 : decode cX6_setBy 51 = .ok (.iload_n 2, 1) := by decide +kernel
theorem dX6_setBy_52 : decode cX6_setBy 52 = .ok (.iadd, 1) := by decide +kernel
theorem dX6_setBy_53 : decode cX6_setBy 53 = .ok (.iaload, 1) := by decide +kernel
theorem dX6_setBy_54 : decode cX6_setBy 54 = .ok (.ifCond .ge 51, 3) := by decide +kernel
theorem dX6_setBy_57 : decode cX6_setBy 57 = .ok (.aload_n 0, 1) := by decide +kernel
theorem dX6_setBy_58 : decode cX6_setBy 58 = .ok (.iload 4, 2) := by decide +kernel
theorem dX6_setBy_60 : decode cX6_setBy 60 = .ok (.iload_n 1, 1) := by decide +kernel
theorem dX6_setBy_61 : decode cX6_setBy 61 = .ok (.invokevirtual 172, 3) := by decide +kernel
theorem dX6_setBy_64 : decode cX6_setBy 64 = .ok (.ifCond .eq 35, 3) := by decide +kernel
theorem dX6_setBy_67 : decode cX6_setBy 67 = .ok (.aload_n 0, 1) := by decide +kernel
theorem dX6_setBy_68 : decode cX6_setBy 68 = .ok (.getfield 29, 3) := by decide +kernel
theorem dX6_setBy_71 : decode cX6_setBy 71 = .ok (.bipush 9, 2) := by decide +kernel
theorem dX6_setBy_73 : decode cX6_setBy 73 = .ok (.iload 4, 2) := by decide +kernel
theorem dX6_setBy_75 : decode cX6_setBy 75 = .ok (.imul, 1) := by decide +kernel
theorem dX6_setBy_76 : decode cX6_setBy 76 = .ok (.iload_n 2, 1) := by decide +kernel
theorem dX6_setBy_77 : decode cX6_setBy 77 = .ok (.iadd, 1) := by decide +kernel
theorem dX6_setBy_78 : decode cX6_setBy 78 = .ok (.iaload, 1) := by decide +kernel
theorem dX6_setBy_79 : decode cX6_setBy 79 = .ok (.ifCond .lt 20, 3) := by decide +kernel
theorem dX6_setBy_82 : decode cX6_setBy 82 = .ok (.iload_n 3, 1) := by decide +kernel
theorem dX6_setBy_83 : decode cX6_setBy 83 = .ok (.ifCond .lt 13, 3) := by decide +kernel
theorem dX6_setBy_86 : decode cX6_setBy 86 = .ok (.aload_n 0, 1) := by decide +kernel
theorem dX6_setBy_87 : decode cX6_setBy 87 = .ok (.iload_n 3, 1) := by decide +kernel
theorem dX6_setBy_88 : decode cX6_setBy 88 = .ok (.iload 4, 2) := by decide +kernel
theorem dX6_setBy_90 : decode cX6_setBy 90 = .ok (.invokevirtual 172, 3) := by decide +kernel
theorem dX6_setBy_93 : decode cX6_setBy 93 = .ok (.ifCond .eq 6, 3) := by decide +kernel
theorem dX6_setBy_96 : decode cX6_setBy 96 = .ok (.iload 4, 2) := by decide +kernel
theorem dX6_setBy_98 : decode cX6_setBy 98 = .ok (.istore_n 3, 1) := by decide +kernel
theorem dX6_setBy_99 : decode cX6_setBy 99 = .ok (.iinc 4 1, 3) := by decide +kernel
theorem dX6_setBy_102 : decode cX6_setBy 102 = .ok (.goto (-68), 3) := by decide +kernel
theorem dX6_setBy_105 : decode cX6_setBy 105 = .ok (.iload_n 3, 1) := by decide +kernel
theorem dX6_setBy_106 : decode cX6_setBy 106 = .ok (.ifCond .ge 12, 3) := by decide +kernel
theorem dX6_setBy_109 : decode cX6_setBy 109 = .ok (.aload_n 0, 1) := by decide +kernel
theorem dX6_setBy_110 : decode cX6_setBy 110 = .ok (.getfield 32, 3) := by decide +kernel
theorem dX6_setBy_113 : decode cX6_setBy 113 = .ok (.iload_n 2, 1) := by decide +kernel
theorem dX6_setBy_114 : decode cX6_setBy 114 = .ok (.iaload, 1) := by decide +kernel
theorem dX6_setBy_115 : decode cX6_setBy 115 = .ok (.goto 14, 3) := by decide +kernel
theorem dX6_setBy_118 : decode cX6_setBy 118 = .ok (.aload_n 0, 1) := by decide +kernel
theorem dX6_setBy_119 : decode cX6_setBy 119 = .ok (.getfield 29, 3) := by decide +kernel
theorem dX6_setBy_122 : decode cX6_setBy 122 = .ok (.bipush 9, 2) := by decide +kernel
theorem dX6_setBy_124 : decode cX6_setBy 124 = .ok (.iload_n 3, 1) := by decide +kernel
theorem dX6_setBy_125 : decode cX6_setBy 125 = .ok (.imul, 1) := by decide +kernel
theorem dX6_setBy_126 : decode cX6_setBy 126 = .ok (.iload_n 2, 1) := by decide +kernel
theorem dX6_setBy_127 : decode cX6_setBy 127 = .ok (.iadd, 1) := by decide +kernel
theorem dX6_setBy_128 : decode cX6_setBy 128 = .ok (.iaload, 1) := by decide +kernel
theorem dX6_setBy_129 : decode cX6_setBy 129 = .ok (.ireturn, 1) := by decide +kernel
set_option maxRecDepth 20000 in
theorem ggX6_sets_X6_in : GoodIn wsX6_sets wsX6_in := goodIn_r _ [7] (by decide +kernel) (by decide +kernel)
set_option maxRecDepth 20000 in
theorem gX6_sets_X6_in : GoodIn wsX6_sets (va_wsS RX6 130 yX6_in wsX6_in) := goodIn_app (goodIn_of _ (by decide +kernel)) ggX6_sets_X6_in
set_option maxRecDepth 20000 in
theorem ggX6_sets_X6_setBy : GoodIn wsX6_sets wsX6_setBy := goodIn_r _ [11, 12, 13, 1, 14, 15, 16, 6, 17, 3, 18, 19, 20, 21, 22, 23, 24, 25, 26, 27, 28, 29, 30, 31, 32, 33, 34, 35, 36, 37, 38, 39, 40, 41, 42, 43, 44, 45, 46, 47, 48, 49, 50, 51, 52, 53, 54, 55, 56, 57, 58, 59, 60, 61] (by decide +kernel) (by decide +kernel)
set_option maxRecDepth 20000 in
theorem gX6_sets_X6_setBy : GoodIn wsX6_sets (wsV RX6 178 RX6 yX6_setBy wsX6_setBy) := goodIn_app (goodIn_of _ (by decide +kernel)) ggX6_sets_X6_setBy
theorem dX6_sets_0 : decode cX6_sets 0 = .ok (.iload_n 1, 1) := by decide +kernel
theorem dX6_sets_1 : decode cX6_sets 1 = .ok (.iconst (-1), 1) := by decide +kernel
theorem dX6_sets_2 : decode cX6_sets 2 = .ok (.if_icmp .eq 23, 3) := by decide +kernel
theorem dX6_sets_5 : decode cX6_sets 5 = .ok (.iload_n 1, 1) := by decide +kernel
theorem dX6_sets_6 : decode cX6_sets 6 = .ok (.i2l, 1) := by decide +kernel
theorem dX6_sets_7 : decode cX6_sets 7 = .ok (.lconst 0, 1) := by decide +kernel
theorem dX6_sets_8 : decode cX6_sets 8 = .ok (.aload_n 0, 1) := by decide +kernel
theorem dX6_sets_9 : decode cX6_sets 9 = .ok (.getfield 158, 3) := by decide +kernel
theorem dX6_sets_12 : decode cX6_sets 12 = .ok (.iconst 1, 1) := by decide +kernel
theorem dX6_sets_13 : decode cX6_sets 13 = .ok (.isub, 1) := by decide +kernel
theorem dX6_sets_14 : decode cX6_sets 14 = .ok (.i2l, 1) := by decide +kernel
theorem dX6_sets_15 : decode cX6_sets 15 = .ok (.invokestatic 130, 3) := by decide +kernel
theorem dX6_sets_18 : decode cX6_sets 18 = .ok (.ifCond .ne 7, 3) := by decide +kernel
theorem dX6_sets_21 : decode cX6_sets 21 = .ok (.sipush (-1001), 3) := by decide +kernel
theorem dX6_sets_24 : decode cX6_sets 24 = .ok (.ireturn, 1) := by decide +kernel
theorem dX6_sets_25 : decode cX6_sets 25 = .ok (.iload_n 2, 1) := by decide +kernel
theorem dX6_sets_26 : decode cX6_sets 26 = .ok (.i2l, 1) := by decide +kernel
theorem dX6_sets_27 : decode cX6_sets 27 = .ok (.lconst 0, 1) := by decide +kernel
theorem dX6_sets_28 : decode cX6_sets 28 = .ok (.ldc2_w 176, 3) := by decide +kernel
theorem dX6_sets_31 : decode cX6_sets 31 = .ok (.invokestatic 130, 3) := by decide +kernel
theorem dX6_sets_34 : decode cX6_sets 34 = .ok (.ifCond .ne 7, 3) := by decide +kernel
theorem dX6_sets_37 : decode cX6_sets 37 = .ok (.sipush (-1002), 3) := by decide +kernel
theorem dX6_sets_40 : decode cX6_sets 40 = .ok (.ireturn, 1) := by decide +kernel
theorem dX6_sets_41 : decode cX6_sets 41 = .ok (.iload_n 2, 1) := by decide +kernel
theorem dX6_sets_42 : decode cX6_sets 42 = .ok (.bipush 9, 2) := by decide +kernel
theorem dX6_sets_44 : decode cX6_sets 44 = .ok (.if_icmp .ge 12, 3) := by decide +kernel
theorem dX6_sets_47 : decode cX6_sets 47 = .ok (.aload_n 0, 1) := by decide +kernel
theorem dX6_sets_48 : decode cX6_sets 48 = .ok (.iload_n 1, 1) := by decide +kernel
theorem dX6_sets_49 : decode cX6_sets 49 = .ok (.iload_n 2, 1) := by decide +kernel
theorem dX6_sets_50 : decode cX6_sets 50 = .ok (.invokevirtual 178, 3) := by decide +kernel
theorem dX6_sets_53 : decode cX6_sets 53 = .ok (.goto 17, 3) := by decide +kernel
theorem dX6_sets_56 : decode cX6_sets 56 = .ok (.iload_n 1, 1) := by decide +kernel
theorem dX6_sets_57 : decode cX6_sets 57 = .ok (.ifCond .ge 7, 3) := by decide +kernel
theorem dX6_sets_60 : decode cX6_sets 60 = .ok (.iconst 0, 1) := by decide +kernel
theorem dX6_sets_61 : decode cX6_sets 61 = .ok (.goto 9, 3) := by decide +kernel
theorem dX6_sets_64 : decode cX6_sets 64 = .ok (.aload_n 0, 1) := by decide +kernel
theorem dX6_sets_65 : decode cX6_sets 65 = .ok (.getfield 26, 3) := by decide +kernel
theorem dX6_sets_68 : decode cX6_sets 68 = .ok (.iload_n 1, 1) := by decide +kernel
theorem dX6_sets_69 : decode cX6_sets 69 = .ok (.iaload, 1) := by decide +kernel
theorem dX6_sets_70 : decode cX6_sets 70 = .ok (.ireturn, 1) := by decide +kernel
set_option maxRecDepth 20000 in
theorem ggX6_lawFor_X6_isBefore : GoodIn wsX6_lawFor wsX6_isBefore := goodIn_r _ [7, 2, 8, 9, 10, 11, 12, 13, 14, 15, 16, 17, 18, 19, 20, 21, 22, 23, 24, 25, 26, 27, 28, 29, 30, 31, 32, 33, 34, 35, 36, 37, 38, 39, 40, 41, 42, 43, 44, 45, 46, 47, 48, 49, 50, 51] (by decide +kernel) (by decide +kernel)
set_option maxRecDepth 20000 in
theorem gX6_lawFor_X6_isBefore : GoodIn wsX6_lawFor (wsV RX6 172 RX6 yX6_isBefore wsX6_isBefore) := goodIn_app (goodIn_of _ (by decide +kernel)) ggX6_lawFor_X6_isBefore
theorem dX6_lawFor_0 : decode cX6_lawFor 0 = .ok (.iconst (-1), 1) := by decide +kernel
theorem dX6_lawFor_1 : decode cX6_lawFor 1 = .ok (.istore_n 2, 1) := by decide +kernel
theorem dX6_lawFor_2 : decode cX6_lawFor 2 = .ok (.iconst 0, 1) := by decide +kernel
theorem dX6_lawFor_3 : decode cX6_lawFor 3 = .ok (.istore_n 3, 1) := by decide +kernel
theorem dX6_lawFor_4 : decode cX6_lawFor 4 = .ok (.iload_n 3, 1) := by decide +kernel
theorem dX6_lawFor_5 : decode cX6_lawFor 5 = .ok (.aload_n 0, 1) := by decide +kernel
theorem dX6_lawFor_6 : decode cX6_lawFor 6 = .ok (.getfield 158, 3) := by decide +kernel
theorem dX6_lawFor_9 : decode cX6_lawFor 9 = .ok (.if_icmp .ge 34, 3) := by decide +kernel
theorem dX6_lawFor_12 : decode cX6_lawFor 12 = .ok (.aload_n 0, 1) := by decide +kernel
theorem dX6_lawFor_13 : decode cX6_lawFor 13 = .ok (.getfield 26, 3) := by decide +kernel
theorem dX6_lawFor_16 : decode cX6_lawFor 16 = .ok (.iload_n 3, 1) := by decide +kernel
theorem dX6_lawFor_17 : decode cX6_lawFor 17 = .ok (.iaload, 1) := by decide +kernel
theorem dX6_lawFor_18 : decode cX6_lawFor 18 = .ok (.iload_n 1, 1) := by decide +kernel
theorem dX6_lawFor_19 : decode cX6_lawFor 19 = .ok (.if_icmp .gt 18, 3) := by decide +kernel
theorem dX6_lawFor_22 : decode cX6_lawFor 22 = .ok (.iload_n 2, 1) := by decide +kernel
theorem dX6_lawFor_23 : decode cX6_lawFor 23 = .ok (.ifCond .lt 12, 3) := by decide +kernel
theorem dX6_lawFor_26 : decode cX6_lawFor 26 = .ok (.aload_n 0, 1) := by decide +kernel
theorem dX6_lawFor_27 : decode cX6_lawFor 27 = .ok (.iload_n 2, 1) := by decide +kernel
theorem dX6_lawFor_28 : decode cX6_lawFor 28 = .ok (.iload_n 3, 1) := by decide +kernel
theorem dX6_lawFor_29 : decode cX6_lawFor 29 = .ok (.invokevirtual 172, 3) := by decide +kernel
theorem dX6_lawFor_32 : decode cX6_lawFor 32 = .ok (.ifCond .eq 5, 3) := by decide +kernel
theorem dX6_lawFor_35 : decode cX6_lawFor 35 = .ok (.iload_n 3, 1) := by decide +kernel
theorem dX6_lawFor_36 : decode cX6_lawFor 36 = .ok (.istore_n 2, 1) := by decide +kernel
theorem dX6_lawFor_37 : decode cX6_lawFor 37 = .ok (.iinc 3 1, 3) := by decide +kernel
theorem dX6_lawFor_40 : decode cX6_lawFor 40 = .ok (.goto (-36), 3) := by decide +kernel
theorem dX6_lawFor_43 : decode cX6_lawFor 43 = .ok (.iload_n 2, 1) := by decide +kernel
theorem dX6_lawFor_44 : decode cX6_lawFor 44 = .ok (.ireturn, 1) := by decide +kernel
set_option maxRecDepth 20000 in
theorem ggX6_lawOf_X6_isDay : GoodIn wsX6_lawOf wsX6_isDay := goodIn_r _ [4, 5, 6, 7, 3, 8] (by decide +kernel) (by decide +kernel)
set_option maxRecDepth 20000 in
theorem gX6_lawOf_X6_isDay : GoodIn wsX6_lawOf (va_wsS RX6 154 yX6_isDay wsX6_isDay) := goodIn_app (goodIn_of _ (by decide +kernel)) ggX6_lawOf_X6_isDay
set_option maxRecDepth 20000 in
theorem ggX6_lawOf_X6_lawFor : GoodIn wsX6_lawOf wsX6_lawFor := goodIn_r _ [12, 13, 14, 15, 16, 17, 3, 18, 19, 20, 21, 22, 23, 24, 25, 26, 27, 28, 29, 30, 31, 32, 33, 34, 35, 36, 37, 38, 39, 40, 41, 42, 43, 44, 45, 46, 47, 48, 49, 50, 51, 52, 53, 54, 55, 56, 57, 58, 59, 60, 61, 62] (by decide +kernel) (by decide +kernel)
set_option maxRecDepth 20000 in
theorem gX6_lawOf_X6_lawFor : GoodIn wsX6_lawOf (wsV RX6 181 RX6 yX6_lawFor wsX6_lawFor) := goodIn_app (goodIn_of _ (by decide +kernel)) ggX6_lawOf_X6_lawFor
theorem dX6_lawOf_0 : decode cX6_lawOf 0 = .ok (.iload_n 1, 1) := by decide +kernel
theorem dX6_lawOf_1 : decode cX6_lawOf 1 = .ok (.invokestatic 154, 3) := by decide +kernel
theorem dX6_lawOf_4 : decode cX6_lawOf 4 = .ok (.ifCond .eq 11, 3) := by decide +kernel
theorem dX6_lawOf_7 : decode cX6_lawOf 7 = .ok (.aload_n 0, 1) := by decide +kernel
theorem dX6_lawOf_8 : decode cX6_lawOf 8 = .ok (.iload_n 1, 1) := by decide +kernel
theorem dX6_lawOf_9 : decode cX6_lawOf 9 = .ok (.invokevirtual 181, 3) := by decide +kernel
theorem dX6_lawOf_12 : decode cX6_lawOf 12 = .ok (.goto 6, 3) := by decide +kernel
theorem dX6_lawOf_15 : decode cX6_lawOf 15 = .ok (.sipush (-1002), 3) := by decide +kernel
theorem dX6_lawOf_18 : decode cX6_lawOf 18 = .ok (.ireturn, 1) := by decide +kernel
set_option maxRecDepth 20000 in
theorem ggX6_line_X6_in : GoodIn wsX6_line wsX6_in := goodIn_r _ [14] (by decide +kernel) (by decide +kernel)
set_option maxRecDepth 20000 in
theorem gX6_line_X6_in : GoodIn wsX6_line (va_wsS RX6 130 yX6_in wsX6_in) := goodIn_app (goodIn_of _ (by decide +kernel)) ggX6_line_X6_in
set_option maxRecDepth 20000 in
theorem ggX6_line_X6_isPerson : GoodIn wsX6_line wsX6_isPerson := goodIn_r _ [18, 19, 11, 12, 13, 14, 28, 29, 30, 31, 32, 33, 34, 35, 36, 37, 38, 39, 40, 41, 42, 43, 44, 45, 46, 47, 48, 49, 50, 51, 52, 53, 54, 55, 56, 57, 58, 59, 60, 61, 62, 63, 64, 65, 66, 67, 68, 69, 70, 71] (by decide +kernel) (by decide +kernel)
set_option maxRecDepth 20000 in
theorem gX6_line_X6_isPerson : GoodIn wsX6_line (wsV RX6 187 RX6 yX6_isPerson wsX6_isPerson) := goodIn_app (goodIn_of _ (by decide +kernel)) ggX6_line_X6_isPerson
set_option maxRecDepth 20000 in
theorem ggX6_line_X6_isQuarter : GoodIn wsX6_line wsX6_isQuarter := goodIn_r _ [22, 23, 11, 12, 13, 14] (by decide +kernel) (by decide +kernel)
set_option maxRecDepth 20000 in
theorem gX6_line_X6_isQuarter : GoodIn wsX6_line (va_wsS RX6 190 yX6_isQuarter wsX6_isQuarter) := goodIn_app (goodIn_of _ (by decide +kernel)) ggX6_line_X6_isQuarter
set_option maxRecDepth 20000 in
theorem ggX6_line_X6_isDay : GoodIn wsX6_line wsX6_isDay := goodIn_r _ [26, 27, 11, 12, 13, 14] (by decide +kernel) (by decide +kernel)
set_option maxRecDepth 20000 in
theorem gX6_line_X6_isDay : GoodIn wsX6_line (va_wsS RX6 154 yX6_isDay wsX6_isDay) := goodIn_app (goodIn_of _ (by decide +kernel)) ggX6_line_X6_isDay
theorem dX6_line_0 : decode cX6_line 0 = .ok (.iload_n 2, 1) := by decide +kernel
theorem dX6_line_1 : decode cX6_line 1 = .ok (.i2l, 1) := by decide +kernel
theorem dX6_line_2 : decode cX6_line 2 = .ok (.lconst 0, 1) := by decide +kernel
theorem dX6_line_3 : decode cX6_line 3 = .ok (.ldc2_w 185, 3) := by decide +kernel
theorem dX6_line_6 : decode cX6_line 6 = .ok (.invokestatic 130, 3) := by decide +kernel
theorem dX6_line_9 : decode cX6_line 9 = .ok (.ifCond .ne 7, 3) := by decide +kernel
theorem dX6_line_12 : decode cX6_line 12 = .ok (.sipush (-1002), 3) := by decide +kernel
theorem dX6_line_15 : decode cX6_line 15 = .ok (.ireturn, 1) := by decide +kernel
theorem dX6_line_16 : decode cX6_line 16 = .ok (.aload_n 0, 1) := by decide +kernel
theorem dX6_line_17 : decode cX6_line 17 = .ok (.iload_n 3, 1) := by decide +kernel
theorem dX6_line_18 : decode cX6_line 18 = .ok (.invokevirtual 187, 3) := by decide +kernel
theorem dX6_line_21 : decode cX6_line 21 = .ok (.ifCond .eq 32, 3) := by decide +kernel
theorem dX6_line_24 : decode cX6_line 24 = .ok (.iload_n 2, 1) := by decide +kernel
theorem dX6_line_25 : decode cX6_line 25 = .ok (.bipush 6, 2) := by decide +kernel
theorem dX6_line_27 : decode cX6_line 27 = .ok (.if_icmp .eq 11, 3) := by decide +kernel
theorem dX6_line_30 : decode cX6_line 30 = .ok (.iload 4, 2) := by decide +kernel
theorem dX6_line_32 : decode cX6_line 32 = .ok (.invokestatic 190, 3) := by decide +kernel
theorem dX6_line_35 : decode cX6_line 35 = .ok (.ifCond .eq 18, 3) := by decide +kernel
theorem dX6_line_38 : decode cX6_line 38 = .ok (.iload_n 2, 1) := by decide +kernel
theorem dX6_line_39 : decode cX6_line 39 = .ok (.bipush 6, 2) := by decide +kernel
theorem dX6_line_41 : decode cX6_line 41 = .ok (.if_icmp .ne 16, 3) := by decide +kernel
theorem dX6_line_44 : decode cX6_line 44 = .ok (.aload_n 0, 1) := by decide +kernel
theorem dX6_line_45 : decode cX6_line 45 = .ok (.iload 5, 2) := by decide +kernel
theorem dX6_line_47 : decode cX6_line 47 = .ok (.invokevirtual 187, 3) := by decide +kernel
theorem dX6_line_50 : decode cX6_line 50 = .ok (.ifCond .ne 7, 3) := by decide +kernel
theorem dX6_line_53 : decode cX6_line 53 = .ok (.sipush (-1001), 3) := by decide +kernel
theorem dX6_line_56 : decode cX6_line 56 = .ok (.ireturn, 1) := by decide +kernel
theorem dX6_line_57 : decode cX6_line 57 = .ok (.iload_n 1, 1) := by decide +kernel
theorem dX6_line_58 : decode cX6_line 58 = .ok (.invokestatic 154, 3) := by decide +kernel
theorem dX6_line_61 : decode cX6_line 61 = .ok (.ifCond .eq 39, 3) := by decide +kernel
theorem dX6_line_64 : decode cX6_line 64 = .ok (.iload_n 2, 1) := by decide +kernel
theorem dX6_line_65 : decode cX6_line 65 = .ok (.iconst 1, 1) := by decide +kernel
theorem dX6_line_66 : decode cX6_line 66 = .ok (.if_icmp .ne 16, 3) := by decide +kernel
theorem dX6_line_69 : decode cX6_line 69 = .ok (.iload 5, 2) := by decide +kernel
theorem dX6_line_71 : decode cX6_line 71 = .ok (.i2l, 1) := by decide +kernel
theorem dX6_line_72 : decode cX6_line 72 = .ok (.lconst 1, 1) := by decide +kernel
theorem dX6_line_73 : decode cX6_line 73 = .ok (.ldc2_w 193, 3) := by decide +kernel
theorem dX6_line_76 : decode cX6_line 76 = .ok (.invokestatic 130, 3) := by decide +kernel
theorem dX6_line_79 : decode cX6_line 79 = .ok (.ifCond .eq 21, 3) := by decide +kernel
theorem dX6_line_82 : decode cX6_line 82 = .ok (.iload_n 2, 1) := by decide +kernel
theorem dX6_line_83 : decode cX6_line 83 = .ok (.iconst 2, 1) := by decide +kernel
theorem dX6_line_84 : decode cX6_line 84 = .ok (.if_icmp .ne 20, 3) := by decide +kernel
theorem dX6_line_87 : decode cX6_line 87 = .ok (.iload 5, 2) := by decide +kernel
theorem dX6_line_89 : decode cX6_line 89 = .ok (.i2l, 1) := by decide +kernel
theorem dX6_line_90 : decode cX6_line 90 = .ok (.lconst 1, 1) := by decide +kernel
theorem dX6_line_91 : decode cX6_line 91 = .ok (.ldc2_w 195, 3) := by decide +kernel
theorem dX6_line_94 : decode cX6_line 94 = .ok (.invokestatic 130, 3) := by decide +kernel
theorem dX6_line_97 : decode cX6_line 97 = .ok (.ifCond .ne 7, 3) := by decide +kernel
theorem dX6_line_100 : decode cX6_line 100 = .ok (.sipush (-1002), 3) := by decide +kernel
theorem dX6_line_103 : decode cX6_line 103 = .ok (.ireturn, 1) := by decide +kernel
theorem dX6_line_104 : decode cX6_line 104 = .ok (.aload_n 0, 1) := by decide +kernel
theorem dX6_line_105 : decode cX6_line 105 = .ok (.getfield 197, 3) := by decide +kernel
theorem dX6_line_108 : decode cX6_line 108 = .ok (.bipush 120, 2) := by decide +kernel
theorem dX6_line_110 : decode cX6_line 110 = .ok (.if_icmp .ne 7, 3) := by decide +kernel
theorem dX6_line_113 : decode cX6_line 113 = .ok (.sipush (-1004), 3) := by decide +kernel
theorem dX6_line_116 : decode cX6_line 116 = .ok (.ireturn, 1) := by decide +kernel
theorem dX6_line_117 : decode cX6_line 117 = .ok (.aload_n 0, 1) := by decide +kernel
theorem dX6_line_118 : decode cX6_line 118 = .ok (.getfield 39, 3) := by decide +kernel
theorem dX6_line_121 : decode cX6_line 121 = .ok (.aload_n 0, 1) := by decide +kernel
theorem dX6_line_122 : decode cX6_line 122 = .ok (.getfield 197, 3) := by decide +kernel
theorem dX6_line_125 : decode cX6_line 125 = .ok (.iload_n 1, 1) := by decide +kernel
theorem dX6_line_126 : decode cX6_line 126 = .ok (.iastore, 1) := by decide +kernel
theorem dX6_line_127 : decode cX6_line 127 = .ok (.aload_n 0, 1) := by decide +kernel
theorem dX6_line_128 : decode cX6_line 128 = .ok (.getfield 42, 3) := by decide +kernel
theorem dX6_line_131 : decode cX6_line 131 = .ok (.aload_n 0, 1) := by decide +kernel
theorem dX6_line_132 : decode cX6_line 132 = .ok (.getfield 197, 3) := by decide +kernel
theorem dX6_line_135 : decode cX6_line 135 = .ok (.iload_n 2, 1) := by decide +kernel
theorem dX6_line_136 : decode cX6_line 136 = .ok (.iastore, 1) := by decide +kernel
theorem dX6_line_137 : decode cX6_line 137 = .ok (.aload_n 0, 1) := by decide +kernel
theorem dX6_line_138 : decode cX6_line 138 = .ok (.getfield 45, 3) := by decide +kernel
theorem dX6_line_141 : decode cX6_line 141 = .ok (.aload_n 0, 1) := by decide +kernel
theorem dX6_line_142 : decode cX6_line 142 = .ok (.getfield 197, 3) := by decide +kernel
theorem dX6_line_145 : decode cX6_line 145 = .ok (.iload_n 3, 1) := by decide +kernel
theorem dX6_line_146 : decode cX6_line 146 = .ok (.iastore, 1) := by decide +kernel
theorem dX6_line_147 : decode cX6_line 147 = .ok (.aload_n 0, 1) := by decide +kernel
theorem dX6_line_148 : decode cX6_line 148 = .ok (.getfield 48, 3) := by decide +kernel
theorem dX6_line_151 : decode cX6_line 151 = .ok (.aload_n 0, 1) := by decide +kernel
theorem dX6_line_152 : decode cX6_line 152 = .ok (.getfield 197, 3) := by decide +kernel
theorem dX6_line_155 : decode cX6_line 155 = .ok (.iload 4, 2) := by decide +kernel
theorem dX6_line_157 : decode cX6_line 157 = .ok (.iastore, 1) := by decide +kernel
theorem dX6_line_158 : decode cX6_line 158 = .ok (.aload_n 0, 1) := by decide +kernel
theorem dX6_line_159 : decode cX6_line 159 = .ok (.getfield 51, 3) := by decide +kernel
theorem dX6_line_162 : decode cX6_line 162 = .ok (.aload_n 0, 1) := by decide +kernel
theorem dX6_line_163 : decode cX6_line 163 = .ok (.getfield 197, 3) := by decide +kernel
theorem dX6_line_166 : decode cX6_line 166 = .ok (.iload 5, 2) := by decide +kernel
theorem dX6_line_168 : decode cX6_line 168 = .ok (.iastore, 1) := by decide +kernel
theorem dX6_line_169 : decode cX6_line 169 = .ok (.aload_n 0, 1) := by decide +kernel
theorem dX6_line_170 : decode cX6_line 170 = .ok (.getfield 54, 3) := by decide +kernel
theorem dX6_line_173 : decode cX6_line 173 = .ok (.aload_n 0, 1) := by decide +kernel
theorem dX6_line_174 : decode cX6_line 174 = .ok (.getfield 197, 3) := by decide +kernel
theorem dX6_line_177 : decode cX6_line 177 = .ok (.iconst 0, 1) := by decide +kernel
theorem dX6_line_178 : decode cX6_line 178 = .ok (.bastore, 1) := by decide +kernel
theorem dX6_line_179 : decode cX6_line 179 = .ok (.aload_n 0, 1) := by decide +kernel
theorem dX6_line_180 : decode cX6_line 180 = .ok (.dup, 1) := by decide +kernel
theorem dX6_line_181 : decode cX6_line 181 = .ok (.getfield 197, 3) := by decide +kernel
theorem dX6_line_184 : decode cX6_line 184 = .ok (.iconst 1, 1) := by decide +kernel
theorem dX6_line_185 : decode cX6_line 185 = .ok (.iadd, 1) := by decide +kernel
theorem dX6_line_186 : decode cX6_line 186 = .ok (.putfield 197, 3) := by decide +kernel
theorem dX6_line_189 : decode cX6_line 189 = .ok (.aload_n 0, 1) := by decide +kernel
theorem dX6_line_190 : decode cX6_line 190 = .ok (.getfield 197, 3) := by decide +kernel
theorem dX6_line_193 : decode cX6_line 193 = .ok (.iconst 1, 1) := by decide +kernel
theorem dX6_line_194 : decode cX6_line 194 = .ok (.isub, 1) := by decide +kernel
theorem dX6_line_195 : decode cX6_line 195 = .ok (.ireturn, 1) := by decide +kernel
set_option maxRecDepth 20000 in
theorem ggX6_isLine_X6_in : GoodIn wsX6_isLine wsX6_in := goodIn_r _ [5] (by decide +kernel) (by decide +kernel)
set_option maxRecDepth 20000 in
theorem gX6_isLine_X6_in : GoodIn wsX6_isLine (va_wsS RX6 130 yX6_in wsX6_in) := goodIn_app (goodIn_of _ (by decide +kernel)) ggX6_isLine_X6_in
theorem dX6_isLine_0 : decode cX6_isLine 0 = .ok (.iload_n 1, 1) := by decide +kernel
theorem dX6_isLine_1 : decode cX6_isLine 1 = .ok (.i2l, 1) := by decide +kernel
theorem dX6_isLine_2 : decode cX6_isLine 2 = .ok (.lconst 0, 1) := by decide +kernel
theorem dX6_isLine_3 : decode cX6_isLine 3 = .ok (.aload_n 0, 1) := by decide +kernel
theorem dX6_isLine_4 : decode cX6_isLine 4 = .ok (.getfield 197, 3) := by decide +kernel
theorem dX6_isLine_7 : decode cX6_isLine 7 = .ok (.iconst 1, 1) := by decide +kernel
theorem dX6_isLine_8 : decode cX6_isLine 8 = .ok (.isub, 1) := by decide +kernel
theorem dX6_isLine_9 : decode cX6_isLine 9 = .ok (.i2l, 1) := by decide +kernel
theorem dX6_isLine_10 : decode cX6_isLine 10 = .ok (.invokestatic 130, 3) := by decide +kernel
theorem dX6_isLine_13 : decode cX6_isLine 13 = .ok (.ireturn, 1) := by decide +kernel
set_option maxRecDepth 20000 in
theorem ggX6_strike_X6_isLine : GoodIn wsX6_strike wsX6_isLine := goodIn_r _ [6, 7, 8, 9, 5, 10, 11, 12, 13, 14, 15, 16, 17, 18, 19, 20, 21, 22, 23, 24, 25, 26, 27, 28, 29, 30, 31, 32, 33, 34, 35, 36, 37, 38, 39, 40, 41, 42, 43, 44, 45, 46, 47, 48, 49, 50, 51, 52, 53, 54] (by decide +kernel) (by decide +kernel)
set_option maxRecDepth 20000 in
theorem gX6_strike_X6_isLine : GoodIn wsX6_strike (wsV RX6 200 RX6 yX6_isLine wsX6_isLine) := goodIn_app (goodIn_of _ (by decide +kernel)) ggX6_strike_X6_isLine
theorem dX6_strike_0 : decode cX6_strike 0 = .ok (.aload_n 0, 1) := by decide +kernel
theorem dX6_strike_1 : decode cX6_strike 1 = .ok (.iload_n 1, 1) := by decide +kernel
theorem dX6_strike_2 : decode cX6_strike 2 = .ok (.invokevirtual 200, 3) := by decide +kernel
theorem dX6_strike_5 : decode cX6_strike 5 = .ok (.ifCond .ne 7, 3) := by decide +kernel
theorem dX6_strike_8 : decode cX6_strike 8 = .ok (.sipush (-1001), 3) := by decide +kernel
theorem dX6_strike_11 : decode cX6_strike 11 = .ok (.ireturn, 1) := by decide +kernel
theorem dX6_strike_12 : decode cX6_strike 12 = .ok (.aload_n 0, 1) := by decide +kernel
theorem dX6_strike_13 : decode cX6_strike 13 = .ok (.getfield 54, 3) := by decide +kernel
theorem dX6_strike_16 : decode cX6_strike 16 = .ok (.iload_n 1, 1) := by decide +kernel
theorem dX6_strike_17 : decode cX6_strike 17 = .ok (.baload, 1) := by decide +kernel
theorem dX6_strike_18 : decode cX6_strike 18 = .ok (.ifCond .eq 7, 3) := by decide +kernel
theorem dX6_strike_21 : decode cX6_strike 21 = .ok (.iconst 1, 1) := by decide +kernel
theorem dX6_strike_22 : decode cX6_strike 22 = .ok (.goto 4, 3) := by decide +kernel
theorem dX6_strike_25 : decode cX6_strike 25 = .ok (.iconst 0, 1) := by decide +kernel
theorem dX6_strike_26 : decode cX6_strike 26 = .ok (.istore_n 3, 1) := by decide +kernel
theorem dX6_strike_27 : decode cX6_strike 27 = .ok (.aload_n 0, 1) := by decide +kernel
theorem dX6_strike_28 : decode cX6_strike 28 = .ok (.getfield 54, 3) := by decide +kernel
theorem dX6_strike_31 : decode cX6_strike 31 = .ok (.iload_n 1, 1) := by decide +kernel
theorem dX6_strike_32 : decode cX6_strike 32 = .ok (.iload_n 2, 1) := by decide +kernel
theorem dX6_strike_33 : decode cX6_strike 33 = .ok (.bastore, 1) := by decide +kernel
theorem dX6_strike_34 : decode cX6_strike 34 = .ok (.iload_n 3, 1) := by decide +kernel
theorem dX6_strike_35 : decode cX6_strike 35 = .ok (.ireturn, 1) := by decide +kernel
set_option maxRecDepth 20000 in
theorem ggX6_told_X6_isLine : GoodIn wsX6_told wsX6_isLine := goodIn_r _ [11, 12, 13, 14, 10, 15, 16, 17, 18, 19, 20, 21, 22, 23, 24, 25, 26, 27, 28, 29, 30, 31, 32, 33, 34, 35, 36, 37, 38, 39, 40, 41, 42, 43, 44, 45, 46, 47, 48, 49, 50, 51, 52, 53, 54, 55, 56, 57, 58, 59] (by decide +kernel) (by decide +kernel)
set_option maxRecDepth 20000 in
theorem gX6_told_X6_isLine : GoodIn wsX6_told (wsV RX6 200 RX6 yX6_isLine wsX6_isLine) := goodIn_app (goodIn_of _ (by decide +kernel)) ggX6_told_X6_isLine
theorem dX6_told_0 : decode cX6_told 0 = .ok (.aload_n 0, 1) := by decide +kernel
theorem dX6_told_1 : decode cX6_told 1 = .ok (.iload_n 1, 1) := by decide +kernel
theorem dX6_told_2 : decode cX6_told 2 = .ok (.invokevirtual 200, 3) := by decide +kernel
theorem dX6_told_5 : decode cX6_told 5 = .ok (.ifCond .ne 7, 3) := by decide +kernel
theorem dX6_told_8 : decode cX6_told 8 = .ok (.sipush (-1001), 3) := by decide +kernel
theorem dX6_told_11 : decode cX6_told 11 = .ok (.ireturn, 1) := by decide +kernel
theorem dX6_told_12 : decode cX6_told 12 = .ok (.iload_n 2, 1) := by decide +kernel
theorem dX6_told_13 : decode cX6_told 13 = .ok (.tableswitch 89 0 5 #[39, 46, 53, 60, 67, 74], 39) := by decide +kernel
theorem dX6_told_52 : decode cX6_told 52 = .ok (.aload_n 0, 1) := by decide +kernel
theorem dX6_told_53 : decode cX6_told 53 = .ok (.getfield 39, 3) := by decide +kernel
theorem dX6_told_56 : decode cX6_told 56 = .ok (.iload_n 1, 1) := by decide +kernel
theorem dX6_told_57 : decode cX6_told 57 = .ok (.iaload, 1) := by decide +kernel
theorem dX6_told_58 : decode cX6_told 58 = .ok (.ireturn, 1) := by decide +kernel
theorem dX6_told_59 : decode cX6_told 59 = .ok (.aload_n 0, 1) := by decide +kernel
theorem dX6_told_60 : decode cX6_told 60 = .ok (.getfield 42, 3) := by decide +kernel
theorem dX6_told_63 : decode cX6_told 63 = .ok (.iload_n 1, 1) := by decide +kernel
theorem dX6_told_64 : decode cX6_told 64 = .ok (.iaload, 1) := by decide +kernel
theorem dX6_told_65 : decode cX6_told 65 = .ok (.ireturn, 1) := by decide +kernel
theorem dX6_told_66 : decode cX6_told 66 = .ok (.aload_n 0, 1) := by decide +kernel
theorem dX6_told_67 : decode cX6_told 67 = .ok (.getfield 45, 3) := by decide +kernel
theorem dX6_told_70 : decode cX6_told 70 = .ok (.iload_n 1, 1) := by decide +kernel
theorem dX6_told_71 : decode cX6_told 71 = .ok (.iaload, 1) := by decide +kernel
theorem dX6_told_72 : decode cX6_told 72 = .ok (.ireturn, 1) := by decide +kernel
theorem dX6_told_73 : decode cX6_told 73 = .ok (.aload_n 0, 1) := by decide +kernel
theorem dX6_told_74 : decode cX6_told 74 = .ok (.getfield 48, 3) := by decide +kernel
theorem dX6_told_77 : decode cX6_told 77 = .ok (.iload_n 1, 1) := by decide +kernel
theorem dX6_told_78 : decode cX6_told 78 = .ok (.iaload, 1) := by decide +kernel
theorem dX6_told_79 : decode cX6_told 79 = .ok (.ireturn, 1) := by decide +kernel
theorem dX6_told_80 : decode cX6_told 80 = .ok (.aload_n 0, 1) := by decide +kernel
theorem dX6_told_81 : decode cX6_told 81 = .ok (.getfield 51, 3) := by decide +kernel
theorem dX6_told_84 : decode cX6_told 84 = .ok (.iload_n 1, 1) := by decide +kernel
theorem dX6_told_85 : decode cX6_told 85 = .ok (.iaload, 1) := by decide +kernel
theorem dX6_told_86 : decode cX6_told 86 = .ok (.ireturn, 1) := by decide +kernel
theorem dX6_told_87 : decode cX6_told 87 = .ok (.aload_n 0, 1) := by decide +kernel
theorem dX6_told_88 : decode cX6_told 88 = .ok (.getfield 54, 3) := by decide +kernel
theorem dX6_told_91 : decode cX6_told 91 = .ok (.iload_n 1, 1) := by decide +kernel
theorem dX6_told_92 : decode cX6_told 92 = .ok (.baload, 1) := by decide +kernel
theorem dX6_told_93 : decode cX6_told 93 = .ok (.ifCond .eq 7, 3) := by decide +kernel
theorem dX6_told_96 : decode cX6_told 96 = .ok (.iconst 1, 1) := by decide +kernel
theorem dX6_told_97 : decode cX6_told 97 = .ok (.goto 4, 3) := by decide +kernel
theorem dX6_told_100 : decode cX6_told 100 = .ok (.iconst 0, 1) := by decide +kernel
theorem dX6_told_101 : decode cX6_told 101 = .ok (.ireturn, 1) := by decide +kernel
theorem dX6_told_102 : decode cX6_told 102 = .ok (.sipush (-1002), 3) := by decide +kernel
theorem dX6_told_105 : decode cX6_told 105 = .ok (.ireturn, 1) := by decide +kernel
theorem dX6_putInOrder_0 : decode cX6_putInOrder 0 = .ok (.aload_n 0, 1) := by decide +kernel
theorem dX6_putInOrder_1 : decode cX6_putInOrder 1 = .ok (.iconst 0, 1) := by decide +kernel
theorem dX6_putInOrder_2 : decode cX6_putInOrder 2 = .ok (.putfield 203, 3) := by decide +kernel
theorem dX6_putInOrder_5 : decode cX6_putInOrder 5 = .ok (.iconst 0, 1) := by decide +kernel
theorem dX6_putInOrder_6 : decode cX6_putInOrder 6 = .ok (.istore_n 3, 1) := by decide +kernel
theorem dX6_putInOrder_7 : decode cX6_putInOrder 7 = .ok (.iload_n 3, 1) := by decide +kernel
theorem dX6_putInOrder_8 : decode cX6_putInOrder 8 = .ok (.iload_n 1, 1) := by decide +kernel
theorem dX6_putInOrder_9 : decode cX6_putInOrder 9 = .ok (.if_icmp .ge 102, 3) := by decide +kernel
theorem dX6_putInOrder_12 : decode cX6_putInOrder 12 = .ok (.aload_n 0, 1) := by decide +kernel
theorem dX6_putInOrder_13 : decode cX6_putInOrder 13 = .ok (.getfield 54, 3) := by decide +kernel
theorem dX6_putInOrder_16 : decode cX6_putInOrder 16 = .ok (.iload_n 3, 1) := by decide +kernel
theorem dX6_putInOrder_17 : decode cX6_putInOrder 17 = .ok (.baload, 1) := by decide +kernel
theorem dX6_putInOrder_18 : decode cX6_putInOrder 18 = .ok (.ifCond .ne 87, 3) := by decide +kernel
theorem dX6_putInOrder_21 : decode cX6_putInOrder 21 = .ok (.aload_n 0, 1) := by decide +kernel
theorem dX6_putInOrder_22 : decode cX6_putInOrder 22 = .ok (.getfield 39, 3) := by decide +kernel
theorem dX6_putInOrder_25 : decode cX6_putInOrder 25 = .ok (.iload_n 3, 1) := by decide +kernel
theorem dX6_putInOrder_26 : decode cX6_putInOrder 26 = .ok (.iaload, 1) := by decide +kernel
theorem dX6_putInOrder_27 : decode cX6_putInOrder 27 = .ok (.iload_n 2, 1) := by decide +kernel
theorem dX6_putInOrder_28 : decode cX6_putInOrder 28 = .ok (.if_icmp .gt 77, 3) := by decide +kernel
theorem dX6_putInOrder_31 : decode cX6_putInOrder 31 = .ok (.aload_n 0, 1) := by decide +kernel
theorem dX6_putInOrder_32 : decode cX6_putInOrder 32 = .ok (.getfield 203, 3) := by decide +kernel
theorem dX6_putInOrder_35 : decode cX6_putInOrder 35 = .ok (.istore 4, 2) := by decide +kernel
theorem dX6_putInOrder_37 : decode cX6_putInOrder 37 = .ok (.iload 4, 2) := by decide +kernel
theorem dX6_putInOrder_39 : decode cX6_putInOrder 39 = .ok (.ifCond .le 48, 3) := by decide +kernel
theorem dX6_putInOrder_42 : decode cX6_putInOrder 42 = .ok (.aload_n 0, 1) := by decide +kernel
theorem dX6_putInOrder_43 : decode cX6_putInOrder 43 = .ok (.getfield 39, 3) := by decide +kernel
theorem dX6_putInOrder_46 : decode cX6_putInOrder 46 = .ok (.aload_n 0, 1) := by decide +kernel
theorem dX6_putInOrder_47 : decode cX6_putInOrder 47 = .ok (.getfield 67, 3) := by decide +kernel
theorem dX6_putInOrder_50 : decode cX6_putInOrder 50 = .ok (.iload 4, 2) := by decide +kernel
theorem dX6_putInOrder_52 : decode cX6_putInOrder 52 = .ok (.iconst 1, 1) := by decide +kernel
theorem dX6_putInOrder_53 : decode cX6_putInOrder 53 = .ok (.isub, 1) := by decide +kernel
theorem dX6_putInOrder_54 : decode cX6_putInOrder 54 = .ok (.iaload, 1) := by decide +kernel
theorem dX6_putInOrder_55 : decode cX6_putInOrder 55 = .ok (.iaload, 1) := by decide +kernel
theorem dX6_putInOrder_56 : decode cX6_putInOrder 56 = .ok (.aload_n 0, 1) := by decide +kernel
theorem dX6_putInOrder_57 : decode cX6_putInOrder 57 = .ok (.getfield 39, 3) := by decide +kernel
theorem dX6_putInOrder_60 : decode cX6_putInOrder 60 = .ok (.iload_n 3, 1) := by decide +kernel
theorem dX6_putInOrder_61 : decode cX6_putInOrder 61 = .ok (.iaload, 1) := by decide +kernel
theorem dX6_putInOrder_62 : decode cX6_putInOrder 62 = .ok (.if_icmp .le 25, 3) := by decide +kernel
theorem dX6_putInOrder_65 : decode cX6_putInOrder 65 = .ok (.aload_n 0, 1) := by decide +kernel
theorem dX6_putInOrder_66 : decode cX6_putInOrder 66 = .ok (.getfield 67, 3) := by decide +kernel
theorem dX6_putInOrder_69 : decode cX6_putInOrder 69 = .ok (.iload 4, 2) := by decide +kernel
theorem dX6_putInOrder_71 : decode cX6_putInOrder 71 = .ok (.aload_n 0, 1) := by decide +kernel
theorem dX6_putInOrder_72 : decode cX6_putInOrder 72 = .ok (.getfield 67, 3) := by decide +kernel
theorem dX6_putInOrder_75 : decode cX6_putInOrder 75 = .ok (.iload 4, 2) := by decide +kernel
theorem dX6_putInOrder_77 : decode cX6_putInOrder 77 = .ok (.iconst 1, 1) := by decide +kernel
theorem dX6_putInOrder_78 : decode cX6_putInOrder 78 = .ok (.isub, 1) := by decide +kernel
theorem dX6_putInOrder_79 : decode cX6_putInOrder 79 = .ok (.iaload, 1) := by decide +kernel
theorem dX6_putInOrder_80 : decode cX6_putInOrder 80 = .ok (.iastore, 1) := by decide +kernel
theorem dX6_putInOrder_81 : decode cX6_putInOrder 81 = .ok (.iinc 4 (-1), 3) := by decide +kernel
theorem dX6_putInOrder_84 : decode cX6_putInOrder 84 = .ok (.goto (-47), 3) := by decide +kernel
theorem dX6_putInOrder_87 : decode cX6_putInOrder 87 = .ok (.aload_n 0, 1) := by decide +kernel
theorem dX6_putInOrder_88 : decode cX6_putInOrder 88 = .ok (.getfield 67, 3) := by decide +kernel
theorem dX6_putInOrder_91 : decode cX6_putInOrder 91 = .ok (.iload 4, 2) := by decide +kernel
theorem dX6_putInOrder_93 : decode cX6_putInOrder 93 = .ok (.iload_n 3, 1) := by decide +kernel
theorem dX6_putInOrder_94 : decode cX6_putInOrder 94 = .ok (.iastore, 1) := by decide +kernel
theorem dX6_putInOrder_95 : decode cX6_putInOrder 95 = .ok (.aload_n 0, 1) := by decide +kernel
theorem dX6_putInOrder_96 : decode cX6_putInOrder 96 = .ok (.dup, 1) := by decide +kernel
theorem dX6_putInOrder_97 : decode cX6_putInOrder 97 = .ok (.getfield 203, 3) := by decide +kernel
theorem dX6_putInOrder_100 : decode cX6_putInOrder 100 = .ok (.iconst 1, 1) := by decide +kernel
theorem dX6_putInOrder_101 : decode cX6_putInOrder 101 = .ok (.iadd, 1) := by decide +kernel
theorem dX6_putInOrder_102 : decode cX6_putInOrder 102 = .ok (.putfield 203, 3) := by decide +kernel
theorem dX6_putInOrder_105 : decode cX6_putInOrder 105 = .ok (.iinc 3 1, 3) := by decide +kernel
theorem dX6_putInOrder_108 : decode cX6_putInOrder 108 = .ok (.goto (-101), 3) := by decide +kernel
theorem dX6_putInOrder_111 : decode cX6_putInOrder 111 = .ok (.return_, 1) := by decide +kernel
theorem dX6_entryOf_0 : decode cX6_entryOf 0 = .ok (.iconst (-1), 1) := by decide +kernel
theorem dX6_entryOf_1 : decode cX6_entryOf 1 = .ok (.istore_n 2, 1) := by decide +kernel
theorem dX6_entryOf_2 : decode cX6_entryOf 2 = .ok (.iconst 0, 1) := by decide +kernel
theorem dX6_entryOf_3 : decode cX6_entryOf 3 = .ok (.istore_n 3, 1) := by decide +kernel
theorem dX6_entryOf_4 : decode cX6_entryOf 4 = .ok (.iload_n 3, 1) := by decide +kernel
theorem dX6_entryOf_5 : decode cX6_entryOf 5 = .ok (.aload_n 0, 1) := by decide +kernel
theorem dX6_entryOf_6 : decode cX6_entryOf 6 = .ok (.getfield 206, 3) := by decide +kernel
theorem dX6_entryOf_9 : decode cX6_entryOf 9 = .ok (.if_icmp .ge 39, 3) := by decide +kernel
theorem dX6_entryOf_12 : decode cX6_entryOf 12 = .ok (.aload_n 0, 1) := by decide +kernel
theorem dX6_entryOf_13 : decode cX6_entryOf 13 = .ok (.getfield 91, 3) := by decide +kernel
theorem dX6_entryOf_16 : decode cX6_entryOf 16 = .ok (.iload_n 3, 1) := by decide +kernel
theorem dX6_entryOf_17 : decode cX6_entryOf 17 = .ok (.iaload, 1) := by decide +kernel
theorem dX6_entryOf_18 : decode cX6_entryOf 18 = .ok (.ifCond .eq 22, 3) := by decide +kernel
theorem dX6_entryOf_21 : decode cX6_entryOf 21 = .ok (.aload_n 0, 1) := by decide +kernel
theorem dX6_entryOf_22 : decode cX6_entryOf 22 = .ok (.getfield 48, 3) := by decide +kernel
theorem dX6_entryOf_25 : decode cX6_entryOf 25 = .ok (.aload_n 0, 1) := by decide +kernel
theorem dX6_entryOf_26 : decode cX6_entryOf 26 = .ok (.getfield 76, 3) := by decide +kernel
theorem dX6_entryOf_29 : decode cX6_entryOf 29 = .ok (.iload_n 3, 1) := by decide +kernel
theorem dX6_entryOf_30 : decode cX6_entryOf 30 = .ok (.iaload, 1) := by decide +kernel
theorem dX6_entryOf_31 : decode cX6_entryOf 31 = .ok (.iaload, 1) := by decide +kernel
theorem dX6_entryOf_32 : decode cX6_entryOf 32 = .ok (.iload_n 1, 1) := by decide +kernel
theorem dX6_entryOf_33 : decode cX6_entryOf 33 = .ok (.if_icmp .ne 7, 3) := by decide +kernel
theorem dX6_entryOf_36 : decode cX6_entryOf 36 = .ok (.iload_n 3, 1) := by decide +kernel
theorem dX6_entryOf_37 : decode cX6_entryOf 37 = .ok (.goto 4, 3) := by decide +kernel
theorem dX6_entryOf_40 : decode cX6_entryOf 40 = .ok (.iload_n 2, 1) := by decide +kernel
theorem dX6_entryOf_41 : decode cX6_entryOf 41 = .ok (.istore_n 2, 1) := by decide +kernel
theorem dX6_entryOf_42 : decode cX6_entryOf 42 = .ok (.iinc 3 1, 3) := by decide +kernel
theorem dX6_entryOf_45 : decode cX6_entryOf 45 = .ok (.goto (-41), 3) := by decide +kernel
theorem dX6_entryOf_48 : decode cX6_entryOf 48 = .ok (.iload_n 2, 1) := by decide +kernel
theorem dX6_entryOf_49 : decode cX6_entryOf 49 = .ok (.ireturn, 1) := by decide +kernel
set_option maxRecDepth 20000 in
theorem ggX6_openOf_X6_entryOf : GoodIn wsX6_openOf wsX6_entryOf := goodIn_r _ [6, 7, 1, 8, 9, 10, 11, 12, 13, 14, 15, 16, 17, 18, 19, 20, 21, 22, 23, 24, 25, 26, 27, 28, 29, 30, 31, 32, 33, 34, 35, 36, 37, 38, 39, 40, 41, 42, 43, 44, 45, 46, 47, 48, 49, 50, 51, 52, 53] (by decide +kernel) (by decide +kernel)
set_option maxRecDepth 20000 in
theorem gX6_openOf_X6_entryOf : GoodIn wsX6_openOf (wsV RX6 209 RX6 yX6_entryOf wsX6_entryOf) := goodIn_app (goodIn_of _ (by decide +kernel)) ggX6_openOf_X6_entryOf
theorem dX6_openOf_0 : decode cX6_openOf 0 = .ok (.aload_n 0, 1) := by decide +kernel
theorem dX6_openOf_1 : decode cX6_openOf 1 = .ok (.iload_n 1, 1) := by decide +kernel
theorem dX6_openOf_2 : decode cX6_openOf 2 = .ok (.invokevirtual 209, 3) := by decide +kernel
theorem dX6_openOf_5 : decode cX6_openOf 5 = .ok (.istore_n 2, 1) := by decide +kernel
theorem dX6_openOf_6 : decode cX6_openOf 6 = .ok (.iload_n 2, 1) := by decide +kernel
theorem dX6_openOf_7 : decode cX6_openOf 7 = .ok (.ifCond .lt 17, 3) := by decide +kernel
theorem dX6_openOf_10 : decode cX6_openOf 10 = .ok (.aload_n 0, 1) := by decide +kernel
theorem dX6_openOf_11 : decode cX6_openOf 11 = .ok (.getfield 91, 3) := by decide +kernel
theorem dX6_openOf_14 : decode cX6_openOf 14 = .ok (.iload_n 2, 1) := by decide +kernel
theorem dX6_openOf_15 : decode cX6_openOf 15 = .ok (.iaload, 1) := by decide +kernel
theorem dX6_openOf_16 : decode cX6_openOf 16 = .ok (.iconst 1, 1) := by decide +kernel
theorem dX6_openOf_17 : decode cX6_openOf 17 = .ok (.if_icmp .ne 7, 3) := by decide +kernel
theorem dX6_openOf_20 : decode cX6_openOf 20 = .ok (.iload_n 2, 1) := by decide +kernel
theorem dX6_openOf_21 : decode cX6_openOf 21 = .ok (.goto 4, 3) := by decide +kernel
theorem dX6_openOf_24 : decode cX6_openOf 24 = .ok (.iconst (-1), 1) := by decide +kernel
theorem dX6_openOf_25 : decode cX6_openOf 25 = .ok (.ireturn, 1) := by decide +kernel
theorem dX6_markLived_0 : decode cX6_markLived 0 = .ok (.iconst 0, 1) := by decide +kernel
theorem dX6_markLived_1 : decode cX6_markLived 1 = .ok (.istore_n 2, 1) := by decide +kernel
theorem dX6_markLived_2 : decode cX6_markLived 2 = .ok (.iload_n 2, 1) := by decide +kernel
theorem dX6_markLived_3 : decode cX6_markLived 3 = .ok (.sipush 25200, 3) := by decide +kernel
theorem dX6_markLived_6 : decode cX6_markLived 6 = .ok (.if_icmp .ge 16, 3) := by decide +kernel
theorem dX6_markLived_9 : decode cX6_markLived 9 = .ok (.aload_n 0, 1) := by decide +kernel
theorem dX6_markLived_10 : decode cX6_markLived 10 = .ok (.getfield 103, 3) := by decide +kernel
theorem dX6_markLived_13 : decode cX6_markLived 13 = .ok (.iload_n 2, 1) := by decide +kernel
theorem dX6_markLived_14 : decode cX6_markLived 14 = .ok (.iconst 0, 1) := by decide +kernel
theorem dX6_markLived_15 : decode cX6_markLived 15 = .ok (.bastore, 1) := by decide +kernel
theorem dX6_markLived_16 : decode cX6_markLived 16 = .ok (.iinc 2 1, 3) := by decide +kernel
theorem dX6_markLived_19 : decode cX6_markLived 19 = .ok (.goto (-17), 3) := by decide +kernel
theorem dX6_markLived_22 : decode cX6_markLived 22 = .ok (.iconst 0, 1) := by decide +kernel
theorem dX6_markLived_23 : decode cX6_markLived 23 = .ok (.istore_n 2, 1) := by decide +kernel
theorem dX6_markLived_24 : decode cX6_markLived 24 = .ok (.iload_n 2, 1) := by decide +kernel
theorem dX6_markLived_25 : decode cX6_markLived 25 = .ok (.aload_n 0, 1) := by decide +kernel
theorem dX6_markLived_26 : decode cX6_markLived 26 = .ok (.getfield 212, 3) := by decide +kernel
theorem dX6_markLived_29 : decode cX6_markLived 29 = .ok (.if_icmp .ge 126, 3) := by decide +kernel
theorem dX6_markLived_32 : decode cX6_markLived 32 = .ok (.aload_n 0, 1) := by decide +kernel
theorem dX6_markLived_33 : decode cX6_markLived 33 = .ok (.getfield 67, 3) := by decide +kernel
theorem dX6_markLived_36 : decode cX6_markLived 36 = .ok (.iload_n 2, 1) := by decide +kernel
theorem dX6_markLived_37 : decode cX6_markLived 37 = .ok (.iaload, 1) := by decide +kernel
theorem dX6_markLived_38 : decode cX6_markLived 38 = .ok (.istore_n 3, 1) := by decide +kernel
theorem dX6_markLived_39 : decode cX6_markLived 39 = .ok (.aload_n 0, 1) := by decide +kernel
theorem dX6_markLived_40 : decode cX6_markLived 40 = .ok (.getfield 42, 3) := by decide +kernel
theorem dX6_markLived_43 : decode cX6_markLived 43 = .ok (.iload_n 3, 1) := by decide +kernel
theorem dX6_markLived_44 : decode cX6_markLived 44 = .ok (.iaload, 1) := by decide +kernel
theorem dX6_markLived_45 : decode cX6_markLived 45 = .ok (.iconst 1, 1) := by decide +kernel
theorem dX6_markLived_46 : decode cX6_markLived 46 = .ok (.if_icmp .ne 55, 3) := by decide +kernel
theorem dX6_markLived_49 : decode cX6_markLived 49 = .ok (.aload_n 0, 1) := by decide +kernel
theorem dX6_markLived_50 : decode cX6_markLived 50 = .ok (.getfield 70, 3) := by decide +kernel
theorem dX6_markLived_53 : decode cX6_markLived 53 = .ok (.iload_n 3, 1) := by decide +kernel
theorem dX6_markLived_54 : decode cX6_markLived 54 = .ok (.iaload, 1) := by decide +kernel
theorem dX6_markLived_55 : decode cX6_markLived 55 = .ok (.ifCond .ne 46, 3) := by decide +kernel
theorem dX6_markLived_58 : decode cX6_markLived 58 = .ok (.aload_n 0, 1) := by decide +kernel
theorem dX6_markLived_59 : decode cX6_markLived 59 = .ok (.getfield 48, 3) := by decide +kernel
theorem dX6_markLived_62 : decode cX6_markLived 62 = .ok (.iload_n 3, 1) := by decide +kernel
theorem dX6_markLived_63 : decode cX6_markLived 63 = .ok (.iaload, 1) := by decide +kernel
theorem dX6_markLived_64 : decode cX6_markLived 64 = .ok (.aload_n 0, 1) := by decide +kernel
theorem dX6_markLived_65 : decode cX6_markLived 65 = .ok (.getfield 48, 3) := by decide +kernel
theorem dX6_markLived_68 : decode cX6_markLived 68 = .ok (.aload_n 0, 1) := by decide +kernel
theorem dX6_markLived_69 : decode cX6_markLived 69 = .ok (.getfield 76, 3) := by decide +kernel
theorem dX6_markLived_72 : decode cX6_markLived 72 = .ok (.iload_n 1, 1) := by decide +kernel
theorem dX6_markLived_73 : decode cX6_markLived 73 = .ok (.iaload, 1) := by decide +kernel
theorem dX6_markLived_74 : decode cX6_markLived 74 = .ok (.iaload, 1) := by decide +kernel
theorem dX6_markLived_75 : decode cX6_markLived 75 = .ok (.if_icmp .ne 26, 3) := by decide +kernel
theorem dX6_markLived_78 : decode cX6_markLived 78 = .ok (.aload_n 0, 1) := by decide +kernel
theorem dX6_markLived_79 : decode cX6_markLived 79 = .ok (.getfield 85, 3) := by decide +kernel
theorem dX6_markLived_82 : decode cX6_markLived 82 = .ok (.iload_n 1, 1) := by decide +kernel
theorem dX6_markLived_83 : decode cX6_markLived 83 = .ok (.iaload, 1) := by decide +kernel
theorem dX6_markLived_84 : decode cX6_markLived 84 = .ok (.aload_n 0, 1) := by decide +kernel
theorem dX6_markLived_85 : decode cX6_markLived 85 = .ok (.getfield 45, 3) := by decide +kernel
theorem dX6_markLived_88 : decode cX6_markLived 88 = .ok (.iload_n 3, 1) := by decide +kernel
theorem dX6_markLived_89 : decode cX6_markLived 89 = .ok (.iaload, 1) := by decide +kernel
theorem dX6_markLived_90 : decode cX6_markLived 90 = .ok (.ishr, 1) := by decide +kernel
theorem dX6_markLived_91 : decode cX6_markLived 91 = .ok (.iconst 1, 1) := by decide +kernel
theorem dX6_markLived_92 : decode cX6_markLived 92 = .ok (.iand, 1) := by decide +kernel
theorem dX6_markLived_93 : decode cX6_markLived 93 = .ok (.iconst 1, 1) := by decide +kernel
theorem dX6_markLived_94 : decode cX6_markLived 94 = .ok (.if_icmp .ne 7, 3) := by decide +kernel
theorem dX6_markLived_97 : decode cX6_markLived 97 = .ok (.iconst 1, 1) := by decide +kernel
theorem dX6_markLived_98 : decode cX6_markLived 98 = .ok (.goto 4, 3) := by decide +kernel
theorem dX6_markLived_101 : decode cX6_markLived 101 = .ok (.iconst 0, 1) := by decide +kernel
theorem dX6_markLived_102 : decode cX6_markLived 102 = .ok (.istore 4, 2) := by decide +kernel
theorem dX6_markLived_104 : decode cX6_markLived 104 = .ok (.aload_n 0, 1) := by decide +kernel
theorem dX6_markLived_105 : decode cX6_markLived 105 = .ok (.getfield 39, 3) := by decide +kernel
theorem dX6_markLived_108 : decode cX6_markLived 108 = .ok (.iload_n 3, 1) := by decide +kernel
theorem dX6_markLived_109 : decode cX6_markLived 109 = .ok (.iaload, 1) := by decide +kernel
theorem dX6_markLived_110 : decode cX6_markLived 110 = .ok (.istore 5, 2) := by decide +kernel
theorem dX6_markLived_112 : decode cX6_markLived 112 = .ok (.iload 4, 2) := by decide +kernel
theorem dX6_markLived_114 : decode cX6_markLived 114 = .ok (.ifCond .eq 35, 3) := by decide +kernel
theorem dX6_markLived_117 : decode cX6_markLived 117 = .ok (.iload 5, 2) := by decide +kernel
theorem dX6_markLived_119 : decode cX6_markLived 119 = .ok (.aload_n 0, 1) := by decide +kernel
theorem dX6_markLived_120 : decode cX6_markLived 120 = .ok (.getfield 39, 3) := by decide +kernel
theorem dX6_markLived_123 : decode cX6_markLived 123 = .ok (.iload_n 3, 1) := by decide +kernel
theorem dX6_markLived_124 : decode cX6_markLived 124 = .ok (.iaload, 1) := by decide +kernel
theorem dX6_markLived_125 : decode cX6_markLived 125 = .ok (.aload_n 0, 1) := by decide +kernel
theorem dX6_markLived_126 : decode cX6_markLived 126 = .ok (.getfield 51, 3) := by decide +kernel
theorem dX6_markLived_129 : decode cX6_markLived 129 = .ok (.iload_n 3, 1) := by decide +kernel
theorem dX6_markLived_130 : decode cX6_markLived 130 = .ok (.iaload, 1) := by decide +kernel
theorem dX6_markLived_131 : decode cX6_markLived 131 = .ok (.iadd, 1) := by decide +kernel
theorem dX6_markLived_132 : decode cX6_markLived 132 = .ok (.if_icmp .ge 17, 3) := by decide +kernel
theorem dX6_markLived_135 : decode cX6_markLived 135 = .ok (.aload_n 0, 1) := by decide +kernel
theorem dX6_markLived_136 : decode cX6_markLived 136 = .ok (.getfield 103, 3) := by decide +kernel
theorem dX6_markLived_139 : decode cX6_markLived 139 = .ok (.iload 5, 2) := by decide +kernel
theorem dX6_markLived_141 : decode cX6_markLived 141 = .ok (.iconst 1, 1) := by decide +kernel
theorem dX6_markLived_142 : decode cX6_markLived 142 = .ok (.bastore, 1) := by decide +kernel
theorem dX6_markLived_143 : decode cX6_markLived 143 = .ok (.iinc 5 1, 3) := by decide +kernel
theorem dX6_markLived_146 : decode cX6_markLived 146 = .ok (.goto (-34), 3) := by decide +kernel
theorem dX6_markLived_149 : decode cX6_markLived 149 = .ok (.iinc 2 1, 3) := by decide +kernel
theorem dX6_markLived_152 : decode cX6_markLived 152 = .ok (.goto (-128), 3) := by decide +kernel
theorem dX6_markLived_155 : decode cX6_markLived 155 = .ok (.return_, 1) := by decide +kernel
theorem dX6_livedDays_0 : decode cX6_livedDays 0 = .ok (.iconst 0, 1) := by decide +kernel
theorem dX6_livedDays_1 : decode cX6_livedDays 1 = .ok (.istore_n 3, 1) := by decide +kernel
theorem dX6_livedDays_2 : decode cX6_livedDays 2 = .ok (.iload_n 1, 1) := by decide +kernel
theorem dX6_livedDays_3 : decode cX6_livedDays 3 = .ok (.istore 4, 2) := by decide +kernel
theorem dX6_livedDays_5 : decode cX6_livedDays 5 = .ok (.iload 4, 2) := by decide +kernel
theorem dX6_livedDays_7 : decode cX6_livedDays 7 = .ok (.iload_n 2, 1) := by decide +kernel
theorem dX6_livedDays_8 : decode cX6_livedDays 8 = .ok (.if_icmp .gt 27, 3) := by decide +kernel
theorem dX6_livedDays_11 : decode cX6_livedDays 11 = .ok (.iload_n 3, 1) := by decide +kernel
theorem dX6_livedDays_12 : decode cX6_livedDays 12 = .ok (.aload_n 0, 1) := by decide +kernel
theorem dX6_livedDays_13 : decode cX6_livedDays 13 = .ok (.getfield 103, 3) := by decide +kernel
theorem dX6_livedDays_16 : decode cX6_livedDays 16 = .ok (.iload 4, 2) := by decide +kernel
theorem dX6_livedDays_18 : decode cX6_livedDays 18 = .ok (.baload, 1) := by decide +kernel
theorem dX6_livedDays_19 : decode cX6_livedDays 19 = .ok (.ifCond .eq 7, 3) := by decide +kernel
theorem dX6_livedDays_22 : decode cX6_livedDays 22 = .ok (.iconst 1, 1) := by decide +kernel
theorem dX6_livedDays_23 : decode cX6_livedDays 23 = .ok (.goto 4, 3) := by decide +kernel
theorem dX6_livedDays_26 : decode cX6_livedDays 26 = .ok (.iconst 0, 1) := by decide +kernel
theorem dX6_livedDays_27 : decode cX6_livedDays 27 = .ok (.iadd, 1) := by decide +kernel
theorem dX6_livedDays_28 : decode cX6_livedDays 28 = .ok (.istore_n 3, 1) := by decide +kernel
theorem dX6_livedDays_29 : decode cX6_livedDays 29 = .ok (.iinc 4 1, 3) := by decide +kernel
theorem dX6_livedDays_32 : decode cX6_livedDays 32 = .ok (.goto (-27), 3) := by decide +kernel
theorem dX6_livedDays_35 : decode cX6_livedDays 35 = .ok (.iload_n 3, 1) := by decide +kernel
theorem dX6_livedDays_36 : decode cX6_livedDays 36 = .ok (.ireturn, 1) := by decide +kernel
theorem dX6_longestGap_0 : decode cX6_longestGap 0 = .ok (.iconst 0, 1) := by decide +kernel
theorem dX6_longestGap_1 : decode cX6_longestGap 1 = .ok (.istore_n 3, 1) := by decide +kernel
theorem dX6_longestGap_2 : decode cX6_longestGap 2 = .ok (.iconst 0, 1) := by decide +kernel
theorem dX6_longestGap_3 : decode cX6_longestGap 3 = .ok (.istore 4, 2) := by decide +kernel
theorem dX6_longestGap_5 : decode cX6_longestGap 5 = .ok (.iload_n 1, 1) := by decide +kernel
theorem dX6_longestGap_6 : decode cX6_longestGap 6 = .ok (.istore 5, 2) := by decide +kernel
theorem dX6_longestGap_8 : decode cX6_longestGap 8 = .ok (.iload 5, 2) := by decide +kernel
theorem dX6_longestGap_10 : decode cX6_longestGap 10 = .ok (.iload_n 2, 1) := by decide +kernel
theorem dX6_longestGap_11 : decode cX6_longestGap 11 = .ok (.if_icmp .gt 42, 3) := by decide +kernel
theorem dX6_longestGap_14 : decode cX6_longestGap 14 = .ok (.aload_n 0, 1) := by decide +kernel
theorem dX6_longestGap_15 : decode cX6_longestGap 15 = .ok (.getfield 103, 3) := by decide +kernel
theorem dX6_longestGap_18 : decode cX6_longestGap 18 = .ok (.iload 5, 2) := by decide +kernel
theorem dX6_longestGap_20 : decode cX6_longestGap 20 = .ok (.baload, 1) := by decide +kernel
theorem dX6_longestGap_21 : decode cX6_longestGap 21 = .ok (.ifCond .eq 7, 3) := by decide +kernel
theorem dX6_longestGap_24 : decode cX6_longestGap 24 = .ok (.iconst 0, 1) := by decide +kernel
theorem dX6_longestGap_25 : decode cX6_longestGap 25 = .ok (.goto 7, 3) := by decide +kernel
theorem dX6_longestGap_28 : decode cX6_longestGap 28 = .ok (.iload 4, 2) := by decide +kernel
theorem dX6_longestGap_30 : decode cX6_longestGap 30 = .ok (.iconst 1, 1) := by decide +kernel
theorem dX6_longestGap_31 : decode cX6_longestGap 31 = .ok (.iadd, 1) := by decide +kernel
theorem dX6_longestGap_32 : decode cX6_longestGap 32 = .ok (.istore 4, 2) := by decide +kernel
theorem dX6_longestGap_34 : decode cX6_longestGap 34 = .ok (.iload 4, 2) := by decide +kernel
theorem dX6_longestGap_36 : decode cX6_longestGap 36 = .ok (.iload_n 3, 1) := by decide +kernel
theorem dX6_longestGap_37 : decode cX6_longestGap 37 = .ok (.if_icmp .le 8, 3) := by decide +kernel
theorem dX6_longestGap_40 : decode cX6_longestGap 40 = .ok (.iload 4, 2) := by decide +kernel
theorem dX6_longestGap_42 : decode cX6_longestGap 42 = .ok (.goto 4, 3) := by decide +kernel
theorem dX6_longestGap_45 : decode cX6_longestGap 45 = .ok (.iload_n 3, 1) := by decide +kernel
theorem dX6_longestGap_46 : decode cX6_longestGap 46 = .ok (.istore_n 3, 1) := by decide +kernel
theorem dX6_longestGap_47 : decode cX6_longestGap 47 = .ok (.iinc 5 1, 3) := by decide +kernel
theorem dX6_longestGap_50 : decode cX6_longestGap 50 = .ok (.goto (-42), 3) := by decide +kernel
theorem dX6_longestGap_53 : decode cX6_longestGap 53 = .ok (.iload_n 3, 1) := by decide +kernel
theorem dX6_longestGap_54 : decode cX6_longestGap 54 = .ok (.ireturn, 1) := by decide +kernel
theorem dX6_acres_0 : decode cX6_acres 0 = .ok (.iconst 0, 1) := by decide +kernel
theorem dX6_acres_1 : decode cX6_acres 1 = .ok (.istore_n 2, 1) := by decide +kernel
theorem dX6_acres_2 : decode cX6_acres 2 = .ok (.aload_n 0, 1) := by decide +kernel
theorem dX6_acres_3 : decode cX6_acres 3 = .ok (.getfield 79, 3) := by decide +kernel
theorem dX6_acres_6 : decode cX6_acres 6 = .ok (.iload_n 1, 1) := by decide +kernel
theorem dX6_acres_7 : decode cX6_acres 7 = .ok (.iaload, 1) := by decide +kernel
theorem dX6_acres_8 : decode cX6_acres 8 = .ok (.istore_n 3, 1) := by decide +kernel
theorem dX6_acres_9 : decode cX6_acres 9 = .ok (.iload_n 3, 1) := by decide +kernel
theorem dX6_acres_10 : decode cX6_acres 10 = .ok (.aload_n 0, 1) := by decide +kernel
theorem dX6_acres_11 : decode cX6_acres 11 = .ok (.getfield 212, 3) := by decide +kernel
theorem dX6_acres_14 : decode cX6_acres 14 = .ok (.if_icmp .ge 105, 3) := by decide +kernel
theorem dX6_acres_17 : decode cX6_acres 17 = .ok (.aload_n 0, 1) := by decide +kernel
theorem dX6_acres_18 : decode cX6_acres 18 = .ok (.getfield 67, 3) := by decide +kernel
theorem dX6_acres_21 : decode cX6_acres 21 = .ok (.iload_n 3, 1) := by decide +kernel
theorem dX6_acres_22 : decode cX6_acres 22 = .ok (.iaload, 1) := by decide +kernel
theorem dX6_acres_23 : decode cX6_acres 23 = .ok (.istore 4, 2) := by decide +kernel
theorem dX6_acres_25 : decode cX6_acres 25 = .ok (.aload_n 0, 1) := by decide +kernel
theorem dX6_acres_26 : decode cX6_acres 26 = .ok (.getfield 42, 3) := by decide +kernel
theorem dX6_acres_29 : decode cX6_acres 29 = .ok (.iload 4, 2) := by decide +kernel
theorem dX6_acres_31 : decode cX6_acres 31 = .ok (.iaload, 1) := by decide +kernel
theorem dX6_acres_32 : decode cX6_acres 32 = .ok (.iconst 2, 1) := by decide +kernel
theorem dX6_acres_33 : decode cX6_acres 33 = .ok (.if_icmp .ne 38, 3) := by decide +kernel
theorem dX6_acres_36 : decode cX6_acres 36 = .ok (.aload_n 0, 1) := by decide +kernel
theorem dX6_acres_37 : decode cX6_acres 37 = .ok (.getfield 70, 3) := by decide +kernel
theorem dX6_acres_40 : decode cX6_acres 40 = .ok (.iload 4, 2) := by decide +kernel
theorem dX6_acres_42 : decode cX6_acres 42 = .ok (.iaload, 1) := by decide +kernel
theorem dX6_acres_43 : decode cX6_acres 43 = .ok (.ifCond .ne 28, 3) := by decide +kernel
theorem dX6_acres_46 : decode cX6_acres 46 = .ok (.aload_n 0, 1) := by decide +kernel
theorem dX6_acres_47 : decode cX6_acres 47 = .ok (.getfield 48, 3) := by decide +kernel
theorem dX6_acres_50 : decode cX6_acres 50 = .ok (.iload 4, 2) := by decide +kernel
theorem dX6_acres_52 : decode cX6_acres 52 = .ok (.iaload, 1) := by decide +kernel
theorem dX6_acres_53 : decode cX6_acres 53 = .ok (.aload_n 0, 1) := by decide +kernel
theorem dX6_acres_54 : decode cX6_acres 54 = .ok (.getfield 48, 3) := by decide +kernel
