theorem dX6_acres_57 : decode cX6_acres 57 = .ok (.aload_n 0, 1) := by decide +kernel
theorem dX6_acres_58 : decode cX6_acres 58 = .ok (.getfield 76, 3) := by decide +kernel
theorem dX6_acres_61 : decode cX6_acres 61 = .ok (.iload_n 1, 1) := by decide +kernel
theorem dX6_acres_62 : decode cX6_acres 62 = .ok (.iaload, 1) := by decide +kernel
theorem dX6_acres_63 : decode cX6_acres 63 = .ok (.iaload, 1) := by decide +kernel
theorem dX6_acres_64 : decode cX6_acres 64 = .ok (.if_icmp .ne 7, 3) := by decide +kernel
theorem dX6_acres_67 : decode cX6_acres 67 = .ok (.iconst 1, 1) := by decide +kernel
theorem dX6_acres_68 : decode cX6_acres 68 = .ok (.goto 4, 3) := by decide +kernel
theorem dX6_acres_71 : decode cX6_acres 71 = .ok (.iconst 0, 1) := by decide +kernel
theorem dX6_acres_72 : decode cX6_acres 72 = .ok (.istore 5, 2) := by decide +kernel
theorem dX6_acres_74 : decode cX6_acres 74 = .ok (.iload_n 2, 1) := by decide +kernel
theorem dX6_acres_75 : decode cX6_acres 75 = .ok (.iload 5, 2) := by decide +kernel
theorem dX6_acres_77 : decode cX6_acres 77 = .ok (.ifCond .eq 33, 3) := by decide +kernel
theorem dX6_acres_80 : decode cX6_acres 80 = .ok (.aload_n 0, 1) := by decide +kernel
theorem dX6_acres_81 : decode cX6_acres 81 = .ok (.getfield 85, 3) := by decide +kernel
theorem dX6_acres_84 : decode cX6_acres 84 = .ok (.iload_n 1, 1) := by decide +kernel
theorem dX6_acres_85 : decode cX6_acres 85 = .ok (.iaload, 1) := by decide +kernel
theorem dX6_acres_86 : decode cX6_acres 86 = .ok (.aload_n 0, 1) := by decide +kernel
theorem dX6_acres_87 : decode cX6_acres 87 = .ok (.getfield 45, 3) := by decide +kernel
theorem dX6_acres_90 : decode cX6_acres 90 = .ok (.iload 4, 2) := by decide +kernel
theorem dX6_acres_92 : decode cX6_acres 92 = .ok (.iaload, 1) := by decide +kernel
theorem dX6_acres_93 : decode cX6_acres 93 = .ok (.ishr, 1) := by decide +kernel
theorem dX6_acres_94 : decode cX6_acres 94 = .ok (.iconst 1, 1) := by decide +kernel
theorem dX6_acres_95 : decode cX6_acres 95 = .ok (.iand, 1) := by decide +kernel
theorem dX6_acres_96 : decode cX6_acres 96 = .ok (.iconst 1, 1) := by decide +kernel
theorem dX6_acres_97 : decode cX6_acres 97 = .ok (.if_icmp .ne 13, 3) := by decide +kernel
theorem dX6_acres_100 : decode cX6_acres 100 = .ok (.aload_n 0, 1) := by decide +kernel
theorem dX6_acres_101 : decode cX6_acres 101 = .ok (.getfield 51, 3) := by decide +kernel
theorem dX6_acres_104 : decode cX6_acres 104 = .ok (.iload 4, 2) := by decide +kernel
theorem dX6_acres_106 : decode cX6_acres 106 = .ok (.iaload, 1) := by decide +kernel
theorem dX6_acres_107 : decode cX6_acres 107 = .ok (.goto 4, 3) := by decide +kernel
theorem dX6_acres_110 : decode cX6_acres 110 = .ok (.iconst 0, 1) := by decide +kernel
theorem dX6_acres_111 : decode cX6_acres 111 = .ok (.iadd, 1) := by decide +kernel
theorem dX6_acres_112 : decode cX6_acres 112 = .ok (.istore_n 2, 1) := by decide +kernel
theorem dX6_acres_113 : decode cX6_acres 113 = .ok (.iinc 3 1, 3) := by decide +kernel
theorem dX6_acres_116 : decode cX6_acres 116 = .ok (.goto (-107), 3) := by decide +kernel
theorem dX6_acres_119 : decode cX6_acres 119 = .ok (.iload_n 2, 1) := by decide +kernel
theorem dX6_acres_120 : decode cX6_acres 120 = .ok (.ireturn, 1) := by decide +kernel
theorem dX6_isOdd_0 : decode cX6_isOdd 0 = .ok (.iload_n 0, 1) := by decide +kernel
theorem dX6_isOdd_1 : decode cX6_isOdd 1 = .ok (.bipush 8, 2) := by decide +kernel
theorem dX6_isOdd_3 : decode cX6_isOdd 3 = .ok (.irem, 1) := by decide +kernel
theorem dX6_isOdd_4 : decode cX6_isOdd 4 = .ok (.iconst 2, 1) := by decide +kernel
theorem dX6_isOdd_5 : decode cX6_isOdd 5 = .ok (.idiv, 1) := by decide +kernel
theorem dX6_isOdd_6 : decode cX6_isOdd 6 = .ok (.iload_n 0, 1) := by decide +kernel
theorem dX6_isOdd_7 : decode cX6_isOdd 7 = .ok (.bipush 8, 2) := by decide +kernel
theorem dX6_isOdd_9 : decode cX6_isOdd 9 = .ok (.idiv, 1) := by decide +kernel
theorem dX6_isOdd_10 : decode cX6_isOdd 10 = .ok (.iconst 2, 1) := by decide +kernel
theorem dX6_isOdd_11 : decode cX6_isOdd 11 = .ok (.idiv, 1) := by decide +kernel
theorem dX6_isOdd_12 : decode cX6_isOdd 12 = .ok (.iadd, 1) := by decide +kernel
theorem dX6_isOdd_13 : decode cX6_isOdd 13 = .ok (.iconst 2, 1) := by decide +kernel
theorem dX6_isOdd_14 : decode cX6_isOdd 14 = .ok (.irem, 1) := by decide +kernel
theorem dX6_isOdd_15 : decode cX6_isOdd 15 = .ok (.iconst 1, 1) := by decide +kernel
theorem dX6_isOdd_16 : decode cX6_isOdd 16 = .ok (.if_icmp .ne 7, 3) := by decide +kernel
theorem dX6_isOdd_19 : decode cX6_isOdd 19 = .ok (.iconst 1, 1) := by decide +kernel
theorem dX6_isOdd_20 : decode cX6_isOdd 20 = .ok (.goto 4, 3) := by decide +kernel
theorem dX6_isOdd_23 : decode cX6_isOdd 23 = .ok (.iconst 0, 1) := by decide +kernel
theorem dX6_isOdd_24 : decode cX6_isOdd 24 = .ok (.ireturn, 1) := by decide +kernel
theorem dX6_preferredOn_0 : decode cX6_preferredOn 0 = .ok (.aload_n 0, 1) := by decide +kernel
theorem dX6_preferredOn_1 : decode cX6_preferredOn 1 = .ok (.getfield 97, 3) := by decide +kernel
theorem dX6_preferredOn_4 : decode cX6_preferredOn 4 = .ok (.iload_n 1, 1) := by decide +kernel
theorem dX6_preferredOn_5 : decode cX6_preferredOn 5 = .ok (.iaload, 1) := by decide +kernel
theorem dX6_preferredOn_6 : decode cX6_preferredOn 6 = .ok (.ifCond .lt 22, 3) := by decide +kernel
theorem dX6_preferredOn_9 : decode cX6_preferredOn 9 = .ok (.iload_n 2, 1) := by decide +kernel
theorem dX6_preferredOn_10 : decode cX6_preferredOn 10 = .ok (.aload_n 0, 1) := by decide +kernel
theorem dX6_preferredOn_11 : decode cX6_preferredOn 11 = .ok (.getfield 100, 3) := by decide +kernel
theorem dX6_preferredOn_14 : decode cX6_preferredOn 14 = .ok (.iload_n 1, 1) := by decide +kernel
theorem dX6_preferredOn_15 : decode cX6_preferredOn 15 = .ok (.iaload, 1) := by decide +kernel
theorem dX6_preferredOn_16 : decode cX6_preferredOn 16 = .ok (.if_icmp .gt 12, 3) := by decide +kernel
theorem dX6_preferredOn_19 : decode cX6_preferredOn 19 = .ok (.aload_n 0, 1) := by decide +kernel
theorem dX6_preferredOn_20 : decode cX6_preferredOn 20 = .ok (.getfield 97, 3) := by decide +kernel
theorem dX6_preferredOn_23 : decode cX6_preferredOn 23 = .ok (.iload_n 1, 1) := by decide +kernel
theorem dX6_preferredOn_24 : decode cX6_preferredOn 24 = .ok (.iaload, 1) := by decide +kernel
theorem dX6_preferredOn_25 : decode cX6_preferredOn 25 = .ok (.goto 4, 3) := by decide +kernel
theorem dX6_preferredOn_28 : decode cX6_preferredOn 28 = .ok (.iconst (-1), 1) := by decide +kernel
theorem dX6_preferredOn_29 : decode cX6_preferredOn 29 = .ok (.ireturn, 1) := by decide +kernel
theorem dX6_filedBy_0 : decode cX6_filedBy 0 = .ok (.iconst 0, 1) := by decide +kernel
theorem dX6_filedBy_1 : decode cX6_filedBy 1 = .ok (.istore_n 2, 1) := by decide +kernel
theorem dX6_filedBy_2 : decode cX6_filedBy 2 = .ok (.iconst 0, 1) := by decide +kernel
theorem dX6_filedBy_3 : decode cX6_filedBy 3 = .ok (.istore_n 3, 1) := by decide +kernel
theorem dX6_filedBy_4 : decode cX6_filedBy 4 = .ok (.iload_n 3, 1) := by decide +kernel
theorem dX6_filedBy_5 : decode cX6_filedBy 5 = .ok (.aload_n 0, 1) := by decide +kernel
theorem dX6_filedBy_6 : decode cX6_filedBy 6 = .ok (.getfield 206, 3) := by decide +kernel
theorem dX6_filedBy_9 : decode cX6_filedBy 9 = .ok (.if_icmp .ge 32, 3) := by decide +kernel
theorem dX6_filedBy_12 : decode cX6_filedBy 12 = .ok (.iload_n 2, 1) := by decide +kernel
theorem dX6_filedBy_13 : decode cX6_filedBy 13 = .ok (.aload_n 0, 1) := by decide +kernel
theorem dX6_filedBy_14 : decode cX6_filedBy 14 = .ok (.getfield 45, 3) := by decide +kernel
theorem dX6_filedBy_17 : decode cX6_filedBy 17 = .ok (.aload_n 0, 1) := by decide +kernel
theorem dX6_filedBy_18 : decode cX6_filedBy 18 = .ok (.getfield 76, 3) := by decide +kernel
theorem dX6_filedBy_21 : decode cX6_filedBy 21 = .ok (.iload_n 3, 1) := by decide +kernel
theorem dX6_filedBy_22 : decode cX6_filedBy 22 = .ok (.iaload, 1) := by decide +kernel
theorem dX6_filedBy_23 : decode cX6_filedBy 23 = .ok (.iaload, 1) := by decide +kernel
theorem dX6_filedBy_24 : decode cX6_filedBy 24 = .ok (.iload_n 1, 1) := by decide +kernel
theorem dX6_filedBy_25 : decode cX6_filedBy 25 = .ok (.if_icmp .ne 7, 3) := by decide +kernel
theorem dX6_filedBy_28 : decode cX6_filedBy 28 = .ok (.iconst 1, 1) := by decide +kernel
theorem dX6_filedBy_29 : decode cX6_filedBy 29 = .ok (.goto 4, 3) := by decide +kernel
theorem dX6_filedBy_32 : decode cX6_filedBy 32 = .ok (.iconst 0, 1) := by decide +kernel
theorem dX6_filedBy_33 : decode cX6_filedBy 33 = .ok (.iadd, 1) := by decide +kernel
theorem dX6_filedBy_34 : decode cX6_filedBy 34 = .ok (.istore_n 2, 1) := by decide +kernel
theorem dX6_filedBy_35 : decode cX6_filedBy 35 = .ok (.iinc 3 1, 3) := by decide +kernel
theorem dX6_filedBy_38 : decode cX6_filedBy 38 = .ok (.goto (-34), 3) := by decide +kernel
theorem dX6_filedBy_41 : decode cX6_filedBy 41 = .ok (.iload_n 2, 1) := by decide +kernel
theorem dX6_filedBy_42 : decode cX6_filedBy 42 = .ok (.ireturn, 1) := by decide +kernel
set_option maxRecDepth 20000 in
theorem ggX6_file_X6_lawFor : GoodIn wsX6_file wsX6_lawFor := goodIn_r _ [20, 21, 22, 23, 24, 25, 19, 26, 50, 51, 52, 53, 54, 55, 56, 57, 58, 59, 60, 61, 62, 63, 64, 65, 66, 67, 68, 69, 70, 71, 72, 73, 74, 75, 76, 77, 78, 79, 80, 81, 82, 83, 84, 85, 86, 87, 88, 89, 90, 91, 92, 93] (by decide +kernel) (by decide +kernel)
set_option maxRecDepth 20000 in
theorem gX6_file_X6_lawFor : GoodIn wsX6_file (wsV RX6 181 RX6 yX6_lawFor wsX6_lawFor) := goodIn_app (goodIn_of _ (by decide +kernel)) ggX6_file_X6_lawFor
set_option maxRecDepth 20000 in
theorem ggX6_file_X6_setBy : GoodIn wsX6_file wsX6_setBy := goodIn_r _ [30, 31, 32, 21, 23, 24, 25, 19, 26, 22, 50, 51, 52, 53, 54, 55, 56, 57, 58, 59, 60, 61, 62, 63, 64, 65, 66, 67, 68, 69, 70, 71, 72, 73, 74, 75, 76, 77, 78, 79, 80, 81, 82, 83, 84, 85, 86, 87, 88, 89, 90, 91, 92, 93] (by decide +kernel) (by decide +kernel)
set_option maxRecDepth 20000 in
theorem gX6_file_X6_setBy : GoodIn wsX6_file (wsV RX6 178 RX6 yX6_setBy wsX6_setBy) := goodIn_app (goodIn_of _ (by decide +kernel)) ggX6_file_X6_setBy
set_option maxRecDepth 20000 in
theorem ggX6_file_X6_isOdd : GoodIn wsX6_file wsX6_isOdd := goodIn_r _ [35] (by decide +kernel) (by decide +kernel)
set_option maxRecDepth 20000 in
theorem gX6_file_X6_isOdd : GoodIn wsX6_file (va_wsS RX6 215 yX6_isOdd wsX6_isOdd) := goodIn_app (goodIn_of _ (by decide +kernel)) ggX6_file_X6_isOdd
set_option maxRecDepth 20000 in
theorem ggX6_file_X6_entryOf : GoodIn wsX6_file wsX6_entryOf := goodIn_r _ [39, 8, 14, 2, 7, 50, 51, 52, 53, 54, 55, 56, 57, 58, 59, 60, 61, 62, 63, 64, 65, 66, 67, 68, 69, 70, 71, 72, 73, 74, 75, 76, 77, 78, 79, 80, 81, 82, 83, 84, 85, 86, 87, 88, 89, 90, 91, 92, 93] (by decide +kernel) (by decide +kernel)
set_option maxRecDepth 20000 in
theorem gX6_file_X6_entryOf : GoodIn wsX6_file (wsV RX6 209 RX6 yX6_entryOf wsX6_entryOf) := goodIn_app (goodIn_of _ (by decide +kernel)) ggX6_file_X6_entryOf
set_option maxRecDepth 20000 in
theorem ggX6_file_X6_preferredOn : GoodIn wsX6_file wsX6_preferredOn := goodIn_r _ [43, 44, 45, 50, 51, 52, 53, 54, 55, 56, 57, 58, 59, 60, 61, 62, 63, 64, 65, 66, 67, 68, 69, 70, 71, 72, 73, 74, 75, 76, 77, 78, 79, 80, 81, 82, 83, 84, 85, 86, 87, 88, 89, 90, 91, 92, 93] (by decide +kernel) (by decide +kernel)
set_option maxRecDepth 20000 in
theorem gX6_file_X6_preferredOn : GoodIn wsX6_file (wsV RX6 218 RX6 yX6_preferredOn wsX6_preferredOn) := goodIn_app (goodIn_of _ (by decide +kernel)) ggX6_file_X6_preferredOn
set_option maxRecDepth 20000 in
theorem ggX6_file_X6_filedBy : GoodIn wsX6_file wsX6_filedBy := goodIn_r _ [49, 8, 1, 7, 50, 51, 52, 53, 54, 55, 56, 57, 58, 59, 60, 61, 62, 63, 64, 65, 66, 67, 68, 69, 70, 71, 72, 73, 74, 75, 76, 77, 78, 79, 80, 81, 82, 83, 84, 85, 86, 87, 88, 89, 90, 91, 92, 93] (by decide +kernel) (by decide +kernel)
set_option maxRecDepth 20000 in
theorem gX6_file_X6_filedBy : GoodIn wsX6_file (wsV RX6 221 RX6 yX6_filedBy wsX6_filedBy) := goodIn_app (goodIn_of _ (by decide +kernel)) ggX6_file_X6_filedBy
theorem dX6_file_0 : decode cX6_file 0 = .ok (.aload_n 0, 1) := by decide +kernel
theorem dX6_file_1 : decode cX6_file 1 = .ok (.getfield 45, 3) := by decide +kernel
theorem dX6_file_4 : decode cX6_file 4 = .ok (.iload_n 1, 1) := by decide +kernel
theorem dX6_file_5 : decode cX6_file 5 = .ok (.iaload, 1) := by decide +kernel
theorem dX6_file_6 : decode cX6_file 6 = .ok (.istore_n 2, 1) := by decide +kernel
theorem dX6_file_7 : decode cX6_file 7 = .ok (.aload_n 0, 1) := by decide +kernel
theorem dX6_file_8 : decode cX6_file 8 = .ok (.getfield 48, 3) := by decide +kernel
theorem dX6_file_11 : decode cX6_file 11 = .ok (.iload_n 1, 1) := by decide +kernel
theorem dX6_file_12 : decode cX6_file 12 = .ok (.iaload, 1) := by decide +kernel
theorem dX6_file_13 : decode cX6_file 13 = .ok (.istore_n 3, 1) := by decide +kernel
theorem dX6_file_14 : decode cX6_file 14 = .ok (.aload_n 0, 1) := by decide +kernel
theorem dX6_file_15 : decode cX6_file 15 = .ok (.getfield 39, 3) := by decide +kernel
theorem dX6_file_18 : decode cX6_file 18 = .ok (.iload_n 1, 1) := by decide +kernel
theorem dX6_file_19 : decode cX6_file 19 = .ok (.iaload, 1) := by decide +kernel
theorem dX6_file_20 : decode cX6_file 20 = .ok (.istore 4, 2) := by decide +kernel
theorem dX6_file_22 : decode cX6_file 22 = .ok (.aload_n 0, 1) := by decide +kernel
theorem dX6_file_23 : decode cX6_file 23 = .ok (.iload 4, 2) := by decide +kernel
theorem dX6_file_25 : decode cX6_file 25 = .ok (.invokevirtual 181, 3) := by decide +kernel
theorem dX6_file_28 : decode cX6_file 28 = .ok (.istore 5, 2) := by decide +kernel
theorem dX6_file_30 : decode cX6_file 30 = .ok (.iload 4, 2) := by decide +kernel
theorem dX6_file_32 : decode cX6_file 32 = .ok (.aload_n 0, 1) := by decide +kernel
theorem dX6_file_33 : decode cX6_file 33 = .ok (.getfield 7, 3) := by decide +kernel
theorem dX6_file_36 : decode cX6_file 36 = .ok (.iload_n 2, 1) := by decide +kernel
theorem dX6_file_37 : decode cX6_file 37 = .ok (.iaload, 1) := by decide +kernel
theorem dX6_file_38 : decode cX6_file 38 = .ok (.isub, 1) := by decide +kernel
theorem dX6_file_39 : decode cX6_file 39 = .ok (.aload_n 0, 1) := by decide +kernel
theorem dX6_file_40 : decode cX6_file 40 = .ok (.iload 5, 2) := by decide +kernel
theorem dX6_file_42 : decode cX6_file 42 = .ok (.iconst 0, 1) := by decide +kernel
theorem dX6_file_43 : decode cX6_file 43 = .ok (.invokevirtual 178, 3) := by decide +kernel
theorem dX6_file_46 : decode cX6_file 46 = .ok (.if_icmp .ge 5, 3) := by decide +kernel
theorem dX6_file_49 : decode cX6_file 49 = .ok (.iconst 2, 1) := by decide +kernel
theorem dX6_file_50 : decode cX6_file 50 = .ok (.ireturn, 1) := by decide +kernel
theorem dX6_file_51 : decode cX6_file 51 = .ok (.aload_n 0, 1) := by decide +kernel
theorem dX6_file_52 : decode cX6_file 52 = .ok (.getfield 13, 3) := by decide +kernel
theorem dX6_file_55 : decode cX6_file 55 = .ok (.iload_n 2, 1) := by decide +kernel
theorem dX6_file_56 : decode cX6_file 56 = .ok (.iaload, 1) := by decide +kernel
theorem dX6_file_57 : decode cX6_file 57 = .ok (.iload 4, 2) := by decide +kernel
theorem dX6_file_59 : decode cX6_file 59 = .ok (.if_icmp .le 5, 3) := by decide +kernel
theorem dX6_file_62 : decode cX6_file 62 = .ok (.iconst 3, 1) := by decide +kernel
theorem dX6_file_63 : decode cX6_file 63 = .ok (.ireturn, 1) := by decide +kernel
theorem dX6_file_64 : decode cX6_file 64 = .ok (.iload_n 3, 1) := by decide +kernel
theorem dX6_file_65 : decode cX6_file 65 = .ok (.invokestatic 215, 3) := by decide +kernel
theorem dX6_file_68 : decode cX6_file 68 = .ok (.ifCond .eq 14, 3) := by decide +kernel
theorem dX6_file_71 : decode cX6_file 71 = .ok (.iload 4, 2) := by decide +kernel
theorem dX6_file_73 : decode cX6_file 73 = .ok (.aload_n 0, 1) := by decide +kernel
theorem dX6_file_74 : decode cX6_file 74 = .ok (.getfield 16, 3) := by decide +kernel
theorem dX6_file_77 : decode cX6_file 77 = .ok (.if_icmp .lt 5, 3) := by decide +kernel
theorem dX6_file_80 : decode cX6_file 80 = .ok (.iconst 4, 1) := by decide +kernel
theorem dX6_file_81 : decode cX6_file 81 = .ok (.ireturn, 1) := by decide +kernel
theorem dX6_file_82 : decode cX6_file 82 = .ok (.aload_n 0, 1) := by decide +kernel
theorem dX6_file_83 : decode cX6_file 83 = .ok (.iload_n 3, 1) := by decide +kernel
theorem dX6_file_84 : decode cX6_file 84 = .ok (.invokevirtual 209, 3) := by decide +kernel
theorem dX6_file_87 : decode cX6_file 87 = .ok (.ifCond .lt 5, 3) := by decide +kernel
theorem dX6_file_90 : decode cX6_file 90 = .ok (.iconst 5, 1) := by decide +kernel
theorem dX6_file_91 : decode cX6_file 91 = .ok (.ireturn, 1) := by decide +kernel
theorem dX6_file_92 : decode cX6_file 92 = .ok (.aload_n 0, 1) := by decide +kernel
theorem dX6_file_93 : decode cX6_file 93 = .ok (.iload_n 3, 1) := by decide +kernel
theorem dX6_file_94 : decode cX6_file 94 = .ok (.iload 4, 2) := by decide +kernel
theorem dX6_file_96 : decode cX6_file 96 = .ok (.invokevirtual 218, 3) := by decide +kernel
theorem dX6_file_99 : decode cX6_file 99 = .ok (.istore 6, 2) := by decide +kernel
theorem dX6_file_101 : decode cX6_file 101 = .ok (.iload 6, 2) := by decide +kernel
theorem dX6_file_103 : decode cX6_file 103 = .ok (.ifCond .lt 12, 3) := by decide +kernel
theorem dX6_file_106 : decode cX6_file 106 = .ok (.iload 6, 2) := by decide +kernel
theorem dX6_file_108 : decode cX6_file 108 = .ok (.iload_n 2, 1) := by decide +kernel
theorem dX6_file_109 : decode cX6_file 109 = .ok (.if_icmp .eq 6, 3) := by decide +kernel
theorem dX6_file_112 : decode cX6_file 112 = .ok (.bipush 6, 2) := by decide +kernel
theorem dX6_file_114 : decode cX6_file 114 = .ok (.ireturn, 1) := by decide +kernel
theorem dX6_file_115 : decode cX6_file 115 = .ok (.aload_n 0, 1) := by decide +kernel
theorem dX6_file_116 : decode cX6_file 116 = .ok (.iload_n 2, 1) := by decide +kernel
theorem dX6_file_117 : decode cX6_file 117 = .ok (.invokevirtual 221, 3) := by decide +kernel
theorem dX6_file_120 : decode cX6_file 120 = .ok (.aload_n 0, 1) := by decide +kernel
theorem dX6_file_121 : decode cX6_file 121 = .ok (.iload 5, 2) := by decide +kernel
theorem dX6_file_123 : decode cX6_file 123 = .ok (.bipush 7, 2) := by decide +kernel
theorem dX6_file_125 : decode cX6_file 125 = .ok (.invokevirtual 178, 3) := by decide +kernel
theorem dX6_file_128 : decode cX6_file 128 = .ok (.if_icmp .lt 6, 3) := by decide +kernel
theorem dX6_file_131 : decode cX6_file 131 = .ok (.bipush 7, 2) := by decide +kernel
theorem dX6_file_133 : decode cX6_file 133 = .ok (.ireturn, 1) := by decide +kernel
theorem dX6_file_134 : decode cX6_file 134 = .ok (.aload_n 0, 1) := by decide +kernel
theorem dX6_file_135 : decode cX6_file 135 = .ok (.getfield 76, 3) := by decide +kernel
theorem dX6_file_138 : decode cX6_file 138 = .ok (.aload_n 0, 1) := by decide +kernel
theorem dX6_file_139 : decode cX6_file 139 = .ok (.getfield 206, 3) := by decide +kernel
theorem dX6_file_142 : decode cX6_file 142 = .ok (.iload_n 1, 1) := by decide +kernel
theorem dX6_file_143 : decode cX6_file 143 = .ok (.iastore, 1) := by decide +kernel
theorem dX6_file_144 : decode cX6_file 144 = .ok (.aload_n 0, 1) := by decide +kernel
theorem dX6_file_145 : decode cX6_file 145 = .ok (.getfield 79, 3) := by decide +kernel
theorem dX6_file_148 : decode cX6_file 148 = .ok (.aload_n 0, 1) := by decide +kernel
theorem dX6_file_149 : decode cX6_file 149 = .ok (.getfield 206, 3) := by decide +kernel
theorem dX6_file_152 : decode cX6_file 152 = .ok (.aload_n 0, 1) := by decide +kernel
theorem dX6_file_153 : decode cX6_file 153 = .ok (.getfield 212, 3) := by decide +kernel
theorem dX6_file_156 : decode cX6_file 156 = .ok (.iastore, 1) := by decide +kernel
theorem dX6_file_157 : decode cX6_file 157 = .ok (.aload_n 0, 1) := by decide +kernel
theorem dX6_file_158 : decode cX6_file 158 = .ok (.getfield 82, 3) := by decide +kernel
theorem dX6_file_161 : decode cX6_file 161 = .ok (.aload_n 0, 1) := by decide +kernel
theorem dX6_file_162 : decode cX6_file 162 = .ok (.getfield 206, 3) := by decide +kernel
theorem dX6_file_165 : decode cX6_file 165 = .ok (.iload_n 2, 1) := by decide +kernel
theorem dX6_file_166 : decode cX6_file 166 = .ok (.iastore, 1) := by decide +kernel
theorem dX6_file_167 : decode cX6_file 167 = .ok (.aload_n 0, 1) := by decide +kernel
theorem dX6_file_168 : decode cX6_file 168 = .ok (.getfield 85, 3) := by decide +kernel
theorem dX6_file_171 : decode cX6_file 171 = .ok (.aload_n 0, 1) := by decide +kernel
theorem dX6_file_172 : decode cX6_file 172 = .ok (.getfield 206, 3) := by decide +kernel
theorem dX6_file_175 : decode cX6_file 175 = .ok (.iconst 1, 1) := by decide +kernel
theorem dX6_file_176 : decode cX6_file 176 = .ok (.iload_n 2, 1) := by decide +kernel
theorem dX6_file_177 : decode cX6_file 177 = .ok (.ishl, 1) := by decide +kernel
theorem dX6_file_178 : decode cX6_file 178 = .ok (.iastore, 1) := by decide +kernel
theorem dX6_file_179 : decode cX6_file 179 = .ok (.aload_n 0, 1) := by decide +kernel
theorem dX6_file_180 : decode cX6_file 180 = .ok (.getfield 88, 3) := by decide +kernel
theorem dX6_file_183 : decode cX6_file 183 = .ok (.aload_n 0, 1) := by decide +kernel
theorem dX6_file_184 : decode cX6_file 184 = .ok (.getfield 206, 3) := by decide +kernel
theorem dX6_file_187 : decode cX6_file 187 = .ok (.iload 5, 2) := by decide +kernel
theorem dX6_file_189 : decode cX6_file 189 = .ok (.iastore, 1) := by decide +kernel
theorem dX6_file_190 : decode cX6_file 190 = .ok (.aload_n 0, 1) := by decide +kernel
theorem dX6_file_191 : decode cX6_file 191 = .ok (.getfield 91, 3) := by decide +kernel
theorem dX6_file_194 : decode cX6_file 194 = .ok (.aload_n 0, 1) := by decide +kernel
theorem dX6_file_195 : decode cX6_file 195 = .ok (.getfield 206, 3) := by decide +kernel
theorem dX6_file_198 : decode cX6_file 198 = .ok (.iconst 1, 1) := by decide +kernel
theorem dX6_file_199 : decode cX6_file 199 = .ok (.iastore, 1) := by decide +kernel
theorem dX6_file_200 : decode cX6_file 200 = .ok (.aload_n 0, 1) := by decide +kernel
theorem dX6_file_201 : decode cX6_file 201 = .ok (.getfield 94, 3) := by decide +kernel
theorem dX6_file_204 : decode cX6_file 204 = .ok (.aload_n 0, 1) := by decide +kernel
theorem dX6_file_205 : decode cX6_file 205 = .ok (.getfield 206, 3) := by decide +kernel
theorem dX6_file_208 : decode cX6_file 208 = .ok (.iconst 0, 1) := by decide +kernel
theorem dX6_file_209 : decode cX6_file 209 = .ok (.iastore, 1) := by decide +kernel
theorem dX6_file_210 : decode cX6_file 210 = .ok (.aload_n 0, 1) := by decide +kernel
theorem dX6_file_211 : decode cX6_file 211 = .ok (.dup, 1) := by decide +kernel
theorem dX6_file_212 : decode cX6_file 212 = .ok (.getfield 206, 3) := by decide +kernel
theorem dX6_file_215 : decode cX6_file 215 = .ok (.iconst 1, 1) := by decide +kernel
theorem dX6_file_216 : decode cX6_file 216 = .ok (.iadd, 1) := by decide +kernel
theorem dX6_file_217 : decode cX6_file 217 = .ok (.putfield 206, 3) := by decide +kernel
theorem dX6_file_220 : decode cX6_file 220 = .ok (.iconst 0, 1) := by decide +kernel
theorem dX6_file_221 : decode cX6_file 221 = .ok (.ireturn, 1) := by decide +kernel
set_option maxRecDepth 20000 in
theorem ggX6_contest_X6_openOf : GoodIn wsX6_contest wsX6_openOf := goodIn_r _ [14, 7, 15, 16, 17, 13, 18, 19, 1, 6, 47, 48, 49, 50, 51, 52, 53, 54, 55, 56, 57, 58, 59, 60, 61, 62, 63, 64, 65, 66, 67, 68, 69, 70, 71, 72, 73, 74, 75, 76, 77, 78, 79, 80, 81, 82, 83, 84, 85, 86, 87, 88, 89, 90] (by decide +kernel) (by decide +kernel)
set_option maxRecDepth 20000 in
theorem gX6_contest_X6_openOf : GoodIn wsX6_contest (wsV RX6 224 RX6 yX6_openOf wsX6_openOf) := goodIn_app (goodIn_of _ (by decide +kernel)) ggX6_contest_X6_openOf
set_option maxRecDepth 20000 in
theorem ggX6_contest_X6_setBy : GoodIn wsX6_contest wsX6_setBy := goodIn_r _ [23, 24, 25, 26, 27, 28, 29, 13, 30, 31, 47, 48, 49, 50, 51, 52, 53, 54, 55, 56, 57, 58, 59, 60, 61, 62, 63, 64, 65, 66, 67, 68, 69, 70, 71, 72, 73, 74, 75, 76, 77, 78, 79, 80, 81, 82, 83, 84, 85, 86, 87, 88, 89, 90] (by decide +kernel) (by decide +kernel)
set_option maxRecDepth 20000 in
theorem gX6_contest_X6_setBy : GoodIn wsX6_contest (wsV RX6 178 RX6 yX6_setBy wsX6_setBy) := goodIn_app (goodIn_of _ (by decide +kernel)) ggX6_contest_X6_setBy
set_option maxRecDepth 20000 in
theorem ggX6_contest_X6_markLived : GoodIn wsX6_contest wsX6_markLived := goodIn_r _ [35, 36, 37, 38, 39, 40, 1, 6, 41, 4, 2, 42, 47, 48, 49, 50, 51, 52, 53, 54, 55, 56, 57, 58, 59, 60, 61, 62, 63, 64, 65, 66, 67, 68, 69, 70, 71, 72, 73, 74, 75, 76, 77, 78, 79, 80, 81, 82, 83, 84, 85, 86, 87, 88, 89, 90] (by decide +kernel) (by decide +kernel)
set_option maxRecDepth 20000 in
theorem gX6_contest_X6_markLived : GoodIn wsX6_contest (wsV RX6 227 RX6 yX6_markLived wsX6_markLived) := goodIn_app (goodIn_of _ (by decide +kernel)) ggX6_contest_X6_markLived
set_option maxRecDepth 20000 in
theorem ggX6_contest_X6_livedDays : GoodIn wsX6_contest wsX6_livedDays := goodIn_r _ [46, 36, 47, 48, 49, 50, 51, 52, 53, 54, 55, 56, 57, 58, 59, 60, 61, 62, 63, 64, 65, 66, 67, 68, 69, 70, 71, 72, 73, 74, 75, 76, 77, 78, 79, 80, 81, 82, 83, 84, 85, 86, 87, 88, 89, 90] (by decide +kernel) (by decide +kernel)
set_option maxRecDepth 20000 in
theorem gX6_contest_X6_livedDays : GoodIn wsX6_contest (wsV RX6 231 RX6 yX6_livedDays wsX6_livedDays) := goodIn_app (goodIn_of _ (by decide +kernel)) ggX6_contest_X6_livedDays
theorem dX6_contest_0 : decode cX6_contest 0 = .ok (.aload_n 0, 1) := by decide +kernel
theorem dX6_contest_1 : decode cX6_contest 1 = .ok (.getfield 48, 3) := by decide +kernel
theorem dX6_contest_4 : decode cX6_contest 4 = .ok (.iload_n 1, 1) := by decide +kernel
theorem dX6_contest_5 : decode cX6_contest 5 = .ok (.iaload, 1) := by decide +kernel
theorem dX6_contest_6 : decode cX6_contest 6 = .ok (.istore_n 2, 1) := by decide +kernel
theorem dX6_contest_7 : decode cX6_contest 7 = .ok (.aload_n 0, 1) := by decide +kernel
theorem dX6_contest_8 : decode cX6_contest 8 = .ok (.getfield 39, 3) := by decide +kernel
theorem dX6_contest_11 : decode cX6_contest 11 = .ok (.iload_n 1, 1) := by decide +kernel
theorem dX6_contest_12 : decode cX6_contest 12 = .ok (.iaload, 1) := by decide +kernel
theorem dX6_contest_13 : decode cX6_contest 13 = .ok (.istore_n 3, 1) := by decide +kernel
theorem dX6_contest_14 : decode cX6_contest 14 = .ok (.aload_n 0, 1) := by decide +kernel
theorem dX6_contest_15 : decode cX6_contest 15 = .ok (.iload_n 2, 1) := by decide +kernel
theorem dX6_contest_16 : decode cX6_contest 16 = .ok (.invokevirtual 224, 3) := by decide +kernel
theorem dX6_contest_19 : decode cX6_contest 19 = .ok (.istore 4, 2) := by decide +kernel
theorem dX6_contest_21 : decode cX6_contest 21 = .ok (.iload 4, 2) := by decide +kernel
theorem dX6_contest_23 : decode cX6_contest 23 = .ok (.ifCond .ge 6, 3) := by decide +kernel
theorem dX6_contest_26 : decode cX6_contest 26 = .ok (.bipush 9, 2) := by decide +kernel
theorem dX6_contest_28 : decode cX6_contest 28 = .ok (.ireturn, 1) := by decide +kernel
theorem dX6_contest_29 : decode cX6_contest 29 = .ok (.aload_n 0, 1) := by decide +kernel
theorem dX6_contest_30 : decode cX6_contest 30 = .ok (.getfield 82, 3) := by decide +kernel
theorem dX6_contest_33 : decode cX6_contest 33 = .ok (.iload 4, 2) := by decide +kernel
theorem dX6_contest_35 : decode cX6_contest 35 = .ok (.iaload, 1) := by decide +kernel
theorem dX6_contest_36 : decode cX6_contest 36 = .ok (.aload_n 0, 1) := by decide +kernel
theorem dX6_contest_37 : decode cX6_contest 37 = .ok (.getfield 45, 3) := by decide +kernel
theorem dX6_contest_40 : decode cX6_contest 40 = .ok (.iload_n 1, 1) := by decide +kernel
theorem dX6_contest_41 : decode cX6_contest 41 = .ok (.iaload, 1) := by decide +kernel
theorem dX6_contest_42 : decode cX6_contest 42 = .ok (.if_icmp .ne 6, 3) := by decide +kernel
theorem dX6_contest_45 : decode cX6_contest 45 = .ok (.bipush 10, 2) := by decide +kernel
theorem dX6_contest_47 : decode cX6_contest 47 = .ok (.ireturn, 1) := by decide +kernel
theorem dX6_contest_48 : decode cX6_contest 48 = .ok (.aload_n 0, 1) := by decide +kernel
theorem dX6_contest_49 : decode cX6_contest 49 = .ok (.aload_n 0, 1) := by decide +kernel
theorem dX6_contest_50 : decode cX6_contest 50 = .ok (.getfield 88, 3) := by decide +kernel
theorem dX6_contest_53 : decode cX6_contest 53 = .ok (.iload 4, 2) := by decide +kernel
theorem dX6_contest_55 : decode cX6_contest 55 = .ok (.iaload, 1) := by decide +kernel
theorem dX6_contest_56 : decode cX6_contest 56 = .ok (.iconst 5, 1) := by decide +kernel
theorem dX6_contest_57 : decode cX6_contest 57 = .ok (.invokevirtual 178, 3) := by decide +kernel
theorem dX6_contest_60 : decode cX6_contest 60 = .ok (.istore 5, 2) := by decide +kernel
theorem dX6_contest_62 : decode cX6_contest 62 = .ok (.iload_n 3, 1) := by decide +kernel
theorem dX6_contest_63 : decode cX6_contest 63 = .ok (.iload 5, 2) := by decide +kernel
theorem dX6_contest_65 : decode cX6_contest 65 = .ok (.isub, 1) := by decide +kernel
theorem dX6_contest_66 : decode cX6_contest 66 = .ok (.ifCond .ge 7, 3) := by decide +kernel
theorem dX6_contest_69 : decode cX6_contest 69 = .ok (.iconst 0, 1) := by decide +kernel
theorem dX6_contest_70 : decode cX6_contest 70 = .ok (.goto 7, 3) := by decide +kernel
theorem dX6_contest_73 : decode cX6_contest 73 = .ok (.iload_n 3, 1) := by decide +kernel
theorem dX6_contest_74 : decode cX6_contest 74 = .ok (.iload 5, 2) := by decide +kernel
theorem dX6_contest_76 : decode cX6_contest 76 = .ok (.isub, 1) := by decide +kernel
theorem dX6_contest_77 : decode cX6_contest 77 = .ok (.istore 6, 2) := by decide +kernel
theorem dX6_contest_79 : decode cX6_contest 79 = .ok (.aload_n 0, 1) := by decide +kernel
theorem dX6_contest_80 : decode cX6_contest 80 = .ok (.iload 4, 2) := by decide +kernel
theorem dX6_contest_82 : decode cX6_contest 82 = .ok (.invokevirtual 227, 3) := by decide +kernel
theorem dX6_contest_85 : decode cX6_contest 85 = .ok (.aload_n 0, 1) := by decide +kernel
theorem dX6_contest_86 : decode cX6_contest 86 = .ok (.getfield 39, 3) := by decide +kernel
theorem dX6_contest_89 : decode cX6_contest 89 = .ok (.aload_n 0, 1) := by decide +kernel
theorem dX6_contest_90 : decode cX6_contest 90 = .ok (.getfield 76, 3) := by decide +kernel
theorem dX6_contest_93 : decode cX6_contest 93 = .ok (.iload 4, 2) := by decide +kernel
theorem dX6_contest_95 : decode cX6_contest 95 = .ok (.iaload, 1) := by decide +kernel
theorem dX6_contest_96 : decode cX6_contest 96 = .ok (.iaload, 1) := by decide +kernel
theorem dX6_contest_97 : decode cX6_contest 97 = .ok (.iload_n 3, 1) := by decide +kernel
theorem dX6_contest_98 : decode cX6_contest 98 = .ok (.iload 5, 2) := by decide +kernel
theorem dX6_contest_100 : decode cX6_contest 100 = .ok (.isub, 1) := by decide +kernel
theorem dX6_contest_101 : decode cX6_contest 101 = .ok (.if_icmp .ge 15, 3) := by decide +kernel
theorem dX6_contest_104 : decode cX6_contest 104 = .ok (.aload_n 0, 1) := by decide +kernel
theorem dX6_contest_105 : decode cX6_contest 105 = .ok (.iload 6, 2) := by decide +kernel
theorem dX6_contest_107 : decode cX6_contest 107 = .ok (.iload_n 3, 1) := by decide +kernel
theorem dX6_contest_108 : decode cX6_contest 108 = .ok (.iconst 1, 1) := by decide +kernel
theorem dX6_contest_109 : decode cX6_contest 109 = .ok (.isub, 1) := by decide +kernel
theorem dX6_contest_110 : decode cX6_contest 110 = .ok (.invokevirtual 231, 3) := by decide +kernel
theorem dX6_contest_113 : decode cX6_contest 113 = .ok (.ifCond .le 6, 3) := by decide +kernel
theorem dX6_contest_116 : decode cX6_contest 116 = .ok (.bipush 11, 2) := by decide +kernel
theorem dX6_contest_118 : decode cX6_contest 118 = .ok (.ireturn, 1) := by decide +kernel
theorem dX6_contest_119 : decode cX6_contest 119 = .ok (.aload_n 0, 1) := by decide +kernel
theorem dX6_contest_120 : decode cX6_contest 120 = .ok (.getfield 91, 3) := by decide +kernel
theorem dX6_contest_123 : decode cX6_contest 123 = .ok (.iload 4, 2) := by decide +kernel
theorem dX6_contest_125 : decode cX6_contest 125 = .ok (.iconst 0, 1) := by decide +kernel
theorem dX6_contest_126 : decode cX6_contest 126 = .ok (.iastore, 1) := by decide +kernel
theorem dX6_contest_127 : decode cX6_contest 127 = .ok (.aload_n 0, 1) := by decide +kernel
theorem dX6_contest_128 : decode cX6_contest 128 = .ok (.getfield 97, 3) := by decide +kernel
theorem dX6_contest_131 : decode cX6_contest 131 = .ok (.iload_n 2, 1) := by decide +kernel
theorem dX6_contest_132 : decode cX6_contest 132 = .ok (.aload_n 0, 1) := by decide +kernel
theorem dX6_contest_133 : decode cX6_contest 133 = .ok (.getfield 45, 3) := by decide +kernel
theorem dX6_contest_136 : decode cX6_contest 136 = .ok (.iload_n 1, 1) := by decide +kernel
theorem dX6_contest_137 : decode cX6_contest 137 = .ok (.iaload, 1) := by decide +kernel
theorem dX6_contest_138 : decode cX6_contest 138 = .ok (.iastore, 1) := by decide +kernel
theorem dX6_contest_139 : decode cX6_contest 139 = .ok (.aload_n 0, 1) := by decide +kernel
theorem dX6_contest_140 : decode cX6_contest 140 = .ok (.getfield 100, 3) := by decide +kernel
theorem dX6_contest_143 : decode cX6_contest 143 = .ok (.iload_n 2, 1) := by decide +kernel
theorem dX6_contest_144 : decode cX6_contest 144 = .ok (.iload_n 3, 1) := by decide +kernel
theorem dX6_contest_145 : decode cX6_contest 145 = .ok (.aload_n 0, 1) := by decide +kernel
theorem dX6_contest_146 : decode cX6_contest 146 = .ok (.aload_n 0, 1) := by decide +kernel
theorem dX6_contest_147 : decode cX6_contest 147 = .ok (.getfield 88, 3) := by decide +kernel
theorem dX6_contest_150 : decode cX6_contest 150 = .ok (.iload 4, 2) := by decide +kernel
theorem dX6_contest_152 : decode cX6_contest 152 = .ok (.iaload, 1) := by decide +kernel
theorem dX6_contest_153 : decode cX6_contest 153 = .ok (.bipush 6, 2) := by decide +kernel
theorem dX6_contest_155 : decode cX6_contest 155 = .ok (.invokevirtual 178, 3) := by decide +kernel
theorem dX6_contest_158 : decode cX6_contest 158 = .ok (.iadd, 1) := by decide +kernel
theorem dX6_contest_159 : decode cX6_contest 159 = .ok (.iastore, 1) := by decide +kernel
theorem dX6_contest_160 : decode cX6_contest 160 = .ok (.iconst 0, 1) := by decide +kernel
theorem dX6_contest_161 : decode cX6_contest 161 = .ok (.ireturn, 1) := by decide +kernel
set_option maxRecDepth 20000 in
theorem ggX6_prove_X6_openOf : GoodIn wsX6_prove wsX6_openOf := goodIn_r _ [13, 7, 14, 15, 16, 12, 17, 18, 1, 5, 55, 56, 57, 58, 59, 60, 61, 62, 63, 64, 65, 66, 67, 68, 69, 70, 71, 72, 73, 74, 75, 76, 77, 78, 79, 80, 81, 82, 83, 84, 85, 86, 87, 88, 89, 90, 91, 92, 93, 94, 95, 96, 97, 98] (by decide +kernel) (by decide +kernel)
set_option maxRecDepth 20000 in
theorem gX6_prove_X6_openOf : GoodIn wsX6_prove (wsV RX6 224 RX6 yX6_openOf wsX6_openOf) := goodIn_app (goodIn_of _ (by decide +kernel)) ggX6_prove_X6_openOf
set_option maxRecDepth 20000 in
theorem ggX6_prove_X6_setBy : GoodIn wsX6_prove wsX6_setBy := goodIn_r _ [22, 23, 24, 25, 26, 27, 28, 12, 29, 30, 55, 56, 57, 58, 59, 60, 61, 62, 63, 64, 65, 66, 67, 68, 69, 70, 71, 72, 73, 74, 75, 76, 77, 78, 79, 80, 81, 82, 83, 84, 85, 86, 87, 88, 89, 90, 91, 92, 93, 94, 95, 96, 97, 98] (by decide +kernel) (by decide +kernel)
set_option maxRecDepth 20000 in
theorem gX6_prove_X6_setBy : GoodIn wsX6_prove (wsV RX6 178 RX6 yX6_setBy wsX6_setBy) := goodIn_app (goodIn_of _ (by decide +kernel)) ggX6_prove_X6_setBy
set_option maxRecDepth 20000 in
theorem ggX6_prove_X6_markLived : GoodIn wsX6_prove wsX6_markLived := goodIn_r _ [34, 35, 36, 37, 38, 39, 1, 5, 40, 3, 4, 41, 55, 56, 57, 58, 59, 60, 61, 62, 63, 64, 65, 66, 67, 68, 69, 70, 71, 72, 73, 74, 75, 76, 77, 78, 79, 80, 81, 82, 83, 84, 85, 86, 87, 88, 89, 90, 91, 92, 93, 94, 95, 96, 97, 98] (by decide +kernel) (by decide +kernel)
set_option maxRecDepth 20000 in
theorem gX6_prove_X6_markLived : GoodIn wsX6_prove (wsV RX6 227 RX6 yX6_markLived wsX6_markLived) := goodIn_app (goodIn_of _ (by decide +kernel)) ggX6_prove_X6_markLived
set_option maxRecDepth 20000 in
theorem ggX6_prove_X6_livedDays : GoodIn wsX6_prove wsX6_livedDays := goodIn_r _ [45, 35, 55, 56, 57, 58, 59, 60, 61, 62, 63, 64, 65, 66, 67, 68, 69, 70, 71, 72, 73, 74, 75, 76, 77, 78, 79, 80, 81, 82, 83, 84, 85, 86, 87, 88, 89, 90, 91, 92, 93, 94, 95, 96, 97, 98] (by decide +kernel) (by decide +kernel)
set_option maxRecDepth 20000 in
theorem gX6_prove_X6_livedDays : GoodIn wsX6_prove (wsV RX6 231 RX6 yX6_livedDays wsX6_livedDays) := goodIn_app (goodIn_of _ (by decide +kernel)) ggX6_prove_X6_livedDays
set_option maxRecDepth 20000 in
theorem ggX6_prove_X6_longestGap : GoodIn wsX6_prove wsX6_longestGap := goodIn_r _ [49, 35, 55, 56, 57, 58, 59, 60, 61, 62, 63, 64, 65, 66, 67, 68, 69, 70, 71, 72, 73, 74, 75, 76, 77, 78, 79, 80, 81, 82, 83, 84, 85, 86, 87, 88, 89, 90, 91, 92, 93, 94, 95, 96, 97, 98] (by decide +kernel) (by decide +kernel)
set_option maxRecDepth 20000 in
theorem gX6_prove_X6_longestGap : GoodIn wsX6_prove (wsV RX6 234 RX6 yX6_longestGap wsX6_longestGap) := goodIn_app (goodIn_of _ (by decide +kernel)) ggX6_prove_X6_longestGap
set_option maxRecDepth 20000 in
theorem ggX6_prove_X6_acres : GoodIn wsX6_prove wsX6_acres := goodIn_r _ [53, 54, 36, 37, 38, 39, 1, 5, 40, 3, 41, 55, 56, 57, 58, 59, 60, 61, 62, 63, 64, 65, 66, 67, 68, 69, 70, 71, 72, 73, 74, 75, 76, 77, 78, 79, 80, 81, 82, 83, 84, 85, 86, 87, 88, 89, 90, 91, 92, 93, 94, 95, 96, 97, 98] (by decide +kernel) (by decide +kernel)
set_option maxRecDepth 20000 in
theorem gX6_prove_X6_acres : GoodIn wsX6_prove (wsV RX6 237 RX6 yX6_acres wsX6_acres) := goodIn_app (goodIn_of _ (by decide +kernel)) ggX6_prove_X6_acres
theorem dX6_prove_0 : decode cX6_prove 0 = .ok (.aload_n 0, 1) := by decide +kernel
theorem dX6_prove_1 : decode cX6_prove 1 = .ok (.aload_n 0, 1) := by decide +kernel
theorem dX6_prove_2 : decode cX6_prove 2 = .ok (.getfield 48, 3) := by decide +kernel
theorem dX6_prove_5 : decode cX6_prove 5 = .ok (.iload_n 1, 1) := by decide +kernel
theorem dX6_prove_6 : decode cX6_prove 6 = .ok (.iaload, 1) := by decide +kernel
theorem dX6_prove_7 : decode cX6_prove 7 = .ok (.invokevirtual 224, 3) := by decide +kernel
theorem dX6_prove_10 : decode cX6_prove 10 = .ok (.istore_n 2, 1) := by decide +kernel
theorem dX6_prove_11 : decode cX6_prove 11 = .ok (.iload_n 2, 1) := by decide +kernel
theorem dX6_prove_12 : decode cX6_prove 12 = .ok (.ifCond .lt 18, 3) := by decide +kernel
theorem dX6_prove_15 : decode cX6_prove 15 = .ok (.aload_n 0, 1) := by decide +kernel
theorem dX6_prove_16 : decode cX6_prove 16 = .ok (.getfield 82, 3) := by decide +kernel
theorem dX6_prove_19 : decode cX6_prove 19 = .ok (.iload_n 2, 1) := by decide +kernel
theorem dX6_prove_20 : decode cX6_prove 20 = .ok (.iaload, 1) := by decide +kernel
theorem dX6_prove_21 : decode cX6_prove 21 = .ok (.aload_n 0, 1) := by decide +kernel
theorem dX6_prove_22 : decode cX6_prove 22 = .ok (.getfield 45, 3) := by decide +kernel
theorem dX6_prove_25 : decode cX6_prove 25 = .ok (.iload_n 1, 1) := by decide +kernel
theorem dX6_prove_26 : decode cX6_prove 26 = .ok (.iaload, 1) := by decide +kernel
theorem dX6_prove_27 : decode cX6_prove 27 = .ok (.if_icmp .eq 6, 3) := by decide +kernel
theorem dX6_prove_30 : decode cX6_prove 30 = .ok (.bipush 8, 2) := by decide +kernel
theorem dX6_prove_32 : decode cX6_prove 32 = .ok (.ireturn, 1) := by decide +kernel
theorem dX6_prove_33 : decode cX6_prove 33 = .ok (.aload_n 0, 1) := by decide +kernel
theorem dX6_prove_34 : decode cX6_prove 34 = .ok (.getfield 39, 3) := by decide +kernel
theorem dX6_prove_37 : decode cX6_prove 37 = .ok (.iload_n 1, 1) := by decide +kernel
theorem dX6_prove_38 : decode cX6_prove 38 = .ok (.iaload, 1) := by decide +kernel
theorem dX6_prove_39 : decode cX6_prove 39 = .ok (.istore_n 3, 1) := by decide +kernel
theorem dX6_prove_40 : decode cX6_prove 40 = .ok (.aload_n 0, 1) := by decide +kernel
theorem dX6_prove_41 : decode cX6_prove 41 = .ok (.getfield 39, 3) := by decide +kernel
theorem dX6_prove_44 : decode cX6_prove 44 = .ok (.aload_n 0, 1) := by decide +kernel
theorem dX6_prove_45 : decode cX6_prove 45 = .ok (.getfield 76, 3) := by decide +kernel
theorem dX6_prove_48 : decode cX6_prove 48 = .ok (.iload_n 2, 1) := by decide +kernel
theorem dX6_prove_49 : decode cX6_prove 49 = .ok (.iaload, 1) := by decide +kernel
theorem dX6_prove_50 : decode cX6_prove 50 = .ok (.iaload, 1) := by decide +kernel
theorem dX6_prove_51 : decode cX6_prove 51 = .ok (.istore 4, 2) := by decide +kernel
theorem dX6_prove_53 : decode cX6_prove 53 = .ok (.aload_n 0, 1) := by decide +kernel
theorem dX6_prove_54 : decode cX6_prove 54 = .ok (.getfield 88, 3) := by decide +kernel
theorem dX6_prove_57 : decode cX6_prove 57 = .ok (.iload_n 2, 1) := by decide +kernel
theorem dX6_prove_58 : decode cX6_prove 58 = .ok (.iaload, 1) := by decide +kernel
theorem dX6_prove_59 : decode cX6_prove 59 = .ok (.istore 5, 2) := by decide +kernel
theorem dX6_prove_61 : decode cX6_prove 61 = .ok (.iload_n 3, 1) := by decide +kernel
theorem dX6_prove_62 : decode cX6_prove 62 = .ok (.iload 4, 2) := by decide +kernel
theorem dX6_prove_64 : decode cX6_prove 64 = .ok (.isub, 1) := by decide +kernel
theorem dX6_prove_65 : decode cX6_prove 65 = .ok (.aload_n 0, 1) := by decide +kernel
theorem dX6_prove_66 : decode cX6_prove 66 = .ok (.iload 5, 2) := by decide +kernel
theorem dX6_prove_68 : decode cX6_prove 68 = .ok (.iconst 4, 1) := by decide +kernel
theorem dX6_prove_69 : decode cX6_prove 69 = .ok (.invokevirtual 178, 3) := by decide +kernel
theorem dX6_prove_72 : decode cX6_prove 72 = .ok (.if_icmp .le 6, 3) := by decide +kernel
theorem dX6_prove_75 : decode cX6_prove 75 = .ok (.bipush 12, 2) := by decide +kernel
theorem dX6_prove_77 : decode cX6_prove 77 = .ok (.ireturn, 1) := by decide +kernel
theorem dX6_prove_78 : decode cX6_prove 78 = .ok (.aload_n 0, 1) := by decide +kernel
theorem dX6_prove_79 : decode cX6_prove 79 = .ok (.iload_n 2, 1) := by decide +kernel
theorem dX6_prove_80 : decode cX6_prove 80 = .ok (.invokevirtual 227, 3) := by decide +kernel
theorem dX6_prove_83 : decode cX6_prove 83 = .ok (.aload_n 0, 1) := by decide +kernel
theorem dX6_prove_84 : decode cX6_prove 84 = .ok (.iload 4, 2) := by decide +kernel
theorem dX6_prove_86 : decode cX6_prove 86 = .ok (.iload_n 3, 1) := by decide +kernel
theorem dX6_prove_87 : decode cX6_prove 87 = .ok (.iconst 1, 1) := by decide +kernel
theorem dX6_prove_88 : decode cX6_prove 88 = .ok (.isub, 1) := by decide +kernel
theorem dX6_prove_89 : decode cX6_prove 89 = .ok (.invokevirtual 231, 3) := by decide +kernel
theorem dX6_prove_92 : decode cX6_prove 92 = .ok (.aload_n 0, 1) := by decide +kernel
theorem dX6_prove_93 : decode cX6_prove 93 = .ok (.iload 5, 2) := by decide +kernel
theorem dX6_prove_95 : decode cX6_prove 95 = .ok (.iconst 1, 1) := by decide +kernel
theorem dX6_prove_96 : decode cX6_prove 96 = .ok (.invokevirtual 178, 3) := by decide +kernel
theorem dX6_prove_99 : decode cX6_prove 99 = .ok (.if_icmp .ge 6, 3) := by decide +kernel
theorem dX6_prove_102 : decode cX6_prove 102 = .ok (.bipush 13, 2) := by decide +kernel
theorem dX6_prove_104 : decode cX6_prove 104 = .ok (.ireturn, 1) := by decide +kernel
theorem dX6_prove_105 : decode cX6_prove 105 = .ok (.aload_n 0, 1) := by decide +kernel
theorem dX6_prove_106 : decode cX6_prove 106 = .ok (.iload 4, 2) := by decide +kernel
theorem dX6_prove_108 : decode cX6_prove 108 = .ok (.iload_n 3, 1) := by decide +kernel
theorem dX6_prove_109 : decode cX6_prove 109 = .ok (.iconst 1, 1) := by decide +kernel
theorem dX6_prove_110 : decode cX6_prove 110 = .ok (.isub, 1) := by decide +kernel
theorem dX6_prove_111 : decode cX6_prove 111 = .ok (.invokevirtual 234, 3) := by decide +kernel
theorem dX6_prove_114 : decode cX6_prove 114 = .ok (.aload_n 0, 1) := by decide +kernel
theorem dX6_prove_115 : decode cX6_prove 115 = .ok (.iload 5, 2) := by decide +kernel
theorem dX6_prove_117 : decode cX6_prove 117 = .ok (.iconst 2, 1) := by decide +kernel
theorem dX6_prove_118 : decode cX6_prove 118 = .ok (.invokevirtual 178, 3) := by decide +kernel
theorem dX6_prove_121 : decode cX6_prove 121 = .ok (.if_icmp .le 6, 3) := by decide +kernel
theorem dX6_prove_124 : decode cX6_prove 124 = .ok (.bipush 14, 2) := by decide +kernel
theorem dX6_prove_126 : decode cX6_prove 126 = .ok (.ireturn, 1) := by decide +kernel
theorem dX6_prove_127 : decode cX6_prove 127 = .ok (.aload_n 0, 1) := by decide +kernel
theorem dX6_prove_128 : decode cX6_prove 128 = .ok (.iload_n 2, 1) := by decide +kernel
theorem dX6_prove_129 : decode cX6_prove 129 = .ok (.invokevirtual 237, 3) := by decide +kernel
theorem dX6_prove_132 : decode cX6_prove 132 = .ok (.aload_n 0, 1) := by decide +kernel
theorem dX6_prove_133 : decode cX6_prove 133 = .ok (.iload 5, 2) := by decide +kernel
theorem dX6_prove_135 : decode cX6_prove 135 = .ok (.iconst 3, 1) := by decide +kernel
theorem dX6_prove_136 : decode cX6_prove 136 = .ok (.invokevirtual 178, 3) := by decide +kernel
theorem dX6_prove_139 : decode cX6_prove 139 = .ok (.if_icmp .ge 6, 3) := by decide +kernel
theorem dX6_prove_142 : decode cX6_prove 142 = .ok (.bipush 15, 2) := by decide +kernel
theorem dX6_prove_144 : decode cX6_prove 144 = .ok (.ireturn, 1) := by decide +kernel
theorem dX6_prove_145 : decode cX6_prove 145 = .ok (.aload_n 0, 1) := by decide +kernel
theorem dX6_prove_146 : decode cX6_prove 146 = .ok (.getfield 91, 3) := by decide +kernel
theorem dX6_prove_149 : decode cX6_prove 149 = .ok (.iload_n 2, 1) := by decide +kernel
theorem dX6_prove_150 : decode cX6_prove 150 = .ok (.iconst 2, 1) := by decide +kernel
theorem dX6_prove_151 : decode cX6_prove 151 = .ok (.iastore, 1) := by decide +kernel
theorem dX6_prove_152 : decode cX6_prove 152 = .ok (.aload_n 0, 1) := by decide +kernel
theorem dX6_prove_153 : decode cX6_prove 153 = .ok (.getfield 94, 3) := by decide +kernel
theorem dX6_prove_156 : decode cX6_prove 156 = .ok (.iload_n 2, 1) := by decide +kernel
theorem dX6_prove_157 : decode cX6_prove 157 = .ok (.iload_n 3, 1) := by decide +kernel
theorem dX6_prove_158 : decode cX6_prove 158 = .ok (.aload_n 0, 1) := by decide +kernel
theorem dX6_prove_159 : decode cX6_prove 159 = .ok (.iload 5, 2) := by decide +kernel
theorem dX6_prove_161 : decode cX6_prove 161 = .ok (.bipush 8, 2) := by decide +kernel
theorem dX6_prove_163 : decode cX6_prove 163 = .ok (.invokevirtual 178, 3) := by decide +kernel
theorem dX6_prove_166 : decode cX6_prove 166 = .ok (.iadd, 1) := by decide +kernel
theorem dX6_prove_167 : decode cX6_prove 167 = .ok (.iastore, 1) := by decide +kernel
theorem dX6_prove_168 : decode cX6_prove 168 = .ok (.iconst 0, 1) := by decide +kernel
theorem dX6_prove_169 : decode cX6_prove 169 = .ok (.ireturn, 1) := by decide +kernel
theorem dX6_death_0 : decode cX6_death 0 = .ok (.aload_n 0, 1) := by decide +kernel
theorem dX6_death_1 : decode cX6_death 1 = .ok (.getfield 45, 3) := by decide +kernel
theorem dX6_death_4 : decode cX6_death 4 = .ok (.iload_n 1, 1) := by decide +kernel
theorem dX6_death_5 : decode cX6_death 5 = .ok (.iaload, 1) := by decide +kernel
theorem dX6_death_6 : decode cX6_death 6 = .ok (.istore_n 2, 1) := by decide +kernel
theorem dX6_death_7 : decode cX6_death 7 = .ok (.aload_n 0, 1) := by decide +kernel
theorem dX6_death_8 : decode cX6_death 8 = .ok (.getfield 51, 3) := by decide +kernel
theorem dX6_death_11 : decode cX6_death 11 = .ok (.iload_n 1, 1) := by decide +kernel
theorem dX6_death_12 : decode cX6_death 12 = .ok (.iaload, 1) := by decide +kernel
theorem dX6_death_13 : decode cX6_death 13 = .ok (.istore_n 3, 1) := by decide +kernel
theorem dX6_death_14 : decode cX6_death 14 = .ok (.iload_n 3, 1) := by decide +kernel
theorem dX6_death_15 : decode cX6_death 15 = .ok (.iload_n 2, 1) := by decide +kernel
theorem dX6_death_16 : decode cX6_death 16 = .ok (.if_icmp .eq 12, 3) := by decide +kernel
theorem dX6_death_19 : decode cX6_death 19 = .ok (.aload_n 0, 1) := by decide +kernel
theorem dX6_death_20 : decode cX6_death 20 = .ok (.getfield 73, 3) := by decide +kernel
theorem dX6_death_23 : decode cX6_death 23 = .ok (.iload_n 3, 1) := by decide +kernel
theorem dX6_death_24 : decode cX6_death 24 = .ok (.baload, 1) := by decide +kernel
theorem dX6_death_25 : decode cX6_death 25 = .ok (.ifCond .eq 6, 3) := by decide +kernel
theorem dX6_death_28 : decode cX6_death 28 = .ok (.bipush 16, 2) := by decide +kernel
theorem dX6_death_30 : decode cX6_death 30 = .ok (.ireturn, 1) := by decide +kernel
theorem dX6_death_31 : decode cX6_death 31 = .ok (.aload_n 0, 1) := by decide +kernel
theorem dX6_death_32 : decode cX6_death 32 = .ok (.getfield 73, 3) := by decide +kernel
theorem dX6_death_35 : decode cX6_death 35 = .ok (.iload_n 2, 1) := by decide +kernel
theorem dX6_death_36 : decode cX6_death 36 = .ok (.iconst 1, 1) := by decide +kernel
theorem dX6_death_37 : decode cX6_death 37 = .ok (.bastore, 1) := by decide +kernel
theorem dX6_death_38 : decode cX6_death 38 = .ok (.iconst 0, 1) := by decide +kernel
theorem dX6_death_39 : decode cX6_death 39 = .ok (.istore 4, 2) := by decide +kernel
theorem dX6_death_41 : decode cX6_death 41 = .ok (.iload 4, 2) := by decide +kernel
theorem dX6_death_43 : decode cX6_death 43 = .ok (.aload_n 0, 1) := by decide +kernel
theorem dX6_death_44 : decode cX6_death 44 = .ok (.getfield 206, 3) := by decide +kernel
theorem dX6_death_47 : decode cX6_death 47 = .ok (.if_icmp .ge 51, 3) := by decide +kernel
theorem dX6_death_50 : decode cX6_death 50 = .ok (.aload_n 0, 1) := by decide +kernel
theorem dX6_death_51 : decode cX6_death 51 = .ok (.getfield 91, 3) := by decide +kernel
theorem dX6_death_54 : decode cX6_death 54 = .ok (.iload 4, 2) := by decide +kernel
theorem dX6_death_56 : decode cX6_death 56 = .ok (.iaload, 1) := by decide +kernel
theorem dX6_death_57 : decode cX6_death 57 = .ok (.ifCond .eq 35, 3) := by decide +kernel
theorem dX6_death_60 : decode cX6_death 60 = .ok (.aload_n 0, 1) := by decide +kernel
theorem dX6_death_61 : decode cX6_death 61 = .ok (.getfield 82, 3) := by decide +kernel
theorem dX6_death_64 : decode cX6_death 64 = .ok (.iload 4, 2) := by decide +kernel
theorem dX6_death_66 : decode cX6_death 66 = .ok (.iaload, 1) := by decide +kernel
theorem dX6_death_67 : decode cX6_death 67 = .ok (.iload_n 2, 1) := by decide +kernel
theorem dX6_death_68 : decode cX6_death 68 = .ok (.if_icmp .ne 24, 3) := by decide +kernel
theorem dX6_death_71 : decode cX6_death 71 = .ok (.aload_n 0, 1) := by decide +kernel
theorem dX6_death_72 : decode cX6_death 72 = .ok (.getfield 82, 3) := by decide +kernel
theorem dX6_death_75 : decode cX6_death 75 = .ok (.iload 4, 2) := by decide +kernel
theorem dX6_death_77 : decode cX6_death 77 = .ok (.iload_n 3, 1) := by decide +kernel
theorem dX6_death_78 : decode cX6_death 78 = .ok (.iastore, 1) := by decide +kernel
theorem dX6_death_79 : decode cX6_death 79 = .ok (.aload_n 0, 1) := by decide +kernel
theorem dX6_death_80 : decode cX6_death 80 = .ok (.getfield 85, 3) := by decide +kernel
theorem dX6_death_83 : decode cX6_death 83 = .ok (.iload 4, 2) := by decide +kernel
theorem dX6_death_85 : decode cX6_death 85 = .ok (.dup2, 1) := by decide +kernel
theorem dX6_death_86 : decode cX6_death 86 = .ok (.iaload, 1) := by decide +kernel
theorem dX6_death_87 : decode cX6_death 87 = .ok (.iconst 1, 1) := by decide +kernel
theorem dX6_death_88 : decode cX6_death 88 = .ok (.iload_n 3, 1) := by decide +kernel
theorem dX6_death_89 : decode cX6_death 89 = .ok (.ishl, 1) := by decide +kernel
theorem dX6_death_90 : decode cX6_death 90 = .ok (.ior, 1) := by decide +kernel
theorem dX6_death_91 : decode cX6_death 91 = .ok (.iastore, 1) := by decide +kernel
theorem dX6_death_92 : decode cX6_death 92 = .ok (.iinc 4 1, 3) := by decide +kernel
theorem dX6_death_95 : decode cX6_death 95 = .ok (.goto (-54), 3) := by decide +kernel
theorem dX6_death_98 : decode cX6_death 98 = .ok (.iconst 0, 1) := by decide +kernel
theorem dX6_death_99 : decode cX6_death 99 = .ok (.ireturn, 1) := by decide +kernel
set_option maxRecDepth 20000 in
theorem ggX6_giveUp_X6_openOf : GoodIn wsX6_giveUp wsX6_openOf := goodIn_r _ [9, 4, 10, 11, 12, 8, 13, 14, 1, 15, 16, 17, 18, 19, 20, 21, 22, 23, 24, 25, 26, 27, 28, 29, 30, 31, 32, 33, 34, 35, 36, 37, 38, 39, 40, 41, 42, 43, 44, 45, 46, 47, 48, 49, 50, 51, 52, 53, 54, 55, 56, 57, 58, 59] (by decide +kernel) (by decide +kernel)
set_option maxRecDepth 20000 in
theorem gX6_giveUp_X6_openOf : GoodIn wsX6_giveUp (wsV RX6 224 RX6 yX6_openOf wsX6_openOf) := goodIn_app (goodIn_of _ (by decide +kernel)) ggX6_giveUp_X6_openOf
theorem dX6_giveUp_0 : decode cX6_giveUp 0 = .ok (.aload_n 0, 1) := by decide +kernel
theorem dX6_giveUp_1 : decode cX6_giveUp 1 = .ok (.aload_n 0, 1) := by decide +kernel
theorem dX6_giveUp_2 : decode cX6_giveUp 2 = .ok (.getfield 48, 3) := by decide +kernel
theorem dX6_giveUp_5 : decode cX6_giveUp 5 = .ok (.iload_n 1, 1) := by decide +kernel
theorem dX6_giveUp_6 : decode cX6_giveUp 6 = .ok (.iaload, 1) := by decide +kernel
theorem dX6_giveUp_7 : decode cX6_giveUp 7 = .ok (.invokevirtual 224, 3) := by decide +kernel
theorem dX6_giveUp_10 : decode cX6_giveUp 10 = .ok (.istore_n 2, 1) := by decide +kernel
theorem dX6_giveUp_11 : decode cX6_giveUp 11 = .ok (.iload_n 2, 1) := by decide +kernel
theorem dX6_giveUp_12 : decode cX6_giveUp 12 = .ok (.ifCond .lt 18, 3) := by decide +kernel
theorem dX6_giveUp_15 : decode cX6_giveUp 15 = .ok (.aload_n 0, 1) := by decide +kernel
theorem dX6_giveUp_16 : decode cX6_giveUp 16 = .ok (.getfield 82, 3) := by decide +kernel
theorem dX6_giveUp_19 : decode cX6_giveUp 19 = .ok (.iload_n 2, 1) := by decide +kernel
theorem dX6_giveUp_20 : decode cX6_giveUp 20 = .ok (.iaload, 1) := by decide +kernel
theorem dX6_giveUp_21 : decode cX6_giveUp 21 = .ok (.aload_n 0, 1) := by decide +kernel
theorem dX6_giveUp_22 : decode cX6_giveUp 22 = .ok (.getfield 45, 3) := by decide +kernel
theorem dX6_giveUp_25 : decode cX6_giveUp 25 = .ok (.iload_n 1, 1) := by decide +kernel
theorem dX6_giveUp_26 : decode cX6_giveUp 26 = .ok (.iaload, 1) := by decide +kernel
theorem dX6_giveUp_27 : decode cX6_giveUp 27 = .ok (.if_icmp .eq 6, 3) := by decide +kernel
theorem dX6_giveUp_30 : decode cX6_giveUp 30 = .ok (.bipush 8, 2) := by decide +kernel
theorem dX6_giveUp_32 : decode cX6_giveUp 32 = .ok (.ireturn, 1) := by decide +kernel
theorem dX6_giveUp_33 : decode cX6_giveUp 33 = .ok (.aload_n 0, 1) := by decide +kernel
theorem dX6_giveUp_34 : decode cX6_giveUp 34 = .ok (.getfield 91, 3) := by decide +kernel
theorem dX6_giveUp_37 : decode cX6_giveUp 37 = .ok (.iload_n 2, 1) := by decide +kernel
theorem dX6_giveUp_38 : decode cX6_giveUp 38 = .ok (.iconst 0, 1) := by decide +kernel
theorem dX6_giveUp_39 : decode cX6_giveUp 39 = .ok (.iastore, 1) := by decide +kernel
theorem dX6_giveUp_40 : decode cX6_giveUp 40 = .ok (.iconst 0, 1) := by decide +kernel
theorem dX6_giveUp_41 : decode cX6_giveUp 41 = .ok (.ireturn, 1) := by decide +kernel
set_option maxRecDepth 20000 in
theorem ggX6_comesTo_X6_file : GoodIn wsX6_comesTo wsX6_file := goodIn_r _ [8, 2, 9, 10, 11, 12, 13, 14, 15, 16, 17, 18, 19, 20, 21, 22, 23, 24, 25, 7, 26, 27, 28, 29, 30, 31, 32, 33, 34, 35, 36, 37, 38, 39, 40, 41, 42, 43, 44, 45, 46, 47, 48, 49, 50, 51, 52, 53, 54, 55, 96, 97, 98, 99, 100, 101, 102, 103, 104, 105, 106, 107, 108, 109, 110, 111, 112, 113, 114, 115, 116, 117, 118, 119, 120, 121, 122, 123, 124, 125, 126, 127, 128, 129, 130, 131, 132, 133, 134, 135, 136, 137, 138, 139] (by decide +kernel) (by decide +kernel)
set_option maxRecDepth 20000 in
theorem gX6_comesTo_X6_file : GoodIn wsX6_comesTo (wsV RX6 240 RX6 yX6_file wsX6_file) := goodIn_app (goodIn_of _ (by decide +kernel)) ggX6_comesTo_X6_file
set_option maxRecDepth 20000 in
theorem ggX6_comesTo_X6_giveUp : GoodIn wsX6_comesTo wsX6_giveUp := goodIn_r _ [59, 9, 18, 2, 21, 60, 61, 62, 7, 63, 42, 43, 44, 45, 15, 14, 96, 97, 98, 99, 100, 101, 102, 103, 104, 105, 106, 107, 108, 109, 110, 111, 112, 113, 114, 115, 116, 117, 118, 119, 120, 121, 122, 123, 124, 125, 126, 127, 128, 129, 130, 131, 132, 133, 134, 135, 136, 137, 138, 139] (by decide +kernel) (by decide +kernel)
set_option maxRecDepth 20000 in
theorem gX6_comesTo_X6_giveUp : GoodIn wsX6_comesTo (wsV RX6 243 RX6 yX6_giveUp wsX6_giveUp) := goodIn_app (goodIn_of _ (by decide +kernel)) ggX6_comesTo_X6_giveUp
set_option maxRecDepth 20000 in
theorem ggX6_comesTo_X6_contest : GoodIn wsX6_comesTo wsX6_contest := goodIn_r _ [67, 9, 10, 18, 2, 20, 14, 21, 50, 51, 60, 61, 62, 7, 63, 42, 43, 44, 45, 15, 33, 34, 35, 36, 37, 38, 27, 29, 30, 31, 32, 28, 68, 69, 70, 71, 72, 17, 73, 3, 74, 19, 75, 76, 77, 78, 79, 96, 97, 98, 99, 100, 101, 102, 103, 104, 105, 106, 107, 108, 109, 110, 111, 112, 113, 114, 115, 116, 117, 118, 119, 120, 121, 122, 123, 124, 125, 126, 127, 128, 129, 130, 131, 132, 133, 134, 135, 136, 137, 138, 139] (by decide +kernel) (by decide +kernel)
set_option maxRecDepth 20000 in
theorem gX6_comesTo_X6_contest : GoodIn wsX6_comesTo (wsV RX6 246 RX6 yX6_contest wsX6_contest) := goodIn_app (goodIn_of _ (by decide +kernel)) ggX6_comesTo_X6_contest
set_option maxRecDepth 20000 in
theorem ggX6_comesTo_X6_prove : GoodIn wsX6_comesTo wsX6_prove := goodIn_r _ [83, 9, 18, 2, 10, 14, 20, 21, 22, 60, 61, 62, 7, 63, 42, 43, 44, 45, 15, 33, 34, 35, 36, 37, 38, 27, 29, 30, 31, 32, 28, 68, 69, 70, 71, 72, 17, 73, 3, 74, 19, 75, 76, 77, 78, 79, 84, 85, 86, 87, 88, 89, 90, 91, 16, 96, 97, 98, 99, 100, 101, 102, 103, 104, 105, 106, 107, 108, 109, 110, 111, 112, 113, 114, 115, 116, 117, 118, 119, 120, 121, 122, 123, 124, 125, 126, 127, 128, 129, 130, 131, 132, 133, 134, 135, 136, 137, 138, 139] (by decide +kernel) (by decide +kernel)
set_option maxRecDepth 20000 in
theorem gX6_comesTo_X6_prove : GoodIn wsX6_comesTo (wsV RX6 249 RX6 yX6_prove wsX6_prove) := goodIn_app (goodIn_of _ (by decide +kernel)) ggX6_comesTo_X6_prove
set_option maxRecDepth 20000 in
theorem ggX6_comesTo_X6_death : GoodIn wsX6_comesTo wsX6_death := goodIn_r _ [95, 2, 75, 1, 15, 21, 18, 19, 96, 97, 98, 99, 100, 101, 102, 103, 104, 105, 106, 107, 108, 109, 110, 111, 112, 113, 114, 115, 116, 117, 118, 119, 120, 121, 122, 123, 124, 125, 126, 127, 128, 129, 130, 131, 132, 133, 134, 135, 136, 137, 138, 139] (by decide +kernel) (by decide +kernel)
set_option maxRecDepth 20000 in
theorem gX6_comesTo_X6_death : GoodIn wsX6_comesTo (wsV RX6 252 RX6 yX6_death wsX6_death) := goodIn_app (goodIn_of _ (by decide +kernel)) ggX6_comesTo_X6_death
theorem dX6_comesTo_0 : decode cX6_comesTo 0 = .ok (.aload_n 0, 1) := by decide +kernel
theorem dX6_comesTo_1 : decode cX6_comesTo 1 = .ok (.getfield 73, 3) := by decide +kernel
theorem dX6_comesTo_4 : decode cX6_comesTo 4 = .ok (.aload_n 0, 1) := by decide +kernel
theorem dX6_comesTo_5 : decode cX6_comesTo 5 = .ok (.getfield 45, 3) := by decide +kernel
theorem dX6_comesTo_8 : decode cX6_comesTo 8 = .ok (.iload_n 1, 1) := by decide +kernel
theorem dX6_comesTo_9 : decode cX6_comesTo 9 = .ok (.iaload, 1) := by decide +kernel
theorem dX6_comesTo_10 : decode cX6_comesTo 10 = .ok (.baload, 1) := by decide +kernel
theorem dX6_comesTo_11 : decode cX6_comesTo 11 = .ok (.ifCond .eq 5, 3) := by decide +kernel
theorem dX6_comesTo_14 : decode cX6_comesTo 14 = .ok (.iconst 1, 1) := by decide +kernel
theorem dX6_comesTo_15 : decode cX6_comesTo 15 = .ok (.ireturn, 1) := by decide +kernel
theorem dX6_comesTo_16 : decode cX6_comesTo 16 = .ok (.aload_n 0, 1) := by decide +kernel
theorem dX6_comesTo_17 : decode cX6_comesTo 17 = .ok (.getfield 42, 3) := by decide +kernel
theorem dX6_comesTo_20 : decode cX6_comesTo 20 = .ok (.iload_n 1, 1) := by decide +kernel
theorem dX6_comesTo_21 : decode cX6_comesTo 21 = .ok (.iaload, 1) := by decide +kernel
theorem dX6_comesTo_22 : decode cX6_comesTo 22 = .ok (.tableswitch 72 0 6 #[42, 72, 72, 48, 54, 60, 66], 42) := by decide +kernel
theorem dX6_comesTo_64 : decode cX6_comesTo 64 = .ok (.aload_n 0, 1) := by decide +kernel
theorem dX6_comesTo_65 : decode cX6_comesTo 65 = .ok (.iload_n 1, 1) := by decide +kernel
theorem dX6_comesTo_66 : decode cX6_comesTo 66 = .ok (.invokevirtual 240, 3) := by decide +kernel
theorem dX6_comesTo_69 : decode cX6_comesTo 69 = .ok (.ireturn, 1) := by decide +kernel
theorem dX6_comesTo_70 : decode cX6_comesTo 70 = .ok (.aload_n 0, 1) := by decide +kernel
theorem dX6_comesTo_71 : decode cX6_comesTo 71 = .ok (.iload_n 1, 1) := by decide +kernel
theorem dX6_comesTo_72 : decode cX6_comesTo 72 = .ok (.invokevirtual 243, 3) := by decide +kernel
theorem dX6_comesTo_75 : decode cX6_comesTo 75 = .ok (.ireturn, 1) := by decide +kernel
theorem dX6_comesTo_76 : decode cX6_comesTo 76 = .ok (.aload_n 0, 1) := by decide +kernel
theorem dX6_comesTo_77 : decode cX6_comesTo 77 = .ok (.iload_n 1, 1) := by decide +kernel
theorem dX6_comesTo_78 : decode cX6_comesTo 78 = .ok (.invokevirtual 246, 3) := by decide +kernel
theorem dX6_comesTo_81 : decode cX6_comesTo 81 = .ok (.ireturn, 1) := by decide +kernel
theorem dX6_comesTo_82 : decode cX6_comesTo 82 = .ok (.aload_n 0, 1) := by decide +kernel
theorem dX6_comesTo_83 : decode cX6_comesTo 83 = .ok (.iload_n 1, 1) := by decide +kernel
theorem dX6_comesTo_84 : decode cX6_comesTo 84 = .ok (.invokevirtual 249, 3) := by decide +kernel
theorem dX6_comesTo_87 : decode cX6_comesTo 87 = .ok (.ireturn, 1) := by decide +kernel
theorem dX6_comesTo_88 : decode cX6_comesTo 88 = .ok (.aload_n 0, 1) := by decide +kernel
theorem dX6_comesTo_89 : decode cX6_comesTo 89 = .ok (.iload_n 1, 1) := by decide +kernel
theorem dX6_comesTo_90 : decode cX6_comesTo 90 = .ok (.invokevirtual 252, 3) := by decide +kernel
theorem dX6_comesTo_93 : decode cX6_comesTo 93 = .ok (.ireturn, 1) := by decide +kernel
theorem dX6_comesTo_94 : decode cX6_comesTo 94 = .ok (.iconst 0, 1) := by decide +kernel
theorem dX6_comesTo_95 : decode cX6_comesTo 95 = .ok (.ireturn, 1) := by decide +kernel
set_option maxRecDepth 20000 in
theorem ggX6_work_X6_putInOrder : GoodIn wsX6_work wsX6_putInOrder := goodIn_r _ [12, 6, 13, 14, 7, 106, 107, 108, 109, 110, 111, 112, 113, 114, 115, 116, 117, 118, 119, 120, 121, 122, 123, 124, 125, 126, 127, 128, 129, 130, 131, 132, 133, 134, 135, 136, 137, 138, 139, 140, 141, 142, 143, 144, 145, 146, 147, 148, 149] (by decide +kernel) (by decide +kernel)
set_option maxRecDepth 20000 in
theorem gX6_work_X6_putInOrder : GoodIn wsX6_work (wsV RX6 255 RX6 yX6_putInOrder wsX6_putInOrder) := goodIn_app (goodIn_of _ (by decide +kernel)) ggX6_work_X6_putInOrder
set_option maxRecDepth 20000 in
theorem ggX6_work_X6_comesTo : GoodIn wsX6_work wsX6_comesTo := goodIn_r _ [18, 3, 19, 20, 21, 22, 23, 11, 24, 25, 14, 26, 27, 28, 29, 1, 30, 5, 31, 32, 33, 34, 35, 36, 37, 38, 39, 40, 41, 42, 43, 44, 45, 46, 47, 48, 49, 50, 51, 52, 53, 54, 55, 56, 57, 58, 59, 60, 61, 62, 4, 63, 64, 65, 66, 67, 68, 69, 70, 71, 72, 73, 74, 75, 76, 77, 78, 79, 80, 81, 82, 83, 84, 7, 2, 85, 86, 87, 88, 89, 90, 91, 92, 93, 94, 95, 96, 97, 98, 99, 100, 101, 102, 103, 104, 105, 106, 107, 108, 109, 110, 111, 112, 113, 114, 115, 116, 117, 118, 119, 120, 121, 122, 123, 124, 125, 126, 127, 128, 129, 130, 131, 132, 133, 134, 135, 136, 137, 138, 139, 140, 141, 142, 143, 144, 145, 146, 147, 148, 149] (by decide +kernel) (by decide +kernel)
set_option maxRecDepth 20000 in
theorem gX6_work_X6_comesTo : GoodIn wsX6_work (wsV RX6 259 RX6 yX6_comesTo wsX6_comesTo) := goodIn_app (goodIn_of _ (by decide +kernel)) ggX6_work_X6_comesTo
theorem dX6_work_0 : decode cX6_work 0 = .ok (.aload_n 0, 1) := by decide +kernel
theorem dX6_work_1 : decode cX6_work 1 = .ok (.iload_n 1, 1) := by decide +kernel
theorem dX6_work_2 : decode cX6_work 2 = .ok (.iload_n 2, 1) := by decide +kernel
theorem dX6_work_3 : decode cX6_work 3 = .ok (.invokevirtual 255, 3) := by decide +kernel
theorem dX6_work_6 : decode cX6_work 6 = .ok (.aload_n 0, 1) := by decide +kernel
theorem dX6_work_7 : decode cX6_work 7 = .ok (.iconst 0, 1) := by decide +kernel
theorem dX6_work_8 : decode cX6_work 8 = .ok (.putfield 206, 3) := by decide +kernel
theorem dX6_work_11 : decode cX6_work 11 = .ok (.iconst 0, 1) := by decide +kernel
theorem dX6_work_12 : decode cX6_work 12 = .ok (.istore_n 3, 1) := by decide +kernel
theorem dX6_work_13 : decode cX6_work 13 = .ok (.iload_n 3, 1) := by decide +kernel
theorem dX6_work_14 : decode cX6_work 14 = .ok (.bipush 120, 2) := by decide +kernel
theorem dX6_work_16 : decode cX6_work 16 = .ok (.if_icmp .ge 16, 3) := by decide +kernel
theorem dX6_work_19 : decode cX6_work 19 = .ok (.aload_n 0, 1) := by decide +kernel
theorem dX6_work_20 : decode cX6_work 20 = .ok (.getfield 70, 3) := by decide +kernel
theorem dX6_work_23 : decode cX6_work 23 = .ok (.iload_n 3, 1) := by decide +kernel
theorem dX6_work_24 : decode cX6_work 24 = .ok (.iconst (-1), 1) := by decide +kernel
theorem dX6_work_25 : decode cX6_work 25 = .ok (.iastore, 1) := by decide +kernel
theorem dX6_work_26 : decode cX6_work 26 = .ok (.iinc 3 1, 3) := by decide +kernel
theorem dX6_work_29 : decode cX6_work 29 = .ok (.goto (-16), 3) := by decide +kernel
theorem dX6_work_32 : decode cX6_work 32 = .ok (.iconst 0, 1) := by decide +kernel
theorem dX6_work_33 : decode cX6_work 33 = .ok (.istore_n 3, 1) := by decide +kernel
theorem dX6_work_34 : decode cX6_work 34 = .ok (.iload_n 3, 1) := by decide +kernel
theorem dX6_work_35 : decode cX6_work 35 = .ok (.bipush 12, 2) := by decide +kernel
theorem dX6_work_37 : decode cX6_work 37 = .ok (.if_icmp .ge 16, 3) := by decide +kernel
theorem dX6_work_40 : decode cX6_work 40 = .ok (.aload_n 0, 1) := by decide +kernel
theorem dX6_work_41 : decode cX6_work 41 = .ok (.getfield 73, 3) := by decide +kernel
theorem dX6_work_44 : decode cX6_work 44 = .ok (.iload_n 3, 1) := by decide +kernel
theorem dX6_work_45 : decode cX6_work 45 = .ok (.iconst 0, 1) := by decide +kernel
theorem dX6_work_46 : decode cX6_work 46 = .ok (.bastore, 1) := by decide +kernel
theorem dX6_work_47 : decode cX6_work 47 = .ok (.iinc 3 1, 3) := by decide +kernel
theorem dX6_work_50 : decode cX6_work 50 = .ok (.goto (-16), 3) := by decide +kernel
theorem dX6_work_53 : decode cX6_work 53 = .ok (.iconst 0, 1) := by decide +kernel
theorem dX6_work_54 : decode cX6_work 54 = .ok (.istore_n 3, 1) := by decide +kernel
theorem dX6_work_55 : decode cX6_work 55 = .ok (.iload_n 3, 1) := by decide +kernel
theorem dX6_work_56 : decode cX6_work 56 = .ok (.bipush 64, 2) := by decide +kernel
theorem dX6_work_58 : decode cX6_work 58 = .ok (.if_icmp .ge 16, 3) := by decide +kernel
theorem dX6_work_61 : decode cX6_work 61 = .ok (.aload_n 0, 1) := by decide +kernel
theorem dX6_work_62 : decode cX6_work 62 = .ok (.getfield 97, 3) := by decide +kernel
theorem dX6_work_65 : decode cX6_work 65 = .ok (.iload_n 3, 1) := by decide +kernel
theorem dX6_work_66 : decode cX6_work 66 = .ok (.iconst (-1), 1) := by decide +kernel
theorem dX6_work_67 : decode cX6_work 67 = .ok (.iastore, 1) := by decide +kernel
theorem dX6_work_68 : decode cX6_work 68 = .ok (.iinc 3 1, 3) := by decide +kernel
theorem dX6_work_71 : decode cX6_work 71 = .ok (.goto (-16), 3) := by decide +kernel
theorem dX6_work_74 : decode cX6_work 74 = .ok (.aload_n 0, 1) := by decide +kernel
theorem dX6_work_75 : decode cX6_work 75 = .ok (.iconst 0, 1) := by decide +kernel
theorem dX6_work_76 : decode cX6_work 76 = .ok (.putfield 212, 3) := by decide +kernel
theorem dX6_work_79 : decode cX6_work 79 = .ok (.aload_n 0, 1) := by decide +kernel
theorem dX6_work_80 : decode cX6_work 80 = .ok (.getfield 212, 3) := by decide +kernel
theorem dX6_work_83 : decode cX6_work 83 = .ok (.aload_n 0, 1) := by decide +kernel
theorem dX6_work_84 : decode cX6_work 84 = .ok (.getfield 203, 3) := by decide +kernel
theorem dX6_work_87 : decode cX6_work 87 = .ok (.if_icmp .ge 37, 3) := by decide +kernel
theorem dX6_work_90 : decode cX6_work 90 = .ok (.aload_n 0, 1) := by decide +kernel
theorem dX6_work_91 : decode cX6_work 91 = .ok (.getfield 67, 3) := by decide +kernel
theorem dX6_work_94 : decode cX6_work 94 = .ok (.aload_n 0, 1) := by decide +kernel
theorem dX6_work_95 : decode cX6_work 95 = .ok (.getfield 212, 3) := by decide +kernel
theorem dX6_work_98 : decode cX6_work 98 = .ok (.iaload, 1) := by decide +kernel
theorem dX6_work_99 : decode cX6_work 99 = .ok (.istore_n 3, 1) := by decide +kernel
theorem dX6_work_100 : decode cX6_work 100 = .ok (.aload_n 0, 1) := by decide +kernel
theorem dX6_work_101 : decode cX6_work 101 = .ok (.getfield 70, 3) := by decide +kernel
theorem dX6_work_104 : decode cX6_work 104 = .ok (.iload_n 3, 1) := by decide +kernel
theorem dX6_work_105 : decode cX6_work 105 = .ok (.aload_n 0, 1) := by decide +kernel
theorem dX6_work_106 : decode cX6_work 106 = .ok (.iload_n 3, 1) := by decide +kernel
theorem dX6_work_107 : decode cX6_work 107 = .ok (.invokevirtual 259, 3) := by decide +kernel
theorem dX6_work_110 : decode cX6_work 110 = .ok (.iastore, 1) := by decide +kernel
theorem dX6_work_111 : decode cX6_work 111 = .ok (.aload_n 0, 1) := by decide +kernel
theorem dX6_work_112 : decode cX6_work 112 = .ok (.dup, 1) := by decide +kernel
theorem dX6_work_113 : decode cX6_work 113 = .ok (.getfield 212, 3) := by decide +kernel
theorem dX6_work_116 : decode cX6_work 116 = .ok (.iconst 1, 1) := by decide +kernel
theorem dX6_work_117 : decode cX6_work 117 = .ok (.iadd, 1) := by decide +kernel
theorem dX6_work_118 : decode cX6_work 118 = .ok (.putfield 212, 3) := by decide +kernel
theorem dX6_work_121 : decode cX6_work 121 = .ok (.goto (-42), 3) := by decide +kernel
theorem dX6_work_124 : decode cX6_work 124 = .ok (.return_, 1) := by decide +kernel
set_option maxRecDepth 20000 in
theorem ggX6_isKnown_X6_in : GoodIn wsX6_isKnown wsX6_in := goodIn_r _ [6] (by decide +kernel) (by decide +kernel)
set_option maxRecDepth 20000 in
theorem gX6_isKnown_X6_in : GoodIn wsX6_isKnown (va_wsS RX6 130 yX6_in wsX6_in) := goodIn_app (goodIn_of _ (by decide +kernel)) ggX6_isKnown_X6_in
theorem dX6_isKnown_0 : decode cX6_isKnown 0 = .ok (.iload_n 1, 1) := by decide +kernel
theorem dX6_isKnown_1 : decode cX6_isKnown 1 = .ok (.i2l, 1) := by decide +kernel
theorem dX6_isKnown_2 : decode cX6_isKnown 2 = .ok (.ldc2_w 262, 3) := by decide +kernel
theorem dX6_isKnown_5 : decode cX6_isKnown 5 = .ok (.aload_n 0, 1) := by decide +kernel
theorem dX6_isKnown_6 : decode cX6_isKnown 6 = .ok (.getfield 197, 3) := by decide +kernel
theorem dX6_isKnown_9 : decode cX6_isKnown 9 = .ok (.i2l, 1) := by decide +kernel
theorem dX6_isKnown_10 : decode cX6_isKnown 10 = .ok (.invokestatic 130, 3) := by decide +kernel
theorem dX6_isKnown_13 : decode cX6_isKnown 13 = .ok (.ireturn, 1) := by decide +kernel
theorem dX6_first_0 : decode cX6_first 0 = .ok (.iload_n 1, 1) := by decide +kernel
theorem dX6_first_1 : decode cX6_first 1 = .ok (.ifCond .ge 10, 3) := by decide +kernel
theorem dX6_first_4 : decode cX6_first 4 = .ok (.aload_n 0, 1) := by decide +kernel
theorem dX6_first_5 : decode cX6_first 5 = .ok (.getfield 197, 3) := by decide +kernel
theorem dX6_first_8 : decode cX6_first 8 = .ok (.goto 4, 3) := by decide +kernel
theorem dX6_first_11 : decode cX6_first 11 = .ok (.iload_n 1, 1) := by decide +kernel
theorem dX6_first_12 : decode cX6_first 12 = .ok (.ireturn, 1) := by decide +kernel
set_option maxRecDepth 20000 in
theorem ggX6_outcome_X6_isLine : GoodIn wsX6_outcome wsX6_isLine := goodIn_r _ [6, 7, 8, 9, 5, 10, 127, 128, 129, 130, 131, 132, 133, 134, 135, 136, 137, 138, 139, 140, 141, 142, 143, 144, 145, 146, 147, 148, 149, 150, 151, 152, 153, 154, 155, 156, 157, 158, 159, 160, 161, 162, 163, 164, 165, 166, 167, 168, 169, 170] (by decide +kernel) (by decide +kernel)
set_option maxRecDepth 20000 in
theorem gX6_outcome_X6_isLine : GoodIn wsX6_outcome (wsV RX6 200 RX6 yX6_isLine wsX6_isLine) := goodIn_app (goodIn_of _ (by decide +kernel)) ggX6_outcome_X6_isLine
set_option maxRecDepth 20000 in
theorem ggX6_outcome_X6_isKnown : GoodIn wsX6_outcome wsX6_isKnown := goodIn_r _ [14, 15, 7, 8, 9, 5, 10, 127, 128, 129, 130, 131, 132, 133, 134, 135, 136, 137, 138, 139, 140, 141, 142, 143, 144, 145, 146, 147, 148, 149, 150, 151, 152, 153, 154, 155, 156, 157, 158, 159, 160, 161, 162, 163, 164, 165, 166, 167, 168, 169, 170] (by decide +kernel) (by decide +kernel)
set_option maxRecDepth 20000 in
theorem gX6_outcome_X6_isKnown : GoodIn wsX6_outcome (wsV RX6 264 RX6 yX6_isKnown wsX6_isKnown) := goodIn_app (goodIn_of _ (by decide +kernel)) ggX6_outcome_X6_isKnown
set_option maxRecDepth 20000 in
theorem ggX6_outcome_X6_first : GoodIn wsX6_outcome wsX6_first := goodIn_r _ [19, 7, 127, 128, 129, 130, 131, 132, 133, 134, 135, 136, 137, 138, 139, 140, 141, 142, 143, 144, 145, 146, 147, 148, 149, 150, 151, 152, 153, 154, 155, 156, 157, 158, 159, 160, 161, 162, 163, 164, 165, 166, 167, 168, 169, 170] (by decide +kernel) (by decide +kernel)
set_option maxRecDepth 20000 in
theorem gX6_outcome_X6_first : GoodIn wsX6_outcome (wsV RX6 267 RX6 yX6_first wsX6_first) := goodIn_app (goodIn_of _ (by decide +kernel)) ggX6_outcome_X6_first
set_option maxRecDepth 20000 in
theorem ggX6_outcome_X6_work : GoodIn wsX6_outcome wsX6_work := goodIn_r _ [23, 24, 1, 25, 26, 27, 28, 29, 30, 31, 32, 5, 33, 34, 35, 36, 37, 38, 39, 40, 41, 42, 43, 44, 45, 46, 47, 48, 49, 50, 51, 52, 53, 54, 55, 56, 57, 58, 59, 60, 61, 62, 63, 64, 65, 66, 67, 68, 69, 70, 71, 72, 73, 74, 75, 76, 77, 78, 79, 80, 81, 82, 83, 84, 85, 86, 87, 88, 89, 90, 91, 92, 93, 94, 95, 96, 97, 98, 99, 100, 101, 102, 103, 104, 105, 106, 107, 108, 109, 110, 111, 112, 113, 114, 115, 116, 117, 118, 119, 120, 121, 122, 123, 124, 125, 126, 127, 128, 129, 130, 131, 132, 133, 134, 135, 136, 137, 138, 139, 140, 141, 142, 143, 144, 145, 146, 147, 148, 149, 150, 151, 152, 153, 154, 155, 156, 157, 158, 159, 160, 161, 162, 163, 164, 165, 166, 167, 168, 169, 170] (by decide +kernel) (by decide +kernel)
set_option maxRecDepth 20000 in
theorem gX6_outcome_X6_work : GoodIn wsX6_outcome (wsV RX6 270 RX6 yX6_work wsX6_work) := goodIn_app (goodIn_of _ (by decide +kernel)) ggX6_outcome_X6_work
theorem dX6_outcome_0 : decode cX6_outcome 0 = .ok (.aload_n 0, 1) := by decide +kernel
theorem dX6_outcome_1 : decode cX6_outcome 1 = .ok (.iload_n 1, 1) := by decide +kernel
theorem dX6_outcome_2 : decode cX6_outcome 2 = .ok (.invokevirtual 200, 3) := by decide +kernel
theorem dX6_outcome_5 : decode cX6_outcome 5 = .ok (.ifCond .ne 7, 3) := by decide +kernel
theorem dX6_outcome_8 : decode cX6_outcome 8 = .ok (.sipush (-1001), 3) := by decide +kernel
theorem dX6_outcome_11 : decode cX6_outcome 11 = .ok (.ireturn, 1) := by decide +kernel
theorem dX6_outcome_12 : decode cX6_outcome 12 = .ok (.aload_n 0, 1) := by decide +kernel
theorem dX6_outcome_13 : decode cX6_outcome 13 = .ok (.iload_n 2, 1) := by decide +kernel
theorem dX6_outcome_14 : decode cX6_outcome 14 = .ok (.invokevirtual 264, 3) := by decide +kernel
theorem dX6_outcome_17 : decode cX6_outcome 17 = .ok (.ifCond .ne 7, 3) := by decide +kernel
theorem dX6_outcome_20 : decode cX6_outcome 20 = .ok (.sipush (-1002), 3) := by decide +kernel
theorem dX6_outcome_23 : decode cX6_outcome 23 = .ok (.ireturn, 1) := by decide +kernel
theorem dX6_outcome_24 : decode cX6_outcome 24 = .ok (.aload_n 0, 1) := by decide +kernel
theorem dX6_outcome_25 : decode cX6_outcome 25 = .ok (.aload_n 0, 1) := by decide +kernel
theorem dX6_outcome_26 : decode cX6_outcome 26 = .ok (.iload_n 2, 1) := by decide +kernel
theorem dX6_outcome_27 : decode cX6_outcome 27 = .ok (.invokevirtual 267, 3) := by decide +kernel
theorem dX6_outcome_30 : decode cX6_outcome 30 = .ok (.sipush 20000, 3) := by decide +kernel
theorem dX6_outcome_33 : decode cX6_outcome 33 = .ok (.invokevirtual 270, 3) := by decide +kernel
theorem dX6_outcome_36 : decode cX6_outcome 36 = .ok (.aload_n 0, 1) := by decide +kernel
theorem dX6_outcome_37 : decode cX6_outcome 37 = .ok (.getfield 70, 3) := by decide +kernel
theorem dX6_outcome_40 : decode cX6_outcome 40 = .ok (.iload_n 1, 1) := by decide +kernel
theorem dX6_outcome_41 : decode cX6_outcome 41 = .ok (.iaload, 1) := by decide +kernel
theorem dX6_outcome_42 : decode cX6_outcome 42 = .ok (.ireturn, 1) := by decide +kernel
theorem dX6_entryMany_0 : decode cX6_entryMany 0 = .ok (.iconst 0, 1) := by decide +kernel
theorem dX6_entryMany_1 : decode cX6_entryMany 1 = .ok (.istore_n 2, 1) := by decide +kernel
theorem dX6_entryMany_2 : decode cX6_entryMany 2 = .ok (.iconst 0, 1) := by decide +kernel
theorem dX6_entryMany_3 : decode cX6_entryMany 3 = .ok (.istore_n 3, 1) := by decide +kernel
theorem dX6_entryMany_4 : decode cX6_entryMany 4 = .ok (.iload_n 3, 1) := by decide +kernel
theorem dX6_entryMany_5 : decode cX6_entryMany 5 = .ok (.aload_n 0, 1) := by decide +kernel
theorem dX6_entryMany_6 : decode cX6_entryMany 6 = .ok (.getfield 206, 3) := by decide +kernel
theorem dX6_entryMany_9 : decode cX6_entryMany 9 = .ok (.if_icmp .ge 27, 3) := by decide +kernel
theorem dX6_entryMany_12 : decode cX6_entryMany 12 = .ok (.iload_n 2, 1) := by decide +kernel
theorem dX6_entryMany_13 : decode cX6_entryMany 13 = .ok (.aload_n 0, 1) := by decide +kernel
theorem dX6_entryMany_14 : decode cX6_entryMany 14 = .ok (.getfield 91, 3) := by decide +kernel
theorem dX6_entryMany_17 : decode cX6_entryMany 17 = .ok (.iload_n 3, 1) := by decide +kernel
theorem dX6_entryMany_18 : decode cX6_entryMany 18 = .ok (.iaload, 1) := by decide +kernel
theorem dX6_entryMany_19 : decode cX6_entryMany 19 = .ok (.iload_n 1, 1) := by decide +kernel
theorem dX6_entryMany_20 : decode cX6_entryMany 20 = .ok (.if_icmp .ne 7, 3) := by decide +kernel
theorem dX6_entryMany_23 : decode cX6_entryMany 23 = .ok (.iconst 1, 1) := by decide +kernel
theorem dX6_entryMany_24 : decode cX6_entryMany 24 = .ok (.goto 4, 3) := by decide +kernel
theorem dX6_entryMany_27 : decode cX6_entryMany 27 = .ok (.iconst 0, 1) := by decide +kernel
theorem dX6_entryMany_28 : decode cX6_entryMany 28 = .ok (.iadd, 1) := by decide +kernel
theorem dX6_entryMany_29 : decode cX6_entryMany 29 = .ok (.istore_n 2, 1) := by decide +kernel
theorem dX6_entryMany_30 : decode cX6_entryMany 30 = .ok (.iinc 3 1, 3) := by decide +kernel
theorem dX6_entryMany_33 : decode cX6_entryMany 33 = .ok (.goto (-29), 3) := by decide +kernel
theorem dX6_entryMany_36 : decode cX6_entryMany 36 = .ok (.iload_n 2, 1) := by decide +kernel
theorem dX6_entryMany_37 : decode cX6_entryMany 37 = .ok (.ireturn, 1) := by decide +kernel
set_option maxRecDepth 20000 in
theorem ggX6_count_X6_work : GoodIn wsX6_count wsX6_work := goodIn_r _ [13, 8, 3, 5, 14, 15, 16, 17, 18, 19, 20, 12, 21, 2, 22, 23, 24, 25, 26, 27, 28, 29, 30, 31, 32, 33, 34, 35, 36, 37, 38, 39, 40, 41, 42, 43, 44, 45, 46, 47, 6, 48, 49, 50, 51, 52, 53, 54, 55, 56, 57, 58, 59, 60, 61, 62, 63, 64, 65, 66, 67, 68, 69, 70, 71, 72, 73, 74, 75, 76, 77, 78, 79, 80, 81, 82, 83, 84, 85, 86, 87, 88, 89, 90, 91, 92, 93, 94, 95, 96, 97, 98, 99, 100, 101, 102, 103, 104, 105, 106, 107, 108, 109, 110, 111, 112, 117, 118, 119, 120, 121, 122, 123, 124, 125, 126, 127, 128, 129, 130, 131, 132, 133, 134, 135, 136, 137, 138, 139, 140, 141, 142, 143, 144, 145, 146, 147, 148, 149, 150, 151, 152, 153, 154, 155, 156, 157, 158, 159, 160] (by decide +kernel) (by decide +kernel)
set_option maxRecDepth 20000 in
theorem gX6_count_X6_work : GoodIn wsX6_count (wsV RX6 270 RX6 yX6_work wsX6_work) := goodIn_app (goodIn_of _ (by decide +kernel)) ggX6_count_X6_work
set_option maxRecDepth 20000 in
theorem ggX6_count_X6_entryMany : GoodIn wsX6_count wsX6_entryMany := goodIn_r _ [116, 8, 42, 117, 118, 119, 120, 121, 122, 123, 124, 125, 126, 127, 128, 129, 130, 131, 132, 133, 134, 135, 136, 137, 138, 139, 140, 141, 142, 143, 144, 145, 146, 147, 148, 149, 150, 151, 152, 153, 154, 155, 156, 157, 158, 159, 160] (by decide +kernel) (by decide +kernel)
set_option maxRecDepth 20000 in
theorem gX6_count_X6_entryMany : GoodIn wsX6_count (wsV RX6 273 RX6 yX6_entryMany wsX6_entryMany) := goodIn_app (goodIn_of _ (by decide +kernel)) ggX6_count_X6_entryMany
theorem dX6_count_0 : decode cX6_count 0 = .ok (.iconst 0, 1) := by decide +kernel
theorem dX6_count_1 : decode cX6_count 1 = .ok (.istore_n 2, 1) := by decide +kernel
theorem dX6_count_2 : decode cX6_count 2 = .ok (.iconst 0, 1) := by decide +kernel
theorem dX6_count_3 : decode cX6_count 3 = .ok (.istore_n 3, 1) := by decide +kernel
theorem dX6_count_4 : decode cX6_count 4 = .ok (.iconst 0, 1) := by decide +kernel
theorem dX6_count_5 : decode cX6_count 5 = .ok (.istore 4, 2) := by decide +kernel
theorem dX6_count_7 : decode cX6_count 7 = .ok (.aload_n 0, 1) := by decide +kernel
theorem dX6_count_8 : decode cX6_count 8 = .ok (.aload_n 0, 1) := by decide +kernel
theorem dX6_count_9 : decode cX6_count 9 = .ok (.getfield 197, 3) := by decide +kernel
theorem dX6_count_12 : decode cX6_count 12 = .ok (.sipush 20000, 3) := by decide +kernel
theorem dX6_count_15 : decode cX6_count 15 = .ok (.invokevirtual 270, 3) := by decide +kernel
theorem dX6_count_18 : decode cX6_count 18 = .ok (.iconst 0, 1) := by decide +kernel
theorem dX6_count_19 : decode cX6_count 19 = .ok (.istore 5, 2) := by decide +kernel
theorem dX6_count_21 : decode cX6_count 21 = .ok (.iload 5, 2) := by decide +kernel
theorem dX6_count_23 : decode cX6_count 23 = .ok (.aload_n 0, 1) := by decide +kernel
theorem dX6_count_24 : decode cX6_count 24 = .ok (.getfield 197, 3) := by decide +kernel
theorem dX6_count_27 : decode cX6_count 27 = .ok (.if_icmp .ge 45, 3) := by decide +kernel
theorem dX6_count_30 : decode cX6_count 30 = .ok (.iload_n 2, 1) := by decide +kernel
theorem dX6_count_31 : decode cX6_count 31 = .ok (.aload_n 0, 1) := by decide +kernel
theorem dX6_count_32 : decode cX6_count 32 = .ok (.getfield 54, 3) := by decide +kernel
theorem dX6_count_35 : decode cX6_count 35 = .ok (.iload 5, 2) := by decide +kernel
theorem dX6_count_37 : decode cX6_count 37 = .ok (.baload, 1) := by decide +kernel
theorem dX6_count_38 : decode cX6_count 38 = .ok (.ifCond .eq 7, 3) := by decide +kernel
theorem dX6_count_41 : decode cX6_count 41 = .ok (.iconst 1, 1) := by decide +kernel
theorem dX6_count_42 : decode cX6_count 42 = .ok (.goto 4, 3) := by decide +kernel
theorem dX6_count_45 : decode cX6_count 45 = .ok (.iconst 0, 1) := by decide +kernel
theorem dX6_count_46 : decode cX6_count 46 = .ok (.iadd, 1) := by decide +kernel
theorem dX6_count_47 : decode cX6_count 47 = .ok (.istore_n 2, 1) := by decide +kernel
theorem dX6_count_48 : decode cX6_count 48 = .ok (.iload_n 3, 1) := by decide +kernel
theorem dX6_count_49 : decode cX6_count 49 = .ok (.aload_n 0, 1) := by decide +kernel
theorem dX6_count_50 : decode cX6_count 50 = .ok (.getfield 70, 3) := by decide +kernel
theorem dX6_count_53 : decode cX6_count 53 = .ok (.iload 5, 2) := by decide +kernel
theorem dX6_count_55 : decode cX6_count 55 = .ok (.iaload, 1) := by decide +kernel
theorem dX6_count_56 : decode cX6_count 56 = .ok (.ifCond .le 7, 3) := by decide +kernel
theorem dX6_count_59 : decode cX6_count 59 = .ok (.iconst 1, 1) := by decide +kernel
theorem dX6_count_60 : decode cX6_count 60 = .ok (.goto 4, 3) := by decide +kernel
theorem dX6_count_63 : decode cX6_count 63 = .ok (.iconst 0, 1) := by decide +kernel
theorem dX6_count_64 : decode cX6_count 64 = .ok (.iadd, 1) := by decide +kernel
theorem dX6_count_65 : decode cX6_count 65 = .ok (.istore_n 3, 1) := by decide +kernel
theorem dX6_count_66 : decode cX6_count 66 = .ok (.iinc 5 1, 3) := by decide +kernel
theorem dX6_count_69 : decode cX6_count 69 = .ok (.goto (-48), 3) := by decide +kernel
theorem dX6_count_72 : decode cX6_count 72 = .ok (.iconst 0, 1) := by decide +kernel
theorem dX6_count_73 : decode cX6_count 73 = .ok (.istore 5, 2) := by decide +kernel
theorem dX6_count_75 : decode cX6_count 75 = .ok (.iload 5, 2) := by decide +kernel
theorem dX6_count_77 : decode cX6_count 77 = .ok (.aload_n 0, 1) := by decide +kernel
theorem dX6_count_78 : decode cX6_count 78 = .ok (.getfield 134, 3) := by decide +kernel
theorem dX6_count_81 : decode cX6_count 81 = .ok (.if_icmp .ge 29, 3) := by decide +kernel
theorem dX6_count_84 : decode cX6_count 84 = .ok (.iload 4, 2) := by decide +kernel
theorem dX6_count_86 : decode cX6_count 86 = .ok (.aload_n 0, 1) := by decide +kernel
theorem dX6_count_87 : decode cX6_count 87 = .ok (.getfield 73, 3) := by decide +kernel
theorem dX6_count_90 : decode cX6_count 90 = .ok (.iload 5, 2) := by decide +kernel
theorem dX6_count_92 : decode cX6_count 92 = .ok (.baload, 1) := by decide +kernel
theorem dX6_count_93 : decode cX6_count 93 = .ok (.ifCond .eq 7, 3) := by decide +kernel
theorem dX6_count_96 : decode cX6_count 96 = .ok (.iconst 1, 1) := by decide +kernel
theorem dX6_count_97 : decode cX6_count 97 = .ok (.goto 4, 3) := by decide +kernel
theorem dX6_count_100 : decode cX6_count 100 = .ok (.iconst 0, 1) := by decide +kernel
theorem dX6_count_101 : decode cX6_count 101 = .ok (.iadd, 1) := by decide +kernel
theorem dX6_count_102 : decode cX6_count 102 = .ok (.istore 4, 2) := by decide +kernel
theorem dX6_count_104 : decode cX6_count 104 = .ok (.iinc 5 1, 3) := by decide +kernel
theorem dX6_count_107 : decode cX6_count 107 = .ok (.goto (-32), 3) := by decide +kernel
theorem dX6_count_110 : decode cX6_count 110 = .ok (.iload_n 1, 1) := by decide +kernel
theorem dX6_count_111 : decode cX6_count 111 = .ok (.tableswitch 107 0 10 #[57, 62, 67, 72, 74, 79, 84, 90, 96, 102, 105], 57) := by decide +kernel
theorem dX6_count_168 : decode cX6_count 168 = .ok (.aload_n 0, 1) := by decide +kernel
theorem dX6_count_169 : decode cX6_count 169 = .ok (.getfield 134, 3) := by decide +kernel
theorem dX6_count_172 : decode cX6_count 172 = .ok (.ireturn, 1) := by decide +kernel
theorem dX6_count_173 : decode cX6_count 173 = .ok (.aload_n 0, 1) := by decide +kernel
theorem dX6_count_174 : decode cX6_count 174 = .ok (.getfield 158, 3) := by decide +kernel
theorem dX6_count_177 : decode cX6_count 177 = .ok (.ireturn, 1) := by decide +kernel
theorem dX6_count_178 : decode cX6_count 178 = .ok (.aload_n 0, 1) := by decide +kernel
theorem dX6_count_179 : decode cX6_count 179 = .ok (.getfield 197, 3) := by decide +kernel
theorem dX6_count_182 : decode cX6_count 182 = .ok (.ireturn, 1) := by decide +kernel
theorem dX6_count_183 : decode cX6_count 183 = .ok (.iload_n 2, 1) := by decide +kernel
theorem dX6_count_184 : decode cX6_count 184 = .ok (.ireturn, 1) := by decide +kernel
theorem dX6_count_185 : decode cX6_count 185 = .ok (.aload_n 0, 1) := by decide +kernel
theorem dX6_count_186 : decode cX6_count 186 = .ok (.getfield 145, 3) := by decide +kernel
theorem dX6_count_189 : decode cX6_count 189 = .ok (.ireturn, 1) := by decide +kernel
theorem dX6_count_190 : decode cX6_count 190 = .ok (.aload_n 0, 1) := by decide +kernel
theorem dX6_count_191 : decode cX6_count 191 = .ok (.getfield 206, 3) := by decide +kernel
theorem dX6_count_194 : decode cX6_count 194 = .ok (.ireturn, 1) := by decide +kernel
theorem dX6_count_195 : decode cX6_count 195 = .ok (.aload_n 0, 1) := by decide +kernel
theorem dX6_count_196 : decode cX6_count 196 = .ok (.iconst 1, 1) := by decide +kernel
theorem dX6_count_197 : decode cX6_count 197 = .ok (.invokevirtual 273, 3) := by decide +kernel
theorem dX6_count_200 : decode cX6_count 200 = .ok (.ireturn, 1) := by decide +kernel
theorem dX6_count_201 : decode cX6_count 201 = .ok (.aload_n 0, 1) := by decide +kernel
theorem dX6_count_202 : decode cX6_count 202 = .ok (.iconst 2, 1) := by decide +kernel
theorem dX6_count_203 : decode cX6_count 203 = .ok (.invokevirtual 273, 3) := by decide +kernel
theorem dX6_count_206 : decode cX6_count 206 = .ok (.ireturn, 1) := by decide +kernel
theorem dX6_count_207 : decode cX6_count 207 = .ok (.aload_n 0, 1) := by decide +kernel
theorem dX6_count_208 : decode cX6_count 208 = .ok (.iconst 0, 1) := by decide +kernel
theorem dX6_count_209 : decode cX6_count 209 = .ok (.invokevirtual 273, 3) := by decide +kernel
theorem dX6_count_212 : decode cX6_count 212 = .ok (.ireturn, 1) := by decide +kernel
theorem dX6_count_213 : decode cX6_count 213 = .ok (.iload 4, 2) := by decide +kernel
theorem dX6_count_215 : decode cX6_count 215 = .ok (.ireturn, 1) := by decide +kernel
theorem dX6_count_216 : decode cX6_count 216 = .ok (.iload_n 3, 1) := by decide +kernel
theorem dX6_count_217 : decode cX6_count 217 = .ok (.ireturn, 1) := by decide +kernel
theorem dX6_count_218 : decode cX6_count 218 = .ok (.sipush (-1002), 3) := by decide +kernel
theorem dX6_count_221 : decode cX6_count 221 = .ok (.ireturn, 1) := by decide +kernel
set_option maxRecDepth 20000 in
theorem ggX6_stateOf_X6_isOdd : GoodIn wsX6_stateOf wsX6_isOdd := goodIn_r _ [7] (by decide +kernel) (by decide +kernel)
set_option maxRecDepth 20000 in
theorem gX6_stateOf_X6_isOdd : GoodIn wsX6_stateOf (va_wsS RX6 215 yX6_isOdd wsX6_isOdd) := goodIn_app (goodIn_of _ (by decide +kernel)) ggX6_stateOf_X6_isOdd
theorem dX6_stateOf_0 : decode cX6_stateOf 0 = .ok (.iload_n 2, 1) := by decide +kernel
theorem dX6_stateOf_1 : decode cX6_stateOf 1 = .ok (.ifCond .ge 24, 3) := by decide +kernel
theorem dX6_stateOf_4 : decode cX6_stateOf 4 = .ok (.iload_n 1, 1) := by decide +kernel
theorem dX6_stateOf_5 : decode cX6_stateOf 5 = .ok (.invokestatic 215, 3) := by decide +kernel
theorem dX6_stateOf_8 : decode cX6_stateOf 8 = .ok (.ifCond .eq 15, 3) := by decide +kernel
theorem dX6_stateOf_11 : decode cX6_stateOf 11 = .ok (.iload_n 3, 1) := by decide +kernel
theorem dX6_stateOf_12 : decode cX6_stateOf 12 = .ok (.aload_n 0, 1) := by decide +kernel
theorem dX6_stateOf_13 : decode cX6_stateOf 13 = .ok (.getfield 16, 3) := by decide +kernel
theorem dX6_stateOf_16 : decode cX6_stateOf 16 = .ok (.if_icmp .lt 7, 3) := by decide +kernel
theorem dX6_stateOf_19 : decode cX6_stateOf 19 = .ok (.iconst 4, 1) := by decide +kernel
theorem dX6_stateOf_20 : decode cX6_stateOf 20 = .ok (.goto 4, 3) := by decide +kernel
theorem dX6_stateOf_23 : decode cX6_stateOf 23 = .ok (.iconst 0, 1) := by decide +kernel
theorem dX6_stateOf_24 : decode cX6_stateOf 24 = .ok (.ireturn, 1) := by decide +kernel
theorem dX6_stateOf_25 : decode cX6_stateOf 25 = .ok (.aload_n 0, 1) := by decide +kernel
theorem dX6_stateOf_26 : decode cX6_stateOf 26 = .ok (.getfield 91, 3) := by decide +kernel
theorem dX6_stateOf_29 : decode cX6_stateOf 29 = .ok (.iload_n 2, 1) := by decide +kernel
theorem dX6_stateOf_30 : decode cX6_stateOf 30 = .ok (.iaload, 1) := by decide +kernel
theorem dX6_stateOf_31 : decode cX6_stateOf 31 = .ok (.iconst 1, 1) := by decide +kernel
theorem dX6_stateOf_32 : decode cX6_stateOf 32 = .ok (.if_icmp .ne 7, 3) := by decide +kernel
theorem dX6_stateOf_35 : decode cX6_stateOf 35 = .ok (.iconst 1, 1) := by decide +kernel
theorem dX6_stateOf_36 : decode cX6_stateOf 36 = .ok (.goto 18, 3) := by decide +kernel
theorem dX6_stateOf_39 : decode cX6_stateOf 39 = .ok (.aload_n 0, 1) := by decide +kernel
theorem dX6_stateOf_40 : decode cX6_stateOf 40 = .ok (.getfield 94, 3) := by decide +kernel
theorem dX6_stateOf_43 : decode cX6_stateOf 43 = .ok (.iload_n 2, 1) := by decide +kernel
theorem dX6_stateOf_44 : decode cX6_stateOf 44 = .ok (.iaload, 1) := by decide +kernel
theorem dX6_stateOf_45 : decode cX6_stateOf 45 = .ok (.iload_n 3, 1) := by decide +kernel
theorem dX6_stateOf_46 : decode cX6_stateOf 46 = .ok (.if_icmp .gt 7, 3) := by decide +kernel
theorem dX6_stateOf_49 : decode cX6_stateOf 49 = .ok (.iconst 3, 1) := by decide +kernel
theorem dX6_stateOf_50 : decode cX6_stateOf 50 = .ok (.goto 4, 3) := by decide +kernel
theorem dX6_stateOf_53 : decode cX6_stateOf 53 = .ok (.iconst 2, 1) := by decide +kernel
theorem dX6_stateOf_54 : decode cX6_stateOf 54 = .ok (.ireturn, 1) := by decide +kernel
set_option maxRecDepth 20000 in
theorem ggX6_holds_X6_isQuarter : GoodIn wsX6_holds wsX6_isQuarter := goodIn_r _ [8, 9, 10, 11, 7, 12] (by decide +kernel) (by decide +kernel)
set_option maxRecDepth 20000 in
theorem gX6_holds_X6_isQuarter : GoodIn wsX6_holds (va_wsS RX6 190 yX6_isQuarter wsX6_isQuarter) := goodIn_app (goodIn_of _ (by decide +kernel)) ggX6_holds_X6_isQuarter
set_option maxRecDepth 20000 in
theorem ggX6_holds_X6_isDay : GoodIn wsX6_holds wsX6_isDay := goodIn_r _ [15, 16, 10, 11, 7, 12] (by decide +kernel) (by decide +kernel)
set_option maxRecDepth 20000 in
theorem gX6_holds_X6_isDay : GoodIn wsX6_holds (va_wsS RX6 154 yX6_isDay wsX6_isDay) := goodIn_app (goodIn_of _ (by decide +kernel)) ggX6_holds_X6_isDay
set_option maxRecDepth 20000 in
theorem ggX6_holds_X6_isKnown : GoodIn wsX6_holds wsX6_isKnown := goodIn_r _ [20, 21, 22, 10, 11, 7, 12, 136, 137, 138, 139, 140, 141, 142, 143, 144, 145, 146, 147, 148, 149, 150, 151, 152, 153, 154, 155, 156, 157, 158, 159, 160, 161, 162, 163, 164, 165, 166, 167, 168, 169, 170, 171, 172, 173, 174, 175, 176, 177, 178, 179] (by decide +kernel) (by decide +kernel)
set_option maxRecDepth 20000 in
theorem gX6_holds_X6_isKnown : GoodIn wsX6_holds (wsV RX6 264 RX6 yX6_isKnown wsX6_isKnown) := goodIn_app (goodIn_of _ (by decide +kernel)) ggX6_holds_X6_isKnown
set_option maxRecDepth 20000 in
theorem ggX6_holds_X6_in : GoodIn wsX6_holds wsX6_in := goodIn_r _ [12] (by decide +kernel) (by decide +kernel)
set_option maxRecDepth 20000 in
theorem gX6_holds_X6_in : GoodIn wsX6_holds (va_wsS RX6 130 yX6_in wsX6_in) := goodIn_app (goodIn_of _ (by decide +kernel)) ggX6_holds_X6_in
set_option maxRecDepth 20000 in
theorem ggX6_holds_X6_first : GoodIn wsX6_holds wsX6_first := goodIn_r _ [26, 22, 136, 137, 138, 139, 140, 141, 142, 143, 144, 145, 146, 147, 148, 149, 150, 151, 152, 153, 154, 155, 156, 157, 158, 159, 160, 161, 162, 163, 164, 165, 166, 167, 168, 169, 170, 171, 172, 173, 174, 175, 176, 177, 178, 179] (by decide +kernel) (by decide +kernel)
set_option maxRecDepth 20000 in
theorem gX6_holds_X6_first : GoodIn wsX6_holds (wsV RX6 267 RX6 yX6_first wsX6_first) := goodIn_app (goodIn_of _ (by decide +kernel)) ggX6_holds_X6_first
set_option maxRecDepth 20000 in
theorem ggX6_holds_X6_work : GoodIn wsX6_holds wsX6_work := goodIn_r _ [30, 31, 32, 33, 34, 35, 36, 37, 38, 39, 40, 7, 41, 42, 4, 43, 44, 45, 46, 47, 48, 49, 50, 51, 52, 53, 54, 55, 56, 3, 57, 2, 58, 59, 60, 61, 62, 63, 64, 65, 66, 67, 68, 69, 70, 71, 72, 73, 74, 75, 76, 77, 78, 79, 80, 81, 82, 83, 84, 85, 86, 87, 88, 89, 90, 91, 92, 93, 94, 95, 96, 97, 98, 99, 100, 101, 102, 103, 104, 105, 106, 107, 108, 109, 110, 111, 112, 113, 114, 115, 116, 117, 118, 119, 120, 121, 122, 123, 124, 125, 126, 127, 128, 129, 130, 131, 136, 137, 138, 139, 140, 141, 142, 143, 144, 145, 146, 147, 148, 149, 150, 151, 152, 153, 154, 155, 156, 157, 158, 159, 160, 161, 162, 163, 164, 165, 166, 167, 168, 169, 170, 171, 172, 173, 174, 175, 176, 177, 178, 179] (by decide +kernel) (by decide +kernel)
set_option maxRecDepth 20000 in
theorem gX6_holds_X6_work : GoodIn wsX6_holds (wsV RX6 270 RX6 yX6_work wsX6_work) := goodIn_app (goodIn_of _ (by decide +kernel)) ggX6_holds_X6_work
set_option maxRecDepth 20000 in
theorem ggX6_holds_X6_entryOf : GoodIn wsX6_holds wsX6_entryOf := goodIn_r _ [84, 31, 60, 53, 3, 136, 137, 138, 139, 140, 141, 142, 143, 144, 145, 146, 147, 148, 149, 150, 151, 152, 153, 154, 155, 156, 157, 158, 159, 160, 161, 162, 163, 164, 165, 166, 167, 168, 169, 170, 171, 172, 173, 174, 175, 176, 177, 178, 179] (by decide +kernel) (by decide +kernel)
set_option maxRecDepth 20000 in
theorem gX6_holds_X6_entryOf : GoodIn wsX6_holds (wsV RX6 209 RX6 yX6_entryOf wsX6_entryOf) := goodIn_app (goodIn_of _ (by decide +kernel)) ggX6_holds_X6_entryOf
set_option maxRecDepth 20000 in
theorem ggX6_holds_X6_stateOf : GoodIn wsX6_holds wsX6_stateOf := goodIn_r _ [135, 56, 60, 61, 78, 79, 7, 80, 136, 137, 138, 139, 140, 141, 142, 143, 144, 145, 146, 147, 148, 149, 150, 151, 152, 153, 154, 155, 156, 157, 158, 159, 160, 161, 162, 163, 164, 165, 166, 167, 168, 169, 170, 171, 172, 173, 174, 175, 176, 177, 178, 179] (by decide +kernel) (by decide +kernel)
set_option maxRecDepth 20000 in
theorem gX6_holds_X6_stateOf : GoodIn wsX6_holds (wsV RX6 278 RX6 yX6_stateOf wsX6_stateOf) := goodIn_app (goodIn_of _ (by decide +kernel)) ggX6_holds_X6_stateOf
set_option maxRecDepth 20000 in
theorem ggX6_holds_X6_preferredOn : GoodIn wsX6_holds wsX6_preferredOn := goodIn_r _ [88, 34, 89, 136, 137, 138, 139, 140, 141, 142, 143, 144, 145, 146, 147, 148, 149, 150, 151, 152, 153, 154, 155, 156, 157, 158, 159, 160, 161, 162, 163, 164, 165, 166, 167, 168, 169, 170, 171, 172, 173, 174, 175, 176, 177, 178, 179] (by decide +kernel) (by decide +kernel)
set_option maxRecDepth 20000 in
theorem gX6_holds_X6_preferredOn : GoodIn wsX6_holds (wsV RX6 218 RX6 yX6_preferredOn wsX6_preferredOn) := goodIn_app (goodIn_of _ (by decide +kernel)) ggX6_holds_X6_preferredOn
set_option maxRecDepth 20000 in
theorem ggX6_holds_X6_acres : GoodIn wsX6_holds wsX6_acres := goodIn_r _ [127, 57, 35, 37, 48, 32, 53, 3, 58, 47, 111, 136, 137, 138, 139, 140, 141, 142, 143, 144, 145, 146, 147, 148, 149, 150, 151, 152, 153, 154, 155, 156, 157, 158, 159, 160, 161, 162, 163, 164, 165, 166, 167, 168, 169, 170, 171, 172, 173, 174, 175, 176, 177, 178, 179] (by decide +kernel) (by decide +kernel)
set_option maxRecDepth 20000 in
theorem gX6_holds_X6_acres : GoodIn wsX6_holds (wsV RX6 237 RX6 yX6_acres wsX6_acres) := goodIn_app (goodIn_of _ (by decide +kernel)) ggX6_holds_X6_acres
set_option maxRecDepth 20000 in
theorem ggX6_holds_X6_markLived : GoodIn wsX6_holds wsX6_markLived := goodIn_r _ [109, 110, 35, 37, 48, 32, 53, 3, 58, 47, 4, 111, 136, 137, 138, 139, 140, 141, 142, 143, 144, 145, 146, 147, 148, 149, 150, 151, 152, 153, 154, 155, 156, 157, 158, 159, 160, 161, 162, 163, 164, 165, 166, 167, 168, 169, 170, 171, 172, 173, 174, 175, 176, 177, 178, 179] (by decide +kernel) (by decide +kernel)
set_option maxRecDepth 20000 in
theorem gX6_holds_X6_markLived : GoodIn wsX6_holds (wsV RX6 227 RX6 yX6_markLived wsX6_markLived) := goodIn_app (goodIn_of _ (by decide +kernel)) ggX6_holds_X6_markLived
set_option maxRecDepth 20000 in
theorem ggX6_holds_X6_livedDays : GoodIn wsX6_holds wsX6_livedDays := goodIn_r _ [115, 110, 136, 137, 138, 139, 140, 141, 142, 143, 144, 145, 146, 147, 148, 149, 150, 151, 152, 153, 154, 155, 156, 157, 158, 159, 160, 161, 162, 163, 164, 165, 166, 167, 168, 169, 170, 171, 172, 173, 174, 175, 176, 177, 178, 179] (by decide +kernel) (by decide +kernel)
set_option maxRecDepth 20000 in
theorem gX6_holds_X6_livedDays : GoodIn wsX6_holds (wsV RX6 231 RX6 yX6_livedDays wsX6_livedDays) := goodIn_app (goodIn_of _ (by decide +kernel)) ggX6_holds_X6_livedDays
theorem dX6_holds_0 : decode cX6_holds 0 = .ok (.iload_n 1, 1) := by decide +kernel
theorem dX6_holds_1 : decode cX6_holds 1 = .ok (.invokestatic 190, 3) := by decide +kernel
theorem dX6_holds_4 : decode cX6_holds 4 = .ok (.ifCond .ne 7, 3) := by decide +kernel
theorem dX6_holds_7 : decode cX6_holds 7 = .ok (.sipush (-1001), 3) := by decide +kernel
theorem dX6_holds_10 : decode cX6_holds 10 = .ok (.ireturn, 1) := by decide +kernel
theorem dX6_holds_11 : decode cX6_holds 11 = .ok (.iload_n 2, 1) := by decide +kernel
theorem dX6_holds_12 : decode cX6_holds 12 = .ok (.invokestatic 154, 3) := by decide +kernel
theorem dX6_holds_15 : decode cX6_holds 15 = .ok (.ifCond .eq 24, 3) := by decide +kernel
theorem dX6_holds_18 : decode cX6_holds 18 = .ok (.aload_n 0, 1) := by decide +kernel
theorem dX6_holds_19 : decode cX6_holds 19 = .ok (.iload_n 3, 1) := by decide +kernel
theorem dX6_holds_20 : decode cX6_holds 20 = .ok (.invokevirtual 264, 3) := by decide +kernel
theorem dX6_holds_23 : decode cX6_holds 23 = .ok (.ifCond .eq 16, 3) := by decide +kernel
theorem dX6_holds_26 : decode cX6_holds 26 = .ok (.iload 4, 2) := by decide +kernel
theorem dX6_holds_28 : decode cX6_holds 28 = .ok (.i2l, 1) := by decide +kernel
theorem dX6_holds_29 : decode cX6_holds 29 = .ok (.lconst 0, 1) := by decide +kernel
theorem dX6_holds_30 : decode cX6_holds 30 = .ok (.ldc2_w 276, 3) := by decide +kernel
theorem dX6_holds_33 : decode cX6_holds 33 = .ok (.invokestatic 130, 3) := by decide +kernel
theorem dX6_holds_36 : decode cX6_holds 36 = .ok (.ifCond .ne 7, 3) := by decide +kernel
theorem dX6_holds_39 : decode cX6_holds 39 = .ok (.sipush (-1002), 3) := by decide +kernel
theorem dX6_holds_42 : decode cX6_holds 42 = .ok (.ireturn, 1) := by decide +kernel
theorem dX6_holds_43 : decode cX6_holds 43 = .ok (.aload_n 0, 1) := by decide +kernel
theorem dX6_holds_44 : decode cX6_holds 44 = .ok (.aload_n 0, 1) := by decide +kernel
theorem dX6_holds_45 : decode cX6_holds 45 = .ok (.iload_n 3, 1) := by decide +kernel
theorem dX6_holds_46 : decode cX6_holds 46 = .ok (.invokevirtual 267, 3) := by decide +kernel
theorem dX6_holds_49 : decode cX6_holds 49 = .ok (.iload_n 2, 1) := by decide +kernel
theorem dX6_holds_50 : decode cX6_holds 50 = .ok (.invokevirtual 270, 3) := by decide +kernel
theorem dX6_holds_53 : decode cX6_holds 53 = .ok (.aload_n 0, 1) := by decide +kernel
theorem dX6_holds_54 : decode cX6_holds 54 = .ok (.iload_n 1, 1) := by decide +kernel
theorem dX6_holds_55 : decode cX6_holds 55 = .ok (.invokevirtual 209, 3) := by decide +kernel
theorem dX6_holds_58 : decode cX6_holds 58 = .ok (.istore 5, 2) := by decide +kernel
theorem dX6_holds_60 : decode cX6_holds 60 = .ok (.iload 4, 2) := by decide +kernel
theorem dX6_holds_62 : decode cX6_holds 62 = .ok (.tableswitch 104 0 5 #[38, 55, 64, 81, 104, 88], 38) := by decide +kernel
theorem dX6_holds_100 : decode cX6_holds 100 = .ok (.iload 5, 2) := by decide +kernel
theorem dX6_holds_102 : decode cX6_holds 102 = .ok (.ifCond .ge 7, 3) := by decide +kernel
theorem dX6_holds_105 : decode cX6_holds 105 = .ok (.iconst (-1), 1) := by decide +kernel
theorem dX6_holds_106 : decode cX6_holds 106 = .ok (.goto 10, 3) := by decide +kernel
theorem dX6_holds_109 : decode cX6_holds 109 = .ok (.aload_n 0, 1) := by decide +kernel
theorem dX6_holds_110 : decode cX6_holds 110 = .ok (.getfield 82, 3) := by decide +kernel
theorem dX6_holds_113 : decode cX6_holds 113 = .ok (.iload 5, 2) := by decide +kernel
theorem dX6_holds_115 : decode cX6_holds 115 = .ok (.iaload, 1) := by decide +kernel
theorem dX6_holds_116 : decode cX6_holds 116 = .ok (.ireturn, 1) := by decide +kernel
theorem dX6_holds_117 : decode cX6_holds 117 = .ok (.aload_n 0, 1) := by decide +kernel
theorem dX6_holds_118 : decode cX6_holds 118 = .ok (.iload_n 1, 1) := by decide +kernel
theorem dX6_holds_119 : decode cX6_holds 119 = .ok (.iload 5, 2) := by decide +kernel
theorem dX6_holds_121 : decode cX6_holds 121 = .ok (.iload_n 2, 1) := by decide +kernel
theorem dX6_holds_122 : decode cX6_holds 122 = .ok (.invokevirtual 278, 3) := by decide +kernel
theorem dX6_holds_125 : decode cX6_holds 125 = .ok (.ireturn, 1) := by decide +kernel
theorem dX6_holds_126 : decode cX6_holds 126 = .ok (.iload 5, 2) := by decide +kernel
theorem dX6_holds_128 : decode cX6_holds 128 = .ok (.ifCond .ge 7, 3) := by decide +kernel
theorem dX6_holds_131 : decode cX6_holds 131 = .ok (.iconst (-1), 1) := by decide +kernel
theorem dX6_holds_132 : decode cX6_holds 132 = .ok (.goto 10, 3) := by decide +kernel
theorem dX6_holds_135 : decode cX6_holds 135 = .ok (.aload_n 0, 1) := by decide +kernel
theorem dX6_holds_136 : decode cX6_holds 136 = .ok (.getfield 76, 3) := by decide +kernel
theorem dX6_holds_139 : decode cX6_holds 139 = .ok (.iload 5, 2) := by decide +kernel
theorem dX6_holds_141 : decode cX6_holds 141 = .ok (.iaload, 1) := by decide +kernel
theorem dX6_holds_142 : decode cX6_holds 142 = .ok (.ireturn, 1) := by decide +kernel
theorem dX6_holds_143 : decode cX6_holds 143 = .ok (.aload_n 0, 1) := by decide +kernel
theorem dX6_holds_144 : decode cX6_holds 144 = .ok (.iload_n 1, 1) := by decide +kernel
theorem dX6_holds_145 : decode cX6_holds 145 = .ok (.iload_n 2, 1) := by decide +kernel
theorem dX6_holds_146 : decode cX6_holds 146 = .ok (.invokevirtual 218, 3) := by decide +kernel
theorem dX6_holds_149 : decode cX6_holds 149 = .ok (.ireturn, 1) := by decide +kernel
theorem dX6_holds_150 : decode cX6_holds 150 = .ok (.iload 5, 2) := by decide +kernel
theorem dX6_holds_152 : decode cX6_holds 152 = .ok (.ifCond .ge 7, 3) := by decide +kernel
theorem dX6_holds_155 : decode cX6_holds 155 = .ok (.iconst 0, 1) := by decide +kernel
theorem dX6_holds_156 : decode cX6_holds 156 = .ok (.goto 9, 3) := by decide +kernel
theorem dX6_holds_159 : decode cX6_holds 159 = .ok (.aload_n 0, 1) := by decide +kernel
theorem dX6_holds_160 : decode cX6_holds 160 = .ok (.iload 5, 2) := by decide +kernel
theorem dX6_holds_162 : decode cX6_holds 162 = .ok (.invokevirtual 237, 3) := by decide +kernel
theorem dX6_holds_165 : decode cX6_holds 165 = .ok (.ireturn, 1) := by decide +kernel
theorem dX6_holds_166 : decode cX6_holds 166 = .ok (.iload 5, 2) := by decide +kernel
theorem dX6_holds_168 : decode cX6_holds 168 = .ok (.ifCond .ge 5, 3) := by decide +kernel
theorem dX6_holds_171 : decode cX6_holds 171 = .ok (.iconst 0, 1) := by decide +kernel
theorem dX6_holds_172 : decode cX6_holds 172 = .ok (.ireturn, 1) := by decide +kernel
theorem dX6_holds_173 : decode cX6_holds 173 = .ok (.aload_n 0, 1) := by decide +kernel
theorem dX6_holds_174 : decode cX6_holds 174 = .ok (.iload 5, 2) := by decide +kernel
theorem dX6_holds_176 : decode cX6_holds 176 = .ok (.invokevirtual 227, 3) := by decide +kernel
theorem dX6_holds_179 : decode cX6_holds 179 = .ok (.aload_n 0, 1) := by decide +kernel
theorem dX6_holds_180 : decode cX6_holds 180 = .ok (.aload_n 0, 1) := by decide +kernel
theorem dX6_holds_181 : decode cX6_holds 181 = .ok (.getfield 39, 3) := by decide +kernel
theorem dX6_holds_184 : decode cX6_holds 184 = .ok (.aload_n 0, 1) := by decide +kernel
theorem dX6_holds_185 : decode cX6_holds 185 = .ok (.getfield 76, 3) := by decide +kernel
theorem dX6_holds_188 : decode cX6_holds 188 = .ok (.iload 5, 2) := by decide +kernel
theorem dX6_holds_190 : decode cX6_holds 190 = .ok (.iaload, 1) := by decide +kernel
theorem dX6_holds_191 : decode cX6_holds 191 = .ok (.iaload, 1) := by decide +kernel
theorem dX6_holds_192 : decode cX6_holds 192 = .ok (.iload_n 2, 1) := by decide +kernel
theorem dX6_holds_193 : decode cX6_holds 193 = .ok (.invokevirtual 231, 3) := by decide +kernel
theorem dX6_holds_196 : decode cX6_holds 196 = .ok (.ireturn, 1) := by decide +kernel
set_option maxRecDepth 20000 in
theorem ggX6_holderOf_X6_entryOf : GoodIn wsX6_holderOf wsX6_entryOf := goodIn_r _ [6, 7, 8, 9, 10, 11, 12, 13, 14, 15, 16, 17, 18, 19, 20, 21, 22, 23, 24, 25, 26, 27, 28, 29, 30, 31, 32, 33, 34, 35, 36, 37, 38, 39, 40, 41, 42, 43, 44, 45, 46, 47, 48, 49, 50, 51, 52, 53, 54] (by decide +kernel) (by decide +kernel)
set_option maxRecDepth 20000 in
theorem gX6_holderOf_X6_entryOf : GoodIn wsX6_holderOf (wsV RX6 209 RX6 yX6_entryOf wsX6_entryOf) := goodIn_app (goodIn_of _ (by decide +kernel)) ggX6_holderOf_X6_entryOf
theorem dX6_holderOf_0 : decode cX6_holderOf 0 = .ok (.aload_n 0, 1) := by decide +kernel
theorem dX6_holderOf_1 : decode cX6_holderOf 1 = .ok (.iload_n 1, 1) := by decide +kernel
theorem dX6_holderOf_2 : decode cX6_holderOf 2 = .ok (.invokevirtual 209, 3) := by decide +kernel
theorem dX6_holderOf_5 : decode cX6_holderOf 5 = .ok (.istore_n 2, 1) := by decide +kernel
theorem dX6_holderOf_6 : decode cX6_holderOf 6 = .ok (.iload_n 2, 1) := by decide +kernel
theorem dX6_holderOf_7 : decode cX6_holderOf 7 = .ok (.ifCond .ge 7, 3) := by decide +kernel
theorem dX6_holderOf_10 : decode cX6_holderOf 10 = .ok (.iconst (-1), 1) := by decide +kernel
theorem dX6_holderOf_11 : decode cX6_holderOf 11 = .ok (.goto 9, 3) := by decide +kernel
theorem dX6_holderOf_14 : decode cX6_holderOf 14 = .ok (.aload_n 0, 1) := by decide +kernel
theorem dX6_holderOf_15 : decode cX6_holderOf 15 = .ok (.getfield 82, 3) := by decide +kernel
theorem dX6_holderOf_18 : decode cX6_holderOf 18 = .ok (.iload_n 2, 1) := by decide +kernel
theorem dX6_holderOf_19 : decode cX6_holderOf 19 = .ok (.iaload, 1) := by decide +kernel
theorem dX6_holderOf_20 : decode cX6_holderOf 20 = .ok (.ireturn, 1) := by decide +kernel
set_option maxRecDepth 20000 in
theorem ggX6_holdings_X6_isPerson : GoodIn wsX6_holdings wsX6_isPerson := goodIn_r _ [5, 6, 7, 8, 4, 9, 132, 133, 134, 135, 136, 137, 138, 139, 140, 141, 142, 143, 144, 145, 146, 147, 148, 149, 150, 151, 152, 153, 154, 155, 156, 157, 158, 159, 160, 161, 162, 163, 164, 165, 166, 167, 168, 169, 170, 171, 172, 173, 174, 175] (by decide +kernel) (by decide +kernel)
set_option maxRecDepth 20000 in
theorem gX6_holdings_X6_isPerson : GoodIn wsX6_holdings (wsV RX6 187 RX6 yX6_isPerson wsX6_isPerson) := goodIn_app (goodIn_of _ (by decide +kernel)) ggX6_holdings_X6_isPerson
set_option maxRecDepth 20000 in
theorem ggX6_holdings_X6_isKnown : GoodIn wsX6_holdings wsX6_isKnown := goodIn_r _ [13, 14, 15, 7, 8, 4, 9, 132, 133, 134, 135, 136, 137, 138, 139, 140, 141, 142, 143, 144, 145, 146, 147, 148, 149, 150, 151, 152, 153, 154, 155, 156, 157, 158, 159, 160, 161, 162, 163, 164, 165, 166, 167, 168, 169, 170, 171, 172, 173, 174, 175] (by decide +kernel) (by decide +kernel)
set_option maxRecDepth 20000 in
theorem gX6_holdings_X6_isKnown : GoodIn wsX6_holdings (wsV RX6 264 RX6 yX6_isKnown wsX6_isKnown) := goodIn_app (goodIn_of _ (by decide +kernel)) ggX6_holdings_X6_isKnown
set_option maxRecDepth 20000 in
theorem ggX6_holdings_X6_first : GoodIn wsX6_holdings wsX6_first := goodIn_r _ [19, 15, 132, 133, 134, 135, 136, 137, 138, 139, 140, 141, 142, 143, 144, 145, 146, 147, 148, 149, 150, 151, 152, 153, 154, 155, 156, 157, 158, 159, 160, 161, 162, 163, 164, 165, 166, 167, 168, 169, 170, 171, 172, 173, 174, 175] (by decide +kernel) (by decide +kernel)
set_option maxRecDepth 20000 in
theorem gX6_holdings_X6_first : GoodIn wsX6_holdings (wsV RX6 267 RX6 yX6_first wsX6_first) := goodIn_app (goodIn_of _ (by decide +kernel)) ggX6_holdings_X6_first
set_option maxRecDepth 20000 in
theorem ggX6_holdings_X6_work : GoodIn wsX6_holdings wsX6_work := goodIn_r _ [23, 24, 25, 26, 27, 28, 29, 30, 31, 32, 33, 4, 34, 35, 36, 37, 38, 39, 40, 41, 42, 43, 44, 45, 46, 47, 48, 49, 50, 51, 52, 53, 54, 55, 56, 57, 58, 59, 60, 61, 62, 63, 64, 65, 66, 67, 68, 69, 70, 71, 72, 73, 74, 75, 76, 77, 78, 79, 80, 81, 82, 83, 84, 85, 86, 87, 88, 89, 90, 91, 92, 93, 94, 95, 96, 97, 98, 99, 100, 101, 102, 103, 104, 105, 106, 107, 108, 109, 110, 111, 112, 113, 114, 115, 116, 117, 118, 119, 120, 121, 122, 123, 124, 125, 126, 127, 132, 133, 134, 135, 136, 137, 138, 139, 140, 141, 142, 143, 144, 145, 146, 147, 148, 149, 150, 151, 152, 153, 154, 155, 156, 157, 158, 159, 160, 161, 162, 163, 164, 165, 166, 167, 168, 169, 170, 171, 172, 173, 174, 175] (by decide +kernel) (by decide +kernel)
set_option maxRecDepth 20000 in
theorem gX6_holdings_X6_work : GoodIn wsX6_holdings (wsV RX6 270 RX6 yX6_work wsX6_work) := goodIn_app (goodIn_of _ (by decide +kernel)) ggX6_holdings_X6_work
set_option maxRecDepth 20000 in
theorem ggX6_holdings_X6_holderOf : GoodIn wsX6_holdings wsX6_holderOf := goodIn_r _ [131, 53, 77, 78, 79, 4, 80, 24, 56, 47, 51, 132, 133, 134, 135, 136, 137, 138, 139, 140, 141, 142, 143, 144, 145, 146, 147, 148, 149, 150, 151, 152, 153, 154, 155, 156, 157, 158, 159, 160, 161, 162, 163, 164, 165, 166, 167, 168, 169, 170, 171, 172, 173, 174, 175] (by decide +kernel) (by decide +kernel)
set_option maxRecDepth 20000 in
theorem gX6_holdings_X6_holderOf : GoodIn wsX6_holdings (wsV RX6 282 RX6 yX6_holderOf wsX6_holderOf) := goodIn_app (goodIn_of _ (by decide +kernel)) ggX6_holdings_X6_holderOf
theorem dX6_holdings_0 : decode cX6_holdings 0 = .ok (.aload_n 0, 1) := by decide +kernel
theorem dX6_holdings_1 : decode cX6_holdings 1 = .ok (.iload_n 1, 1) := by decide +kernel
theorem dX6_holdings_2 : decode cX6_holdings 2 = .ok (.invokevirtual 187, 3) := by decide +kernel
theorem dX6_holdings_5 : decode cX6_holdings 5 = .ok (.ifCond .ne 7, 3) := by decide +kernel
theorem dX6_holdings_8 : decode cX6_holdings 8 = .ok (.sipush (-1001), 3) := by decide +kernel
theorem dX6_holdings_11 : decode cX6_holdings 11 = .ok (.ireturn, 1) := by decide +kernel
theorem dX6_holdings_12 : decode cX6_holdings 12 = .ok (.aload_n 0, 1) := by decide +kernel
theorem dX6_holdings_13 : decode cX6_holdings 13 = .ok (.iload_n 2, 1) := by decide +kernel
theorem dX6_holdings_14 : decode cX6_holdings 14 = .ok (.invokevirtual 264, 3) := by decide +kernel
theorem dX6_holdings_17 : decode cX6_holdings 17 = .ok (.ifCond .ne 7, 3) := by decide +kernel
theorem dX6_holdings_20 : decode cX6_holdings 20 = .ok (.sipush (-1002), 3) := by decide +kernel
theorem dX6_holdings_23 : decode cX6_holdings 23 = .ok (.ireturn, 1) := by decide +kernel
theorem dX6_holdings_24 : decode cX6_holdings 24 = .ok (.aload_n 0, 1) := by decide +kernel
theorem dX6_holdings_25 : decode cX6_holdings 25 = .ok (.aload_n 0, 1) := by decide +kernel
theorem dX6_holdings_26 : decode cX6_holdings 26 = .ok (.iload_n 2, 1) := by decide +kernel
theorem dX6_holdings_27 : decode cX6_holdings 27 = .ok (.invokevirtual 267, 3) := by decide +kernel
theorem dX6_holdings_30 : decode cX6_holdings 30 = .ok (.sipush 20000, 3) := by decide +kernel
theorem dX6_holdings_33 : decode cX6_holdings 33 = .ok (.invokevirtual 270, 3) := by decide +kernel
theorem dX6_holdings_36 : decode cX6_holdings 36 = .ok (.iconst 0, 1) := by decide +kernel
theorem dX6_holdings_37 : decode cX6_holdings 37 = .ok (.istore_n 3, 1) := by decide +kernel
theorem dX6_holdings_38 : decode cX6_holdings 38 = .ok (.iconst 0, 1) := by decide +kernel
theorem dX6_holdings_39 : decode cX6_holdings 39 = .ok (.istore 4, 2) := by decide +kernel
theorem dX6_holdings_41 : decode cX6_holdings 41 = .ok (.iload 4, 2) := by decide +kernel
theorem dX6_holdings_43 : decode cX6_holdings 43 = .ok (.bipush 64, 2) := by decide +kernel
theorem dX6_holdings_45 : decode cX6_holdings 45 = .ok (.if_icmp .ge 27, 3) := by decide +kernel
theorem dX6_holdings_48 : decode cX6_holdings 48 = .ok (.iload_n 3, 1) := by decide +kernel
theorem dX6_holdings_49 : decode cX6_holdings 49 = .ok (.aload_n 0, 1) := by decide +kernel
theorem dX6_holdings_50 : decode cX6_holdings 50 = .ok (.iload 4, 2) := by decide +kernel
theorem dX6_holdings_52 : decode cX6_holdings 52 = .ok (.invokevirtual 282, 3) := by decide +kernel
theorem dX6_holdings_55 : decode cX6_holdings 55 = .ok (.iload_n 1, 1) := by decide +kernel
theorem dX6_holdings_56 : decode cX6_holdings 56 = .ok (.if_icmp .ne 7, 3) := by decide +kernel
theorem dX6_holdings_59 : decode cX6_holdings 59 = .ok (.iconst 1, 1) := by decide +kernel
theorem dX6_holdings_60 : decode cX6_holdings 60 = .ok (.goto 4, 3) := by decide +kernel
theorem dX6_holdings_63 : decode cX6_holdings 63 = .ok (.iconst 0, 1) := by decide +kernel
theorem dX6_holdings_64 : decode cX6_holdings 64 = .ok (.iadd, 1) := by decide +kernel
theorem dX6_holdings_65 : decode cX6_holdings 65 = .ok (.istore_n 3, 1) := by decide +kernel
theorem dX6_holdings_66 : decode cX6_holdings 66 = .ok (.iinc 4 1, 3) := by decide +kernel
theorem dX6_holdings_69 : decode cX6_holdings 69 = .ok (.goto (-28), 3) := by decide +kernel
theorem dX6_holdings_72 : decode cX6_holdings 72 = .ok (.iload_n 3, 1) := by decide +kernel
theorem dX6_holdings_73 : decode cX6_holdings 73 = .ok (.ireturn, 1) := by decide +kernel
set_option maxRecDepth 20000 in
theorem ggX6_digest_X6_isKnown : GoodIn wsX6_digest wsX6_isKnown := goodIn_r _ [6, 7, 8, 9, 10, 5, 11, 127, 128, 129, 130, 131, 132, 133, 134, 135, 136, 137, 138, 139, 140, 141, 142, 143, 144, 145, 146, 147, 148, 149, 150, 151, 152, 153, 154, 155, 156, 157, 158, 159, 160, 161, 162, 163, 164, 165, 166, 167, 168, 169, 170] (by decide +kernel) (by decide +kernel)
set_option maxRecDepth 20000 in
theorem gX6_digest_X6_isKnown : GoodIn wsX6_digest (wsV RX6 264 RX6 yX6_isKnown wsX6_isKnown) := goodIn_app (goodIn_of _ (by decide +kernel)) ggX6_digest_X6_isKnown
set_option maxRecDepth 20000 in
theorem ggX6_digest_X6_first : GoodIn wsX6_digest wsX6_first := goodIn_r _ [15, 8, 127, 128, 129, 130, 131, 132, 133, 134, 135, 136, 137, 138, 139, 140, 141, 142, 143, 144, 145, 146, 147, 148, 149, 150, 151, 152, 153, 154, 155, 156, 157, 158, 159, 160, 161, 162, 163, 164, 165, 166, 167, 168, 169, 170] (by decide +kernel) (by decide +kernel)
set_option maxRecDepth 20000 in
theorem gX6_digest_X6_first : GoodIn wsX6_digest (wsV RX6 267 RX6 yX6_first wsX6_first) := goodIn_app (goodIn_of _ (by decide +kernel)) ggX6_digest_X6_first
set_option maxRecDepth 20000 in
theorem ggX6_digest_X6_work : GoodIn wsX6_digest wsX6_work := goodIn_r _ [19, 20, 1, 21, 22, 23, 24, 25, 26, 27, 28, 5, 29, 30, 31, 32, 33, 34, 35, 36, 37, 38, 39, 40, 41, 42, 43, 44, 45, 46, 47, 48, 49, 50, 51, 52, 53, 54, 55, 56, 57, 58, 59, 60, 61, 62, 63, 64, 65, 66, 67, 68, 69, 70, 71, 72, 73, 74, 75, 76, 77, 78, 79, 80, 81, 82, 83, 84, 85, 86, 87, 88, 89, 90, 91, 92, 93, 94, 95, 96, 97, 98, 99, 100, 101, 102, 103, 104, 105, 106, 107, 108, 109, 110, 111, 112, 113, 114, 115, 116, 117, 118, 119, 120, 121, 122, 127, 128, 129, 130, 131, 132, 133, 134, 135, 136, 137, 138, 139, 140, 141, 142, 143, 144, 145, 146, 147, 148, 149, 150, 151, 152, 153, 154, 155, 156, 157, 158, 159, 160, 161, 162, 163, 164, 165, 166, 167, 168, 169, 170] (by decide +kernel) (by decide +kernel)
set_option maxRecDepth 20000 in
theorem gX6_digest_X6_work : GoodIn wsX6_digest (wsV RX6 270 RX6 yX6_work wsX6_work) := goodIn_app (goodIn_of _ (by decide +kernel)) ggX6_digest_X6_work
set_option maxRecDepth 20000 in
theorem ggX6_digest_X6_holderOf : GoodIn wsX6_digest wsX6_holderOf := goodIn_r _ [126, 48, 72, 73, 74, 5, 75, 20, 51, 42, 46, 127, 128, 129, 130, 131, 132, 133, 134, 135, 136, 137, 138, 139, 140, 141, 142, 143, 144, 145, 146, 147, 148, 149, 150, 151, 152, 153, 154, 155, 156, 157, 158, 159, 160, 161, 162, 163, 164, 165, 166, 167, 168, 169, 170] (by decide +kernel) (by decide +kernel)
set_option maxRecDepth 20000 in
theorem gX6_digest_X6_holderOf : GoodIn wsX6_digest (wsV RX6 282 RX6 yX6_holderOf wsX6_holderOf) := goodIn_app (goodIn_of _ (by decide +kernel)) ggX6_digest_X6_holderOf
theorem dX6_digest_0 : decode cX6_digest 0 = .ok (.aload_n 0, 1) := by decide +kernel
theorem dX6_digest_1 : decode cX6_digest 1 = .ok (.iload_n 1, 1) := by decide +kernel
theorem dX6_digest_2 : decode cX6_digest 2 = .ok (.invokevirtual 264, 3) := by decide +kernel
theorem dX6_digest_5 : decode cX6_digest 5 = .ok (.ifCond .ne 7, 3) := by decide +kernel
theorem dX6_digest_8 : decode cX6_digest 8 = .ok (.sipush (-1002), 3) := by decide +kernel
theorem dX6_digest_11 : decode cX6_digest 11 = .ok (.ireturn, 1) := by decide +kernel
theorem dX6_digest_12 : decode cX6_digest 12 = .ok (.aload_n 0, 1) := by decide +kernel
theorem dX6_digest_13 : decode cX6_digest 13 = .ok (.iload_n 1, 1) := by decide +kernel
theorem dX6_digest_14 : decode cX6_digest 14 = .ok (.invokevirtual 267, 3) := by decide +kernel
theorem dX6_digest_17 : decode cX6_digest 17 = .ok (.istore_n 2, 1) := by decide +kernel
theorem dX6_digest_18 : decode cX6_digest 18 = .ok (.aload_n 0, 1) := by decide +kernel
theorem dX6_digest_19 : decode cX6_digest 19 = .ok (.iload_n 2, 1) := by decide +kernel
theorem dX6_digest_20 : decode cX6_digest 20 = .ok (.sipush 20000, 3) := by decide +kernel
theorem dX6_digest_23 : decode cX6_digest 23 = .ok (.invokevirtual 270, 3) := by decide +kernel
theorem dX6_digest_26 : decode cX6_digest 26 = .ok (.bipush 7, 2) := by decide +kernel
theorem dX6_digest_28 : decode cX6_digest 28 = .ok (.istore_n 3, 1) := by decide +kernel
theorem dX6_digest_29 : decode cX6_digest 29 = .ok (.iconst 0, 1) := by decide +kernel
theorem dX6_digest_30 : decode cX6_digest 30 = .ok (.istore 4, 2) := by decide +kernel
theorem dX6_digest_32 : decode cX6_digest 32 = .ok (.iload 4, 2) := by decide +kernel
theorem dX6_digest_34 : decode cX6_digest 34 = .ok (.iload_n 2, 1) := by decide +kernel
theorem dX6_digest_35 : decode cX6_digest 35 = .ok (.if_icmp .ge 22, 3) := by decide +kernel
theorem dX6_digest_38 : decode cX6_digest 38 = .ok (.bipush 31, 2) := by decide +kernel
theorem dX6_digest_40 : decode cX6_digest 40 = .ok (.iload_n 3, 1) := by decide +kernel
theorem dX6_digest_41 : decode cX6_digest 41 = .ok (.imul, 1) := by decide +kernel
theorem dX6_digest_42 : decode cX6_digest 42 = .ok (.aload_n 0, 1) := by decide +kernel
theorem dX6_digest_43 : decode cX6_digest 43 = .ok (.getfield 70, 3) := by decide +kernel
theorem dX6_digest_46 : decode cX6_digest 46 = .ok (.iload 4, 2) := by decide +kernel
theorem dX6_digest_48 : decode cX6_digest 48 = .ok (.iaload, 1) := by decide +kernel
theorem dX6_digest_49 : decode cX6_digest 49 = .ok (.iadd, 1) := by decide +kernel
theorem dX6_digest_50 : decode cX6_digest 50 = .ok (.istore_n 3, 1) := by decide +kernel
theorem dX6_digest_51 : decode cX6_digest 51 = .ok (.iinc 4 1, 3) := by decide +kernel
theorem dX6_digest_54 : decode cX6_digest 54 = .ok (.goto (-22), 3) := by decide +kernel
theorem dX6_digest_57 : decode cX6_digest 57 = .ok (.iconst 0, 1) := by decide +kernel
theorem dX6_digest_58 : decode cX6_digest 58 = .ok (.istore 4, 2) := by decide +kernel
theorem dX6_digest_60 : decode cX6_digest 60 = .ok (.iload 4, 2) := by decide +kernel
theorem dX6_digest_62 : decode cX6_digest 62 = .ok (.bipush 64, 2) := by decide +kernel
theorem dX6_digest_64 : decode cX6_digest 64 = .ok (.if_icmp .ge 21, 3) := by decide +kernel
theorem dX6_digest_67 : decode cX6_digest 67 = .ok (.bipush 31, 2) := by decide +kernel
theorem dX6_digest_69 : decode cX6_digest 69 = .ok (.iload_n 3, 1) := by decide +kernel
theorem dX6_digest_70 : decode cX6_digest 70 = .ok (.imul, 1) := by decide +kernel
theorem dX6_digest_71 : decode cX6_digest 71 = .ok (.aload_n 0, 1) := by decide +kernel
theorem dX6_digest_72 : decode cX6_digest 72 = .ok (.iload 4, 2) := by decide +kernel
theorem dX6_digest_74 : decode cX6_digest 74 = .ok (.invokevirtual 282, 3) := by decide +kernel
theorem dX6_digest_77 : decode cX6_digest 77 = .ok (.iadd, 1) := by decide +kernel
theorem dX6_digest_78 : decode cX6_digest 78 = .ok (.istore_n 3, 1) := by decide +kernel
theorem dX6_digest_79 : decode cX6_digest 79 = .ok (.iinc 4 1, 3) := by decide +kernel
theorem dX6_digest_82 : decode cX6_digest 82 = .ok (.goto (-22), 3) := by decide +kernel
theorem dX6_digest_85 : decode cX6_digest 85 = .ok (.iload_n 3, 1) := by decide +kernel
theorem dX6_digest_86 : decode cX6_digest 86 = .ok (.ireturn, 1) := by decide +kernel
set_option maxRecDepth 20000 in
theorem ggX6_isCorner_X6_in : GoodIn wsX6_isCorner wsX6_in := goodIn_r _ [5] (by decide +kernel) (by decide +kernel)
set_option maxRecDepth 20000 in
theorem gX6_isCorner_X6_in : GoodIn wsX6_isCorner (va_wsS RX6 130 yX6_in wsX6_in) := goodIn_app (goodIn_of _ (by decide +kernel)) ggX6_isCorner_X6_in
theorem dX6_isCorner_0 : decode cX6_isCorner 0 = .ok (.iload_n 0, 1) := by decide +kernel
theorem dX6_isCorner_1 : decode cX6_isCorner 1 = .ok (.i2l, 1) := by decide +kernel
theorem dX6_isCorner_2 : decode cX6_isCorner 2 = .ok (.lconst 0, 1) := by decide +kernel
theorem dX6_isCorner_3 : decode cX6_isCorner 3 = .ok (.ldc2_w 143, 3) := by decide +kernel
theorem dX6_isCorner_6 : decode cX6_isCorner 6 = .ok (.invokestatic 130, 3) := by decide +kernel
theorem dX6_isCorner_9 : decode cX6_isCorner 9 = .ok (.ifCond .eq 19, 3) := by decide +kernel
theorem dX6_isCorner_12 : decode cX6_isCorner 12 = .ok (.iload_n 1, 1) := by decide +kernel
theorem dX6_isCorner_13 : decode cX6_isCorner 13 = .ok (.i2l, 1) := by decide +kernel
theorem dX6_isCorner_14 : decode cX6_isCorner 14 = .ok (.lconst 0, 1) := by decide +kernel
theorem dX6_isCorner_15 : decode cX6_isCorner 15 = .ok (.ldc2_w 143, 3) := by decide +kernel
theorem dX6_isCorner_18 : decode cX6_isCorner 18 = .ok (.invokestatic 130, 3) := by decide +kernel
theorem dX6_isCorner_21 : decode cX6_isCorner 21 = .ok (.ifCond .eq 7, 3) := by decide +kernel
theorem dX6_isCorner_24 : decode cX6_isCorner 24 = .ok (.iconst 1, 1) := by decide +kernel
theorem dX6_isCorner_25 : decode cX6_isCorner 25 = .ok (.goto 4, 3) := by decide +kernel
theorem dX6_isCorner_28 : decode cX6_isCorner 28 = .ok (.iconst 0, 1) := by decide +kernel
theorem dX6_isCorner_29 : decode cX6_isCorner 29 = .ok (.ireturn, 1) := by decide +kernel
set_option maxRecDepth 20000 in
theorem ggX6_corner_X6_isCorner : GoodIn wsX6_corner wsX6_isCorner := goodIn_r _ [9, 10, 11, 12, 8, 13] (by decide +kernel) (by decide +kernel)
set_option maxRecDepth 20000 in
theorem gX6_corner_X6_isCorner : GoodIn wsX6_corner (va_wsS RX6 285 yX6_isCorner wsX6_isCorner) := goodIn_app (goodIn_of _ (by decide +kernel)) ggX6_corner_X6_isCorner
set_option maxRecDepth 20000 in
theorem ggX6_corner_X6_in : GoodIn wsX6_corner wsX6_in := goodIn_r _ [13] (by decide +kernel) (by decide +kernel)
set_option maxRecDepth 20000 in
theorem gX6_corner_X6_in : GoodIn wsX6_corner (va_wsS RX6 130 yX6_in wsX6_in) := goodIn_app (goodIn_of _ (by decide +kernel)) ggX6_corner_X6_in
theorem dX6_corner_0 : decode cX6_corner 0 = .ok (.iload_n 1, 1) := by decide +kernel
theorem dX6_corner_1 : decode cX6_corner 1 = .ok (.iload_n 2, 1) := by decide +kernel
theorem dX6_corner_2 : decode cX6_corner 2 = .ok (.invokestatic 285, 3) := by decide +kernel
theorem dX6_corner_5 : decode cX6_corner 5 = .ok (.ifCond .eq 32, 3) := by decide +kernel
theorem dX6_corner_8 : decode cX6_corner 8 = .ok (.iload_n 3, 1) := by decide +kernel
theorem dX6_corner_9 : decode cX6_corner 9 = .ok (.i2l, 1) := by decide +kernel
theorem dX6_corner_10 : decode cX6_corner 10 = .ok (.ldc2_w 288, 3) := by decide +kernel
theorem dX6_corner_13 : decode cX6_corner 13 = .ok (.ldc2_w 290, 3) := by decide +kernel
theorem dX6_corner_16 : decode cX6_corner 16 = .ok (.invokestatic 130, 3) := by decide +kernel
theorem dX6_corner_19 : decode cX6_corner 19 = .ok (.ifCond .eq 18, 3) := by decide +kernel
theorem dX6_corner_22 : decode cX6_corner 22 = .ok (.iload 4, 2) := by decide +kernel
theorem dX6_corner_24 : decode cX6_corner 24 = .ok (.i2l, 1) := by decide +kernel
theorem dX6_corner_25 : decode cX6_corner 25 = .ok (.ldc2_w 288, 3) := by decide +kernel
theorem dX6_corner_28 : decode cX6_corner 28 = .ok (.ldc2_w 290, 3) := by decide +kernel
theorem dX6_corner_31 : decode cX6_corner 31 = .ok (.invokestatic 130, 3) := by decide +kernel
theorem dX6_corner_34 : decode cX6_corner 34 = .ok (.ifCond .ne 7, 3) := by decide +kernel
theorem dX6_corner_37 : decode cX6_corner 37 = .ok (.sipush (-1002), 3) := by decide +kernel
theorem dX6_corner_40 : decode cX6_corner 40 = .ok (.ireturn, 1) := by decide +kernel
theorem dX6_corner_41 : decode cX6_corner 41 = .ok (.bipush 9, 2) := by decide +kernel
theorem dX6_corner_43 : decode cX6_corner 43 = .ok (.iload_n 2, 1) := by decide +kernel
theorem dX6_corner_44 : decode cX6_corner 44 = .ok (.imul, 1) := by decide +kernel
theorem dX6_corner_45 : decode cX6_corner 45 = .ok (.iload_n 1, 1) := by decide +kernel
theorem dX6_corner_46 : decode cX6_corner 46 = .ok (.iadd, 1) := by decide +kernel
theorem dX6_corner_47 : decode cX6_corner 47 = .ok (.istore 5, 2) := by decide +kernel
theorem dX6_corner_49 : decode cX6_corner 49 = .ok (.aload_n 0, 1) := by decide +kernel
theorem dX6_corner_50 : decode cX6_corner 50 = .ok (.getfield 58, 3) := by decide +kernel
theorem dX6_corner_53 : decode cX6_corner 53 = .ok (.iload 5, 2) := by decide +kernel
theorem dX6_corner_55 : decode cX6_corner 55 = .ok (.iconst 1, 1) := by decide +kernel
theorem dX6_corner_56 : decode cX6_corner 56 = .ok (.bastore, 1) := by decide +kernel
theorem dX6_corner_57 : decode cX6_corner 57 = .ok (.aload_n 0, 1) := by decide +kernel
theorem dX6_corner_58 : decode cX6_corner 58 = .ok (.getfield 61, 3) := by decide +kernel
theorem dX6_corner_61 : decode cX6_corner 61 = .ok (.iload 5, 2) := by decide +kernel
theorem dX6_corner_63 : decode cX6_corner 63 = .ok (.iload_n 3, 1) := by decide +kernel
theorem dX6_corner_64 : decode cX6_corner 64 = .ok (.iastore, 1) := by decide +kernel
theorem dX6_corner_65 : decode cX6_corner 65 = .ok (.aload_n 0, 1) := by decide +kernel
theorem dX6_corner_66 : decode cX6_corner 66 = .ok (.getfield 64, 3) := by decide +kernel
theorem dX6_corner_69 : decode cX6_corner 69 = .ok (.iload 5, 2) := by decide +kernel
theorem dX6_corner_71 : decode cX6_corner 71 = .ok (.iload 4, 2) := by decide +kernel
theorem dX6_corner_73 : decode cX6_corner 73 = .ok (.iastore, 1) := by decide +kernel
theorem dX6_corner_74 : decode cX6_corner 74 = .ok (.iconst 1, 1) := by decide +kernel
theorem dX6_corner_75 : decode cX6_corner 75 = .ok (.ireturn, 1) := by decide +kernel
set_option maxRecDepth 20000 in
theorem ggX6_lose_X6_isCorner : GoodIn wsX6_lose wsX6_isCorner := goodIn_r _ [5, 6, 7, 8, 4, 9] (by decide +kernel) (by decide +kernel)
set_option maxRecDepth 20000 in
theorem gX6_lose_X6_isCorner : GoodIn wsX6_lose (va_wsS RX6 285 yX6_isCorner wsX6_isCorner) := goodIn_app (goodIn_of _ (by decide +kernel)) ggX6_lose_X6_isCorner
theorem dX6_lose_0 : decode cX6_lose 0 = .ok (.iload_n 1, 1) := by decide +kernel
theorem dX6_lose_1 : decode cX6_lose 1 = .ok (.iload_n 2, 1) := by decide +kernel
theorem dX6_lose_2 : decode cX6_lose 2 = .ok (.invokestatic 285, 3) := by decide +kernel
theorem dX6_lose_5 : decode cX6_lose 5 = .ok (.ifCond .ne 7, 3) := by decide +kernel
theorem dX6_lose_8 : decode cX6_lose 8 = .ok (.sipush (-1002), 3) := by decide +kernel
theorem dX6_lose_11 : decode cX6_lose 11 = .ok (.ireturn, 1) := by decide +kernel
theorem dX6_lose_12 : decode cX6_lose 12 = .ok (.aload_n 0, 1) := by decide +kernel
theorem dX6_lose_13 : decode cX6_lose 13 = .ok (.getfield 58, 3) := by decide +kernel
theorem dX6_lose_16 : decode cX6_lose 16 = .ok (.bipush 9, 2) := by decide +kernel
theorem dX6_lose_18 : decode cX6_lose 18 = .ok (.iload_n 2, 1) := by decide +kernel
theorem dX6_lose_19 : decode cX6_lose 19 = .ok (.imul, 1) := by decide +kernel
theorem dX6_lose_20 : decode cX6_lose 20 = .ok (.iload_n 1, 1) := by decide +kernel
theorem dX6_lose_21 : decode cX6_lose 21 = .ok (.iadd, 1) := by decide +kernel
theorem dX6_lose_22 : decode cX6_lose 22 = .ok (.baload, 1) := by decide +kernel
theorem dX6_lose_23 : decode cX6_lose 23 = .ok (.ifCond .eq 7, 3) := by decide +kernel
theorem dX6_lose_26 : decode cX6_lose 26 = .ok (.iconst 1, 1) := by decide +kernel
theorem dX6_lose_27 : decode cX6_lose 27 = .ok (.goto 4, 3) := by decide +kernel
theorem dX6_lose_30 : decode cX6_lose 30 = .ok (.iconst 0, 1) := by decide +kernel
theorem dX6_lose_31 : decode cX6_lose 31 = .ok (.istore_n 3, 1) := by decide +kernel
theorem dX6_lose_32 : decode cX6_lose 32 = .ok (.aload_n 0, 1) := by decide +kernel
theorem dX6_lose_33 : decode cX6_lose 33 = .ok (.getfield 58, 3) := by decide +kernel
theorem dX6_lose_36 : decode cX6_lose 36 = .ok (.bipush 9, 2) := by decide +kernel
theorem dX6_lose_38 : decode cX6_lose 38 = .ok (.iload_n 2, 1) := by decide +kernel
theorem dX6_lose_39 : decode cX6_lose 39 = .ok (.imul, 1) := by decide +kernel
theorem dX6_lose_40 : decode cX6_lose 40 = .ok (.iload_n 1, 1) := by decide +kernel
theorem dX6_lose_41 : decode cX6_lose 41 = .ok (.iadd, 1) := by decide +kernel
theorem dX6_lose_42 : decode cX6_lose 42 = .ok (.iconst 0, 1) := by decide +kernel
theorem dX6_lose_43 : decode cX6_lose 43 = .ok (.bastore, 1) := by decide +kernel
theorem dX6_lose_44 : decode cX6_lose 44 = .ok (.iload_n 3, 1) := by decide +kernel
theorem dX6_lose_45 : decode cX6_lose 45 = .ok (.ireturn, 1) := by decide +kernel
theorem dX6_findSides_0 : decode cX6_findSides 0 = .ok (.aload_n 0, 1) := by decide +kernel
theorem dX6_findSides_1 : decode cX6_findSides 1 = .ok (.iconst (-1), 1) := by decide +kernel
theorem dX6_findSides_2 : decode cX6_findSides 2 = .ok (.putfield 292, 3) := by decide +kernel
theorem dX6_findSides_5 : decode cX6_findSides 5 = .ok (.aload_n 0, 1) := by decide +kernel
theorem dX6_findSides_6 : decode cX6_findSides 6 = .ok (.iconst (-1), 1) := by decide +kernel
theorem dX6_findSides_7 : decode cX6_findSides 7 = .ok (.putfield 295, 3) := by decide +kernel
theorem dX6_findSides_10 : decode cX6_findSides 10 = .ok (.iload_n 3, 1) := by decide +kernel
theorem dX6_findSides_11 : decode cX6_findSides 11 = .ok (.iconst 1, 1) := by decide +kernel
theorem dX6_findSides_12 : decode cX6_findSides 12 = .ok (.isub, 1) := by decide +kernel
theorem dX6_findSides_13 : decode cX6_findSides 13 = .ok (.istore 4, 2) := by decide +kernel
theorem dX6_findSides_15 : decode cX6_findSides 15 = .ok (.iload 4, 2) := by decide +kernel
theorem dX6_findSides_17 : decode cX6_findSides 17 = .ok (.ifCond .lt 56, 3) := by decide +kernel
theorem dX6_findSides_20 : decode cX6_findSides 20 = .ok (.aload_n 0, 1) := by decide +kernel
theorem dX6_findSides_21 : decode cX6_findSides 21 = .ok (.getfield 292, 3) := by decide +kernel
theorem dX6_findSides_24 : decode cX6_findSides 24 = .ok (.ifCond .ge 49, 3) := by decide +kernel
theorem dX6_findSides_27 : decode cX6_findSides 27 = .ok (.aload_n 0, 1) := by decide +kernel
theorem dX6_findSides_28 : decode cX6_findSides 28 = .ok (.aload_n 0, 1) := by decide +kernel
theorem dX6_findSides_29 : decode cX6_findSides 29 = .ok (.getfield 58, 3) := by decide +kernel
theorem dX6_findSides_32 : decode cX6_findSides 32 = .ok (.iload_n 1, 1) := by decide +kernel
theorem dX6_findSides_33 : decode cX6_findSides 33 = .ok (.iload_n 3, 1) := by decide +kernel
theorem dX6_findSides_34 : decode cX6_findSides 34 = .ok (.iload 4, 2) := by decide +kernel
theorem dX6_findSides_36 : decode cX6_findSides 36 = .ok (.isub, 1) := by decide +kernel
theorem dX6_findSides_37 : decode cX6_findSides 37 = .ok (.iload_n 2, 1) := by decide +kernel
theorem dX6_findSides_38 : decode cX6_findSides 38 = .ok (.imul, 1) := by decide +kernel
theorem dX6_findSides_39 : decode cX6_findSides 39 = .ok (.isub, 1) := by decide +kernel
theorem dX6_findSides_40 : decode cX6_findSides 40 = .ok (.baload, 1) := by decide +kernel
theorem dX6_findSides_41 : decode cX6_findSides 41 = .ok (.ifCond .eq 14, 3) := by decide +kernel
theorem dX6_findSides_44 : decode cX6_findSides 44 = .ok (.iload_n 1, 1) := by decide +kernel
theorem dX6_findSides_45 : decode cX6_findSides 45 = .ok (.iload_n 3, 1) := by decide +kernel
theorem dX6_findSides_46 : decode cX6_findSides 46 = .ok (.iload 4, 2) := by decide +kernel
theorem dX6_findSides_48 : decode cX6_findSides 48 = .ok (.isub, 1) := by decide +kernel
theorem dX6_findSides_49 : decode cX6_findSides 49 = .ok (.iload_n 2, 1) := by decide +kernel
theorem dX6_findSides_50 : decode cX6_findSides 50 = .ok (.imul, 1) := by decide +kernel
theorem dX6_findSides_51 : decode cX6_findSides 51 = .ok (.isub, 1) := by decide +kernel
theorem dX6_findSides_52 : decode cX6_findSides 52 = .ok (.goto 4, 3) := by decide +kernel
theorem dX6_findSides_55 : decode cX6_findSides 55 = .ok (.iconst (-1), 1) := by decide +kernel
theorem dX6_findSides_56 : decode cX6_findSides 56 = .ok (.putfield 292, 3) := by decide +kernel
theorem dX6_findSides_59 : decode cX6_findSides 59 = .ok (.aload_n 0, 1) := by decide +kernel
theorem dX6_findSides_60 : decode cX6_findSides 60 = .ok (.iload_n 3, 1) := by decide +kernel
theorem dX6_findSides_61 : decode cX6_findSides 61 = .ok (.iload 4, 2) := by decide +kernel
theorem dX6_findSides_63 : decode cX6_findSides 63 = .ok (.isub, 1) := by decide +kernel
theorem dX6_findSides_64 : decode cX6_findSides 64 = .ok (.putfield 298, 3) := by decide +kernel
theorem dX6_findSides_67 : decode cX6_findSides 67 = .ok (.iinc 4 (-1), 3) := by decide +kernel
theorem dX6_findSides_70 : decode cX6_findSides 70 = .ok (.goto (-55), 3) := by decide +kernel
theorem dX6_findSides_73 : decode cX6_findSides 73 = .ok (.iload_n 3, 1) := by decide +kernel
theorem dX6_findSides_74 : decode cX6_findSides 74 = .ok (.iconst 1, 1) := by decide +kernel
theorem dX6_findSides_75 : decode cX6_findSides 75 = .ok (.iadd, 1) := by decide +kernel
theorem dX6_findSides_76 : decode cX6_findSides 76 = .ok (.istore 4, 2) := by decide +kernel
theorem dX6_findSides_78 : decode cX6_findSides 78 = .ok (.iload 4, 2) := by decide +kernel
theorem dX6_findSides_80 : decode cX6_findSides 80 = .ok (.bipush 9, 2) := by decide +kernel
theorem dX6_findSides_82 : decode cX6_findSides 82 = .ok (.if_icmp .ge 61, 3) := by decide +kernel
theorem dX6_findSides_85 : decode cX6_findSides 85 = .ok (.aload_n 0, 1) := by decide +kernel
theorem dX6_findSides_86 : decode cX6_findSides 86 = .ok (.getfield 295, 3) := by decide +kernel
theorem dX6_findSides_89 : decode cX6_findSides 89 = .ok (.ifCond .ge 54, 3) := by decide +kernel
theorem dX6_findSides_92 : decode cX6_findSides 92 = .ok (.aload_n 0, 1) := by decide +kernel
theorem dX6_findSides_93 : decode cX6_findSides 93 = .ok (.aload_n 0, 1) := by decide +kernel
theorem dX6_findSides_94 : decode cX6_findSides 94 = .ok (.getfield 58, 3) := by decide +kernel
theorem dX6_findSides_97 : decode cX6_findSides 97 = .ok (.iload_n 1, 1) := by decide +kernel
theorem dX6_findSides_98 : decode cX6_findSides 98 = .ok (.iload 4, 2) := by decide +kernel
theorem dX6_findSides_100 : decode cX6_findSides 100 = .ok (.iload_n 3, 1) := by decide +kernel
theorem dX6_findSides_101 : decode cX6_findSides 101 = .ok (.isub, 1) := by decide +kernel
theorem dX6_findSides_102 : decode cX6_findSides 102 = .ok (.iload_n 2, 1) := by decide +kernel
theorem dX6_findSides_103 : decode cX6_findSides 103 = .ok (.imul, 1) := by decide +kernel
theorem dX6_findSides_104 : decode cX6_findSides 104 = .ok (.iadd, 1) := by decide +kernel
theorem dX6_findSides_105 : decode cX6_findSides 105 = .ok (.baload, 1) := by decide +kernel
theorem dX6_findSides_106 : decode cX6_findSides 106 = .ok (.ifCond .eq 14, 3) := by decide +kernel
theorem dX6_findSides_109 : decode cX6_findSides 109 = .ok (.iload_n 1, 1) := by decide +kernel
theorem dX6_findSides_110 : decode cX6_findSides 110 = .ok (.iload 4, 2) := by decide +kernel
theorem dX6_findSides_112 : decode cX6_findSides 112 = .ok (.iload_n 3, 1) := by decide +kernel
theorem dX6_findSides_113 : decode cX6_findSides 113 = .ok (.isub, 1) := by decide +kernel
theorem dX6_findSides_114 : decode cX6_findSides 114 = .ok (.iload_n 2, 1) := by decide +kernel
theorem dX6_findSides_115 : decode cX6_findSides 115 = .ok (.imul, 1) := by decide +kernel
theorem dX6_findSides_116 : decode cX6_findSides 116 = .ok (.iadd, 1) := by decide +kernel
theorem dX6_findSides_117 : decode cX6_findSides 117 = .ok (.goto 4, 3) := by decide +kernel
theorem dX6_findSides_120 : decode cX6_findSides 120 = .ok (.iconst (-1), 1) := by decide +kernel
theorem dX6_findSides_121 : decode cX6_findSides 121 = .ok (.putfield 295, 3) := by decide +kernel
theorem dX6_findSides_124 : decode cX6_findSides 124 = .ok (.aload_n 0, 1) := by decide +kernel
theorem dX6_findSides_125 : decode cX6_findSides 125 = .ok (.aload_n 0, 1) := by decide +kernel
theorem dX6_findSides_126 : decode cX6_findSides 126 = .ok (.getfield 298, 3) := by decide +kernel
theorem dX6_findSides_129 : decode cX6_findSides 129 = .ok (.iload 4, 2) := by decide +kernel
theorem dX6_findSides_131 : decode cX6_findSides 131 = .ok (.iadd, 1) := by decide +kernel
theorem dX6_findSides_132 : decode cX6_findSides 132 = .ok (.iload_n 3, 1) := by decide +kernel
theorem dX6_findSides_133 : decode cX6_findSides 133 = .ok (.isub, 1) := by decide +kernel
theorem dX6_findSides_134 : decode cX6_findSides 134 = .ok (.putfield 301, 3) := by decide +kernel
theorem dX6_findSides_137 : decode cX6_findSides 137 = .ok (.iinc 4 1, 3) := by decide +kernel
theorem dX6_findSides_140 : decode cX6_findSides 140 = .ok (.goto (-62), 3) := by decide +kernel
theorem dX6_findSides_143 : decode cX6_findSides 143 = .ok (.aload_n 0, 1) := by decide +kernel
theorem dX6_findSides_144 : decode cX6_findSides 144 = .ok (.getfield 292, 3) := by decide +kernel
theorem dX6_findSides_147 : decode cX6_findSides 147 = .ok (.ifCond .lt 14, 3) := by decide +kernel
theorem dX6_findSides_150 : decode cX6_findSides 150 = .ok (.aload_n 0, 1) := by decide +kernel
theorem dX6_findSides_151 : decode cX6_findSides 151 = .ok (.getfield 295, 3) := by decide +kernel
theorem dX6_findSides_154 : decode cX6_findSides 154 = .ok (.ifCond .lt 7, 3) := by decide +kernel
theorem dX6_findSides_157 : decode cX6_findSides 157 = .ok (.iconst 1, 1) := by decide +kernel
theorem dX6_findSides_158 : decode cX6_findSides 158 = .ok (.goto 4, 3) := by decide +kernel
theorem dX6_findSides_161 : decode cX6_findSides 161 = .ok (.iconst 0, 1) := by decide +kernel
theorem dX6_findSides_162 : decode cX6_findSides 162 = .ok (.ireturn, 1) := by decide +kernel
set_option maxRecDepth 20000 in
theorem ggX6_findPlace_X6_findSides : GoodIn wsX6_findPlace wsX6_findSides := goodIn_r _ [14, 6, 8, 1, 9, 7, 15, 16, 17, 18, 19, 20, 21, 22, 23, 24, 25, 26, 27, 28, 29, 30, 31, 32, 33, 34, 35, 36, 37, 38, 39, 40, 41, 42, 43, 44, 45, 46, 47, 48, 49, 50, 51, 52, 53, 54, 55, 56, 57, 58] (by decide +kernel) (by decide +kernel)
set_option maxRecDepth 20000 in
theorem gX6_findPlace_X6_findSides : GoodIn wsX6_findPlace (wsV RX6 310 RX6 yX6_findSides wsX6_findSides) := goodIn_app (goodIn_of _ (by decide +kernel)) ggX6_findPlace_X6_findSides
theorem dX6_findPlace_0 : decode cX6_findPlace 0 = .ok (.bipush 9, 2) := by decide +kernel
theorem dX6_findPlace_2 : decode cX6_findPlace 2 = .ok (.iload_n 2, 1) := by decide +kernel
theorem dX6_findPlace_3 : decode cX6_findPlace 3 = .ok (.imul, 1) := by decide +kernel
theorem dX6_findPlace_4 : decode cX6_findPlace 4 = .ok (.iload_n 1, 1) := by decide +kernel
theorem dX6_findPlace_5 : decode cX6_findPlace 5 = .ok (.iadd, 1) := by decide +kernel
theorem dX6_findPlace_6 : decode cX6_findPlace 6 = .ok (.istore_n 3, 1) := by decide +kernel
theorem dX6_findPlace_7 : decode cX6_findPlace 7 = .ok (.aload_n 0, 1) := by decide +kernel
theorem dX6_findPlace_8 : decode cX6_findPlace 8 = .ok (.getfield 58, 3) := by decide +kernel
theorem dX6_findPlace_11 : decode cX6_findPlace 11 = .ok (.iload_n 3, 1) := by decide +kernel
theorem dX6_findPlace_12 : decode cX6_findPlace 12 = .ok (.baload, 1) := by decide +kernel
theorem dX6_findPlace_13 : decode cX6_findPlace 13 = .ok (.ifCond .eq 33, 3) := by decide +kernel
theorem dX6_findPlace_16 : decode cX6_findPlace 16 = .ok (.aload_n 0, 1) := by decide +kernel
theorem dX6_findPlace_17 : decode cX6_findPlace 17 = .ok (.sipush 840, 3) := by decide +kernel
theorem dX6_findPlace_20 : decode cX6_findPlace 20 = .ok (.aload_n 0, 1) := by decide +kernel
theorem dX6_findPlace_21 : decode cX6_findPlace 21 = .ok (.getfield 61, 3) := by decide +kernel
theorem dX6_findPlace_24 : decode cX6_findPlace 24 = .ok (.iload_n 3, 1) := by decide +kernel
theorem dX6_findPlace_25 : decode cX6_findPlace 25 = .ok (.iaload, 1) := by decide +kernel
theorem dX6_findPlace_26 : decode cX6_findPlace 26 = .ok (.imul, 1) := by decide +kernel
theorem dX6_findPlace_27 : decode cX6_findPlace 27 = .ok (.putfield 304, 3) := by decide +kernel
theorem dX6_findPlace_30 : decode cX6_findPlace 30 = .ok (.aload_n 0, 1) := by decide +kernel
theorem dX6_findPlace_31 : decode cX6_findPlace 31 = .ok (.sipush 840, 3) := by decide +kernel
theorem dX6_findPlace_34 : decode cX6_findPlace 34 = .ok (.aload_n 0, 1) := by decide +kernel
theorem dX6_findPlace_35 : decode cX6_findPlace 35 = .ok (.getfield 64, 3) := by decide +kernel
theorem dX6_findPlace_38 : decode cX6_findPlace 38 = .ok (.iload_n 3, 1) := by decide +kernel
theorem dX6_findPlace_39 : decode cX6_findPlace 39 = .ok (.iaload, 1) := by decide +kernel
theorem dX6_findPlace_40 : decode cX6_findPlace 40 = .ok (.imul, 1) := by decide +kernel
theorem dX6_findPlace_41 : decode cX6_findPlace 41 = .ok (.putfield 307, 3) := by decide +kernel
theorem dX6_findPlace_44 : decode cX6_findPlace 44 = .ok (.iconst 1, 1) := by decide +kernel
theorem dX6_findPlace_45 : decode cX6_findPlace 45 = .ok (.ireturn, 1) := by decide +kernel
theorem dX6_findPlace_46 : decode cX6_findPlace 46 = .ok (.aload_n 0, 1) := by decide +kernel
theorem dX6_findPlace_47 : decode cX6_findPlace 47 = .ok (.iload_n 3, 1) := by decide +kernel
theorem dX6_findPlace_48 : decode cX6_findPlace 48 = .ok (.iconst 1, 1) := by decide +kernel
theorem dX6_findPlace_49 : decode cX6_findPlace 49 = .ok (.iload_n 1, 1) := by decide +kernel
theorem dX6_findPlace_50 : decode cX6_findPlace 50 = .ok (.invokevirtual 310, 3) := by decide +kernel
theorem dX6_findPlace_53 : decode cX6_findPlace 53 = .ok (.ifCond .ne 16, 3) := by decide +kernel
theorem dX6_findPlace_56 : decode cX6_findPlace 56 = .ok (.aload_n 0, 1) := by decide +kernel
theorem dX6_findPlace_57 : decode cX6_findPlace 57 = .ok (.iload_n 3, 1) := by decide +kernel
theorem dX6_findPlace_58 : decode cX6_findPlace 58 = .ok (.bipush 9, 2) := by decide +kernel
theorem dX6_findPlace_60 : decode cX6_findPlace 60 = .ok (.iload_n 2, 1) := by decide +kernel
theorem dX6_findPlace_61 : decode cX6_findPlace 61 = .ok (.invokevirtual 310, 3) := by decide +kernel
theorem dX6_findPlace_64 : decode cX6_findPlace 64 = .ok (.ifCond .ne 5, 3) := by decide +kernel
theorem dX6_findPlace_67 : decode cX6_findPlace 67 = .ok (.iconst 0, 1) := by decide +kernel
theorem dX6_findPlace_68 : decode cX6_findPlace 68 = .ok (.ireturn, 1) := by decide +kernel
theorem dX6_findPlace_69 : decode cX6_findPlace 69 = .ok (.aload_n 0, 1) := by decide +kernel
theorem dX6_findPlace_70 : decode cX6_findPlace 70 = .ok (.sipush 840, 3) := by decide +kernel
theorem dX6_findPlace_73 : decode cX6_findPlace 73 = .ok (.aload_n 0, 1) := by decide +kernel
theorem dX6_findPlace_74 : decode cX6_findPlace 74 = .ok (.getfield 61, 3) := by decide +kernel
theorem dX6_findPlace_77 : decode cX6_findPlace 77 = .ok (.aload_n 0, 1) := by decide +kernel
theorem dX6_findPlace_78 : decode cX6_findPlace 78 = .ok (.getfield 292, 3) := by decide +kernel
theorem dX6_findPlace_81 : decode cX6_findPlace 81 = .ok (.iaload, 1) := by decide +kernel
theorem dX6_findPlace_82 : decode cX6_findPlace 82 = .ok (.imul, 1) := by decide +kernel
theorem dX6_findPlace_83 : decode cX6_findPlace 83 = .ok (.sipush 840, 3) := by decide +kernel
theorem dX6_findPlace_86 : decode cX6_findPlace 86 = .ok (.aload_n 0, 1) := by decide +kernel
theorem dX6_findPlace_87 : decode cX6_findPlace 87 = .ok (.getfield 301, 3) := by decide +kernel
theorem dX6_findPlace_90 : decode cX6_findPlace 90 = .ok (.idiv, 1) := by decide +kernel
theorem dX6_findPlace_91 : decode cX6_findPlace 91 = .ok (.aload_n 0, 1) := by decide +kernel
theorem dX6_findPlace_92 : decode cX6_findPlace 92 = .ok (.getfield 61, 3) := by decide +kernel
theorem dX6_findPlace_95 : decode cX6_findPlace 95 = .ok (.aload_n 0, 1) := by decide +kernel
theorem dX6_findPlace_96 : decode cX6_findPlace 96 = .ok (.getfield 295, 3) := by decide +kernel
theorem dX6_findPlace_99 : decode cX6_findPlace 99 = .ok (.iaload, 1) := by decide +kernel
theorem dX6_findPlace_100 : decode cX6_findPlace 100 = .ok (.aload_n 0, 1) := by decide +kernel
theorem dX6_findPlace_101 : decode cX6_findPlace 101 = .ok (.getfield 61, 3) := by decide +kernel
theorem dX6_findPlace_104 : decode cX6_findPlace 104 = .ok (.aload_n 0, 1) := by decide +kernel
theorem dX6_findPlace_105 : decode cX6_findPlace 105 = .ok (.getfield 292, 3) := by decide +kernel
theorem dX6_findPlace_108 : decode cX6_findPlace 108 = .ok (.iaload, 1) := by decide +kernel
theorem dX6_findPlace_109 : decode cX6_findPlace 109 = .ok (.isub, 1) := by decide +kernel
theorem dX6_findPlace_110 : decode cX6_findPlace 110 = .ok (.imul, 1) := by decide +kernel
theorem dX6_findPlace_111 : decode cX6_findPlace 111 = .ok (.aload_n 0, 1) := by decide +kernel
theorem dX6_findPlace_112 : decode cX6_findPlace 112 = .ok (.getfield 298, 3) := by decide +kernel
theorem dX6_findPlace_115 : decode cX6_findPlace 115 = .ok (.imul, 1) := by decide +kernel
theorem dX6_findPlace_116 : decode cX6_findPlace 116 = .ok (.iadd, 1) := by decide +kernel
