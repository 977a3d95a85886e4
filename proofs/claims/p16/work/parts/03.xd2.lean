theorem dX6_putInOrder_0 : decode cX6_putInOrder 0 = .ok (.aload_n 0, 1) := by decide +kernel
theorem dX6_putInOrder_1 : decode cX6_putInOrder 1 = .ok (.iconst 0, 1) := by decide +kernel
theorem dX6_putInOrder_2 : decode cX6_putInOrder 2 = .ok (.putfield 203, 3) := by decide +kernel
theorem dX6_putInOrder_5 : decode cX6_putInOrder 5 = .ok (.iconst 0, 1) := by decide +kernel
theorem dX6_putInOrder_6 : decode cX6_putInOrder 6 = .ok (.istore_n 3, 1) := by decide +kernel
theorem dX6_putInOrder_7 : decode cX6_putInOrder 7 = .ok (.iload_n 3, 1) := by decide +kernel
theorem dX6_putInOrder_8 : decode cX6_putInOrder 8 = .ok (.iload_n 1, 1) := by decide +kernel
theorem dX6_putInOrder_9 : decode cX6_putInOrder 9 = .ok (.if_icmp .ge 102, 3) := by decide +kernel
theorem dX6_putInOrder_12 : decode cX6_putInOrder 12 = .ok (.aload_n 0, 1) := by decide +kernel
theorem dX6_putInOrder_13 : decode cX6_putInOrder 13 = .ok (.getfield 54, 3) := by decide +kernel
theorem dX6_putInOrder_16 : decode cX6_putInOrder 16 = .ok (.iload_n 3, 1) := by decide +kernel
theorem dX6_putInOrder_17 : decode cX6_putInOrder 17 = .ok (.baload, 1) := by decide +kernel
theorem dX6_putInOrder_18 : decode cX6_putInOrder 18 = .ok (.ifCond .ne 87, 3) := by decide +kernel
theorem dX6_putInOrder_21 : decode cX6_putInOrder 21 = .ok (.aload_n 0, 1) := by decide +kernel
theorem dX6_putInOrder_22 : decode cX6_putInOrder 22 = .ok (.getfield 39, 3) := by decide +kernel
theorem dX6_putInOrder_25 : decode cX6_putInOrder 25 = .ok (.iload_n 3, 1) := by decide +kernel
theorem dX6_putInOrder_26 : decode cX6_putInOrder 26 = .ok (.iaload, 1) := by decide +kernel
theorem dX6_putInOrder_27 : decode cX6_putInOrder 27 = .ok (.iload_n 2, 1) := by decide +kernel
theorem dX6_putInOrder_28 : decode cX6_putInOrder 28 = .ok (.if_icmp .gt 77, 3) := by decide +kernel
theorem dX6_putInOrder_31 : decode cX6_putInOrder 31 = .ok (.aload_n 0, 1) := by decide +kernel
theorem dX6_putInOrder_32 : decode cX6_putInOrder 32 = .ok (.getfield 203, 3) := by decide +kernel
theorem dX6_putInOrder_35 : decode cX6_putInOrder 35 = .ok (.istore 4, 2) := by decide +kernel
theorem dX6_putInOrder_37 : decode cX6_putInOrder 37 = .ok (.iload 4, 2) := by decide +kernel
theorem dX6_putInOrder_39 : decode cX6_putInOrder 39 = .ok (.ifCond .le 48, 3) := by decide +kernel
theorem dX6_putInOrder_42 : decode cX6_putInOrder 42 = .ok (.aload_n 0, 1) := by decide +kernel
theorem dX6_putInOrder_43 : decode cX6_putInOrder 43 = .ok (.getfield 39, 3) := by decide +kernel
theorem dX6_putInOrder_46 : decode cX6_putInOrder 46 = .ok (.aload_n 0, 1) := by decide +kernel
theorem dX6_putInOrder_47 : decode cX6_putInOrder 47 = .ok (.getfield 67, 3) := by decide +kernel
theorem dX6_putInOrder_50 : decode cX6_putInOrder 50 = .ok (.iload 4, 2) := by decide +kernel
theorem dX6_putInOrder_52 : decode cX6_putInOrder 52 = .ok (.iconst 1, 1) := by decide +kernel
theorem dX6_putInOrder_53 : decode cX6_putInOrder 53 = .ok (.isub, 1) := by decide +kernel
theorem dX6_putInOrder_54 : decode cX6_putInOrder 54 = .ok (.iaload, 1) := by decide +kernel
theorem dX6_putInOrder_55 : decode cX6_putInOrder 55 = .ok (.iaload, 1) := by decide +kernel
theorem dX6_putInOrder_56 : decode cX6_putInOrder 56 = .ok (.aload_n 0, 1) := by decide +kernel
theorem dX6_putInOrder_57 : decode cX6_putInOrder 57 = .ok (.getfield 39, 3) := by decide +kernel
theorem dX6_putInOrder_60 : decode cX6_putInOrder 60 = .ok (.iload_n 3, 1) := by decide +kernel
theorem dX6_putInOrder_61 : decode cX6_putInOrder 61 = .ok (.iaload, 1) := by decide +kernel
theorem dX6_putInOrder_62 : decode cX6_putInOrder 62 = .ok (.if_icmp .le 25, 3) := by decide +kernel
theorem dX6_putInOrder_65 : decode cX6_putInOrder 65 = .ok (.aload_n 0, 1) := by decide +kernel
theorem dX6_putInOrder_66 : decode cX6_putInOrder 66 = .ok (.getfield 67, 3) := by decide +kernel
theorem dX6_putInOrder_69 : decode cX6_putInOrder 69 = .ok (.iload 4, 2) := by decide +kernel
theorem dX6_putInOrder_71 : decode cX6_putInOrder 71 = .ok (.aload_n 0, 1) := by decide +kernel
theorem dX6_putInOrder_72 : decode cX6_putInOrder 72 = .ok (.getfield 67, 3) := by decide +kernel
theorem dX6_putInOrder_75 : decode cX6_putInOrder 75 = .ok (.iload 4, 2) := by decide +kernel
theorem dX6_putInOrder_77 : decode cX6_putInOrder 77 = .ok (.iconst 1, 1) := by decide +kernel
theorem dX6_putInOrder_78 : decode cX6_putInOrder 78 = .ok (.isub, 1) := by decide +kernel
theorem dX6_putInOrder_79 : decode cX6_putInOrder 79 = .ok (.iaload, 1) := by decide +kernel
theorem dX6_putInOrder_80 : decode cX6_putInOrder 80 = .ok (.iastore, 1) := by decide +kernel
theorem dX6_putInOrder_81 : decode cX6_putInOrder 81 = .ok (.iinc 4 (-1), 3) := by decide +kernel
theorem dX6_putInOrder_84 : decode cX6_putInOrder 84 = .ok (.goto (-47), 3) := by decide +kernel
theorem dX6_putInOrder_87 : decode cX6_putInOrder 87 = .ok (.aload_n 0, 1) := by decide +kernel
theorem dX6_putInOrder_88 : decode cX6_putInOrder 88 = .ok (.getfield 67, 3) := by decide +kernel
theorem dX6_putInOrder_91 : decode cX6_putInOrder 91 = .ok (.iload 4, 2) := by decide +kernel
theorem dX6_putInOrder_93 : decode cX6_putInOrder 93 = .ok (.iload_n 3, 1) := by decide +kernel
theorem dX6_putInOrder_94 : decode cX6_putInOrder 94 = .ok (.iastore, 1) := by decide +kernel
theorem dX6_putInOrder_95 : decode cX6_putInOrder 95 = .ok (.aload_n 0, 1) := by decide +kernel
theorem dX6_putInOrder_96 : decode cX6_putInOrder 96 = .ok (.dup, 1) := by decide +kernel
theorem dX6_putInOrder_97 : decode cX6_putInOrder 97 = .ok (.getfield 203, 3) := by decide +kernel
theorem dX6_putInOrder_100 : decode cX6_putInOrder 100 = .ok (.iconst 1, 1) := by decide +kernel
theorem dX6_putInOrder_101 : decode cX6_putInOrder 101 = .ok (.iadd, 1) := by decide +kernel
theorem dX6_putInOrder_102 : decode cX6_putInOrder 102 = .ok (.putfield 203, 3) := by decide +kernel
theorem dX6_putInOrder_105 : decode cX6_putInOrder 105 = .ok (.iinc 3 1, 3) := by decide +kernel
theorem dX6_putInOrder_108 : decode cX6_putInOrder 108 = .ok (.goto (-101), 3) := by decide +kernel
theorem dX6_putInOrder_111 : decode cX6_putInOrder 111 = .ok (.return_, 1) := by decide +kernel
theorem dX6_entryOf_0 : decode cX6_entryOf 0 = .ok (.iconst (-1), 1) := by decide +kernel
theorem dX6_entryOf_1 : decode cX6_entryOf 1 = .ok (.istore_n 2, 1) := by decide +kernel
theorem dX6_entryOf_2 : decode cX6_entryOf 2 = .ok (.iconst 0, 1) := by decide +kernel
theorem dX6_entryOf_3 : decode cX6_entryOf 3 = .ok (.istore_n 3, 1) := by decide +kernel
theorem dX6_entryOf_4 : decode cX6_entryOf 4 = .ok (.iload_n 3, 1) := by decide +kernel
theorem dX6_entryOf_5 : decode cX6_entryOf 5 = .ok (.aload_n 0, 1) := by decide +kernel
theorem dX6_entryOf_6 : decode cX6_entryOf 6 = .ok (.getfield 206, 3) := by decide +kernel
theorem dX6_entryOf_9 : decode cX6_entryOf 9 = .ok (.if_icmp .ge 39, 3) := by decide +kernel
theorem dX6_entryOf_12 : decode cX6_entryOf 12 = .ok (.aload_n 0, 1) := by decide +kernel
theorem dX6_entryOf_13 : decode cX6_entryOf 13 = .ok (.getfield 91, 3) := by decide +kernel
theorem dX6_entryOf_16 : decode cX6_entryOf 16 = .ok (.iload_n 3, 1) := by decide +kernel
theorem dX6_entryOf_17 : decode cX6_entryOf 17 = .ok (.iaload, 1) := by decide +kernel
theorem dX6_entryOf_18 : decode cX6_entryOf 18 = .ok (.ifCond .eq 22, 3) := by decide +kernel
theorem dX6_entryOf_21 : decode cX6_entryOf 21 = .ok (.aload_n 0, 1) := by decide +kernel
theorem dX6_entryOf_22 : decode cX6_entryOf 22 = .ok (.getfield 48, 3) := by decide +kernel
theorem dX6_entryOf_25 : decode cX6_entryOf 25 = .ok (.aload_n 0, 1) := by decide +kernel
theorem dX6_entryOf_26 : decode cX6_entryOf 26 = .ok (.getfield 76, 3) := by decide +kernel
theorem dX6_entryOf_29 : decode cX6_entryOf 29 = .ok (.iload_n 3, 1) := by decide +kernel
theorem dX6_entryOf_30 : decode cX6_entryOf 30 = .ok (.iaload, 1) := by decide +kernel
theorem dX6_entryOf_31 : decode cX6_entryOf 31 = .ok (.iaload, 1) := by decide +kernel
theorem dX6_entryOf_32 : decode cX6_entryOf 32 = .ok (.iload_n 1, 1) := by decide +kernel
theorem dX6_entryOf_33 : decode cX6_entryOf 33 = .ok (.if_icmp .ne 7, 3) := by decide +kernel
theorem dX6_entryOf_36 : decode cX6_entryOf 36 = .ok (.iload_n 3, 1) := by decide +kernel
theorem dX6_entryOf_37 : decode cX6_entryOf 37 = .ok (.goto 4, 3) := by decide +kernel
theorem dX6_entryOf_40 : decode cX6_entryOf 40 = .ok (.iload_n 2, 1) := by decide +kernel
theorem dX6_entryOf_41 : decode cX6_entryOf 41 = .ok (.istore_n 2, 1) := by decide +kernel
theorem dX6_entryOf_42 : decode cX6_entryOf 42 = .ok (.iinc 3 1, 3) := by decide +kernel
theorem dX6_entryOf_45 : decode cX6_entryOf 45 = .ok (.goto (-41), 3) := by decide +kernel
theorem dX6_entryOf_48 : decode cX6_entryOf 48 = .ok (.iload_n 2, 1) := by decide +kernel
theorem dX6_entryOf_49 : decode cX6_entryOf 49 = .ok (.ireturn, 1) := by decide +kernel
theorem dX6_openOf_0 : decode cX6_openOf 0 = .ok (.aload_n 0, 1) := by decide +kernel
theorem dX6_openOf_1 : decode cX6_openOf 1 = .ok (.iload_n 1, 1) := by decide +kernel
theorem dX6_openOf_2 : decode cX6_openOf 2 = .ok (.invokevirtual 209, 3) := by decide +kernel
theorem dX6_openOf_5 : decode cX6_openOf 5 = .ok (.istore_n 2, 1) := by decide +kernel
theorem dX6_openOf_6 : decode cX6_openOf 6 = .ok (.iload_n 2, 1) := by decide +kernel
theorem dX6_openOf_7 : decode cX6_openOf 7 = .ok (.ifCond .lt 17, 3) := by decide +kernel
theorem dX6_openOf_10 : decode cX6_openOf 10 = .ok (.aload_n 0, 1) := by decide +kernel
theorem dX6_openOf_11 : decode cX6_openOf 11 = .ok (.getfield 91, 3) := by decide +kernel
theorem dX6_openOf_14 : decode cX6_openOf 14 = .ok (.iload_n 2, 1) := by decide +kernel
theorem dX6_openOf_15 : decode cX6_openOf 15 = .ok (.iaload, 1) := by decide +kernel
theorem dX6_openOf_16 : decode cX6_openOf 16 = .ok (.iconst 1, 1) := by decide +kernel
theorem dX6_openOf_17 : decode cX6_openOf 17 = .ok (.if_icmp .ne 7, 3) := by decide +kernel
theorem dX6_openOf_20 : decode cX6_openOf 20 = .ok (.iload_n 2, 1) := by decide +kernel
theorem dX6_openOf_21 : decode cX6_openOf 21 = .ok (.goto 4, 3) := by decide +kernel
theorem dX6_openOf_24 : decode cX6_openOf 24 = .ok (.iconst (-1), 1) := by decide +kernel
theorem dX6_openOf_25 : decode cX6_openOf 25 = .ok (.ireturn, 1) := by decide +kernel
theorem dX6_markLived_0 : decode cX6_markLived 0 = .ok (.iconst 0, 1) := by decide +kernel
theorem dX6_markLived_1 : decode cX6_markLived 1 = .ok (.istore_n 2, 1) := by decide +kernel
theorem dX6_markLived_2 : decode cX6_markLived 2 = .ok (.iload_n 2, 1) := by decide +kernel
theorem dX6_markLived_3 : decode cX6_markLived 3 = .ok (.sipush 25200, 3) := by decide +kernel
theorem dX6_markLived_6 : decode cX6_markLived 6 = .ok (.if_icmp .ge 16, 3) := by decide +kernel
theorem dX6_markLived_9 : decode cX6_markLived 9 = .ok (.aload_n 0, 1) := by decide +kernel
theorem dX6_markLived_10 : decode cX6_markLived 10 = .ok (.getfield 103, 3) := by decide +kernel
theorem dX6_markLived_13 : decode cX6_markLived 13 = .ok (.iload_n 2, 1) := by decide +kernel
theorem dX6_markLived_14 : decode cX6_markLived 14 = .ok (.iconst 0, 1) := by decide +kernel
theorem dX6_markLived_15 : decode cX6_markLived 15 = .ok (.bastore, 1) := by decide +kernel
theorem dX6_markLived_16 : decode cX6_markLived 16 = .ok (.iinc 2 1, 3) := by decide +kernel
theorem dX6_markLived_19 : decode cX6_markLived 19 = .ok (.goto (-17), 3) := by decide +kernel
theorem dX6_markLived_22 : decode cX6_markLived 22 = .ok (.iconst 0, 1) := by decide +kernel
theorem dX6_markLived_23 : decode cX6_markLived 23 = .ok (.istore_n 2, 1) := by decide +kernel
theorem dX6_markLived_24 : decode cX6_markLived 24 = .ok (.iload_n 2, 1) := by decide +kernel
theorem dX6_markLived_25 : decode cX6_markLived 25 = .ok (.aload_n 0, 1) := by decide +kernel
theorem dX6_markLived_26 : decode cX6_markLived 26 = .ok (.getfield 212, 3) := by decide +kernel
theorem dX6_markLived_29 : decode cX6_markLived 29 = .ok (.if_icmp .ge 126, 3) := by decide +kernel
theorem dX6_markLived_32 : decode cX6_markLived 32 = .ok (.aload_n 0, 1) := by decide +kernel
theorem dX6_markLived_33 : decode cX6_markLived 33 = .ok (.getfield 67, 3) := by decide +kernel
theorem dX6_markLived_36 : decode cX6_markLived 36 = .ok (.iload_n 2, 1) := by decide +kernel
theorem dX6_markLived_37 : decode cX6_markLived 37 = .ok (.iaload, 1) := by decide +kernel
theorem dX6_markLived_38 : decode cX6_markLived 38 = .ok (.istore_n 3, 1) := by decide +kernel
theorem dX6_markLived_39 : decode cX6_markLived 39 = .ok (.aload_n 0, 1) := by decide +kernel
theorem dX6_markLived_40 : decode cX6_markLived 40 = .ok (.getfield 42, 3) := by decide +kernel
theorem dX6_markLived_43 : decode cX6_markLived 43 = .ok (.iload_n 3, 1) := by decide +kernel
theorem dX6_markLived_44 : decode cX6_markLived 44 = .ok (.iaload, 1) := by decide +kernel
theorem dX6_markLived_45 : decode cX6_markLived 45 = .ok (.iconst 1, 1) := by decide +kernel
theorem dX6_markLived_46 : decode cX6_markLived 46 = .ok (.if_icmp .ne 55, 3) := by decide +kernel
theorem dX6_markLived_49 : decode cX6_markLived 49 = .ok (.aload_n 0, 1) := by decide +kernel
theorem dX6_markLived_50 : decode cX6_markLived 50 = .ok (.getfield 70, 3) := by decide +kernel
theorem dX6_markLived_53 : decode cX6_markLived 53 = .ok (.iload_n 3, 1) := by decide +kernel
theorem dX6_markLived_54 : decode cX6_markLived 54 = .ok (.iaload, 1) := by decide +kernel
theorem dX6_markLived_55 : decode cX6_markLived 55 = .ok (.ifCond .ne 46, 3) := by decide +kernel
theorem dX6_markLived_58 : decode cX6_markLived 58 = .ok (.aload_n 0, 1) := by decide +kernel
theorem dX6_markLived_59 : decode cX6_markLived 59 = .ok (.getfield 48, 3) := by decide +kernel
theorem dX6_markLived_62 : decode cX6_markLived 62 = .ok (.iload_n 3, 1) := by decide +kernel
theorem dX6_markLived_63 : decode cX6_markLived 63 = .ok (.iaload, 1) := by decide +kernel
theorem dX6_markLived_64 : decode cX6_markLived 64 = .ok (.aload_n 0, 1) := by decide +kernel
theorem dX6_markLived_65 : decode cX6_markLived 65 = .ok (.getfield 48, 3) := by decide +kernel
theorem dX6_markLived_68 : decode cX6_markLived 68 = .ok (.aload_n 0, 1) := by decide +kernel
theorem dX6_markLived_69 : decode cX6_markLived 69 = .ok (.getfield 76, 3) := by decide +kernel
theorem dX6_markLived_72 : decode cX6_markLived 72 = .ok (.iload_n 1, 1) := by decide +kernel
theorem dX6_markLived_73 : decode cX6_markLived 73 = .ok (.iaload, 1) := by decide +kernel
theorem dX6_markLived_74 : decode cX6_markLived 74 = .ok (.iaload, 1) := by decide +kernel
theorem dX6_markLived_75 : decode cX6_markLived 75 = .ok (.if_icmp .ne 26, 3) := by decide +kernel
theorem dX6_markLived_78 : decode cX6_markLived 78 = .ok (.aload_n 0, 1) := by decide +kernel
theorem dX6_markLived_79 : decode cX6_markLived 79 = .ok (.getfield 85, 3) := by decide +kernel
theorem dX6_markLived_82 : decode cX6_markLived 82 = .ok (.iload_n 1, 1) := by decide +kernel
theorem dX6_markLived_83 : decode cX6_markLived 83 = .ok (.iaload, 1) := by decide +kernel
theorem dX6_markLived_84 : decode cX6_markLived 84 = .ok (.aload_n 0, 1) := by decide +kernel
theorem dX6_markLived_85 : decode cX6_markLived 85 = .ok (.getfield 45, 3) := by decide +kernel
theorem dX6_markLived_88 : decode cX6_markLived 88 = .ok (.iload_n 3, 1) := by decide +kernel
theorem dX6_markLived_89 : decode cX6_markLived 89 = .ok (.iaload, 1) := by decide +kernel
theorem dX6_markLived_90 : decode cX6_markLived 90 = .ok (.ishr, 1) := by decide +kernel
theorem dX6_markLived_91 : decode cX6_markLived 91 = .ok (.iconst 1, 1) := by decide +kernel
theorem dX6_markLived_92 : decode cX6_markLived 92 = .ok (.iand, 1) := by decide +kernel
theorem dX6_markLived_93 : decode cX6_markLived 93 = .ok (.iconst 1, 1) := by decide +kernel
theorem dX6_markLived_94 : decode cX6_markLived 94 = .ok (.if_icmp .ne 7, 3) := by decide +kernel
theorem dX6_markLived_97 : decode cX6_markLived 97 = .ok (.iconst 1, 1) := by decide +kernel
theorem dX6_markLived_98 : decode cX6_markLived 98 = .ok (.goto 4, 3) := by decide +kernel
theorem dX6_markLived_101 : decode cX6_markLived 101 = .ok (.iconst 0, 1) := by decide +kernel
theorem dX6_markLived_102 : decode cX6_markLived 102 = .ok (.istore 4, 2) := by decide +kernel
theorem dX6_markLived_104 : decode cX6_markLived 104 = .ok (.aload_n 0, 1) := by decide +kernel
theorem dX6_markLived_105 : decode cX6_markLived 105 = .ok (.getfield 39, 3) := by decide +kernel
theorem dX6_markLived_108 : decode cX6_markLived 108 = .ok (.iload_n 3, 1) := by decide +kernel
theorem dX6_markLived_109 : decode cX6_markLived 109 = .ok (.iaload, 1) := by decide +kernel
theorem dX6_markLived_110 : decode cX6_markLived 110 = .ok (.istore 5, 2) := by decide +kernel
theorem dX6_markLived_112 : decode cX6_markLived 112 = .ok (.iload 4, 2) := by decide +kernel
theorem dX6_markLived_114 : decode cX6_markLived 114 = .ok (.ifCond .eq 35, 3) := by decide +kernel
theorem dX6_markLived_117 : decode cX6_markLived 117 = .ok (.iload 5, 2) := by decide +kernel
theorem dX6_markLived_119 : decode cX6_markLived 119 = .ok (.aload_n 0, 1) := by decide +kernel
theorem dX6_markLived_120 : decode cX6_markLived 120 = .ok (.getfield 39, 3) := by decide +kernel
theorem dX6_markLived_123 : decode cX6_markLived 123 = .ok (.iload_n 3, 1) := by decide +kernel
theorem dX6_markLived_124 : decode cX6_markLived 124 = .ok (.iaload, 1) := by decide +kernel
theorem dX6_markLived_125 : decode cX6_markLived 125 = .ok (.aload_n 0, 1) := by decide +kernel
theorem dX6_markLived_126 : decode cX6_markLived 126 = .ok (.getfield 51, 3) := by decide +kernel
theorem dX6_markLived_129 : decode cX6_markLived 129 = .ok (.iload_n 3, 1) := by decide +kernel
theorem dX6_markLived_130 : decode cX6_markLived 130 = .ok (.iaload, 1) := by decide +kernel
theorem dX6_markLived_131 : decode cX6_markLived 131 = .ok (.iadd, 1) := by decide +kernel
theorem dX6_markLived_132 : decode cX6_markLived 132 = .ok (.if_icmp .ge 17, 3) := by decide +kernel
theorem dX6_markLived_135 : decode cX6_markLived 135 = .ok (.aload_n 0, 1) := by decide +kernel
theorem dX6_markLived_136 : decode cX6_markLived 136 = .ok (.getfield 103, 3) := by decide +kernel
theorem dX6_markLived_139 : decode cX6_markLived 139 = .ok (.iload 5, 2) := by decide +kernel
theorem dX6_markLived_141 : decode cX6_markLived 141 = .ok (.iconst 1, 1) := by decide +kernel
theorem dX6_markLived_142 : decode cX6_markLived 142 = .ok (.bastore, 1) := by decide +kernel
theorem dX6_markLived_143 : decode cX6_markLived 143 = .ok (.iinc 5 1, 3) := by decide +kernel
theorem dX6_markLived_146 : decode cX6_markLived 146 = .ok (.goto (-34), 3) := by decide +kernel
theorem dX6_markLived_149 : decode cX6_markLived 149 = .ok (.iinc 2 1, 3) := by decide +kernel
theorem dX6_markLived_152 : decode cX6_markLived 152 = .ok (.goto (-128), 3) := by decide +kernel
theorem dX6_markLived_155 : decode cX6_markLived 155 = .ok (.return_, 1) := by decide +kernel
theorem dX6_livedDays_0 : decode cX6_livedDays 0 = .ok (.iconst 0, 1) := by decide +kernel
theorem dX6_livedDays_1 : decode cX6_livedDays 1 = .ok (.istore_n 3, 1) := by decide +kernel
theorem dX6_livedDays_2 : decode cX6_livedDays 2 = .ok (.iload_n 1, 1) := by decide +kernel
theorem dX6_livedDays_3 : decode cX6_livedDays 3 = .ok (.istore 4, 2) := by decide +kernel
theorem dX6_livedDays_5 : decode cX6_livedDays 5 = .ok (.iload 4, 2) := by decide +kernel
theorem dX6_livedDays_7 : decode cX6_livedDays 7 = .ok (.iload_n 2, 1) := by decide +kernel
theorem dX6_livedDays_8 : decode cX6_livedDays 8 = .ok (.if_icmp .gt 27, 3) := by decide +kernel
theorem dX6_livedDays_11 : decode cX6_livedDays 11 = .ok (.iload_n 3, 1) := by decide +kernel
theorem dX6_livedDays_12 : decode cX6_livedDays 12 = .ok (.aload_n 0, 1) := by decide +kernel
theorem dX6_livedDays_13 : decode cX6_livedDays 13 = .ok (.getfield 103, 3) := by decide +kernel
theorem dX6_livedDays_16 : decode cX6_livedDays 16 = .ok (.iload 4, 2) := by decide +kernel
theorem dX6_livedDays_18 : decode cX6_livedDays 18 = .ok (.baload, 1) := by decide +kernel
theorem dX6_livedDays_19 : decode cX6_livedDays 19 = .ok (.ifCond .eq 7, 3) := by decide +kernel
theorem dX6_livedDays_22 : decode cX6_livedDays 22 = .ok (.iconst 1, 1) := by decide +kernel
theorem dX6_livedDays_23 : decode cX6_livedDays 23 = .ok (.goto 4, 3) := by decide +kernel
theorem dX6_livedDays_26 : decode cX6_livedDays 26 = .ok (.iconst 0, 1) := by decide +kernel
theorem dX6_livedDays_27 : decode cX6_livedDays 27 = .ok (.iadd, 1) := by decide +kernel
theorem dX6_livedDays_28 : decode cX6_livedDays 28 = .ok (.istore_n 3, 1) := by decide +kernel
theorem dX6_livedDays_29 : decode cX6_livedDays 29 = .ok (.iinc 4 1, 3) := by decide +kernel
theorem dX6_livedDays_32 : decode cX6_livedDays 32 = .ok (.goto (-27), 3) := by decide +kernel
theorem dX6_livedDays_35 : decode cX6_livedDays 35 = .ok (.iload_n 3, 1) := by decide +kernel
theorem dX6_livedDays_36 : decode cX6_livedDays 36 = .ok (.ireturn, 1) := by decide +kernel
theorem dX6_longestGap_0 : decode cX6_longestGap 0 = .ok (.iconst 0, 1) := by decide +kernel
theorem dX6_longestGap_1 : decode cX6_longestGap 1 = .ok (.istore_n 3, 1) := by decide +kernel
theorem dX6_longestGap_2 : decode cX6_longestGap 2 = .ok (.iconst 0, 1) := by decide +kernel
theorem dX6_longestGap_3 : decode cX6_longestGap 3 = .ok (.istore 4, 2) := by decide +kernel
theorem dX6_longestGap_5 : decode cX6_longestGap 5 = .ok (.iload_n 1, 1) := by decide +kernel
theorem dX6_longestGap_6 : decode cX6_longestGap 6 = .ok (.istore 5, 2) := by decide +kernel
theorem dX6_longestGap_8 : decode cX6_longestGap 8 = .ok (.iload 5, 2) := by decide +kernel
theorem dX6_longestGap_10 : decode cX6_longestGap 10 = .ok (.iload_n 2, 1) := by decide +kernel
theorem dX6_longestGap_11 : decode cX6_longestGap 11 = .ok (.if_icmp .gt 42, 3) := by decide +kernel
theorem dX6_longestGap_14 : decode cX6_longestGap 14 = .ok (.aload_n 0, 1) := by decide +kernel
theorem dX6_longestGap_15 : decode cX6_longestGap 15 = .ok (.getfield 103, 3) := by decide +kernel
theorem dX6_longestGap_18 : decode cX6_longestGap 18 = .ok (.iload 5, 2) := by decide +kernel
theorem dX6_longestGap_20 : decode cX6_longestGap 20 = .ok (.baload, 1) := by decide +kernel
theorem dX6_longestGap_21 : decode cX6_longestGap 21 = .ok (.ifCond .eq 7, 3) := by decide +kernel
theorem dX6_longestGap_24 : decode cX6_longestGap 24 = .ok (.iconst 0, 1) := by decide +kernel
theorem dX6_longestGap_25 : decode cX6_longestGap 25 = .ok (.goto 7, 3) := by decide +kernel
theorem dX6_longestGap_28 : decode cX6_longestGap 28 = .ok (.iload 4, 2) := by decide +kernel
theorem dX6_longestGap_30 : decode cX6_longestGap 30 = .ok (.iconst 1, 1) := by decide +kernel
theorem dX6_longestGap_31 : decode cX6_longestGap 31 = .ok (.iadd, 1) := by decide +kernel
theorem dX6_longestGap_32 : decode cX6_longestGap 32 = .ok (.istore 4, 2) := by decide +kernel
theorem dX6_longestGap_34 : decode cX6_longestGap 34 = .ok (.iload 4, 2) := by decide +kernel
theorem dX6_longestGap_36 : decode cX6_longestGap 36 = .ok (.iload_n 3, 1) := by decide +kernel
theorem dX6_longestGap_37 : decode cX6_longestGap 37 = .ok (.if_icmp .le 8, 3) := by decide +kernel
theorem dX6_longestGap_40 : decode cX6_longestGap 40 = .ok (.iload 4, 2) := by decide +kernel
theorem dX6_longestGap_42 : decode cX6_longestGap 42 = .ok (.goto 4, 3) := by decide +kernel
theorem dX6_longestGap_45 : decode cX6_longestGap 45 = .ok (.iload_n 3, 1) := by decide +kernel
theorem dX6_longestGap_46 : decode cX6_longestGap 46 = .ok (.istore_n 3, 1) := by decide +kernel
theorem dX6_longestGap_47 : decode cX6_longestGap 47 = .ok (.iinc 5 1, 3) := by decide +kernel
theorem dX6_longestGap_50 : decode cX6_longestGap 50 = .ok (.goto (-42), 3) := by decide +kernel
theorem dX6_longestGap_53 : decode cX6_longestGap 53 = .ok (.iload_n 3, 1) := by decide +kernel
theorem dX6_longestGap_54 : decode cX6_longestGap 54 = .ok (.ireturn, 1) := by decide +kernel
theorem dX6_acres_0 : decode cX6_acres 0 = .ok (.iconst 0, 1) := by decide +kernel
theorem dX6_acres_1 : decode cX6_acres 1 = .ok (.istore_n 2, 1) := by decide +kernel
theorem dX6_acres_2 : decode cX6_acres 2 = .ok (.aload_n 0, 1) := by decide +kernel
theorem dX6_acres_3 : decode cX6_acres 3 = .ok (.getfield 79, 3) := by decide +kernel
theorem dX6_acres_6 : decode cX6_acres 6 = .ok (.iload_n 1, 1) := by decide +kernel
theorem dX6_acres_7 : decode cX6_acres 7 = .ok (.iaload, 1) := by decide +kernel
theorem dX6_acres_8 : decode cX6_acres 8 = .ok (.istore_n 3, 1) := by decide +kernel
theorem dX6_acres_9 : decode cX6_acres 9 = .ok (.iload_n 3, 1) := by decide +kernel
theorem dX6_acres_10 : decode cX6_acres 10 = .ok (.aload_n 0, 1) := by decide +kernel
theorem dX6_acres_11 : decode cX6_acres 11 = .ok (.getfield 212, 3) := by decide +kernel
theorem dX6_acres_14 : decode cX6_acres 14 = .ok (.if_icmp .ge 105, 3) := by decide +kernel
theorem dX6_acres_17 : decode cX6_acres 17 = .ok (.aload_n 0, 1) := by decide +kernel
theorem dX6_acres_18 : decode cX6_acres 18 = .ok (.getfield 67, 3) := by decide +kernel
theorem dX6_acres_21 : decode cX6_acres 21 = .ok (.iload_n 3, 1) := by decide +kernel
theorem dX6_acres_22 : decode cX6_acres 22 = .ok (.iaload, 1) := by decide +kernel
theorem dX6_acres_23 : decode cX6_acres 23 = .ok (.istore 4, 2) := by decide +kernel
theorem dX6_acres_25 : decode cX6_acres 25 = .ok (.aload_n 0, 1) := by decide +kernel
theorem dX6_acres_26 : decode cX6_acres 26 = .ok (.getfield 42, 3) := by decide +kernel
theorem dX6_acres_29 : decode cX6_acres 29 = .ok (.iload 4, 2) := by decide +kernel
theorem dX6_acres_31 : decode cX6_acres 31 = .ok (.iaload, 1) := by decide +kernel
theorem dX6_acres_32 : decode cX6_acres 32 = .ok (.iconst 2, 1) := by decide +kernel
theorem dX6_acres_33 : decode cX6_acres 33 = .ok (.if_icmp .ne 38, 3) := by decide +kernel
theorem dX6_acres_36 : decode cX6_acres 36 = .ok (.aload_n 0, 1) := by decide +kernel
theorem dX6_acres_37 : decode cX6_acres 37 = .ok (.getfield 70, 3) := by decide +kernel
theorem dX6_acres_40 : decode cX6_acres 40 = .ok (.iload 4, 2) := by decide +kernel
theorem dX6_acres_42 : decode cX6_acres 42 = .ok (.iaload, 1) := by decide +kernel
theorem dX6_acres_43 : decode cX6_acres 43 = .ok (.ifCond .ne 28, 3) := by decide +kernel
theorem dX6_acres_46 : decode cX6_acres 46 = .ok (.aload_n 0, 1) := by decide +kernel
theorem dX6_acres_47 : decode cX6_acres 47 = .ok (.getfield 48, 3) := by decide +kernel
theorem dX6_acres_50 : decode cX6_acres 50 = .ok (.iload 4, 2) := by decide +kernel
theorem dX6_acres_52 : decode cX6_acres 52 = .ok (.iaload, 1) := by decide +kernel
theorem dX6_acres_53 : decode cX6_acres 53 = .ok (.aload_n 0, 1) := by decide +kernel
theorem dX6_acres_54 : decode cX6_acres 54 = .ok (.getfield 48, 3) := by decide +kernel
theorem dX6_acres_57 : decode cX6_acres 57 = .ok (.aload_n 0, 1) := by decide +kernel
theorem dX6_acres_58 : decode cX6_acres 58 = .ok (.getfield 76, 3) := by decide +kernel
theorem dX6_acres_61 : decode cX6_acres 61 = .ok (.iload_n 1, 1) := by decide +kernel
theorem dX6_acres_62 : decode cX6_acres 62 = .ok (.iaload, 1) := by decide +kernel
theorem dX6_acres_63 : decode cX6_acres 63 = .ok (.iaload, 1) := by decide +kernel
theorem dX6_acres_64 : decode cX6_acres 64 = .ok (.if_icmp .ne 7, 3) := by decide +kernel
theorem dX6_acres_67 : decode cX6_acres 67 = .ok (.iconst 1, 1) := by decide +kernel
theorem dX6_acres_68 : decode cX6_acres 68 = .ok (.goto 4, 3) := by decide +kernel
theorem dX6_acres_71 : decode cX6_acres 71 = .ok (.iconst 0, 1) := by decide +kernel
theorem dX6_acres_72 : decode cX6_acres 72 = .ok (.istore 5, 2) := by decide +kernel
theorem dX6_acres_74 : decode cX6_acres 74 = .ok (.iload_n 2, 1) := by decide +kernel
theorem dX6_acres_75 : decode cX6_acres 75 = .ok (.iload 5, 2) := by decide +kernel
theorem dX6_acres_77 : decode cX6_acres 77 = .ok (.ifCond .eq 33, 3) := by decide +kernel
theorem dX6_acres_80 : decode cX6_acres 80 = .ok (.aload_n 0, 1) := by decide +kernel
theorem dX6_acres_81 : decode cX6_acres 81 = .ok (.getfield 85, 3) := by decide +kernel
theorem dX6_acres_84 : decode cX6_acres 84 = .ok (.iload_n 1, 1) := by decide +kernel
theorem dX6_acres_85 : decode cX6_acres 85 = .ok (.iaload, 1) := by decide +kernel
theorem dX6_acres_86 : decode cX6_acres 86 = .ok (.aload_n 0, 1) := by decide +kernel
theorem dX6_acres_87 : decode cX6_acres 87 = .ok (.getfield 45, 3) := by decide +kernel
theorem dX6_acres_90 : decode cX6_acres 90 = .ok (.iload 4, 2) := by decide +kernel
theorem dX6_acres_92 : decode cX6_acres 92 = .ok (.iaload, 1) := by decide +kernel
theorem dX6_acres_93 : decode cX6_acres 93 = .ok (.ishr, 1) := by decide +kernel
theorem dX6_acres_94 : decode cX6_acres 94 = .ok (.iconst 1, 1) := by decide +kernel
theorem dX6_acres_95 : decode cX6_acres 95 = .ok (.iand, 1) := by decide +kernel
theorem dX6_acres_96 : decode cX6_acres 96 = .ok (.iconst 1, 1) := by decide +kernel
theorem dX6_acres_97 : decode cX6_acres 97 = .ok (.if_icmp .ne 13, 3) := by decide +kernel
theorem dX6_acres_100 : decode cX6_acres 100 = .ok (.aload_n 0, 1) := by decide +kernel
theorem dX6_acres_101 : decode cX6_acres 101 = .ok (.getfield 51, 3) := by decide +kernel
theorem dX6_acres_104 : decode cX6_acres 104 = .ok (.iload 4, 2) := by decide +kernel
theorem dX6_acres_106 : decode cX6_acres 106 = .ok (.iaload, 1) := by decide +kernel
theorem dX6_acres_107 : decode cX6_acres 107 = .ok (.goto 4, 3) := by decide +kernel
theorem dX6_acres_110 : decode cX6_acres 110 = .ok (.iconst 0, 1) := by decide +kernel
theorem dX6_acres_111 : decode cX6_acres 111 = .ok (.iadd, 1) := by decide +kernel
theorem dX6_acres_112 : decode cX6_acres 112 = .ok (.istore_n 2, 1) := by decide +kernel
theorem dX6_acres_113 : decode cX6_acres 113 = .ok (.iinc 3 1, 3) := by decide +kernel
theorem dX6_acres_116 : decode cX6_acres 116 = .ok (.goto (-107), 3) := by decide +kernel
theorem dX6_acres_119 : decode cX6_acres 119 = .ok (.iload_n 2, 1) := by decide +kernel
theorem dX6_acres_120 : decode cX6_acres 120 = .ok (.ireturn, 1) := by decide +kernel
theorem dX6_isOdd_0 : decode cX6_isOdd 0 = .ok (.iload_n 0, 1) := by decide +kernel
theorem dX6_isOdd_1 : decode cX6_isOdd 1 = .ok (.bipush 8, 2) := by decide +kernel
theorem dX6_isOdd_3 : decode cX6_isOdd 3 = .ok (.irem, 1) := by decide +kernel
theorem dX6_isOdd_4 : decode cX6_isOdd 4 = .ok (.iconst 2, 1) := by decide +kernel
theorem dX6_isOdd_5 : decode cX6_isOdd 5 = .ok (.idiv, 1) := by decide +kernel
theorem dX6_isOdd_6 : decode cX6_isOdd 6 = .ok (.iload_n 0, 1) := by decide +kernel
theorem dX6_isOdd_7 : decode cX6_isOdd 7 = .ok (.bipush 8, 2) := by decide +kernel
theorem dX6_isOdd_9 : decode cX6_isOdd 9 = .ok (.idiv, 1) := by decide +kernel
theorem dX6_isOdd_10 : decode cX6_isOdd 10 = .ok (.iconst 2, 1) := by decide +kernel
theorem dX6_isOdd_11 : decode cX6_isOdd 11 = .ok (.idiv, 1) := by decide +kernel
theorem dX6_isOdd_12 : decode cX6_isOdd 12 = .ok (.iadd, 1) := by decide +kernel
theorem dX6_isOdd_13 : decode cX6_isOdd 13 = .ok (.iconst 2, 1) := by decide +kernel
theorem dX6_isOdd_14 : decode cX6_isOdd 14 = .ok (.irem, 1) := by decide +kernel
theorem dX6_isOdd_15 : decode cX6_isOdd 15 = .ok (.iconst 1, 1) := by decide +kernel
theorem dX6_isOdd_16 : decode cX6_isOdd 16 = .ok (.if_icmp .ne 7, 3) := by decide +kernel
theorem dX6_isOdd_19 : decode cX6_isOdd 19 = .ok (.iconst 1, 1) := by decide +kernel
theorem dX6_isOdd_20 : decode cX6_isOdd 20 = .ok (.goto 4, 3) := by decide +kernel
theorem dX6_isOdd_23 : decode cX6_isOdd 23 = .ok (.iconst 0, 1) := by decide +kernel
theorem dX6_isOdd_24 : decode cX6_isOdd 24 = .ok (.ireturn, 1) := by decide +kernel
theorem dX6_preferredOn_0 : decode cX6_preferredOn 0 = .ok (.aload_n 0, 1) := by decide +kernel
theorem dX6_preferredOn_1 : decode cX6_preferredOn 1 = .ok (.getfield 97, 3) := by decide +kernel
theorem dX6_preferredOn_4 : decode cX6_preferredOn 4 = .ok (.iload_n 1, 1) := by decide +kernel
theorem dX6_preferredOn_5 : decode cX6_preferredOn 5 = .ok (.iaload, 1) := by decide +kernel
theorem dX6_preferredOn_6 : decode cX6_preferredOn 6 = .ok (.ifCond .lt 22, 3) := by decide +kernel
theorem dX6_preferredOn_9 : decode cX6_preferredOn 9 = .ok (.iload_n 2, 1) := by decide +kernel
theorem dX6_preferredOn_10 : decode cX6_preferredOn 10 = .ok (.aload_n 0, 1) := by decide +kernel
theorem dX6_preferredOn_11 : decode cX6_preferredOn 11 = .ok (.getfield 100, 3) := by decide +kernel
theorem dX6_preferredOn_14 : decode cX6_preferredOn 14 = .ok (.iload_n 1, 1) := by decide +kernel
theorem dX6_preferredOn_15 : decode cX6_preferredOn 15 = .ok (.iaload, 1) := by decide +kernel
theorem dX6_preferredOn_16 : decode cX6_preferredOn 16 = .ok (.if_icmp .gt 12, 3) := by decide +kernel
theorem dX6_preferredOn_19 : decode cX6_preferredOn 19 = .ok (.aload_n 0, 1) := by decide +kernel
theorem dX6_preferredOn_20 : decode cX6_preferredOn 20 = .ok (.getfield 97, 3) := by decide +kernel
theorem dX6_preferredOn_23 : decode cX6_preferredOn 23 = .ok (.iload_n 1, 1) := by decide +kernel
theorem dX6_preferredOn_24 : decode cX6_preferredOn 24 = .ok (.iaload, 1) := by decide +kernel
theorem dX6_preferredOn_25 : decode cX6_preferredOn 25 = .ok (.goto 4, 3) := by decide +kernel
theorem dX6_preferredOn_28 : decode cX6_preferredOn 28 = .ok (.iconst (-1), 1) := by decide +kernel
theorem dX6_preferredOn_29 : decode cX6_preferredOn 29 = .ok (.ireturn, 1) := by decide +kernel
theorem dX6_filedBy_0 : decode cX6_filedBy 0 = .ok (.iconst 0, 1) := by decide +kernel
theorem dX6_filedBy_1 : decode cX6_filedBy 1 = .ok (.istore_n 2, 1) := by decide +kernel
theorem dX6_filedBy_2 : decode cX6_filedBy 2 = .ok (.iconst 0, 1) := by decide +kernel
theorem dX6_filedBy_3 : decode cX6_filedBy 3 = .ok (.istore_n 3, 1) := by decide +kernel
theorem dX6_filedBy_4 : decode cX6_filedBy 4 = .ok (.iload_n 3, 1) := by decide +kernel
theorem dX6_filedBy_5 : decode cX6_filedBy 5 = .ok (.aload_n 0, 1) := by decide +kernel
theorem dX6_filedBy_6 : decode cX6_filedBy 6 = .ok (.getfield 206, 3) := by decide +kernel
theorem dX6_filedBy_9 : decode cX6_filedBy 9 = .ok (.if_icmp .ge 32, 3) := by decide +kernel
theorem dX6_filedBy_12 : decode cX6_filedBy 12 = .ok (.iload_n 2, 1) := by decide +kernel
theorem dX6_filedBy_13 : decode cX6_filedBy 13 = .ok (.aload_n 0, 1) := by decide +kernel
theorem dX6_filedBy_14 : decode cX6_filedBy 14 = .ok (.getfield 45, 3) := by decide +kernel
theorem dX6_filedBy_17 : decode cX6_filedBy 17 = .ok (.aload_n 0, 1) := by decide +kernel
theorem dX6_filedBy_18 : decode cX6_filedBy 18 = .ok (.getfield 76, 3) := by decide +kernel
theorem dX6_filedBy_21 : decode cX6_filedBy 21 = .ok (.iload_n 3, 1) := by decide +kernel
theorem dX6_filedBy_22 : decode cX6_filedBy 22 = .ok (.iaload, 1) := by decide +kernel
theorem dX6_filedBy_23 : decode cX6_filedBy 23 = .ok (.iaload, 1) := by decide +kernel
theorem dX6_filedBy_24 : decode cX6_filedBy 24 = .ok (.iload_n 1, 1) := by decide +kernel
theorem dX6_filedBy_25 : decode cX6_filedBy 25 = .ok (.if_icmp .ne 7, 3) := by decide +kernel
theorem dX6_filedBy_28 : decode cX6_filedBy 28 = .ok (.iconst 1, 1) := by decide +kernel
theorem dX6_filedBy_29 : decode cX6_filedBy 29 = .ok (.goto 4, 3) := by decide +kernel
theorem dX6_filedBy_32 : decode cX6_filedBy 32 = .ok (.iconst 0, 1) := by decide +kernel
theorem dX6_filedBy_33 : decode cX6_filedBy 33 = .ok (.iadd, 1) := by decide +kernel
theorem dX6_filedBy_34 : decode cX6_filedBy 34 = .ok (.istore_n 2, 1) := by decide +kernel
theorem dX6_filedBy_35 : decode cX6_filedBy 35 = .ok (.iinc 3 1, 3) := by decide +kernel
theorem dX6_filedBy_38 : decode cX6_filedBy 38 = .ok (.goto (-34), 3) := by decide +kernel
theorem dX6_filedBy_41 : decode cX6_filedBy 41 = .ok (.iload_n 2, 1) := by decide +kernel
theorem dX6_filedBy_42 : decode cX6_filedBy 42 = .ok (.ireturn, 1) := by decide +kernel
theorem dX6_file_0 : decode cX6_file 0 = .ok (.aload_n 0, 1) := by decide +kernel
theorem dX6_file_1 : decode cX6_file 1 = .ok (.getfield 45, 3) := by decide +kernel
theorem dX6_file_4 : decode cX6_file 4 = .ok (.iload_n 1, 1) := by decide +kernel
theorem dX6_file_5 : decode cX6_file 5 = .ok (.iaload, 1) := by decide +kernel
theorem dX6_file_6 : decode cX6_file 6 = .ok (.istore_n 2, 1) := by decide +kernel
theorem dX6_file_7 : decode cX6_file 7 = .ok (.aload_n 0, 1) := by decide +kernel
theorem dX6_file_8 : decode cX6_file 8 = .ok (.getfield 48, 3) := by decide +kernel
theorem dX6_file_11 : decode cX6_file 11 = .ok (.iload_n 1, 1) := by decide +kernel
theorem dX6_file_12 : decode cX6_file 12 = .ok (.iaload, 1) := by decide +kernel
theorem dX6_file_13 : decode cX6_file 13 = .ok (.istore_n 3, 1) := by decide +kernel
theorem dX6_file_14 : decode cX6_file 14 = .ok (.aload_n 0, 1) := by decide +kernel
theorem dX6_file_15 : decode cX6_file 15 = .ok (.getfield 39, 3) := by decide +kernel
theorem dX6_file_18 : decode cX6_file 18 = .ok (.iload_n 1, 1) := by decide +kernel
theorem dX6_file_19 : decode cX6_file 19 = .ok (.iaload, 1) := by decide +kernel
theorem dX6_file_20 : decode cX6_file 20 = .ok (.istore 4, 2) := by decide +kernel
theorem dX6_file_22 : decode cX6_file 22 = .ok (.aload_n 0, 1) := by decide +kernel
theorem dX6_file_23 : decode cX6_file 23 = .ok (.iload 4, 2) := by decide +kernel
theorem dX6_file_25 : decode cX6_file 25 = .ok (.invokevirtual 181, 3) := by decide +kernel
theorem dX6_file_28 : decode cX6_file 28 = .ok (.istore 5, 2) := by decide +kernel
theorem dX6_file_30 : decode cX6_file 30 = .ok (.iload 4, 2) := by decide +kernel
theorem dX6_file_32 : decode cX6_file 32 = .ok (.aload_n 0, 1) := by decide +kernel
theorem dX6_file_33 : decode cX6_file 33 = .ok (.getfield 7, 3) := by decide +kernel
theorem dX6_file_36 : decode cX6_file 36 = .ok (.iload_n 2, 1) := by decide +kernel
theorem dX6_file_37 : decode cX6_file 37 = .ok (.iaload, 1) := by decide +kernel
theorem dX6_file_38 : decode cX6_file 38 = .ok (.isub, 1) := by decide +kernel
theorem dX6_file_39 : decode cX6_file 39 = .ok (.aload_n 0, 1) := by decide +kernel
theorem dX6_file_40 : decode cX6_file 40 = .ok (.iload 5, 2) := by decide +kernel
theorem dX6_file_42 : decode cX6_file 42 = .ok (.iconst 0, 1) := by decide +kernel
theorem dX6_file_43 : decode cX6_file 43 = .ok (.invokevirtual 178, 3) := by decide +kernel
theorem dX6_file_46 : decode cX6_file 46 = .ok (.if_icmp .ge 5, 3) := by decide +kernel
theorem dX6_file_49 : decode cX6_file 49 = .ok (.iconst 2, 1) := by decide +kernel
theorem dX6_file_50 : decode cX6_file 50 = .ok (.ireturn, 1) := by decide +kernel
theorem dX6_file_51 : decode cX6_file 51 = .ok (.aload_n 0, 1) := by decide +kernel
theorem dX6_file_52 : decode cX6_file 52 = .ok (.getfield 13, 3) := by decide +kernel
theorem dX6_file_55 : decode cX6_file 55 = .ok (.iload_n 2, 1) := by decide +kernel
theorem dX6_file_56 : decode cX6_file 56 = .ok (.iaload, 1) := by decide +kernel
theorem dX6_file_57 : decode cX6_file 57 = .ok (.iload 4, 2) := by decide +kernel
theorem dX6_file_59 : decode cX6_file 59 = .ok (.if_icmp .le 5, 3) := by decide +kernel
theorem dX6_file_62 : decode cX6_file 62 = .ok (.iconst 3, 1) := by decide +kernel
theorem dX6_file_63 : decode cX6_file 63 = .ok (.ireturn, 1) := by decide +kernel
theorem dX6_file_64 : decode cX6_file 64 = .ok (.iload_n 3, 1) := by decide +kernel
theorem dX6_file_65 : decode cX6_file 65 = .ok (.invokestatic 215, 3) := by decide +kernel
theorem dX6_file_68 : decode cX6_file 68 = .ok (.ifCond .eq 14, 3) := by decide +kernel
theorem dX6_file_71 : decode cX6_file 71 = .ok (.iload 4, 2) := by decide +kernel
theorem dX6_file_73 : decode cX6_file 73 = .ok (.aload_n 0, 1) := by decide +kernel
theorem dX6_file_74 : decode cX6_file 74 = .ok (.getfield 16, 3) := by decide +kernel
theorem dX6_file_77 : decode cX6_file 77 = .ok (.if_icmp .lt 5, 3) := by decide +kernel
theorem dX6_file_80 : decode cX6_file 80 = .ok (.iconst 4, 1) := by decide +kernel
theorem dX6_file_81 : decode cX6_file 81 = .ok (.ireturn, 1) := by decide +kernel
theorem dX6_file_82 : decode cX6_file 82 = .ok (.aload_n 0, 1) := by decide +kernel
theorem dX6_file_83 : decode cX6_file 83 = .ok (.iload_n 3, 1) := by decide +kernel
theorem dX6_file_84 : decode cX6_file 84 = .ok (.invokevirtual 209, 3) := by decide +kernel
theorem dX6_file_87 : decode cX6_file 87 = .ok (.ifCond .lt 5, 3) := by decide +kernel
theorem dX6_file_90 : decode cX6_file 90 = .ok (.iconst 5, 1) := by decide +kernel
theorem dX6_file_91 : decode cX6_file 91 = .ok (.ireturn, 1) := by decide +kernel
theorem dX6_file_92 : decode cX6_file 92 = .ok (.aload_n 0, 1) := by decide +kernel
theorem dX6_file_93 : decode cX6_file 93 = .ok (.iload_n 3, 1) := by decide +kernel
theorem dX6_file_94 : decode cX6_file 94 = .ok (.iload 4, 2) := by decide +kernel
theorem dX6_file_96 : decode cX6_file 96 = .ok (.invokevirtual 218, 3) := by decide +kernel
theorem dX6_file_99 : decode cX6_file 99 = .ok (.istore 6, 2) := by decide +kernel
theorem dX6_file_101 : decode cX6_file 101 = .ok (.iload 6, 2) := by decide +kernel
theorem dX6_file_103 : decode cX6_file 103 = .ok (.ifCond .lt 12, 3) := by decide +kernel
theorem dX6_file_106 : decode cX6_file 106 = .ok (.iload 6, 2) := by decide +kernel
theorem dX6_file_108 : decode cX6_file 108 = .ok (.iload_n 2, 1) := by decide +kernel
theorem dX6_file_109 : decode cX6_file 109 = .ok (.if_icmp .eq 6, 3) := by decide +kernel
theorem dX6_file_112 : decode cX6_file 112 = .ok (.bipush 6, 2) := by decide +kernel
theorem dX6_file_114 : decode cX6_file 114 = .ok (.ireturn, 1) := by decide +kernel
theorem dX6_file_115 : decode cX6_file 115 = .ok (.aload_n 0, 1) := by decide +kernel
theorem dX6_file_116 : decode cX6_file 116 = .ok (.iload_n 2, 1) := by decide +kernel
theorem dX6_file_117 : decode cX6_file 117 = .ok (.invokevirtual 221, 3) := by decide +kernel
theorem dX6_file_120 : decode cX6_file 120 = .ok (.aload_n 0, 1) := by decide +kernel
theorem dX6_file_121 : decode cX6_file 121 = .ok (.iload 5, 2) := by decide +kernel
theorem dX6_file_123 : decode cX6_file 123 = .ok (.bipush 7, 2) := by decide +kernel
theorem dX6_file_125 : decode cX6_file 125 = .ok (.invokevirtual 178, 3) := by decide +kernel
theorem dX6_file_128 : decode cX6_file 128 = .ok (.if_icmp .lt 6, 3) := by decide +kernel
theorem dX6_file_131 : decode cX6_file 131 = .ok (.bipush 7, 2) := by decide +kernel
theorem dX6_file_133 : decode cX6_file 133 = .ok (.ireturn, 1) := by decide +kernel
theorem dX6_file_134 : decode cX6_file 134 = .ok (.aload_n 0, 1) := by decide +kernel
theorem dX6_file_135 : decode cX6_file 135 = .ok (.getfield 76, 3) := by decide +kernel
theorem dX6_file_138 : decode cX6_file 138 = .ok (.aload_n 0, 1) := by decide +kernel
theorem dX6_file_139 : decode cX6_file 139 = .ok (.getfield 206, 3) := by decide +kernel
theorem dX6_file_142 : decode cX6_file 142 = .ok (.iload_n 1, 1) := by decide +kernel
theorem dX6_file_143 : decode cX6_file 143 = .ok (.iastore, 1) := by decide +kernel
theorem dX6_file_144 : decode cX6_file 144 = .ok (.aload_n 0, 1) := by decide +kernel
theorem dX6_file_145 : decode cX6_file 145 = .ok (.getfield 79, 3) := by decide +kernel
theorem dX6_file_148 : decode cX6_file 148 = .ok (.aload_n 0, 1) := by decide +kernel
theorem dX6_file_149 : decode cX6_file 149 = .ok (.getfield 206, 3) := by decide +kernel
theorem dX6_file_152 : decode cX6_file 152 = .ok (.aload_n 0, 1) := by decide +kernel
theorem dX6_file_153 : decode cX6_file 153 = .ok (.getfield 212, 3) := by decide +kernel
theorem dX6_file_156 : decode cX6_file 156 = .ok (.iastore, 1) := by decide +kernel
theorem dX6_file_157 : decode cX6_file 157 = .ok (.aload_n 0, 1) := by decide +kernel
theorem dX6_file_158 : decode cX6_file 158 = .ok (.getfield 82, 3) := by decide +kernel
theorem dX6_file_161 : decode cX6_file 161 = .ok (.aload_n 0, 1) := by decide +kernel
theorem dX6_file_162 : decode cX6_file 162 = .ok (.getfield 206, 3) := by decide +kernel
theorem dX6_file_165 : decode cX6_file 165 = .ok (.iload_n 2, 1) := by decide +kernel
theorem dX6_file_166 : decode cX6_file 166 = .ok (.iastore, 1) := by decide +kernel
theorem dX6_file_167 : decode cX6_file 167 = .ok (.aload_n 0, 1) := by decide +kernel
theorem dX6_file_168 : decode cX6_file 168 = .ok (.getfield 85, 3) := by decide +kernel
theorem dX6_file_171 : decode cX6_file 171 = .ok (.aload_n 0, 1) := by decide +kernel
theorem dX6_file_172 : decode cX6_file 172 = .ok (.getfield 206, 3) := by decide +kernel
theorem dX6_file_175 : decode cX6_file 175 = .ok (.iconst 1, 1) := by decide +kernel
theorem dX6_file_176 : decode cX6_file 176 = .ok (.iload_n 2, 1) := by decide +kernel
theorem dX6_file_177 : decode cX6_file 177 = .ok (.ishl, 1) := by decide +kernel
theorem dX6_file_178 : decode cX6_file 178 = .ok (.iastore, 1) := by decide +kernel
theorem dX6_file_179 : decode cX6_file 179 = .ok (.aload_n 0, 1) := by decide +kernel
theorem dX6_file_180 : decode cX6_file 180 = .ok (.getfield 88, 3) := by decide +kernel
theorem dX6_file_183 : decode cX6_file 183 = .ok (.aload_n 0, 1) := by decide +kernel
theorem dX6_file_184 : decode cX6_file 184 = .ok (.getfield 206, 3) := by decide +kernel
theorem dX6_file_187 : decode cX6_file 187 = .ok (.iload 5, 2) := by decide +kernel
theorem dX6_file_189 : decode cX6_file 189 = .ok (.iastore, 1) := by decide +kernel
theorem dX6_file_190 : decode cX6_file 190 = .ok (.aload_n 0, 1) := by decide +kernel
theorem dX6_file_191 : decode cX6_file 191 = .ok (.getfield 91, 3) := by decide +kernel
theorem dX6_file_194 : decode cX6_file 194 = .ok (.aload_n 0, 1) := by decide +kernel
theorem dX6_file_195 : decode cX6_file 195 = .ok (.getfield 206, 3) := by decide +kernel
theorem dX6_file_198 : decode cX6_file 198 = .ok (.iconst 1, 1) := by decide +kernel
theorem dX6_file_199 : decode cX6_file 199 = .ok (.iastore, 1) := by decide +kernel
theorem dX6_file_200 : decode cX6_file 200 = .ok (.aload_n 0, 1) := by decide +kernel
theorem dX6_file_201 : decode cX6_file 201 = .ok (.getfield 94, 3) := by decide +kernel
theorem dX6_file_204 : decode cX6_file 204 = .ok (.aload_n 0, 1) := by decide +kernel
theorem dX6_file_205 : decode cX6_file 205 = .ok (.getfield 206, 3) := by decide +kernel
theorem dX6_file_208 : decode cX6_file 208 = .ok (.iconst 0, 1) := by decide +kernel
theorem dX6_file_209 : decode cX6_file 209 = .ok (.iastore, 1) := by decide +kernel
theorem dX6_file_210 : decode cX6_file 210 = .ok (.aload_n 0, 1) := by decide +kernel
theorem dX6_file_211 : decode cX6_file 211 = .ok (.dup, 1) := by decide +kernel
theorem dX6_file_212 : decode cX6_file 212 = .ok (.getfield 206, 3) := by decide +kernel
theorem dX6_file_215 : decode cX6_file 215 = .ok (.iconst 1, 1) := by decide +kernel
theorem dX6_file_216 : decode cX6_file 216 = .ok (.iadd, 1) := by decide +kernel
theorem dX6_file_217 : decode cX6_file 217 = .ok (.putfield 206, 3) := by decide +kernel
theorem dX6_file_220 : decode cX6_file 220 = .ok (.iconst 0, 1) := by decide +kernel
theorem dX6_file_221 : decode cX6_file 221 = .ok (.ireturn, 1) := by decide +kernel
theorem dX6_contest_0 : decode cX6_contest 0 = .ok (.aload_n 0, 1) := by decide +kernel
theorem dX6_contest_1 : decode cX6_contest 1 = .ok (.getfield 48, 3) := by decide +kernel
theorem dX6_contest_4 : decode cX6_contest 4 = .ok (.iload_n 1, 1) := by decide +kernel
theorem dX6_contest_5 : decode cX6_contest 5 = .ok (.iaload, 1) := by decide +kernel
theorem dX6_contest_6 : decode cX6_contest 6 = .ok (.istore_n 2, 1) := by decide +kernel
theorem dX6_contest_7 : decode cX6_contest 7 = .ok (.aload_n 0, 1) := by decide +kernel
theorem dX6_contest_8 : decode cX6_contest 8 = .ok (.getfield 39, 3) := by decide +kernel
theorem dX6_contest_11 : decode cX6_contest 11 = .ok (.iload_n 1, 1) := by decide +kernel
theorem dX6_contest_12 : decode cX6_contest 12 = .ok (.iaload, 1) := by decide +kernel
theorem dX6_contest_13 : decode cX6_contest 13 = .ok (.istore_n 3, 1) := by decide +kernel
theorem dX6_contest_14 : decode cX6_contest 14 = .ok (.aload_n 0, 1) := by decide +kernel
theorem dX6_contest_15 : decode cX6_contest 15 = .ok (.iload_n 2, 1) := by decide +kernel
theorem dX6_contest_16 : decode cX6_contest 16 = .ok (.invokevirtual 224, 3) := by decide +kernel
theorem dX6_contest_19 : decode cX6_contest 19 = .ok (.istore 4, 2) := by decide +kernel
theorem dX6_contest_21 : decode cX6_contest 21 = .ok (.iload 4, 2) := by decide +kernel
theorem dX6_contest_23 : decode cX6_contest 23 = .ok (.ifCond .ge 6, 3) := by decide +kernel
theorem dX6_contest_26 : decode cX6_contest 26 = .ok (.bipush 9, 2) := by decide +kernel
theorem dX6_contest_28 : decode cX6_contest 28 = .ok (.ireturn, 1) := by decide +kernel
theorem dX6_contest_29 : decode cX6_contest 29 = .ok (.aload_n 0, 1) := by decide +kernel
theorem dX6_contest_30 : decode cX6_contest 30 = .ok (.getfield 82, 3) := by decide +kernel
theorem dX6_contest_33 : decode cX6_contest 33 = .ok (.iload 4, 2) := by decide +kernel
theorem dX6_contest_35 : decode cX6_contest 35 = .ok (.iaload, 1) := by decide +kernel
theorem dX6_contest_36 : decode cX6_contest 36 = .ok (.aload_n 0, 1) := by decide +kernel
theorem dX6_contest_37 : decode cX6_contest 37 = .ok (.getfield 45, 3) := by decide +kernel
theorem dX6_contest_40 : decode cX6_contest 40 = .ok (.iload_n 1, 1) := by decide +kernel
theorem dX6_contest_41 : decode cX6_contest 41 = .ok (.iaload, 1) := by decide +kernel
theorem dX6_contest_42 : decode cX6_contest 42 = .ok (.if_icmp .ne 6, 3) := by decide +kernel
theorem dX6_contest_45 : decode cX6_contest 45 = .ok (.bipush 10, 2) := by decide +kernel
theorem dX6_contest_47 : decode cX6_contest 47 = .ok (.ireturn, 1) := by decide +kernel
theorem dX6_contest_48 : decode cX6_contest 48 = .ok (.aload_n 0, 1) := by decide +kernel
theorem dX6_contest_49 : decode cX6_contest 49 = .ok (.aload_n 0, 1) := by decide +kernel
theorem dX6_contest_50 : decode cX6_contest 50 = .ok (.getfield 88, 3) := by decide +kernel
theorem dX6_contest_53 : decode cX6_contest 53 = .ok (.iload 4, 2) := by decide +kernel
theorem dX6_contest_55 : decode cX6_contest 55 = .ok (.iaload, 1) := by decide +kernel
theorem dX6_contest_56 : decode cX6_contest 56 = .ok (.iconst 5, 1) := by decide +kernel
theorem dX6_contest_57 : decode cX6_contest 57 = .ok (.invokevirtual 178, 3) := by decide +kernel
theorem dX6_contest_60 : decode cX6_contest 60 = .ok (.istore 5, 2) := by decide +kernel
theorem dX6_contest_62 : decode cX6_contest 62 = .ok (.iload_n 3, 1) := by decide +kernel
theorem dX6_contest_63 : decode cX6_contest 63 = .ok (.iload 5, 2) := by decide +kernel
theorem dX6_contest_65 : decode cX6_contest 65 = .ok (.isub, 1) := by decide +kernel
theorem dX6_contest_66 : decode cX6_contest 66 = .ok (.ifCond .ge 7, 3) := by decide +kernel
theorem dX6_contest_69 : decode cX6_contest 69 = .ok (.iconst 0, 1) := by decide +kernel
theorem dX6_contest_70 : decode cX6_contest 70 = .ok (.goto 7, 3) := by decide +kernel
theorem dX6_contest_73 : decode cX6_contest 73 = .ok (.iload_n 3, 1) := by decide +kernel
theorem dX6_contest_74 : decode cX6_contest 74 = .ok (.iload 5, 2) := by decide +kernel
theorem dX6_contest_76 : decode cX6_contest 76 = .ok (.isub, 1) := by decide +kernel
theorem dX6_contest_77 : decode cX6_contest 77 = .ok (.istore 6, 2) := by decide +kernel
theorem dX6_contest_79 : decode cX6_contest 79 = .ok (.aload_n 0, 1) := by decide +kernel
theorem dX6_contest_80 : decode cX6_contest 80 = .ok (.iload 4, 2) := by decide +kernel
theorem dX6_contest_82 : decode cX6_contest 82 = .ok (.invokevirtual 227, 3) := by decide +kernel
theorem dX6_contest_85 : decode cX6_contest 85 = .ok (.aload_n 0, 1) := by decide +kernel
theorem dX6_contest_86 : decode cX6_contest 86 = .ok (.getfield 39, 3) := by decide +kernel
theorem dX6_contest_89 : decode cX6_contest 89 = .ok (.aload_n 0, 1) := by decide +kernel
theorem dX6_contest_90 : decode cX6_contest 90 = .ok (.getfield 76, 3) := by decide +kernel
theorem dX6_contest_93 : decode cX6_contest 93 = .ok (.iload 4, 2) := by decide +kernel
theorem dX6_contest_95 : decode cX6_contest 95 = .ok (.iaload, 1) := by decide +kernel
theorem dX6_contest_96 : decode cX6_contest 96 = .ok (.iaload, 1) := by decide +kernel
theorem dX6_contest_97 : decode cX6_contest 97 = .ok (.iload_n 3, 1) := by decide +kernel
theorem dX6_contest_98 : decode cX6_contest 98 = .ok (.iload 5, 2) := by decide +kernel
theorem dX6_contest_100 : decode cX6_contest 100 = .ok (.isub, 1) := by decide +kernel
theorem dX6_contest_101 : decode cX6_contest 101 = .ok (.if_icmp .ge 15, 3) := by decide +kernel
theorem dX6_contest_104 : decode cX6_contest 104 = .ok (.aload_n 0, 1) := by decide +kernel
theorem dX6_contest_105 : decode cX6_contest 105 = .ok (.iload 6, 2) := by decide +kernel
theorem dX6_contest_107 : decode cX6_contest 107 = .ok (.iload_n 3, 1) := by decide +kernel
theorem dX6_contest_108 : decode cX6_contest 108 = .ok (.iconst 1, 1) := by decide +kernel
theorem dX6_contest_109 : decode cX6_contest 109 = .ok (.isub, 1) := by decide +kernel
theorem dX6_contest_110 : decode cX6_contest 110 = .ok (.invokevirtual 231, 3) := by decide +kernel
theorem dX6_contest_113 : decode cX6_contest 113 = .ok (.ifCond .le 6, 3) := by decide +kernel
theorem dX6_contest_116 : decode cX6_contest 116 = .ok (.bipush 11, 2) := by decide +kernel
theorem dX6_contest_118 : decode cX6_contest 118 = .ok (.ireturn, 1) := by decide +kernel
theorem dX6_contest_119 : decode cX6_contest 119 = .ok (.aload_n 0, 1) := by decide +kernel
theorem dX6_contest_120 : decode cX6_contest 120 = .ok (.getfield 91, 3) := by decide +kernel
theorem dX6_contest_123 : decode cX6_contest 123 = .ok (.iload 4, 2) := by decide +kernel
theorem dX6_contest_125 : decode cX6_contest 125 = .ok (.iconst 0, 1) := by decide +kernel
theorem dX6_contest_126 : decode cX6_contest 126 = .ok (.iastore, 1) := by decide +kernel
theorem dX6_contest_127 : decode cX6_contest 127 = .ok (.aload_n 0, 1) := by decide +kernel
theorem dX6_contest_128 : decode cX6_contest 128 = .ok (.getfield 97, 3) := by decide +kernel
theorem dX6_contest_131 : decode cX6_contest 131 = .ok (.iload_n 2, 1) := by decide +kernel
theorem dX6_contest_132 : decode cX6_contest 132 = .ok (.aload_n 0, 1) := by decide +kernel
theorem dX6_contest_133 : decode cX6_contest 133 = .ok (.getfield 45, 3) := by decide +kernel
theorem dX6_contest_136 : decode cX6_contest 136 = .ok (.iload_n 1, 1) := by decide +kernel
theorem dX6_contest_137 : decode cX6_contest 137 = .ok (.iaload, 1) := by decide +kernel
theorem dX6_contest_138 : decode cX6_contest 138 = .ok (.iastore, 1) := by decide +kernel
theorem dX6_contest_139 : decode cX6_contest 139 = .ok (.aload_n 0, 1) := by decide +kernel
theorem dX6_contest_140 : decode cX6_contest 140 = .ok (.getfield 100, 3) := by decide +kernel
theorem dX6_contest_143 : decode cX6_contest 143 = .ok (.iload_n 2, 1) := by decide +kernel
theorem dX6_contest_144 : decode cX6_contest 144 = .ok (.iload_n 3, 1) := by decide +kernel
theorem dX6_contest_145 : decode cX6_contest 145 = .ok (.aload_n 0, 1) := by decide +kernel
theorem dX6_contest_146 : decode cX6_contest 146 = .ok (.aload_n 0, 1) := by decide +kernel
theorem dX6_contest_147 : decode cX6_contest 147 = .ok (.getfield 88, 3) := by decide +kernel
theorem dX6_contest_150 : decode cX6_contest 150 = .ok (.iload 4, 2) := by decide +kernel
theorem dX6_contest_152 : decode cX6_contest 152 = .ok (.iaload, 1) := by decide +kernel
theorem dX6_contest_153 : decode cX6_contest 153 = .ok (.bipush 6, 2) := by decide +kernel
theorem dX6_contest_155 : decode cX6_contest 155 = .ok (.invokevirtual 178, 3) := by decide +kernel
theorem dX6_contest_158 : decode cX6_contest 158 = .ok (.iadd, 1) := by decide +kernel
theorem dX6_contest_159 : decode cX6_contest 159 = .ok (.iastore, 1) := by decide +kernel
theorem dX6_contest_160 : decode cX6_contest 160 = .ok (.iconst 0, 1) := by decide +kernel
theorem dX6_contest_161 : decode cX6_contest 161 = .ok (.ireturn, 1) := by decide +kernel
theorem dX6_prove_0 : decode cX6_prove 0 = .ok (.aload_n 0, 1) := by decide +kernel
theorem dX6_prove_1 : decode cX6_prove 1 = .ok (.aload_n 0, 1) := by decide +kernel
theorem dX6_prove_2 : decode cX6_prove 2 = .ok (.getfield 48, 3) := by decide +kernel
theorem dX6_prove_5 : decode cX6_prove 5 = .ok (.iload_n 1, 1) := by decide +kernel
theorem dX6_prove_6 : decode cX6_prove 6 = .ok (.iaload, 1) := by decide +kernel
theorem dX6_prove_7 : decode cX6_prove 7 = .ok (.invokevirtual 224, 3) := by decide +kernel
theorem dX6_prove_10 : decode cX6_prove 10 = .ok (.istore_n 2, 1) := by decide +kernel
theorem dX6_prove_11 : decode cX6_prove 11 = .ok (.iload_n 2, 1) := by decide +kernel
theorem dX6_prove_12 : decode cX6_prove 12 = .ok (.ifCond .lt 18, 3) := by decide +kernel
theorem dX6_prove_15 : decode cX6_prove 15 = .ok (.aload_n 0, 1) := by decide +kernel
theorem dX6_prove_16 : decode cX6_prove 16 = .ok (.getfield 82, 3) := by decide +kernel
theorem dX6_prove_19 : decode cX6_prove 19 = .ok (.iload_n 2, 1) := by decide +kernel
theorem dX6_prove_20 : decode cX6_prove 20 = .ok (.iaload, 1) := by decide +kernel
theorem dX6_prove_21 : decode cX6_prove 21 = .ok (.aload_n 0, 1) := by decide +kernel
theorem dX6_prove_22 : decode cX6_prove 22 = .ok (.getfield 45, 3) := by decide +kernel
theorem dX6_prove_25 : decode cX6_prove 25 = .ok (.iload_n 1, 1) := by decide +kernel
theorem dX6_prove_26 : decode cX6_prove 26 = .ok (.iaload, 1) := by decide +kernel
theorem dX6_prove_27 : decode cX6_prove 27 = .ok (.if_icmp .eq 6, 3) := by decide +kernel
theorem dX6_prove_30 : decode cX6_prove 30 = .ok (.bipush 8, 2) := by decide +kernel
theorem dX6_prove_32 : decode cX6_prove 32 = .ok (.ireturn, 1) := by decide +kernel
theorem dX6_prove_33 : decode cX6_prove 33 = .ok (.aload_n 0, 1) := by decide +kernel
theorem dX6_prove_34 : decode cX6_prove 34 = .ok (.getfield 39, 3) := by decide +kernel
theorem dX6_prove_37 : decode cX6_prove 37 = .ok (.iload_n 1, 1) := by decide +kernel
theorem dX6_prove_38 : decode cX6_prove 38 = .ok (.iaload, 1) := by decide +kernel
theorem dX6_prove_39 : decode cX6_prove 39 = .ok (.istore_n 3, 1) := by decide +kernel
theorem dX6_prove_40 : decode cX6_prove 40 = .ok (.aload_n 0, 1) := by decide +kernel
theorem dX6_prove_41 : decode cX6_prove 41 = .ok (.getfield 39, 3) := by decide +kernel
theorem dX6_prove_44 : decode cX6_prove 44 = .ok (.aload_n 0, 1) := by decide +kernel
theorem dX6_prove_45 : decode cX6_prove 45 = .ok (.getfield 76, 3) := by decide +kernel
theorem dX6_prove_48 : decode cX6_prove 48 = .ok (.iload_n 2, 1) := by decide +kernel
theorem dX6_prove_49 : decode cX6_prove 49 = .ok (.iaload, 1) := by decide +kernel
theorem dX6_prove_50 : decode cX6_prove 50 = .ok (.iaload, 1) := by decide +kernel
theorem dX6_prove_51 : decode cX6_prove 51 = .ok (.istore 4, 2) := by decide +kernel
theorem dX6_prove_53 : decode cX6_prove 53 = .ok (.aload_n 0, 1) := by decide +kernel
theorem dX6_prove_54 : decode cX6_prove 54 = .ok (.getfield 88, 3) := by decide +kernel
theorem dX6_prove_57 : decode cX6_prove 57 = .ok (.iload_n 2, 1) := by decide +kernel
theorem dX6_prove_58 : decode cX6_prove 58 = .ok (.iaload, 1) := by decide +kernel
theorem dX6_prove_59 : decode cX6_prove 59 = .ok (.istore 5, 2) := by decide +kernel
theorem dX6_prove_61 : decode cX6_prove 61 = .ok (.iload_n 3, 1) := by decide +kernel
theorem dX6_prove_62 : decode cX6_prove 62 = .ok (.iload 4, 2) := by decide +kernel
theorem dX6_prove_64 : decode cX6_prove 64 = .ok (.isub, 1) := by decide +kernel
theorem dX6_prove_65 : decode cX6_prove 65 = .ok (.aload_n 0, 1) := by decide +kernel
theorem dX6_prove_66 : decode cX6_prove 66 = .ok (.iload 5, 2) := by decide +kernel
theorem dX6_prove_68 : decode cX6_prove 68 = .ok (.iconst 4, 1) := by decide +kernel
theorem dX6_prove_69 : decode cX6_prove 69 = .ok (.invokevirtual 178, 3) := by decide +kernel
theorem dX6_prove_72 : decode cX6_prove 72 = .ok (.if_icmp .le 6, 3) := by decide +kernel
theorem dX6_prove_75 : decode cX6_prove 75 = .ok (.bipush 12, 2) := by decide +kernel
theorem dX6_prove_77 : decode cX6_prove 77 = .ok (.ireturn, 1) := by decide +kernel
theorem dX6_prove_78 : decode cX6_prove 78 = .ok (.aload_n 0, 1) := by decide +kernel
theorem dX6_prove_79 : decode cX6_prove 79 = .ok (.iload_n 2, 1) := by decide +kernel
theorem dX6_prove_80 : decode cX6_prove 80 = .ok (.invokevirtual 227, 3) := by decide +kernel
theorem dX6_prove_83 : decode cX6_prove 83 = .ok (.aload_n 0, 1) := by decide +kernel
theorem dX6_prove_84 : decode cX6_prove 84 = .ok (.iload 4, 2) := by decide +kernel
theorem dX6_prove_86 : decode cX6_prove 86 = .ok (.iload_n 3, 1) := by decide +kernel
theorem dX6_prove_87 : decode cX6_prove 87 = .ok (.iconst 1, 1) := by decide +kernel
theorem dX6_prove_88 : decode cX6_prove 88 = .ok (.isub, 1) := by decide +kernel
theorem dX6_prove_89 : decode cX6_prove 89 = .ok (.invokevirtual 231, 3) := by decide +kernel
theorem dX6_prove_92 : decode cX6_prove 92 = .ok (.aload_n 0, 1) := by decide +kernel
theorem dX6_prove_93 : decode cX6_prove 93 = .ok (.iload 5, 2) := by decide +kernel
theorem dX6_prove_95 : decode cX6_prove 95 = .ok (.iconst 1, 1) := by decide +kernel
theorem dX6_prove_96 : decode cX6_prove 96 = .ok (.invokevirtual 178, 3) := by decide +kernel
theorem dX6_prove_99 : decode cX6_prove 99 = .ok (.if_icmp .ge 6, 3) := by decide +kernel
theorem dX6_prove_102 : decode cX6_prove 102 = .ok (.bipush 13, 2) := by decide +kernel
theorem dX6_prove_104 : decode cX6_prove 104 = .ok (.ireturn, 1) := by decide +kernel
theorem dX6_prove_105 : decode cX6_prove 105 = .ok (.aload_n 0, 1) := by decide +kernel
theorem dX6_prove_106 : decode cX6_prove 106 = .ok (.iload 4, 2) := by decide +kernel
theorem dX6_prove_108 : decode cX6_prove 108 = .ok (.iload_n 3, 1) := by decide +kernel
theorem dX6_prove_109 : decode cX6_prove 109 = .ok (.iconst 1, 1) := by decide +kernel
theorem dX6_prove_110 : decode cX6_prove 110 = .ok (.isub, 1) := by decide +kernel
theorem dX6_prove_111 : decode cX6_prove 111 = .ok (.invokevirtual 234, 3) := by decide +kernel
theorem dX6_prove_114 : decode cX6_prove 114 = .ok (.aload_n 0, 1) := by decide +kernel
theorem dX6_prove_115 : decode cX6_prove 115 = .ok (.iload 5, 2) := by decide +kernel
theorem dX6_prove_117 : decode cX6_prove 117 = .ok (.iconst 2, 1) := by decide +kernel
theorem dX6_prove_118 : decode cX6_prove 118 = .ok (.invokevirtual 178, 3) := by decide +kernel
theorem dX6_prove_121 : decode cX6_prove 121 = .ok (.if_icmp .le 6, 3) := by decide +kernel
theorem dX6_prove_124 : decode cX6_prove 124 = .ok (.bipush 14, 2) := by decide +kernel
theorem dX6_prove_126 : decode cX6_prove 126 = .ok (.ireturn, 1) := by decide +kernel
theorem dX6_prove_127 : decode cX6_prove 127 = .ok (.aload_n 0, 1) := by decide +kernel
theorem dX6_prove_128 : decode cX6_prove 128 = .ok (.iload_n 2, 1) := by decide +kernel
theorem dX6_prove_129 : decode cX6_prove 129 = .ok (.invokevirtual 237, 3) := by decide +kernel
theorem dX6_prove_132 : decode cX6_prove 132 = .ok (.aload_n 0, 1) := by decide +kernel
theorem dX6_prove_133 : decode cX6_prove 133 = .ok (.iload 5, 2) := by decide +kernel
theorem dX6_prove_135 : decode cX6_prove 135 = .ok (.iconst 3, 1) := by decide +kernel
theorem dX6_prove_136 : decode cX6_prove 136 = .ok (.invokevirtual 178, 3) := by decide +kernel
theorem dX6_prove_139 : decode cX6_prove 139 = .ok (.if_icmp .ge 6, 3) := by decide +kernel
theorem dX6_prove_142 : decode cX6_prove 142 = .ok (.bipush 15, 2) := by decide +kernel
theorem dX6_prove_144 : decode cX6_prove 144 = .ok (.ireturn, 1) := by decide +kernel
theorem dX6_prove_145 : decode cX6_prove 145 = .ok (.aload_n 0, 1) := by decide +kernel
theorem dX6_prove_146 : decode cX6_prove 146 = .ok (.getfield 91, 3) := by decide +kernel
theorem dX6_prove_149 : decode cX6_prove 149 = .ok (.iload_n 2, 1) := by decide +kernel
theorem dX6_prove_150 : decode cX6_prove 150 = .ok (.iconst 2, 1) := by decide +kernel
theorem dX6_prove_151 : decode cX6_prove 151 = .ok (.iastore, 1) := by decide +kernel
theorem dX6_prove_152 : decode cX6_prove 152 = .ok (.aload_n 0, 1) := by decide +kernel
theorem dX6_prove_153 : decode cX6_prove 153 = .ok (.getfield 94, 3) := by decide +kernel
theorem dX6_prove_156 : decode cX6_prove 156 = .ok (.iload_n 2, 1) := by decide +kernel
theorem dX6_prove_157 : decode cX6_prove 157 = .ok (.iload_n 3, 1) := by decide +kernel
theorem dX6_prove_158 : decode cX6_prove 158 = .ok (.aload_n 0, 1) := by decide +kernel
theorem dX6_prove_159 : decode cX6_prove 159 = .ok (.iload 5, 2) := by decide +kernel
theorem dX6_prove_161 : decode cX6_prove 161 = .ok (.bipush 8, 2) := by decide +kernel
theorem dX6_prove_163 : decode cX6_prove 163 = .ok (.invokevirtual 178, 3) := by decide +kernel
theorem dX6_prove_166 : decode cX6_prove 166 = .ok (.iadd, 1) := by decide +kernel
theorem dX6_prove_167 : decode cX6_prove 167 = .ok (.iastore, 1) := by decide +kernel
theorem dX6_prove_168 : decode cX6_prove 168 = .ok (.iconst 0, 1) := by decide +kernel
theorem dX6_prove_169 : decode cX6_prove 169 = .ok (.ireturn, 1) := by decide +kernel
theorem dX6_death_0 : decode cX6_death 0 = .ok (.aload_n 0, 1) := by decide +kernel
theorem dX6_death_1 : decode cX6_death 1 = .ok (.getfield 45, 3) := by decide +kernel
theorem dX6_death_4 : decode cX6_death 4 = .ok (.iload_n 1, 1) := by decide +kernel
theorem dX6_death_5 : decode cX6_death 5 = .ok (.iaload, 1) := by decide +kernel
theorem dX6_death_6 : decode cX6_death 6 = .ok (.istore_n 2, 1) := by decide +kernel
theorem dX6_death_7 : decode cX6_death 7 = .ok (.aload_n 0, 1) := by decide +kernel
theorem dX6_death_8 : decode cX6_death 8 = .ok (.getfield 51, 3) := by decide +kernel
theorem dX6_death_11 : decode cX6_death 11 = .ok (.iload_n 1, 1) := by decide +kernel
theorem dX6_death_12 : decode cX6_death 12 = .ok (.iaload, 1) := by decide +kernel
theorem dX6_death_13 : decode cX6_death 13 = .ok (.istore_n 3, 1) := by decide +kernel
theorem dX6_death_14 : decode cX6_death 14 = .ok (.iload_n 3, 1) := by decide +kernel
theorem dX6_death_15 : decode cX6_death 15 = .ok (.iload_n 2, 1) := by decide +kernel
theorem dX6_death_16 : decode cX6_death 16 = .ok (.if_icmp .eq 12, 3) := by decide +kernel
theorem dX6_death_19 : decode cX6_death 19 = .ok (.aload_n 0, 1) := by decide +kernel
theorem dX6_death_20 : decode cX6_death 20 = .ok (.getfield 73, 3) := by decide +kernel
theorem dX6_death_23 : decode cX6_death 23 = .ok (.iload_n 3, 1) := by decide +kernel
theorem dX6_death_24 : decode cX6_death 24 = .ok (.baload, 1) := by decide +kernel
theorem dX6_death_25 : decode cX6_death 25 = .ok (.ifCond .eq 6, 3) := by decide +kernel
theorem dX6_death_28 : decode cX6_death 28 = .ok (.bipush 16, 2) := by decide +kernel
theorem dX6_death_30 : decode cX6_death 30 = .ok (.ireturn, 1) := by decide +kernel
theorem dX6_death_31 : decode cX6_death 31 = .ok (.aload_n 0, 1) := by decide +kernel
theorem dX6_death_32 : decode cX6_death 32 = .ok (.getfield 73, 3) := by decide +kernel
theorem dX6_death_35 : decode cX6_death 35 = .ok (.iload_n 2, 1) := by decide +kernel
theorem dX6_death_36 : decode cX6_death 36 = .ok (.iconst 1, 1) := by decide +kernel
theorem dX6_death_37 : decode cX6_death 37 = .ok (.bastore, 1) := by decide +kernel
theorem dX6_death_38 : decode cX6_death 38 = .ok (.iconst 0, 1) := by decide +kernel
theorem dX6_death_39 : decode cX6_death 39 = .ok (.istore 4, 2) := by decide +kernel
theorem dX6_death_41 : decode cX6_death 41 = .ok (.iload 4, 2) := by decide +kernel
theorem dX6_death_43 : decode cX6_death 43 = .ok (.aload_n 0, 1) := by decide +kernel
theorem dX6_death_44 : decode cX6_death 44 = .ok (.getfield 206, 3) := by decide +kernel
theorem dX6_death_47 : decode cX6_death 47 = .ok (.if_icmp .ge 51, 3) := by decide +kernel
theorem dX6_death_50 : decode cX6_death 50 = .ok (.aload_n 0, 1) := by decide +kernel
theorem dX6_death_51 : decode cX6_death 51 = .ok (.getfield 91, 3) := by decide +kernel
theorem dX6_death_54 : decode cX6_death 54 = .ok (.iload 4, 2) := by decide +kernel
theorem dX6_death_56 : decode cX6_death 56 = .ok (.iaload, 1) := by decide +kernel
theorem dX6_death_57 : decode cX6_death 57 = .ok (.ifCond .eq 35, 3) := by decide +kernel
theorem dX6_death_60 : decode cX6_death 60 = .ok (.aload_n 0, 1) := by decide +kernel
theorem dX6_death_61 : decode cX6_death 61 = .ok (.getfield 82, 3) := by decide +kernel
theorem dX6_death_64 : decode cX6_death 64 = .ok (.iload 4, 2) := by decide +kernel
theorem dX6_death_66 : decode cX6_death 66 = .ok (.iaload, 1) := by decide +kernel
theorem dX6_death_67 : decode cX6_death 67 = .ok (.iload_n 2, 1) := by decide +kernel
theorem dX6_death_68 : decode cX6_death 68 = .ok (.if_icmp .ne 24, 3) := by decide +kernel
theorem dX6_death_71 : decode cX6_death 71 = .ok (.aload_n 0, 1) := by decide +kernel
theorem dX6_death_72 : decode cX6_death 72 = .ok (.getfield 82, 3) := by decide +kernel
theorem dX6_death_75 : decode cX6_death 75 = .ok (.iload 4, 2) := by decide +kernel
theorem dX6_death_77 : decode cX6_death 77 = .ok (.iload_n 3, 1) := by decide +kernel
theorem dX6_death_78 : decode cX6_death 78 = .ok (.iastore, 1) := by decide +kernel
theorem dX6_death_79 : decode cX6_death 79 = .ok (.aload_n 0, 1) := by decide +kernel
theorem dX6_death_80 : decode cX6_death 80 = .ok (.getfield 85, 3) := by decide +kernel
theorem dX6_death_83 : decode cX6_death 83 = .ok (.iload 4, 2) := by decide +kernel
theorem dX6_death_85 : decode cX6_death 85 = .ok (.dup2, 1) := by decide +kernel
theorem dX6_death_86 : decode cX6_death 86 = .ok (.iaload, 1) := by decide +kernel
theorem dX6_death_87 : decode cX6_death 87 = .ok (.iconst 1, 1) := by decide +kernel
theorem dX6_death_88 : decode cX6_death 88 = .ok (.iload_n 3, 1) := by decide +kernel
theorem dX6_death_89 : decode cX6_death 89 = .ok (.ishl, 1) := by decide +kernel
theorem dX6_death_90 : decode cX6_death 90 = .ok (.ior, 1) := by decide +kernel
theorem dX6_death_91 : decode cX6_death 91 = .ok (.iastore, 1) := by decide +kernel
theorem dX6_death_92 : decode cX6_death 92 = .ok (.iinc 4 1, 3) := by decide +kernel
theorem dX6_death_95 : decode cX6_death 95 = .ok (.goto (-54), 3) := by decide +kernel
theorem dX6_death_98 : decode cX6_death 98 = .ok (.iconst 0, 1) := by decide +kernel
theorem dX6_death_99 : decode cX6_death 99 = .ok (.ireturn, 1) := by decide +kernel
theorem dX6_giveUp_0 : decode cX6_giveUp 0 = .ok (.aload_n 0, 1) := by decide +kernel
theorem dX6_giveUp_1 : decode cX6_giveUp 1 = .ok (.aload_n 0, 1) := by decide +kernel
theorem dX6_giveUp_2 : decode cX6_giveUp 2 = .ok (.getfield 48, 3) := by decide +kernel
theorem dX6_giveUp_5 : decode cX6_giveUp 5 = .ok (.iload_n 1, 1) := by decide +kernel
theorem dX6_giveUp_6 : decode cX6_giveUp 6 = .ok (.iaload, 1) := by decide +kernel
theorem dX6_giveUp_7 : decode cX6_giveUp 7 = .ok (.invokevirtual 224, 3) := by decide +kernel
theorem dX6_giveUp_10 : decode cX6_giveUp 10 = .ok (.istore_n 2, 1) := by decide +kernel
theorem dX6_giveUp_11 : decode cX6_giveUp 11 = .ok (.iload_n 2, 1) := by decide +kernel
theorem dX6_giveUp_12 : decode cX6_giveUp 12 = .ok (.ifCond .lt 18, 3) := by decide +kernel
theorem dX6_giveUp_15 : decode cX6_giveUp 15 = .ok (.aload_n 0, 1) := by decide +kernel
theorem dX6_giveUp_16 : decode cX6_giveUp 16 = .ok (.getfield 82, 3) := by decide +kernel
theorem dX6_giveUp_19 : decode cX6_giveUp 19 = .ok (.iload_n 2, 1) := by decide +kernel
theorem dX6_giveUp_20 : decode cX6_giveUp 20 = .ok (.iaload, 1) := by decide +kernel
theorem dX6_giveUp_21 : decode cX6_giveUp 21 = .ok (.aload_n 0, 1) := by decide +kernel
theorem dX6_giveUp_22 : decode cX6_giveUp 22 = .ok (.getfield 45, 3) := by decide +kernel
theorem dX6_giveUp_25 : decode cX6_giveUp 25 = .ok (.iload_n 1, 1) := by decide +kernel
theorem dX6_giveUp_26 : decode cX6_giveUp 26 = .ok (.iaload, 1) := by decide +kernel
theorem dX6_giveUp_27 : decode cX6_giveUp 27 = .ok (.if_icmp .eq 6, 3) := by decide +kernel
theorem dX6_giveUp_30 : decode cX6_giveUp 30 = .ok (.bipush 8, 2) := by decide +kernel
theorem dX6_giveUp_32 : decode cX6_giveUp 32 = .ok (.ireturn, 1) := by decide +kernel
theorem dX6_giveUp_33 : decode cX6_giveUp 33 = .ok (.aload_n 0, 1) := by decide +kernel
theorem dX6_giveUp_34 : decode cX6_giveUp 34 = .ok (.getfield 91, 3) := by decide +kernel
theorem dX6_giveUp_37 : decode cX6_giveUp 37 = .ok (.iload_n 2, 1) := by decide +kernel
theorem dX6_giveUp_38 : decode cX6_giveUp 38 = .ok (.iconst 0, 1) := by decide +kernel
theorem dX6_giveUp_39 : decode cX6_giveUp 39 = .ok (.iastore, 1) := by decide +kernel
theorem dX6_giveUp_40 : decode cX6_giveUp 40 = .ok (.iconst 0, 1) := by decide +kernel
theorem dX6_giveUp_41 : decode cX6_giveUp 41 = .ok (.ireturn, 1) := by decide +kernel
theorem dX6_comesTo_0 : decode cX6_comesTo 0 = .ok (.aload_n 0, 1) := by decide +kernel
theorem dX6_comesTo_1 : decode cX6_comesTo 1 = .ok (.getfield 73, 3) := by decide +kernel
theorem dX6_comesTo_4 : decode cX6_comesTo 4 = .ok (.aload_n 0, 1) := by decide +kernel
theorem dX6_comesTo_5 : decode cX6_comesTo 5 = .ok (.getfield 45, 3) := by decide +kernel
theorem dX6_comesTo_8 : decode cX6_comesTo 8 = .ok (.iload_n 1, 1) := by decide +kernel
theorem dX6_comesTo_9 : decode cX6_comesTo 9 = .ok (.iaload, 1) := by decide +kernel
theorem dX6_comesTo_10 : decode cX6_comesTo 10 = .ok (.baload, 1) := by decide +kernel
theorem dX6_comesTo_11 : decode cX6_comesTo 11 = .ok (.ifCond .eq 5, 3) := by decide +kernel
theorem dX6_comesTo_14 : decode cX6_comesTo 14 = .ok (.iconst 1, 1) := by decide +kernel
theorem dX6_comesTo_15 : decode cX6_comesTo 15 = .ok (.ireturn, 1) := by decide +kernel
theorem dX6_comesTo_16 : decode cX6_comesTo 16 = .ok (.aload_n 0, 1) := by decide +kernel
theorem dX6_comesTo_17 : decode cX6_comesTo 17 = .ok (.getfield 42, 3) := by decide +kernel
theorem dX6_comesTo_20 : decode cX6_comesTo 20 = .ok (.iload_n 1, 1) := by decide +kernel
theorem dX6_comesTo_21 : decode cX6_comesTo 21 = .ok (.iaload, 1) := by decide +kernel
theorem dX6_comesTo_22 : decode cX6_comesTo 22 = .ok (.tableswitch 72 0 6 #[42, 72, 72, 48, 54, 60, 66], 42) := by decide +kernel
theorem dX6_comesTo_64 : decode cX6_comesTo 64 = .ok (.aload_n 0, 1) := by decide +kernel
theorem dX6_comesTo_65 : decode cX6_comesTo 65 = .ok (.iload_n 1, 1) := by decide +kernel
theorem dX6_comesTo_66 : decode cX6_comesTo 66 = .ok (.invokevirtual 240, 3) := by decide +kernel
theorem dX6_comesTo_69 : decode cX6_comesTo 69 = .ok (.ireturn, 1) := by decide +kernel
theorem dX6_comesTo_70 : decode cX6_comesTo 70 = .ok (.aload_n 0, 1) := by decide +kernel
theorem dX6_comesTo_71 : decode cX6_comesTo 71 = .ok (.iload_n 1, 1) := by decide +kernel
theorem dX6_comesTo_72 : decode cX6_comesTo 72 = .ok (.invokevirtual 243, 3) := by decide +kernel
theorem dX6_comesTo_75 : decode cX6_comesTo 75 = .ok (.ireturn, 1) := by decide +kernel
theorem dX6_comesTo_76 : decode cX6_comesTo 76 = .ok (.aload_n 0, 1) := by decide +kernel
theorem dX6_comesTo_77 : decode cX6_comesTo 77 = .ok (.iload_n 1, 1) := by decide +kernel
theorem dX6_comesTo_78 : decode cX6_comesTo 78 = .ok (.invokevirtual 246, 3) := by decide +kernel
theorem dX6_comesTo_81 : decode cX6_comesTo 81 = .ok (.ireturn, 1) := by decide +kernel
theorem dX6_comesTo_82 : decode cX6_comesTo 82 = .ok (.aload_n 0, 1) := by decide +kernel
theorem dX6_comesTo_83 : decode cX6_comesTo 83 = .ok (.iload_n 1, 1) := by decide +kernel
theorem dX6_comesTo_84 : decode cX6_comesTo 84 = .ok (.invokevirtual 249, 3) := by decide +kernel
theorem dX6_comesTo_87 : decode cX6_comesTo 87 = .ok (.ireturn, 1) := by decide +kernel
theorem dX6_comesTo_88 : decode cX6_comesTo 88 = .ok (.aload_n 0, 1) := by decide +kernel
theorem dX6_comesTo_89 : decode cX6_comesTo 89 = .ok (.iload_n 1, 1) := by decide +kernel
theorem dX6_comesTo_90 : decode cX6_comesTo 90 = .ok (.invokevirtual 252, 3) := by decide +kernel
theorem dX6_comesTo_93 : decode cX6_comesTo 93 = .ok (.ireturn, 1) := by decide +kernel
theorem dX6_comesTo_94 : decode cX6_comesTo 94 = .ok (.iconst 0, 1) := by decide +kernel
theorem dX6_comesTo_95 : decode cX6_comesTo 95 = .ok (.ireturn, 1) := by decide +kernel
theorem dX6_work_0 : decode cX6_work 0 = .ok (.aload_n 0, 1) := by decide +kernel
theorem dX6_work_1 : decode cX6_work 1 = .ok (.iload_n 1, 1) := by decide +kernel
theorem dX6_work_2 : decode cX6_work 2 = .ok (.iload_n 2, 1) := by decide +kernel
theorem dX6_work_3 : decode cX6_work 3 = .ok (.invokevirtual 255, 3) := by decide +kernel
theorem dX6_work_6 : decode cX6_work 6 = .ok (.aload_n 0, 1) := by decide +kernel
theorem dX6_work_7 : decode cX6_work 7 = .ok (.iconst 0, 1) := by decide +kernel
theorem dX6_work_8 : decode cX6_work 8 = .ok (.putfield 206, 3) := by decide +kernel
theorem dX6_work_11 : decode cX6_work 11 = .ok (.iconst 0, 1) := by decide +kernel
theorem dX6_work_12 : decode cX6_work 12 = .ok (.istore_n 3, 1) := by decide +kernel
theorem dX6_work_13 : decode cX6_work 13 = .ok (.iload_n 3, 1) := by decide +kernel
theorem dX6_work_14 : decode cX6_work 14 = .ok (.bipush 120, 2) := by decide +kernel
theorem dX6_work_16 : decode cX6_work 16 = .ok (.if_icmp .ge 16, 3) := by decide +kernel
theorem dX6_work_19 : decode cX6_work 19 = .ok (.aload_n 0, 1) := by decide +kernel
theorem dX6_work_20 : decode cX6_work 20 = .ok (.getfield 70, 3) := by decide +kernel
theorem dX6_work_23 : decode cX6_work 23 = .ok (.iload_n 3, 1) := by decide +kernel
theorem dX6_work_24 : decode cX6_work 24 = .ok (.iconst (-1), 1) := by decide +kernel
theorem dX6_work_25 : decode cX6_work 25 = .ok (.iastore, 1) := by decide +kernel
theorem dX6_work_26 : decode cX6_work 26 = .ok (.iinc 3 1, 3) := by decide +kernel
theorem dX6_work_29 : decode cX6_work 29 = .ok (.goto (-16), 3) := by decide +kernel
theorem dX6_work_32 : decode cX6_work 32 = .ok (.iconst 0, 1) := by decide +kernel
theorem dX6_work_33 : decode cX6_work 33 = .ok (.istore_n 3, 1) := by decide +kernel
theorem dX6_work_34 : decode cX6_work 34 = .ok (.iload_n 3, 1) := by decide +kernel
theorem dX6_work_35 : decode cX6_work 35 = .ok (.bipush 12, 2) := by decide +kernel
theorem dX6_work_37 : decode cX6_work 37 = .ok (.if_icmp .ge 16, 3) := by decide +kernel
theorem dX6_work_40 : decode cX6_work 40 = .ok (.aload_n 0, 1) := by decide +kernel
theorem dX6_work_41 : decode cX6_work 41 = .ok (.getfield 73, 3) := by decide +kernel
theorem dX6_work_44 : decode cX6_work 44 = .ok (.iload_n 3, 1) := by decide +kernel
theorem dX6_work_45 : decode cX6_work 45 = .ok (.iconst 0, 1) := by decide +kernel
theorem dX6_work_46 : decode cX6_work 46 = .ok (.bastore, 1) := by decide +kernel
theorem dX6_work_47 : decode cX6_work 47 = .ok (.iinc 3 1, 3) := by decide +kernel
theorem dX6_work_50 : decode cX6_work 50 = .ok (.goto (-16), 3) := by decide +kernel
theorem dX6_work_53 : decode cX6_work 53 = .ok (.iconst 0, 1) := by decide +kernel
theorem dX6_work_54 : decode cX6_work 54 = .ok (.istore_n 3, 1) := by decide +kernel
theorem dX6_work_55 : decode cX6_work 55 = .ok (.iload_n 3, 1) := by decide +kernel
theorem dX6_work_56 : decode cX6_work 56 = .ok (.bipush 64, 2) := by decide +kernel
theorem dX6_work_58 : decode cX6_work 58 = .ok (.if_icmp .ge 16, 3) := by decide +kernel
theorem dX6_work_61 : decode cX6_work 61 = .ok (.aload_n 0, 1) := by decide +kernel
theorem dX6_work_62 : decode cX6_work 62 = .ok (.getfield 97, 3) := by decide +kernel
theorem dX6_work_65 : decode cX6_work 65 = .ok (.iload_n 3, 1) := by decide +kernel
theorem dX6_work_66 : decode cX6_work 66 = .ok (.iconst (-1), 1) := by decide +kernel
theorem dX6_work_67 : decode cX6_work 67 = .ok (.iastore, 1) := by decide +kernel
theorem dX6_work_68 : decode cX6_work 68 = .ok (.iinc 3 1, 3) := by decide +kernel
theorem dX6_work_71 : decode cX6_work 71 = .ok (.goto (-16), 3) := by decide +kernel
theorem dX6_work_74 : decode cX6_work 74 = .ok (.aload_n 0, 1) := by decide +kernel
theorem dX6_work_75 : decode cX6_work 75 = .ok (.iconst 0, 1) := by decide +kernel
theorem dX6_work_76 : decode cX6_work 76 = .ok (.putfield 212, 3) := by decide +kernel
theorem dX6_work_79 : decode cX6_work 79 = .ok (.aload_n 0, 1) := by decide +kernel
theorem dX6_work_80 : decode cX6_work 80 = .ok (.getfield 212, 3) := by decide +kernel
theorem dX6_work_83 : decode cX6_work 83 = .ok (.aload_n 0, 1) := by decide +kernel
theorem dX6_work_84 : decode cX6_work 84 = .ok (.getfield 203, 3) := by decide +kernel
theorem dX6_work_87 : decode cX6_work 87 = .ok (.if_icmp .ge 37, 3) := by decide +kernel
theorem dX6_work_90 : decode cX6_work 90 = .ok (.aload_n 0, 1) := by decide +kernel
theorem dX6_work_91 : decode cX6_work 91 = .ok (.getfield 67, 3) := by decide +kernel
theorem dX6_work_94 : decode cX6_work 94 = .ok (.aload_n 0, 1) := by decide +kernel
theorem dX6_work_95 : decode cX6_work 95 = .ok (.getfield 212, 3) := by decide +kernel
theorem dX6_work_98 : decode cX6_work 98 = .ok (.iaload, 1) := by decide +kernel
theorem dX6_work_99 : decode cX6_work 99 = .ok (.istore_n 3, 1) := by decide +kernel
theorem dX6_work_100 : decode cX6_work 100 = .ok (.aload_n 0, 1) := by decide +kernel
theorem dX6_work_101 : decode cX6_work 101 = .ok (.getfield 70, 3) := by decide +kernel
theorem dX6_work_104 : decode cX6_work 104 = .ok (.iload_n 3, 1) := by decide +kernel
theorem dX6_work_105 : decode cX6_work 105 = .ok (.aload_n 0, 1) := by decide +kernel
theorem dX6_work_106 : decode cX6_work 106 = .ok (.iload_n 3, 1) := by decide +kernel
theorem dX6_work_107 : decode cX6_work 107 = .ok (.invokevirtual 259, 3) := by decide +kernel
theorem dX6_work_110 : decode cX6_work 110 = .ok (.iastore, 1) := by decide +kernel
theorem dX6_work_111 : decode cX6_work 111 = .ok (.aload_n 0, 1) := by decide +kernel
theorem dX6_work_112 : decode cX6_work 112 = .ok (.dup, 1) := by decide +kernel
theorem dX6_work_113 : decode cX6_work 113 = .ok (.getfield 212, 3) := by decide +kernel
theorem dX6_work_116 : decode cX6_work 116 = .ok (.iconst 1, 1) := by decide +kernel
theorem dX6_work_117 : decode cX6_work 117 = .ok (.iadd, 1) := by decide +kernel
theorem dX6_work_118 : decode cX6_work 118 = .ok (.putfield 212, 3) := by decide +kernel
theorem dX6_work_121 : decode cX6_work 121 = .ok (.goto (-42), 3) := by decide +kernel
theorem dX6_work_124 : decode cX6_work 124 = .ok (.return_, 1) := by decide +kernel
theorem dX6_isKnown_0 : decode cX6_isKnown 0 = .ok (.iload_n 1, 1) := by decide +kernel
theorem dX6_isKnown_1 : decode cX6_isKnown 1 = .ok (.i2l, 1) := by decide +kernel
theorem dX6_isKnown_2 : decode cX6_isKnown 2 = .ok (.ldc2_w 262, 3) := by decide +kernel
theorem dX6_isKnown_5 : decode cX6_isKnown 5 = .ok (.aload_n 0, 1) := by decide +kernel
theorem dX6_isKnown_6 : decode cX6_isKnown 6 = .ok (.getfield 197, 3) := by decide +kernel
theorem dX6_isKnown_9 : decode cX6_isKnown 9 = .ok (.i2l, 1) := by decide +kernel
theorem dX6_isKnown_10 : decode cX6_isKnown 10 = .ok (.invokestatic 130, 3) := by decide +kernel
theorem dX6_isKnown_13 : decode cX6_isKnown 13 = .ok (.ireturn, 1) := by decide +kernel
theorem dX6_first_0 : decode cX6_first 0 = .ok (.iload_n 1, 1) := by decide +kernel
theorem dX6_first_1 : decode cX6_first 1 = .ok (.ifCond .ge 10, 3) := by decide +kernel
theorem dX6_first_4 : decode cX6_first 4 = .ok (.aload_n 0, 1) := by decide +kernel
theorem dX6_first_5 : decode cX6_first 5 = .ok (.getfield 197, 3) := by decide +kernel
theorem dX6_first_8 : decode cX6_first 8 = .ok (.goto 4, 3) := by decide +kernel
theorem dX6_first_11 : decode cX6_first 11 = .ok (.iload_n 1, 1) := by decide +kernel
theorem dX6_first_12 : decode cX6_first 12 = .ok (.ireturn, 1) := by decide +kernel
theorem dX6_outcome_0 : decode cX6_outcome 0 = .ok (.aload_n 0, 1) := by decide +kernel
theorem dX6_outcome_1 : decode cX6_outcome 1 = .ok (.iload_n 1, 1) := by decide +kernel
theorem dX6_outcome_2 : decode cX6_outcome 2 = .ok (.invokevirtual 200, 3) := by decide +kernel
theorem dX6_outcome_5 : decode cX6_outcome 5 = .ok (.ifCond .ne 7, 3) := by decide +kernel
theorem dX6_outcome_8 : decode cX6_outcome 8 = .ok (.sipush (-1001), 3) := by decide +kernel
theorem dX6_outcome_11 : decode cX6_outcome 11 = .ok (.ireturn, 1) := by decide +kernel
theorem dX6_outcome_12 : decode cX6_outcome 12 = .ok (.aload_n 0, 1) := by decide +kernel
theorem dX6_outcome_13 : decode cX6_outcome 13 = .ok (.iload_n 2, 1) := by decide +kernel
theorem dX6_outcome_14 : decode cX6_outcome 14 = .ok (.invokevirtual 264, 3) := by decide +kernel
theorem dX6_outcome_17 : decode cX6_outcome 17 = .ok (.ifCond .ne 7, 3) := by decide +kernel
theorem dX6_outcome_20 : decode cX6_outcome 20 = .ok (.sipush (-1002), 3) := by decide +kernel
theorem dX6_outcome_23 : decode cX6_outcome 23 = .ok (.ireturn, 1) := by decide +kernel
theorem dX6_outcome_24 : decode cX6_outcome 24 = .ok (.aload_n 0, 1) := by decide +kernel
theorem dX6_outcome_25 : decode cX6_outcome 25 = .ok (.aload_n 0, 1) := by decide +kernel
theorem dX6_outcome_26 : decode cX6_outcome 26 = .ok (.iload_n 2, 1) := by decide +kernel
theorem dX6_outcome_27 : decode cX6_outcome 27 = .ok (.invokevirtual 267, 3) := by decide +kernel
theorem dX6_outcome_30 : decode cX6_outcome 30 = .ok (.sipush 20000, 3) := by decide +kernel
theorem dX6_outcome_33 : decode cX6_outcome 33 = .ok (.invokevirtual 270, 3) := by decide +kernel
theorem dX6_outcome_36 : decode cX6_outcome 36 = .ok (.aload_n 0, 1) := by decide +kernel
theorem dX6_outcome_37 : decode cX6_outcome 37 = .ok (.getfield 70, 3) := by decide +kernel
theorem dX6_outcome_40 : decode cX6_outcome 40 = .ok (.iload_n 1, 1) := by decide +kernel
theorem dX6_outcome_41 : decode cX6_outcome 41 = .ok (.iaload, 1) := by decide +kernel
theorem dX6_outcome_42 : decode cX6_outcome 42 = .ok (.ireturn, 1) := by decide +kernel
theorem dX6_entryMany_0 : decode cX6_entryMany 0 = .ok (.iconst 0, 1) := by decide +kernel
theorem dX6_entryMany_1 : decode cX6_entryMany 1 = .ok (.istore_n 2, 1) := by decide +kernel
theorem dX6_entryMany_2 : decode cX6_entryMany 2 = .ok (.iconst 0, 1) := by decide +kernel
theorem dX6_entryMany_3 : decode cX6_entryMany 3 = .ok (.istore_n 3, 1) := by decide +kernel
theorem dX6_entryMany_4 : decode cX6_entryMany 4 = .ok (.iload_n 3, 1) := by decide +kernel
theorem dX6_entryMany_5 : decode cX6_entryMany 5 = .ok (.aload_n 0, 1) := by decide +kernel
theorem dX6_entryMany_6 : decode cX6_entryMany 6 = .ok (.getfield 206, 3) := by decide +kernel
theorem dX6_entryMany_9 : decode cX6_entryMany 9 = .ok (.if_icmp .ge 27, 3) := by decide +kernel
theorem dX6_entryMany_12 : decode cX6_entryMany 12 = .ok (.iload_n 2, 1) := by decide +kernel
theorem dX6_entryMany_13 : decode cX6_entryMany 13 = .ok (.aload_n 0, 1) := by decide +kernel
theorem dX6_entryMany_14 : decode cX6_entryMany 14 = .ok (.getfield 91, 3) := by decide +kernel
theorem dX6_entryMany_17 : decode cX6_entryMany 17 = .ok (.iload_n 3, 1) := by decide +kernel
theorem dX6_entryMany_18 : decode cX6_entryMany 18 = .ok (.iaload, 1) := by decide +kernel
theorem dX6_entryMany_19 : decode cX6_entryMany 19 = .ok (.iload_n 1, 1) := by decide +kernel
theorem dX6_entryMany_20 : decode cX6_entryMany 20 = .ok (.if_icmp .ne 7, 3) := by decide +kernel
theorem dX6_entryMany_23 : decode cX6_entryMany 23 = .ok (.iconst 1, 1) := by decide +kernel
theorem dX6_entryMany_24 : decode cX6_entryMany 24 = .ok (.goto 4, 3) := by decide +kernel
theorem dX6_entryMany_27 : decode cX6_entryMany 27 = .ok (.iconst 0, 1) := by decide +kernel
theorem dX6_entryMany_28 : decode cX6_entryMany 28 = .ok (.iadd, 1) := by decide +kernel
theorem dX6_entryMany_29 : decode cX6_entryMany 29 = .ok (.istore_n 2, 1) := by decide +kernel
theorem dX6_entryMany_30 : decode cX6_entryMany 30 = .ok (.iinc 3 1, 3) := by decide +kernel
theorem dX6_entryMany_33 : decode cX6_entryMany 33 = .ok (.goto (-29), 3) := by decide +kernel
theorem dX6_entryMany_36 : decode cX6_entryMany 36 = .ok (.iload_n 2, 1) := by decide +kernel
theorem dX6_entryMany_37 : decode cX6_entryMany 37 = .ok (.ireturn, 1) := by decide +kernel
theorem dX6_count_0 : decode cX6_count 0 = .ok (.iconst 0, 1) := by decide +kernel
theorem dX6_count_1 : decode cX6_count 1 = .ok (.istore_n 2, 1) := by decide +kernel
theorem dX6_count_2 : decode cX6_count 2 = .ok (.iconst 0, 1) := by decide +kernel
theorem dX6_count_3 : decode cX6_count 3 = .ok (.istore_n 3, 1) := by decide +kernel
theorem dX6_count_4 : decode cX6_count 4 = .ok (.iconst 0, 1) := by decide +kernel
theorem dX6_count_5 : decode cX6_count 5 = .ok (.istore 4, 2) := by decide +kernel
theorem dX6_count_7 : decode cX6_count 7 = .ok (.aload_n 0, 1) := by decide +kernel
theorem dX6_count_8 : decode cX6_count 8 = .ok (.aload_n 0, 1) := by decide +kernel
theorem dX6_count_9 : decode cX6_count 9 = .ok (.getfield 197, 3) := by decide +kernel
theorem dX6_count_12 : decode cX6_count 12 = .ok (.sipush 20000, 3) := by decide +kernel
theorem dX6_count_15 : decode cX6_count 15 = .ok (.invokevirtual 270, 3) := by decide +kernel
theorem dX6_count_18 : decode cX6_count 18 = .ok (.iconst 0, 1) := by decide +kernel
theorem dX6_count_19 : decode cX6_count 19 = .ok (.istore 5, 2) := by decide +kernel
theorem dX6_count_21 : decode cX6_count 21 = .ok (.iload 5, 2) := by decide +kernel
theorem dX6_count_23 : decode cX6_count 23 = .ok (.aload_n 0, 1) := by decide +kernel
theorem dX6_count_24 : decode cX6_count 24 = .ok (.getfield 197, 3) := by decide +kernel
theorem dX6_count_27 : decode cX6_count 27 = .ok (.if_icmp .ge 45, 3) := by decide +kernel
theorem dX6_count_30 : decode cX6_count 30 = .ok (.iload_n 2, 1) := by decide +kernel
theorem dX6_count_31 : decode cX6_count 31 = .ok (.aload_n 0, 1) := by decide +kernel
theorem dX6_count_32 : decode cX6_count 32 = .ok (.getfield 54, 3) := by decide +kernel
theorem dX6_count_35 : decode cX6_count 35 = .ok (.iload 5, 2) := by decide +kernel
theorem dX6_count_37 : decode cX6_count 37 = .ok (.baload, 1) := by decide +kernel
theorem dX6_count_38 : decode cX6_count 38 = .ok (.ifCond .eq 7, 3) := by decide +kernel
theorem dX6_count_41 : decode cX6_count 41 = .ok (.iconst 1, 1) := by decide +kernel
theorem dX6_count_42 : decode cX6_count 42 = .ok (.goto 4, 3) := by decide +kernel
theorem dX6_count_45 : decode cX6_count 45 = .ok (.iconst 0, 1) := by decide +kernel
theorem dX6_count_46 : decode cX6_count 46 = .ok (.iadd, 1) := by decide +kernel
theorem dX6_count_47 : decode cX6_count 47 = .ok (.istore_n 2, 1) := by decide +kernel
theorem dX6_count_48 : decode cX6_count 48 = .ok (.iload_n 3, 1) := by decide +kernel
theorem dX6_count_49 : decode cX6_count 49 = .ok (.aload_n 0, 1) := by decide +kernel
theorem dX6_count_50 : decode cX6_count 50 = .ok (.getfield 70, 3) := by decide +kernel
theorem dX6_count_53 : decode cX6_count 53 = .ok (.iload 5, 2) := by decide +kernel
theorem dX6_count_55 : decode cX6_count 55 = .ok (.iaload, 1) := by decide +kernel
theorem dX6_count_56 : decode cX6_count 56 = .ok (.ifCond .le 7, 3) := by decide +kernel
theorem dX6_count_59 : decode cX6_count 59 = .ok (.iconst 1, 1) := by decide +kernel
theorem dX6_count_60 : decode cX6_count 60 = .ok (.goto 4, 3) := by decide +kernel
theorem dX6_count_63 : decode cX6_count 63 = .ok (.iconst 0, 1) := by decide +kernel
theorem dX6_count_64 : decode cX6_count 64 = .ok (.iadd, 1) := by decide +kernel
theorem dX6_count_65 : decode cX6_count 65 = .ok (.istore_n 3, 1) := by decide +kernel
theorem dX6_count_66 : decode cX6_count 66 = .ok (.iinc 5 1, 3) := by decide +kernel
theorem dX6_count_69 : decode cX6_count 69 = .ok (.goto (-48), 3) := by decide +kernel
theorem dX6_count_72 : decode cX6_count 72 = .ok (.iconst 0, 1) := by decide +kernel
theorem dX6_count_73 : decode cX6_count 73 = .ok (.istore 5, 2) := by decide +kernel
theorem dX6_count_75 : decode cX6_count 75 = .ok (.iload 5, 2) := by decide +kernel
theorem dX6_count_77 : decode cX6_count 77 = .ok (.aload_n 0, 1) := by decide +kernel
theorem dX6_count_78 : decode cX6_count 78 = .ok (.getfield 134, 3) := by decide +kernel
theorem dX6_count_81 : decode cX6_count 81 = .ok (.if_icmp .ge 29, 3) := by decide +kernel
theorem dX6_count_84 : decode cX6_count 84 = .ok (.iload 4, 2) := by decide +kernel
theorem dX6_count_86 : decode cX6_count 86 = .ok (.aload_n 0, 1) := by decide +kernel
theorem dX6_count_87 : decode cX6_count 87 = .ok (.getfield 73, 3) := by decide +kernel
theorem dX6_count_90 : decode cX6_count 90 = .ok (.iload 5, 2) := by decide +kernel
theorem dX6_count_92 : decode cX6_count 92 = .ok (.baload, 1) := by decide +kernel
theorem dX6_count_93 : decode cX6_count 93 = .ok (.ifCond .eq 7, 3) := by decide +kernel
theorem dX6_count_96 : decode cX6_count 96 = .ok (.iconst 1, 1) := by decide +kernel
theorem dX6_count_97 : decode cX6_count 97 = .ok (.goto 4, 3) := by decide +kernel
theorem dX6_count_100 : decode cX6_count 100 = .ok (.iconst 0, 1) := by decide +kernel
theorem dX6_count_101 : decode cX6_count 101 = .ok (.iadd, 1) := by decide +kernel
theorem dX6_count_102 : decode cX6_count 102 = .ok (.istore 4, 2) := by decide +kernel
theorem dX6_count_104 : decode cX6_count 104 = .ok (.iinc 5 1, 3) := by decide +kernel
theorem dX6_count_107 : decode cX6_count 107 = .ok (.goto (-32), 3) := by decide +kernel
theorem dX6_count_110 : decode cX6_count 110 = .ok (.iload_n 1, 1) := by decide +kernel
theorem dX6_count_111 : decode cX6_count 111 = .ok (.tableswitch 107 0 10 #[57, 62, 67, 72, 74, 79, 84, 90, 96, 102, 105], 57) := by decide +kernel
theorem dX6_count_168 : decode cX6_count 168 = .ok (.aload_n 0, 1) := by decide +kernel
theorem dX6_count_169 : decode cX6_count 169 = .ok (.getfield 134, 3) := by decide +kernel
theorem dX6_count_172 : decode cX6_count 172 = .ok (.ireturn, 1) := by decide +kernel
theorem dX6_count_173 : decode cX6_count 173 = .ok (.aload_n 0, 1) := by decide +kernel
theorem dX6_count_174 : decode cX6_count 174 = .ok (.getfield 158, 3) := by decide +kernel
theorem dX6_count_177 : decode cX6_count 177 = .ok (.ireturn, 1) := by decide +kernel
theorem dX6_count_178 : decode cX6_count 178 = .ok (.aload_n 0, 1) := by decide +kernel
theorem dX6_count_179 : decode cX6_count 179 = .ok (.getfield 197, 3) := by decide +kernel
theorem dX6_count_182 : decode cX6_count 182 = .ok (.ireturn, 1) := by decide +kernel
theorem dX6_count_183 : decode cX6_count 183 = .ok (.iload_n 2, 1) := by decide +kernel
theorem dX6_count_184 : decode cX6_count 184 = .ok (.ireturn, 1) := by decide +kernel
theorem dX6_count_185 : decode cX6_count 185 = .ok (.aload_n 0, 1) := by decide +kernel
theorem dX6_count_186 : decode cX6_count 186 = .ok (.getfield 145, 3) := by decide +kernel
theorem dX6_count_189 : decode cX6_count 189 = .ok (.ireturn, 1) := by decide +kernel
theorem dX6_count_190 : decode cX6_count 190 = .ok (.aload_n 0, 1) := by decide +kernel
theorem dX6_count_191 : decode cX6_count 191 = .ok (.getfield 206, 3) := by decide +kernel
theorem dX6_count_194 : decode cX6_count 194 = .ok (.ireturn, 1) := by decide +kernel
theorem dX6_count_195 : decode cX6_count 195 = .ok (.aload_n 0, 1) := by decide +kernel
theorem dX6_count_196 : decode cX6_count 196 = .ok (.iconst 1, 1) := by decide +kernel
theorem dX6_count_197 : decode cX6_count 197 = .ok (.invokevirtual 273, 3) := by decide +kernel
theorem dX6_count_200 : decode cX6_count 200 = .ok (.ireturn, 1) := by decide +kernel
theorem dX6_count_201 : decode cX6_count 201 = .ok (.aload_n 0, 1) := by decide +kernel
theorem dX6_count_202 : decode cX6_count 202 = .ok (.iconst 2, 1) := by decide +kernel
theorem dX6_count_203 : decode cX6_count 203 = .ok (.invokevirtual 273, 3) := by decide +kernel
theorem dX6_count_206 : decode cX6_count 206 = .ok (.ireturn, 1) := by decide +kernel
theorem dX6_count_207 : decode cX6_count 207 = .ok (.aload_n 0, 1) := by decide +kernel
theorem dX6_count_208 : decode cX6_count 208 = .ok (.iconst 0, 1) := by decide +kernel
theorem dX6_count_209 : decode cX6_count 209 = .ok (.invokevirtual 273, 3) := by decide +kernel
theorem dX6_count_212 : decode cX6_count 212 = .ok (.ireturn, 1) := by decide +kernel
theorem dX6_count_213 : decode cX6_count 213 = .ok (.iload 4, 2) := by decide +kernel
theorem dX6_count_215 : decode cX6_count 215 = .ok (.ireturn, 1) := by decide +kernel
theorem dX6_count_216 : decode cX6_count 216 = .ok (.iload_n 3, 1) := by decide +kernel
theorem dX6_count_217 : decode cX6_count 217 = .ok (.ireturn, 1) := by decide +kernel
theorem dX6_count_218 : decode cX6_count 218 = .ok (.sipush (-1002), 3) := by decide +kernel
theorem dX6_count_221 : decode cX6_count 221 = .ok (.ireturn, 1) := by decide +kernel
theorem dX6_stateOf_0 : decode cX6_stateOf 0 = .ok (.iload_n 2, 1) := by decide +kernel
theorem dX6_stateOf_1 : decode cX6_stateOf 1 = .ok (.ifCond .ge 24, 3) := by decide +kernel
theorem dX6_stateOf_4 : decode cX6_stateOf 4 = .ok (.iload_n 1, 1) := by decide +kernel
theorem dX6_stateOf_5 : decode cX6_stateOf 5 = .ok (.invokestatic 215, 3) := by decide +kernel
theorem dX6_stateOf_8 : decode cX6_stateOf 8 = .ok (.ifCond .eq 15, 3) := by decide +kernel
theorem dX6_stateOf_11 : decode cX6_stateOf 11 = .ok (.iload_n 3, 1) := by decide +kernel
theorem dX6_stateOf_12 : decode cX6_stateOf 12 = .ok (.aload_n 0, 1) := by decide +kernel
theorem dX6_stateOf_13 : decode cX6_stateOf 13 = .ok (.getfield 16, 3) := by decide +kernel
theorem dX6_stateOf_16 : decode cX6_stateOf 16 = .ok (.if_icmp .lt 7, 3) := by decide +kernel
theorem dX6_stateOf_19 : decode cX6_stateOf 19 = .ok (.iconst 4, 1) := by decide +kernel
theorem dX6_stateOf_20 : decode cX6_stateOf 20 = .ok (.goto 4, 3) := by decide +kernel
theorem dX6_stateOf_23 : decode cX6_stateOf 23 = .ok (.iconst 0, 1) := by decide +kernel
theorem dX6_stateOf_24 : decode cX6_stateOf 24 = .ok (.ireturn, 1) := by decide +kernel
theorem dX6_stateOf_25 : decode cX6_stateOf 25 = .ok (.aload_n 0, 1) := by decide +kernel
theorem dX6_stateOf_26 : decode cX6_stateOf 26 = .ok (.getfield 91, 3) := by decide +kernel
theorem dX6_stateOf_29 : decode cX6_stateOf 29 = .ok (.iload_n 2, 1) := by decide +kernel
theorem dX6_stateOf_30 : decode cX6_stateOf 30 = .ok (.iaload, 1) := by decide +kernel
theorem dX6_stateOf_31 : decode cX6_stateOf 31 = .ok (.iconst 1, 1) := by decide +kernel
theorem dX6_stateOf_32 : decode cX6_stateOf 32 = .ok (.if_icmp .ne 7, 3) := by decide +kernel
theorem dX6_stateOf_35 : decode cX6_stateOf 35 = .ok (.iconst 1, 1) := by decide +kernel
theorem dX6_stateOf_36 : decode cX6_stateOf 36 = .ok (.goto 18, 3) := by decide +kernel
theorem dX6_stateOf_39 : decode cX6_stateOf 39 = .ok (.aload_n 0, 1) := by decide +kernel
theorem dX6_stateOf_40 : decode cX6_stateOf 40 = .ok (.getfield 94, 3) := by decide +kernel
theorem dX6_stateOf_43 : decode cX6_stateOf 43 = .ok (.iload_n 2, 1) := by decide +kernel
theorem dX6_stateOf_44 : decode cX6_stateOf 44 = .ok (.iaload, 1) := by decide +kernel
theorem dX6_stateOf_45 : decode cX6_stateOf 45 = .ok (.iload_n 3, 1) := by decide +kernel
theorem dX6_stateOf_46 : decode cX6_stateOf 46 = .ok (.if_icmp .gt 7, 3) := by decide +kernel
theorem dX6_stateOf_49 : decode cX6_stateOf 49 = .ok (.iconst 3, 1) := by decide +kernel
theorem dX6_stateOf_50 : decode cX6_stateOf 50 = .ok (.goto 4, 3) := by decide +kernel
theorem dX6_stateOf_53 : decode cX6_stateOf 53 = .ok (.iconst 2, 1) := by decide +kernel
theorem dX6_stateOf_54 : decode cX6_stateOf 54 = .ok (.ireturn, 1) := by decide +kernel
theorem dX6_holds_0 : decode cX6_holds 0 = .ok (.iload_n 1, 1) := by decide +kernel
theorem dX6_holds_1 : decode cX6_holds 1 = .ok (.invokestatic 190, 3) := by decide +kernel
theorem dX6_holds_4 : decode cX6_holds 4 = .ok (.ifCond .ne 7, 3) := by decide +kernel
theorem dX6_holds_7 : decode cX6_holds 7 = .ok (.sipush (-1001), 3) := by decide +kernel
theorem dX6_holds_10 : decode cX6_holds 10 = .ok (.ireturn, 1) := by decide +kernel
theorem dX6_holds_11 : decode cX6_holds 11 = .ok (.iload_n 2, 1) := by decide +kernel
theorem dX6_holds_12 : decode cX6_holds 12 = .ok (.invokestatic 154, 3) := by decide +kernel
theorem dX6_holds_15 : decode cX6_holds 15 = .ok (.ifCond .eq 24, 3) := by decide +kernel
theorem dX6_holds_18 : decode cX6_holds 18 = .ok (.aload_n 0, 1) := by decide +kernel
theorem dX6_holds_19 : decode cX6_holds 19 = .ok (.iload_n 3, 1) := by decide +kernel
theorem dX6_holds_20 : decode cX6_holds 20 = .ok (.invokevirtual 264, 3) := by decide +kernel
theorem dX6_holds_23 : decode cX6_holds 23 = .ok (.ifCond .eq 16, 3) := by decide +kernel
theorem dX6_holds_26 : decode cX6_holds 26 = .ok (.iload 4, 2) := by decide +kernel
theorem dX6_holds_28 : decode cX6_holds 28 = .ok (.i2l, 1) := by decide +kernel
theorem dX6_holds_29 : decode cX6_holds 29 = .ok (.lconst 0, 1) := by decide +kernel
theorem dX6_holds_30 : decode cX6_holds 30 = .ok (.ldc2_w 276, 3) := by decide +kernel
theorem dX6_holds_33 : decode cX6_holds 33 = .ok (.invokestatic 130, 3) := by decide +kernel
theorem dX6_holds_36 : decode cX6_holds 36 = .ok (.ifCond .ne 7, 3) := by decide +kernel
theorem dX6_holds_39 : decode cX6_holds 39 = .ok (.sipush (-1002), 3) := by decide +kernel
theorem dX6_holds_42 : decode cX6_holds 42 = .ok (.ireturn, 1) := by decide +kernel
theorem dX6_holds_43 : decode cX6_holds 43 = .ok (.aload_n 0, 1) := by decide +kernel
theorem dX6_holds_44 : decode cX6_holds 44 = .ok (.aload_n 0, 1) := by decide +kernel
theorem dX6_holds_45 : decode cX6_holds 45 = .ok (.iload_n 3, 1) := by decide +kernel
theorem dX6_holds_46 : decode cX6_holds 46 = .ok (.invokevirtual 267, 3) := by decide +kernel
theorem dX6_holds_49 : decode cX6_holds 49 = .ok (.iload_n 2, 1) := by decide +kernel
theorem dX6_holds_50 : decode cX6_holds 50 = .ok (.invokevirtual 270, 3) := by decide +kernel
theorem dX6_holds_53 : decode cX6_holds 53 = .ok (.aload_n 0, 1) := by decide +kernel
theorem dX6_holds_54 : decode cX6_holds 54 = .ok (.iload_n 1, 1) := by decide +kernel
theorem dX6_holds_55 : decode cX6_holds 55 = .ok (.invokevirtual 209, 3) := by decide +kernel
theorem dX6_holds_58 : decode cX6_holds 58 = .ok (.istore 5, 2) := by decide +kernel
theorem dX6_holds_60 : decode cX6_holds 60 = .ok (.iload 4, 2) := by decide +kernel
theorem dX6_holds_62 : decode cX6_holds 62 = .ok (.tableswitch 104 0 5 #[38, 55, 64, 81, 104, 88], 38) := by decide +kernel
theorem dX6_holds_100 : decode cX6_holds 100 = .ok (.iload 5, 2) := by decide +kernel
theorem dX6_holds_102 : decode cX6_holds 102 = .ok (.ifCond .ge 7, 3) := by decide +kernel
theorem dX6_holds_105 : decode cX6_holds 105 = .ok (.iconst (-1), 1) := by decide +kernel
theorem dX6_holds_106 : decode cX6_holds 106 = .ok (.goto 10, 3) := by decide +kernel
theorem dX6_holds_109 : decode cX6_holds 109 = .ok (.aload_n 0, 1) := by decide +kernel
theorem dX6_holds_110 : decode cX6_holds 110 = .ok (.getfield 82, 3) := by decide +kernel
theorem dX6_holds_113 : decode cX6_holds 113 = .ok (.iload 5, 2) := by decide +kernel
theorem dX6_holds_115 : decode cX6_holds 115 = .ok (.iaload, 1) := by decide +kernel
theorem dX6_holds_116 : decode cX6_holds 116 = .ok (.ireturn, 1) := by decide +kernel
theorem dX6_holds_117 : decode cX6_holds 117 = .ok (.aload_n 0, 1) := by decide +kernel
theorem dX6_holds_118 : decode cX6_holds 118 = .ok (.iload_n 1, 1) := by decide +kernel
theorem dX6_holds_119 : decode cX6_holds 119 = .ok (.iload 5, 2) := by decide +kernel
theorem dX6_holds_121 : decode cX6_holds 121 = .ok (.iload_n 2, 1) := by decide +kernel
theorem dX6_holds_122 : decode cX6_holds 122 = .ok (.invokevirtual 278, 3) := by decide +kernel
theorem dX6_holds_125 : decode cX6_holds 125 = .ok (.ireturn, 1) := by decide +kernel
theorem dX6_holds_126 : decode cX6_holds 126 = .ok (.iload 5, 2) := by decide +kernel
theorem dX6_holds_128 : decode cX6_holds 128 = .ok (.ifCond .ge 7, 3) := by decide +kernel
theorem dX6_holds_131 : decode cX6_holds 131 = .ok (.iconst (-1), 1) := by decide +kernel
theorem dX6_holds_132 : decode cX6_holds 132 = .ok (.goto 10, 3) := by decide +kernel
theorem dX6_holds_135 : decode cX6_holds 135 = .ok (.aload_n 0, 1) := by decide +kernel
theorem dX6_holds_136 : decode cX6_holds 136 = .ok (.getfield 76, 3) := by decide +kernel
theorem dX6_holds_139 : decode cX6_holds 139 = .ok (.iload 5, 2) := by decide +kernel
theorem dX6_holds_141 : decode cX6_holds 141 = .ok (.iaload, 1) := by decide +kernel
theorem dX6_holds_142 : decode cX6_holds 142 = .ok (.ireturn, 1) := by decide +kernel
theorem dX6_holds_143 : decode cX6_holds 143 = .ok (.aload_n 0, 1) := by decide +kernel
theorem dX6_holds_144 : decode cX6_holds 144 = .ok (.iload_n 1, 1) := by decide +kernel
theorem dX6_holds_145 : decode cX6_holds 145 = .ok (.iload_n 2, 1) := by decide +kernel
theorem dX6_holds_146 : decode cX6_holds 146 = .ok (.invokevirtual 218, 3) := by decide +kernel
theorem dX6_holds_149 : decode cX6_holds 149 = .ok (.ireturn, 1) := by decide +kernel
theorem dX6_holds_150 : decode cX6_holds 150 = .ok (.iload 5, 2) := by decide +kernel
theorem dX6_holds_152 : decode cX6_holds 152 = .ok (.ifCond .ge 7, 3) := by decide +kernel
theorem dX6_holds_155 : decode cX6_holds 155 = .ok (.iconst 0, 1) := by decide +kernel
theorem dX6_holds_156 : decode cX6_holds 156 = .ok (.goto 9, 3) := by decide +kernel
theorem dX6_holds_159 : decode cX6_holds 159 = .ok (.aload_n 0, 1) := by decide +kernel
theorem dX6_holds_160 : decode cX6_holds 160 = .ok (.iload 5, 2) := by decide +kernel
theorem dX6_holds_162 : decode cX6_holds 162 = .ok (.invokevirtual 237, 3) := by decide +kernel
theorem dX6_holds_165 : decode cX6_holds 165 = .ok (.ireturn, 1) := by decide +kernel
theorem dX6_holds_166 : decode cX6_holds 166 = .ok (.iload 5, 2) := by decide +kernel
theorem dX6_holds_168 : decode cX6_holds 168 = .ok (.ifCond .ge 5, 3) := by decide +kernel
theorem dX6_holds_171 : decode cX6_holds 171 = .ok (.iconst 0, 1) := by decide +kernel
theorem dX6_holds_172 : decode cX6_holds 172 = .ok (.ireturn, 1) := by decide +kernel
theorem dX6_holds_173 : decode cX6_holds 173 = .ok (.aload_n 0, 1) := by decide +kernel
theorem dX6_holds_174 : decode cX6_holds 174 = .ok (.iload 5, 2) := by decide +kernel
theorem dX6_holds_176 : decode cX6_holds 176 = .ok (.invokevirtual 227, 3) := by decide +kernel
theorem dX6_holds_179 : decode cX6_holds 179 = .ok (.aload_n 0, 1) := by decide +kernel
theorem dX6_holds_180 : decode cX6_holds 180 = .ok (.aload_n 0, 1) := by decide +kernel
theorem dX6_holds_181 : decode cX6_holds 181 = .ok (.getfield 39, 3) := by decide +kernel
theorem dX6_holds_184 : decode cX6_holds 184 = .ok (.aload_n 0, 1) := by decide +kernel
theorem dX6_holds_185 : decode cX6_holds 185 = .ok (.getfield 76, 3) := by decide +kernel
theorem dX6_holds_188 : decode cX6_holds 188 = .ok (.iload 5, 2) := by decide +kernel
theorem dX6_holds_190 : decode cX6_holds 190 = .ok (.iaload, 1) := by decide +kernel
theorem dX6_holds_191 : decode cX6_holds 191 = .ok (.iaload, 1) := by decide +kernel
theorem dX6_holds_192 : decode cX6_holds 192 = .ok (.iload_n 2, 1) := by decide +kernel
theorem dX6_holds_193 : decode cX6_holds 193 = .ok (.invokevirtual 231, 3) := by decide +kernel
theorem dX6_holds_196 : decode cX6_holds 196 = .ok (.ireturn, 1) := by decide +kernel
theorem dX6_holderOf_0 : decode cX6_holderOf 0 = .ok (.aload_n 0, 1) := by decide +kernel
theorem dX6_holderOf_1 : decode cX6_holderOf 1 = .ok (.iload_n 1, 1) := by decide +kernel
theorem dX6_holderOf_2 : decode cX6_holderOf 2 = .ok (.invokevirtual 209, 3) := by decide +kernel
theorem dX6_holderOf_5 : decode cX6_holderOf 5 = .ok (.istore_n 2, 1) := by decide +kernel
theorem dX6_holderOf_6 : decode cX6_holderOf 6 = .ok (.iload_n 2, 1) := by decide +kernel
theorem dX6_holderOf_7 : decode cX6_holderOf 7 = .ok (.ifCond .ge 7, 3) := by decide +kernel
theorem dX6_holderOf_10 : decode cX6_holderOf 10 = .ok (.iconst (-1), 1) := by decide +kernel
theorem dX6_holderOf_11 : decode cX6_holderOf 11 = .ok (.goto 9, 3) := by decide +kernel
theorem dX6_holderOf_14 : decode cX6_holderOf 14 = .ok (.aload_n 0, 1) := by decide +kernel
theorem dX6_holderOf_15 : decode cX6_holderOf 15 = .ok (.getfield 82, 3) := by decide +kernel
theorem dX6_holderOf_18 : decode cX6_holderOf 18 = .ok (.iload_n 2, 1) := by decide +kernel
theorem dX6_holderOf_19 : decode cX6_holderOf 19 = .ok (.iaload, 1) := by decide +kernel
theorem dX6_holderOf_20 : decode cX6_holderOf 20 = .ok (.ireturn, 1) := by decide +kernel
theorem dX6_holdings_0 : decode cX6_holdings 0 = .ok (.aload_n 0, 1) := by decide +kernel
theorem dX6_holdings_1 : decode cX6_holdings 1 = .ok (.iload_n 1, 1) := by decide +kernel
theorem dX6_holdings_2 : decode cX6_holdings 2 = .ok (.invokevirtual 187, 3) := by decide +kernel
theorem dX6_holdings_5 : decode cX6_holdings 5 = .ok (.ifCond .ne 7, 3) := by decide +kernel
theorem dX6_holdings_8 : decode cX6_holdings 8 = .ok (.sipush (-1001), 3) := by decide +kernel
theorem dX6_holdings_11 : decode cX6_holdings 11 = .ok (.ireturn, 1) := by decide +kernel
theorem dX6_holdings_12 : decode cX6_holdings 12 = .ok (.aload_n 0, 1) := by decide +kernel
theorem dX6_holdings_13 : decode cX6_holdings 13 = .ok (.iload_n 2, 1) := by decide +kernel
theorem dX6_holdings_14 : decode cX6_holdings 14 = .ok (.invokevirtual 264, 3) := by decide +kernel
theorem dX6_holdings_17 : decode cX6_holdings 17 = .ok (.ifCond .ne 7, 3) := by decide +kernel
theorem dX6_holdings_20 : decode cX6_holdings 20 = .ok (.sipush (-1002), 3) := by decide +kernel
theorem dX6_holdings_23 : decode cX6_holdings 23 = .ok (.ireturn, 1) := by decide +kernel
theorem dX6_holdings_24 : decode cX6_holdings 24 = .ok (.aload_n 0, 1) := by decide +kernel
theorem dX6_holdings_25 : decode cX6_holdings 25 = .ok (.aload_n 0, 1) := by decide +kernel
theorem dX6_holdings_26 : decode cX6_holdings 26 = .ok (.iload_n 2, 1) := by decide +kernel
theorem dX6_holdings_27 : decode cX6_holdings 27 = .ok (.invokevirtual 267, 3) := by decide +kernel
theorem dX6_holdings_30 : decode cX6_holdings 30 = .ok (.sipush 20000, 3) := by decide +kernel
theorem dX6_holdings_33 : decode cX6_holdings 33 = .ok (.invokevirtual 270, 3) := by decide +kernel
theorem dX6_holdings_36 : decode cX6_holdings 36 = .ok (.iconst 0, 1) := by decide +kernel
theorem dX6_holdings_37 : decode cX6_holdings 37 = .ok (.istore_n 3, 1) := by decide +kernel
theorem dX6_holdings_38 : decode cX6_holdings 38 = .ok (.iconst 0, 1) := by decide +kernel
theorem dX6_holdings_39 : decode cX6_holdings 39 = .ok (.istore 4, 2) := by decide +kernel
theorem dX6_holdings_41 : decode cX6_holdings 41 = .ok (.iload 4, 2) := by decide +kernel
theorem dX6_holdings_43 : decode cX6_holdings 43 = .ok (.bipush 64, 2) := by decide +kernel
theorem dX6_holdings_45 : decode cX6_holdings 45 = .ok (.if_icmp .ge 27, 3) := by decide +kernel
theorem dX6_holdings_48 : decode cX6_holdings 48 = .ok (.iload_n 3, 1) := by decide +kernel
theorem dX6_holdings_49 : decode cX6_holdings 49 = .ok (.aload_n 0, 1) := by decide +kernel
theorem dX6_holdings_50 : decode cX6_holdings 50 = .ok (.iload 4, 2) := by decide +kernel
theorem dX6_holdings_52 : decode cX6_holdings 52 = .ok (.invokevirtual 282, 3) := by decide +kernel
theorem dX6_holdings_55 : decode cX6_holdings 55 = .ok (.iload_n 1, 1) := by decide +kernel
theorem dX6_holdings_56 : decode cX6_holdings 56 = .ok (.if_icmp .ne 7, 3) := by decide +kernel
theorem dX6_holdings_59 : decode cX6_holdings 59 = .ok (.iconst 1, 1) := by decide +kernel
theorem dX6_holdings_60 : decode cX6_holdings 60 = .ok (.goto 4, 3) := by decide +kernel
theorem dX6_holdings_63 : decode cX6_holdings 63 = .ok (.iconst 0, 1) := by decide +kernel
theorem dX6_holdings_64 : decode cX6_holdings 64 = .ok (.iadd, 1) := by decide +kernel
theorem dX6_holdings_65 : decode cX6_holdings 65 = .ok (.istore_n 3, 1) := by decide +kernel
theorem dX6_holdings_66 : decode cX6_holdings 66 = .ok (.iinc 4 1, 3) := by decide +kernel
theorem dX6_holdings_69 : decode cX6_holdings 69 = .ok (.goto (-28), 3) := by decide +kernel
theorem dX6_holdings_72 : decode cX6_holdings 72 = .ok (.iload_n 3, 1) := by decide +kernel
theorem dX6_holdings_73 : decode cX6_holdings 73 = .ok (.ireturn, 1) := by decide +kernel
theorem dX6_digest_0 : decode cX6_digest 0 = .ok (.aload_n 0, 1) := by decide +kernel
theorem dX6_digest_1 : decode cX6_digest 1 = .ok (.iload_n 1, 1) := by decide +kernel
theorem dX6_digest_2 : decode cX6_digest 2 = .ok (.invokevirtual 264, 3) := by decide +kernel
theorem dX6_digest_5 : decode cX6_digest 5 = .ok (.ifCond .ne 7, 3) := by decide +kernel
theorem dX6_digest_8 : decode cX6_digest 8 = .ok (.sipush (-1002), 3) := by decide +kernel
theorem dX6_digest_11 : decode cX6_digest 11 = .ok (.ireturn, 1) := by decide +kernel
theorem dX6_digest_12 : decode cX6_digest 12 = .ok (.aload_n 0, 1) := by decide +kernel
theorem dX6_digest_13 : decode cX6_digest 13 = .ok (.iload_n 1, 1) := by decide +kernel
theorem dX6_digest_14 : decode cX6_digest 14 = .ok (.invokevirtual 267, 3) := by decide +kernel
theorem dX6_digest_17 : decode cX6_digest 17 = .ok (.istore_n 2, 1) := by decide +kernel
theorem dX6_digest_18 : decode cX6_digest 18 = .ok (.aload_n 0, 1) := by decide +kernel
theorem dX6_digest_19 : decode cX6_digest 19 = .ok (.iload_n 2, 1) := by decide +kernel
theorem dX6_digest_20 : decode cX6_digest 20 = .ok (.sipush 20000, 3) := by decide +kernel
theorem dX6_digest_23 : decode cX6_digest 23 = .ok (.invokevirtual 270, 3) := by decide +kernel
theorem dX6_digest_26 : decode cX6_digest 26 = .ok (.bipush 7, 2) := by decide +kernel
theorem dX6_digest_28 : decode cX6_digest 28 = .ok (.istore_n 3, 1) := by decide +kernel
theorem dX6_digest_29 : decode cX6_digest 29 = .ok (.iconst 0, 1) := by decide +kernel
theorem dX6_digest_30 : decode cX6_digest 30 = .ok (.istore 4, 2) := by decide +kernel
theorem dX6_digest_32 : decode cX6_digest 32 = .ok (.iload 4, 2) := by decide +kernel
theorem dX6_digest_34 : decode cX6_digest 34 = .ok (.iload_n 2, 1) := by decide +kernel
theorem dX6_digest_35 : decode cX6_digest 35 = .ok (.if_icmp .ge 22, 3) := by decide +kernel
theorem dX6_digest_38 : decode cX6_digest 38 = .ok (.bipush 31, 2) := by decide +kernel
theorem dX6_digest_40 : decode cX6_digest 40 = .ok (.iload_n 3, 1) := by decide +kernel
theorem dX6_digest_41 : decode cX6_digest 41 = .ok (.imul, 1) := by decide +kernel
theorem dX6_digest_42 : decode cX6_digest 42 = .ok (.aload_n 0, 1) := by decide +kernel
theorem dX6_digest_43 : decode cX6_digest 43 = .ok (.getfield 70, 3) := by decide +kernel
theorem dX6_digest_46 : decode cX6_digest 46 = .ok (.iload 4, 2) := by decide +kernel
theorem dX6_digest_48 : decode cX6_digest 48 = .ok (.iaload, 1) := by decide +kernel
theorem dX6_digest_49 : decode cX6_digest 49 = .ok (.iadd, 1) := by decide +kernel
theorem dX6_digest_50 : decode cX6_digest 50 = .ok (.istore_n 3, 1) := by decide +kernel
theorem dX6_digest_51 : decode cX6_digest 51 = .ok (.iinc 4 1, 3) := by decide +kernel
theorem dX6_digest_54 : decode cX6_digest 54 = .ok (.goto (-22), 3) := by decide +kernel
theorem dX6_digest_57 : decode cX6_digest 57 = .ok (.iconst 0, 1) := by decide +kernel
theorem dX6_digest_58 : decode cX6_digest 58 = .ok (.istore 4, 2) := by decide +kernel
theorem dX6_digest_60 : decode cX6_digest 60 = .ok (.iload 4, 2) := by decide +kernel
theorem dX6_digest_62 : decode cX6_digest 62 = .ok (.bipush 64, 2) := by decide +kernel
theorem dX6_digest_64 : decode cX6_digest 64 = .ok (.if_icmp .ge 21, 3) := by decide +kernel
theorem dX6_digest_67 : decode cX6_digest 67 = .ok (.bipush 31, 2) := by decide +kernel
theorem dX6_digest_69 : decode cX6_digest 69 = .ok (.iload_n 3, 1) := by decide +kernel
theorem dX6_digest_70 : decode cX6_digest 70 = .ok (.imul, 1) := by decide +kernel
theorem dX6_digest_71 : decode cX6_digest 71 = .ok (.aload_n 0, 1) := by decide +kernel
theorem dX6_digest_72 : decode cX6_digest 72 = .ok (.iload 4, 2) := by decide +kernel
theorem dX6_digest_74 : decode cX6_digest 74 = .ok (.invokevirtual 282, 3) := by decide +kernel
theorem dX6_digest_77 : decode cX6_digest 77 = .ok (.iadd, 1) := by decide +kernel
theorem dX6_digest_78 : decode cX6_digest 78 = .ok (.istore_n 3, 1) := by decide +kernel
theorem dX6_digest_79 : decode cX6_digest 79 = .ok (.iinc 4 1, 3) := by decide +kernel
theorem dX6_digest_82 : decode cX6_digest 82 = .ok (.goto (-22), 3) := by decide +kernel
theorem dX6_digest_85 : decode cX6_digest 85 = .ok (.iload_n 3, 1) := by decide +kernel
theorem dX6_digest_86 : decode cX6_digest 86 = .ok (.ireturn, 1) := by decide +kernel
theorem dX6_isCorner_0 : decode cX6_isCorner 0 = .ok (.iload_n 0, 1) := by decide +kernel
theorem dX6_isCorner_1 : decode cX6_isCorner 1 = .ok (.i2l, 1) := by decide +kernel
theorem dX6_isCorner_2 : decode cX6_isCorner 2 = .ok (.lconst 0, 1) := by decide +kernel
theorem dX6_isCorner_3 : decode cX6_isCorner 3 = .ok (.ldc2_w 143, 3) := by decide +kernel
theorem dX6_isCorner_6 : decode cX6_isCorner 6 = .ok (.invokestatic 130, 3) := by decide +kernel
theorem dX6_isCorner_9 : decode cX6_isCorner 9 = .ok (.ifCond .eq 19, 3) := by decide +kernel
theorem dX6_isCorner_12 : decode cX6_isCorner 12 = .ok (.iload_n 1, 1) := by decide +kernel
theorem dX6_isCorner_13 : decode cX6_isCorner 13 = .ok (.i2l, 1) := by decide +kernel
theorem dX6_isCorner_14 : decode cX6_isCorner 14 = .ok (.lconst 0, 1) := by decide +kernel
theorem dX6_isCorner_15 : decode cX6_isCorner 15 = .ok (.ldc2_w 143, 3) := by decide +kernel
theorem dX6_isCorner_18 : decode cX6_isCorner 18 = .ok (.invokestatic 130, 3) := by decide +kernel
theorem dX6_isCorner_21 : decode cX6_isCorner 21 = .ok (.ifCond .eq 7, 3) := by decide +kernel
theorem dX6_isCorner_24 : decode cX6_isCorner 24 = .ok (.iconst 1, 1) := by decide +kernel
theorem dX6_isCorner_25 : decode cX6_isCorner 25 = .ok (.goto 4, 3) := by decide +kernel
theorem dX6_isCorner_28 : decode cX6_isCorner 28 = .ok (.iconst 0, 1) := by decide +kernel
theorem dX6_isCorner_29 : decode cX6_isCorner 29 = .ok (.ireturn, 1) := by decide +kernel
theorem dX6_corner_0 : decode cX6_corner 0 = .ok (.iload_n 1, 1) := by decide +kernel
theorem dX6_corner_1 : decode cX6_corner 1 = .ok (.iload_n 2, 1) := by decide +kernel
theorem dX6_corner_2 : decode cX6_corner 2 = .ok (.invokestatic 285, 3) := by decide +kernel
theorem dX6_corner_5 : decode cX6_corner 5 = .ok (.ifCond .eq 32, 3) := by decide +kernel
theorem dX6_corner_8 : decode cX6_corner 8 = .ok (.iload_n 3, 1) := by decide +kernel
theorem dX6_corner_9 : decode cX6_corner 9 = .ok (.i2l, 1) := by decide +kernel
theorem dX6_corner_10 : decode cX6_corner 10 = .ok (.ldc2_w 288, 3) := by decide +kernel
theorem dX6_corner_13 : decode cX6_corner 13 = .ok (.ldc2_w 290, 3) := by decide +kernel
theorem dX6_corner_16 : decode cX6_corner 16 = .ok (.invokestatic 130, 3) := by decide +kernel
theorem dX6_corner_19 : decode cX6_corner 19 = .ok (.ifCond .eq 18, 3) := by decide +kernel
theorem dX6_corner_22 : decode cX6_corner 22 = .ok (.iload 4, 2) := by decide +kernel
theorem dX6_corner_24 : decode cX6_corner 24 = .ok (.i2l, 1) := by decide +kernel
theorem dX6_corner_25 : decode cX6_corner 25 = .ok (.ldc2_w 288, 3) := by decide +kernel
theorem dX6_corner_28 : decode cX6_corner 28 = .ok (.ldc2_w 290, 3) := by decide +kernel
theorem dX6_corner_31 : decode cX6_corner 31 = .ok (.invokestatic 130, 3) := by decide +kernel
theorem dX6_corner_34 : decode cX6_corner 34 = .ok (.ifCond .ne 7, 3) := by decide +kernel
theorem dX6_corner_37 : decode cX6_corner 37 = .ok (.sipush (-1002), 3) := by decide +kernel
theorem dX6_corner_40 : decode cX6_corner 40 = .ok (.ireturn, 1) := by decide +kernel
theorem dX6_corner_41 : decode cX6_corner 41 = .ok (.bipush 9, 2) := by decide +kernel
theorem dX6_corner_43 : decode cX6_corner 43 = .ok (.iload_n 2, 1) := by decide +kernel
theorem dX6_corner_44 : decode cX6_corner 44 = .ok (.imul, 1) := by decide +kernel
theorem dX6_corner_45 : decode cX6_corner 45 = .ok (.iload_n 1, 1) := by decide +kernel
theorem dX6_corner_46 : decode cX6_corner 46 = .ok (.iadd, 1) := by decide +kernel
theorem dX6_corner_47 : decode cX6_corner 47 = .ok (.istore 5, 2) := by decide +kernel
theorem dX6_corner_49 : decode cX6_corner 49 = .ok (.aload_n 0, 1) := by decide +kernel
theorem dX6_corner_50 : decode cX6_corner 50 = .ok (.getfield 58, 3) := by decide +kernel
theorem dX6_corner_53 : decode cX6_corner 53 = .ok (.iload 5, 2) := by decide +kernel
theorem dX6_corner_55 : decode cX6_corner 55 = .ok (.iconst 1, 1) := by decide +kernel
theorem dX6_corner_56 : decode cX6_corner 56 = .ok (.bastore, 1) := by decide +kernel
theorem dX6_corner_57 : decode cX6_corner 57 = .ok (.aload_n 0, 1) := by decide +kernel
theorem dX6_corner_58 : decode cX6_corner 58 = .ok (.getfield 61, 3) := by decide +kernel
theorem dX6_corner_61 : decode cX6_corner 61 = .ok (.iload 5, 2) := by decide +kernel
theorem dX6_corner_63 : decode cX6_corner 63 = .ok (.iload_n 3, 1) := by decide +kernel
theorem dX6_corner_64 : decode cX6_corner 64 = .ok (.iastore, 1) := by decide +kernel
theorem dX6_corner_65 : decode cX6_corner 65 = .ok (.aload_n 0, 1) := by decide +kernel
theorem dX6_corner_66 : decode cX6_corner 66 = .ok (.getfield 64, 3) := by decide +kernel
theorem dX6_corner_69 : decode cX6_corner 69 = .ok (.iload 5, 2) := by decide +kernel
theorem dX6_corner_71 : decode cX6_corner 71 = .ok (.iload 4, 2) := by decide +kernel
theorem dX6_corner_73 : decode cX6_corner 73 = .ok (.iastore, 1) := by decide +kernel
theorem dX6_corner_74 : decode cX6_corner 74 = .ok (.iconst 1, 1) := by decide +kernel
theorem dX6_corner_75 : decode cX6_corner 75 = .ok (.ireturn, 1) := by decide +kernel
theorem dX6_lose_0 : decode cX6_lose 0 = .ok (.iload_n 1, 1) := by decide +kernel
theorem dX6_lose_1 : decode cX6_lose 1 = .ok (.iload_n 2, 1) := by decide +kernel
theorem dX6_lose_2 : decode cX6_lose 2 = .ok (.invokestatic 285, 3) := by decide +kernel
theorem dX6_lose_5 : decode cX6_lose 5 = .ok (.ifCond .ne 7, 3) := by decide +kernel
theorem dX6_lose_8 : decode cX6_lose 8 = .ok (.sipush (-1002), 3) := by decide +kernel
theorem dX6_lose_11 : decode cX6_lose 11 = .ok (.ireturn, 1) := by decide +kernel
theorem dX6_lose_12 : decode cX6_lose 12 = .ok (.aload_n 0, 1) := by decide +kernel
theorem dX6_lose_13 : decode cX6_lose 13 = .ok (.getfield 58, 3) := by decide +kernel
theorem dX6_lose_16 : decode cX6_lose 16 = .ok (.bipush 9, 2) := by decide +kernel
theorem dX6_lose_18 : decode cX6_lose 18 = .ok (.iload_n 2, 1) := by decide +kernel
theorem dX6_lose_19 : decode cX6_lose 19 = .ok (.imul, 1) := by decide +kernel
theorem dX6_lose_20 : decode cX6_lose 20 = .ok (.iload_n 1, 1) := by decide +kernel
theorem dX6_lose_21 : decode cX6_lose 21 = .ok (.iadd, 1) := by decide +kernel
theorem dX6_lose_22 : decode cX6_lose 22 = .ok (.baload, 1) := by decide +kernel
theorem dX6_lose_23 : decode cX6_lose 23 = .ok (.ifCond .eq 7, 3) := by decide +kernel
theorem dX6_lose_26 : decode cX6_lose 26 = .ok (.iconst 1, 1) := by decide +kernel
theorem dX6_lose_27 : decode cX6_lose 27 = .ok (.goto 4, 3) := by decide +kernel
theorem dX6_lose_30 : decode cX6_lose 30 = .ok (.iconst 0, 1) := by decide +kernel
theorem dX6_lose_31 : decode cX6_lose 31 = .ok (.istore_n 3, 1) := by decide +kernel
theorem dX6_lose_32 : decode cX6_lose 32 = .ok (.aload_n 0, 1) := by decide +kernel
theorem dX6_lose_33 : decode cX6_lose 33 = .ok (.getfield 58, 3) := by decide +kernel
theorem dX6_lose_36 : decode cX6_lose 36 = .ok (.bipush 9, 2) := by decide +kernel
theorem dX6_lose_38 : decode cX6_lose 38 = .ok (.iload_n 2, 1) := by decide +kernel
theorem dX6_lose_39 : decode cX6_lose 39 = .ok (.imul, 1) := by decide +kernel
theorem dX6_lose_40 : decode cX6_lose 40 = .ok (.iload_n 1, 1) := by decide +kernel
theorem dX6_lose_41 : decode cX6_lose 41 = .ok (.iadd, 1) := by decide +kernel
theorem dX6_lose_42 : decode cX6_lose 42 = .ok (.iconst 0, 1) := by decide +kernel
theorem dX6_lose_43 : decode cX6_lose 43 = .ok (.bastore, 1) := by decide +kernel
theorem dX6_lose_44 : decode cX6_lose 44 = .ok (.iload_n 3, 1) := by decide +kernel
theorem dX6_lose_45 : decode cX6_lose 45 = .ok (.ireturn, 1) := by decide +kernel
theorem dX6_findSides_0 : decode cX6_findSides 0 = .ok (.aload_n 0, 1) := by decide +kernel
theorem dX6_findSides_1 : decode cX6_findSides 1 = .ok (.iconst (-1), 1) := by decide +kernel
theorem dX6_findSides_2 : decode cX6_findSides 2 = .ok (.putfield 292, 3) := by decide +kernel
theorem dX6_findSides_5 : decode cX6_findSides 5 = .ok (.aload_n 0, 1) := by decide +kernel
theorem dX6_findSides_6 : decode cX6_findSides 6 = .ok (.iconst (-1), 1) := by decide +kernel
theorem dX6_findSides_7 : decode cX6_findSides 7 = .ok (.putfield 295, 3) := by decide +kernel
theorem dX6_findSides_10 : decode cX6_findSides 10 = .ok (.iload_n 3, 1) := by decide +kernel
theorem dX6_findSides_11 : decode cX6_findSides 11 = .ok (.iconst 1, 1) := by decide +kernel
theorem dX6_findSides_12 : decode cX6_findSides 12 = .ok (.isub, 1) := by decide +kernel
theorem dX6_findSides_13 : decode cX6_findSides 13 = .ok (.istore 4, 2) := by decide +kernel
theorem dX6_findSides_15 : decode cX6_findSides 15 = .ok (.iload 4, 2) := by decide +kernel
theorem dX6_findSides_17 : decode cX6_findSides 17 = .ok (.ifCond .lt 56, 3) := by decide +kernel
theorem dX6_findSides_20 : decode cX6_findSides 20 = .ok (.aload_n 0, 1) := by decide +kernel
theorem dX6_findSides_21 : decode cX6_findSides 21 = .ok (.getfield 292, 3) := by decide +kernel
theorem dX6_findSides_24 : decode cX6_findSides 24 = .ok (.ifCond .ge 49, 3) := by decide +kernel
theorem dX6_findSides_27 : decode cX6_findSides 27 = .ok (.aload_n 0, 1) := by decide +kernel
theorem dX6_findSides_28 : decode cX6_findSides 28 = .ok (.aload_n 0, 1) := by decide +kernel
theorem dX6_findSides_29 : decode cX6_findSides 29 = .ok (.getfield 58, 3) := by decide +kernel
theorem dX6_findSides_32 : decode cX6_findSides 32 = .ok (.iload_n 1, 1) := by decide +kernel
theorem dX6_findSides_33 : decode cX6_findSides 33 = .ok (.iload_n 3, 1) := by decide +kernel
theorem dX6_findSides_34 : decode cX6_findSides 34 = .ok (.iload 4, 2) := by decide +kernel
theorem dX6_findSides_36 : decode cX6_findSides 36 = .ok (.isub, 1) := by decide +kernel
theorem dX6_findSides_37 : decode cX6_findSides 37 = .ok (.iload_n 2, 1) := by decide +kernel
theorem dX6_findSides_38 : decode cX6_findSides 38 = .ok (.imul, 1) := by decide +kernel
theorem dX6_findSides_39 : decode cX6_findSides 39 = .ok (.isub, 1) := by decide +kernel
theorem dX6_findSides_40 : decode cX6_findSides 40 = .ok (.baload, 1) := by decide +kernel
theorem dX6_findSides_41 : decode cX6_findSides 41 = .ok (.ifCond .eq 14, 3) := by decide +kernel
theorem dX6_findSides_44 : decode cX6_findSides 44 = .ok (.iload_n 1, 1) := by decide +kernel
theorem dX6_findSides_45 : decode cX6_findSides 45 = .ok (.iload_n 3, 1) := by decide +kernel
theorem dX6_findSides_46 : decode cX6_findSides 46 = .ok (.iload 4, 2) := by decide +kernel
theorem dX6_findSides_48 : decode cX6_findSides 48 = .ok (.isub, 1) := by decide +kernel
theorem dX6_findSides_49 : decode cX6_findSides 49 = .ok (.iload_n 2, 1) := by decide +kernel
theorem dX6_findSides_50 : decode cX6_findSides 50 = .ok (.imul, 1) := by decide +kernel
theorem dX6_findSides_51 : decode cX6_findSides 51 = .ok (.isub, 1) := by decide +kernel
theorem dX6_findSides_52 : decode cX6_findSides 52 = .ok (.goto 4, 3) := by decide +kernel
theorem dX6_findSides_55 : decode cX6_findSides 55 = .ok (.iconst (-1), 1) := by decide +kernel
theorem dX6_findSides_56 : decode cX6_findSides 56 = .ok (.putfield 292, 3) := by decide +kernel
theorem dX6_findSides_59 : decode cX6_findSides 59 = .ok (.aload_n 0, 1) := by decide +kernel
theorem dX6_findSides_60 : decode cX6_findSides 60 = .ok (.iload_n 3, 1) := by decide +kernel
theorem dX6_findSides_61 : decode cX6_findSides 61 = .ok (.iload 4, 2) := by decide +kernel
theorem dX6_findSides_63 : decode cX6_findSides 63 = .ok (.isub, 1) := by decide +kernel
theorem dX6_findSides_64 : decode cX6_findSides 64 = .ok (.putfield 298, 3) := by decide +kernel
theorem dX6_findSides_67 : decode cX6_findSides 67 = .ok (.iinc 4 (-1), 3) := by decide +kernel
theorem dX6_findSides_70 : decode cX6_findSides 70 = .ok (.goto (-55), 3) := by decide +kernel
theorem dX6_findSides_73 : decode cX6_findSides 73 = .ok (.iload_n 3, 1) := by decide +kernel
theorem dX6_findSides_74 : decode cX6_findSides 74 = .ok (.iconst 1, 1) := by decide +kernel
theorem dX6_findSides_75 : decode cX6_findSides 75 = .ok (.iadd, 1) := by decide +kernel
theorem dX6_findSides_76 : decode cX6_findSides 76 = .ok (.istore 4, 2) := by decide +kernel
theorem dX6_findSides_78 : decode cX6_findSides 78 = .ok (.iload 4, 2) := by decide +kernel
theorem dX6_findSides_80 : decode cX6_findSides 80 = .ok (.bipush 9, 2) := by decide +kernel
theorem dX6_findSides_82 : decode cX6_findSides 82 = .ok (.if_icmp .ge 61, 3) := by decide +kernel
theorem dX6_findSides_85 : decode cX6_findSides 85 = .ok (.aload_n 0, 1) := by decide +kernel
theorem dX6_findSides_86 : decode cX6_findSides 86 = .ok (.getfield 295, 3) := by decide +kernel
theorem dX6_findSides_89 : decode cX6_findSides 89 = .ok (.ifCond .ge 54, 3) := by decide +kernel
theorem dX6_findSides_92 : decode cX6_findSides 92 = .ok (.aload_n 0, 1) := by decide +kernel
theorem dX6_findSides_93 : decode cX6_findSides 93 = .ok (.aload_n 0, 1) := by decide +kernel
theorem dX6_findSides_94 : decode cX6_findSides 94 = .ok (.getfield 58, 3) := by decide +kernel
theorem dX6_findSides_97 : decode cX6_findSides 97 = .ok (.iload_n 1, 1) := by decide +kernel
theorem dX6_findSides_98 : decode cX6_findSides 98 = .ok (.iload 4, 2) := by decide +kernel
theorem dX6_findSides_100 : decode cX6_findSides 100 = .ok (.iload_n 3, 1) := by decide +kernel
theorem dX6_findSides_101 : decode cX6_findSides 101 = .ok (.isub, 1) := by decide +kernel
theorem dX6_findSides_102 : decode cX6_findSides 102 = .ok (.iload_n 2, 1) := by decide +kernel
theorem dX6_findSides_103 : decode cX6_findSides 103 = .ok (.imul, 1) := by decide +kernel
theorem dX6_findSides_104 : decode cX6_findSides 104 = .ok (.iadd, 1) := by decide +kernel
theorem dX6_findSides_105 : decode cX6_findSides 105 = .ok (.baload, 1) := by decide +kernel
theorem dX6_findSides_106 : decode cX6_findSides 106 = .ok (.ifCond .eq 14, 3) := by decide +kernel
theorem dX6_findSides_109 : decode cX6_findSides 109 = .ok (.iload_n 1, 1) := by decide +kernel
theorem dX6_findSides_110 : decode cX6_findSides 110 = .ok (.iload 4, 2) := by decide +kernel
theorem dX6_findSides_112 : decode cX6_findSides 112 = .ok (.iload_n 3, 1) := by decide +kernel
theorem dX6_findSides_113 : decode cX6_findSides 113 = .ok (.isub, 1) := by decide +kernel
theorem dX6_findSides_114 : decode cX6_findSides 114 = .ok (.iload_n 2, 1) := by decide +kernel
theorem dX6_findSides_115 : decode cX6_findSides 115 = .ok (.imul, 1) := by decide +kernel
theorem dX6_findSides_116 : decode cX6_findSides 116 = .ok (.iadd, 1) := by decide +kernel
theorem dX6_findSides_117 : decode cX6_findSides 117 = .ok (.goto 4, 3) := by decide +kernel
theorem dX6_findSides_120 : decode cX6_findSides 120 = .ok (.iconst (-1), 1) := by decide +kernel
theorem dX6_findSides_121 : decode cX6_findSides 121 = .ok (.putfield 295, 3) := by decide +kernel
theorem dX6_findSides_124 : decode cX6_findSides 124 = .ok (.aload_n 0, 1) := by decide +kernel
theorem dX6_findSides_125 : decode cX6_findSides 125 = .ok (.aload_n 0, 1) := by decide +kernel
theorem dX6_findSides_126 : decode cX6_findSides 126 = .ok (.getfield 298, 3) := by decide +kernel
theorem dX6_findSides_129 : decode cX6_findSides 129 = .ok (.iload 4, 2) := by decide +kernel
theorem dX6_findSides_131 : decode cX6_findSides 131 = .ok (.iadd, 1) := by decide +kernel
theorem dX6_findSides_132 : decode cX6_findSides 132 = .ok (.iload_n 3, 1) := by decide +kernel
theorem dX6_findSides_133 : decode cX6_findSides 133 = .ok (.isub, 1) := by decide +kernel
theorem dX6_findSides_134 : decode cX6_findSides 134 = .ok (.putfield 301, 3) := by decide +kernel
theorem dX6_findSides_137 : decode cX6_findSides 137 = .ok (.iinc 4 1, 3) := by decide +kernel
theorem dX6_findSides_140 : decode cX6_findSides 140 = .ok (.goto (-62), 3) := by decide +kernel
theorem dX6_findSides_143 : decode cX6_findSides 143 = .ok (.aload_n 0, 1) := by decide +kernel
theorem dX6_findSides_144 : decode cX6_findSides 144 = .ok (.getfield 292, 3) := by decide +kernel
theorem dX6_findSides_147 : decode cX6_findSides 147 = .ok (.ifCond .lt 14, 3) := by decide +kernel
theorem dX6_findSides_150 : decode cX6_findSides 150 = .ok (.aload_n 0, 1) := by decide +kernel
theorem dX6_findSides_151 : decode cX6_findSides 151 = .ok (.getfield 295, 3) := by decide +kernel
theorem dX6_findSides_154 : decode cX6_findSides 154 = .ok (.ifCond .lt 7, 3) := by decide +kernel
theorem dX6_findSides_157 : decode cX6_findSides 157 = .ok (.iconst 1, 1) := by decide +kernel
theorem dX6_findSides_158 : decode cX6_findSides 158 = .ok (.goto 4, 3) := by decide +kernel
theorem dX6_findSides_161 : decode cX6_findSides 161 = .ok (.iconst 0, 1) := by decide +kernel
theorem dX6_findSides_162 : decode cX6_findSides 162 = .ok (.ireturn, 1) := by decide +kernel
theorem dX6_findPlace_0 : decode cX6_findPlace 0 = .ok (.bipush 9, 2) := by decide +kernel
theorem dX6_findPlace_2 : decode cX6_findPlace 2 = .ok (.iload_n 2, 1) := by decide +kernel
theorem dX6_findPlace_3 : decode cX6_findPlace 3 = .ok (.imul, 1) := by decide +kernel
theorem dX6_findPlace_4 : decode cX6_findPlace 4 = .ok (.iload_n 1, 1) := by decide +kernel
theorem dX6_findPlace_5 : decode cX6_findPlace 5 = .ok (.iadd, 1) := by decide +kernel
theorem dX6_findPlace_6 : decode cX6_findPlace 6 = .ok (.istore_n 3, 1) := by decide +kernel
theorem dX6_findPlace_7 : decode cX6_findPlace 7 = .ok (.aload_n 0, 1) := by decide +kernel
theorem dX6_findPlace_8 : decode cX6_findPlace 8 = .ok (.getfield 58, 3) := by decide +kernel
theorem dX6_findPlace_11 : decode cX6_findPlace 11 = .ok (.iload_n 3, 1) := by decide +kernel
theorem dX6_findPlace_12 : decode cX6_findPlace 12 = .ok (.baload, 1) := by decide +kernel
theorem dX6_findPlace_13 : decode cX6_findPlace 13 = .ok (.ifCond .eq 33, 3) := by decide +kernel
theorem dX6_findPlace_16 : decode cX6_findPlace 16 = .ok (.aload_n 0, 1) := by decide +kernel
theorem dX6_findPlace_17 : decode cX6_findPlace 17 = .ok (.sipush 840, 3) := by decide +kernel
theorem dX6_findPlace_20 : decode cX6_findPlace 20 = .ok (.aload_n 0, 1) := by decide +kernel
theorem dX6_findPlace_21 : decode cX6_findPlace 21 = .ok (.getfield 61, 3) := by decide +kernel
theorem dX6_findPlace_24 : decode cX6_findPlace 24 = .ok (.iload_n 3, 1) := by decide +kernel
theorem dX6_findPlace_25 : decode cX6_findPlace 25 = .ok (.iaload, 1) := by decide +kernel
theorem dX6_findPlace_26 : decode cX6_findPlace 26 = .ok (.imul, 1) := by decide +kernel
theorem dX6_findPlace_27 : decode cX6_findPlace 27 = .ok (.putfield 304, 3) := by decide +kernel
theorem dX6_findPlace_30 : decode cX6_findPlace 30 = .ok (.aload_n 0, 1) := by decide +kernel
theorem dX6_findPlace_31 : decode cX6_findPlace 31 = .ok (.sipush 840, 3) := by decide +kernel
theorem dX6_findPlace_34 : decode cX6_findPlace 34 = .ok (.aload_n 0, 1) := by decide +kernel
theorem dX6_findPlace_35 : decode cX6_findPlace 35 = .ok (.getfield 64, 3) := by decide +kernel
theorem dX6_findPlace_38 : decode cX6_findPlace 38 = .ok (.iload_n 3, 1) := by decide +kernel
theorem dX6_findPlace_39 : decode cX6_findPlace 39 = .ok (.iaload, 1) := by decide +kernel
theorem dX6_findPlace_40 : decode cX6_findPlace 40 = .ok (.imul, 1) := by decide +kernel
theorem dX6_findPlace_41 : decode cX6_findPlace 41 = .ok (.putfield 307, 3) := by decide +kernel
theorem dX6_findPlace_44 : decode cX6_findPlace 44 = .ok (.iconst 1, 1) := by decide +kernel
theorem dX6_findPlace_45 : decode cX6_findPlace 45 = .ok (.ireturn, 1) := by decide +kernel
theorem dX6_findPlace_46 : decode cX6_findPlace 46 = .ok (.aload_n 0, 1) := by decide +kernel
theorem dX6_findPlace_47 : decode cX6_findPlace 47 = .ok (.iload_n 3, 1) := by decide +kernel
theorem dX6_findPlace_48 : decode cX6_findPlace 48 = .ok (.iconst 1, 1) := by decide +kernel
theorem dX6_findPlace_49 : decode cX6_findPlace 49 = .ok (.iload_n 1, 1) := by decide +kernel
theorem dX6_findPlace_50 : decode cX6_findPlace 50 = .ok (.invokevirtual 310, 3) := by decide +kernel
theorem dX6_findPlace_53 : decode cX6_findPlace 53 = .ok (.ifCond .ne 16, 3) := by decide +kernel
theorem dX6_findPlace_56 : decode cX6_findPlace 56 = .ok (.aload_n 0, 1) := by decide +kernel
theorem dX6_findPlace_57 : decode cX6_findPlace 57 = .ok (.iload_n 3, 1) := by decide +kernel
theorem dX6_findPlace_58 : decode cX6_findPlace 58 = .ok (.bipush 9, 2) := by decide +kernel
theorem dX6_findPlace_60 : decode cX6_findPlace 60 = .ok (.iload_n 2, 1) := by decide +kernel
theorem dX6_findPlace_61 : decode cX6_findPlace 61 = .ok (.invokevirtual 310, 3) := by decide +kernel
theorem dX6_findPlace_64 : decode cX6_findPlace 64 = .ok (.ifCond .ne 5, 3) := by decide +kernel
theorem dX6_findPlace_67 : decode cX6_findPlace 67 = .ok (.iconst 0, 1) := by decide +kernel
theorem dX6_findPlace_68 : decode cX6_findPlace 68 = .ok (.ireturn, 1) := by decide +kernel
theorem dX6_findPlace_69 : decode cX6_findPlace 69 = .ok (.aload_n 0, 1) := by decide +kernel
theorem dX6_findPlace_70 : decode cX6_findPlace 70 = .ok (.sipush 840, 3) := by decide +kernel
theorem dX6_findPlace_73 : decode cX6_findPlace 73 = .ok (.aload_n 0, 1) := by decide +kernel
theorem dX6_findPlace_74 : decode cX6_findPlace 74 = .ok (.getfield 61, 3) := by decide +kernel
theorem dX6_findPlace_77 : decode cX6_findPlace 77 = .ok (.aload_n 0, 1) := by decide +kernel
theorem dX6_findPlace_78 : decode cX6_findPlace 78 = .ok (.getfield 292, 3) := by decide +kernel
theorem dX6_findPlace_81 : decode cX6_findPlace 81 = .ok (.iaload, 1) := by decide +kernel
theorem dX6_findPlace_82 : decode cX6_findPlace 82 = .ok (.imul, 1) := by decide +kernel
theorem dX6_findPlace_83 : decode cX6_findPlace 83 = .ok (.sipush 840, 3) := by decide +kernel
theorem dX6_findPlace_86 : decode cX6_findPlace 86 = .ok (.aload_n 0, 1) := by decide +kernel
theorem dX6_findPlace_87 : decode cX6_findPlace 87 = .ok (.getfield 301, 3) := by decide +kernel
theorem dX6_findPlace_90 : decode cX6_findPlace 90 = .ok (.idiv, 1) := by decide +kernel
theorem dX6_findPlace_91 : decode cX6_findPlace 91 = .ok (.aload_n 0, 1) := by decide +kernel
theorem dX6_findPlace_92 : decode cX6_findPlace 92 = .ok (.getfield 61, 3) := by decide +kernel
theorem dX6_findPlace_95 : decode cX6_findPlace 95 = .ok (.aload_n 0, 1) := by decide +kernel
theorem dX6_findPlace_96 : decode cX6_findPlace 96 = .ok (.getfield 295, 3) := by decide +kernel
theorem dX6_findPlace_99 : decode cX6_findPlace 99 = .ok (.iaload, 1) := by decide +kernel
theorem dX6_findPlace_100 : decode cX6_findPlace 100 = .ok (.aload_n 0, 1) := by decide +kernel
theorem dX6_findPlace_101 : decode cX6_findPlace 101 = .ok (.getfield 61, 3) := by decide +kernel
theorem dX6_findPlace_104 : decode cX6_findPlace 104 = .ok (.aload_n 0, 1) := by decide +kernel
theorem dX6_findPlace_105 : decode cX6_findPlace 105 = .ok (.getfield 292, 3) := by decide +kernel
theorem dX6_findPlace_108 : decode cX6_findPlace 108 = .ok (.iaload, 1) := by decide +kernel
theorem dX6_findPlace_109 : decode cX6_findPlace 109 = .ok (.isub, 1) := by decide +kernel
theorem dX6_findPlace_110 : decode cX6_findPlace 110 = .ok (.imul, 1) := by decide +kernel
theorem dX6_findPlace_111 : decode cX6_findPlace 111 = .ok (.aload_n 0, 1) := by decide +kernel
theorem dX6_findPlace_112 : decode cX6_findPlace 112 = .ok (.getfield 298, 3) := by decide +kernel
theorem dX6_findPlace_115 : decode cX6_findPlace 115 = .ok (.imul, 1) := by decide +kernel
theorem dX6_findPlace_116 : decode cX6_findPlace 116 = .ok (.iadd, 1) := by decide +kernel
theorem dX6_findPlace_117 : decode cX6_findPlace 117 = .ok (.putfield 304, 3) := by decide +kernel
theorem dX6_findPlace_120 : decode cX6_findPlace 120 = .ok (.aload_n 0, 1) := by decide +kernel
theorem dX6_findPlace_121 : decode cX6_findPlace 121 = .ok (.sipush 840, 3) := by decide +kernel
theorem dX6_findPlace_124 : decode cX6_findPlace 124 = .ok (.aload_n 0, 1) := by decide +kernel
theorem dX6_findPlace_125 : decode cX6_findPlace 125 = .ok (.getfield 64, 3) := by decide +kernel
theorem dX6_findPlace_128 : decode cX6_findPlace 128 = .ok (.aload_n 0, 1) := by decide +kernel
theorem dX6_findPlace_129 : decode cX6_findPlace 129 = .ok (.getfield 292, 3) := by decide +kernel
theorem dX6_findPlace_132 : decode cX6_findPlace 132 = .ok (.iaload, 1) := by decide +kernel
theorem dX6_findPlace_133 : decode cX6_findPlace 133 = .ok (.imul, 1) := by decide +kernel
theorem dX6_findPlace_134 : decode cX6_findPlace 134 = .ok (.sipush 840, 3) := by decide +kernel
theorem dX6_findPlace_137 : decode cX6_findPlace 137 = .ok (.aload_n 0, 1) := by decide +kernel
theorem dX6_findPlace_138 : decode cX6_findPlace 138 = .ok (.getfield 301, 3) := by decide +kernel
theorem dX6_findPlace_141 : decode cX6_findPlace 141 = .ok (.idiv, 1) := by decide +kernel
theorem dX6_findPlace_142 : decode cX6_findPlace 142 = .ok (.aload_n 0, 1) := by decide +kernel
theorem dX6_findPlace_143 : decode cX6_findPlace 143 = .ok (.getfield 64, 3) := by decide +kernel
theorem dX6_findPlace_146 : decode cX6_findPlace 146 = .ok (.aload_n 0, 1) := by decide +kernel
theorem dX6_findPlace_147 : decode cX6_findPlace 147 = .ok (.getfield 295, 3) := by decide +kernel
theorem dX6_findPlace_150 : decode cX6_findPlace 150 = .ok (.iaload, 1) := by decide +kernel
theorem dX6_findPlace_151 : decode cX6_findPlace 151 = .ok (.aload_n 0, 1) := by decide +kernel
theorem dX6_findPlace_152 : decode cX6_findPlace 152 = .ok (.getfield 64, 3) := by decide +kernel
theorem dX6_findPlace_155 : decode cX6_findPlace 155 = .ok (.aload_n 0, 1) := by decide +kernel
theorem dX6_findPlace_156 : decode cX6_findPlace 156 = .ok (.getfield 292, 3) := by decide +kernel
theorem dX6_findPlace_159 : decode cX6_findPlace 159 = .ok (.iaload, 1) := by decide +kernel
theorem dX6_findPlace_160 : decode cX6_findPlace 160 = .ok (.isub, 1) := by decide +kernel
theorem dX6_findPlace_161 : decode cX6_findPlace 161 = .ok (.imul, 1) := by decide +kernel
theorem dX6_findPlace_162 : decode cX6_findPlace 162 = .ok (.aload_n 0, 1) := by decide +kernel
theorem dX6_findPlace_163 : decode cX6_findPlace 163 = .ok (.getfield 298, 3) := by decide +kernel
theorem dX6_findPlace_166 : decode cX6_findPlace 166 = .ok (.imul, 1) := by decide +kernel
theorem dX6_findPlace_167 : decode cX6_findPlace 167 = .ok (.iadd, 1) := by decide +kernel
theorem dX6_findPlace_168 : decode cX6_findPlace 168 = .ok (.putfield 307, 3) := by decide +kernel
theorem dX6_findPlace_171 : decode cX6_findPlace 171 = .ok (.iconst 1, 1) := by decide +kernel
theorem dX6_findPlace_172 : decode cX6_findPlace 172 = .ok (.ireturn, 1) := by decide +kernel
theorem dX6_lies_0 : decode cX6_lies 0 = .ok (.iload_n 1, 1) := by decide +kernel
theorem dX6_lies_1 : decode cX6_lies 1 = .ok (.iload_n 2, 1) := by decide +kernel
theorem dX6_lies_2 : decode cX6_lies 2 = .ok (.invokestatic 285, 3) := by decide +kernel
theorem dX6_lies_5 : decode cX6_lies 5 = .ok (.ifCond .eq 15, 3) := by decide +kernel
theorem dX6_lies_8 : decode cX6_lies 8 = .ok (.iload_n 3, 1) := by decide +kernel
theorem dX6_lies_9 : decode cX6_lies 9 = .ok (.i2l, 1) := by decide +kernel
theorem dX6_lies_10 : decode cX6_lies 10 = .ok (.lconst 0, 1) := by decide +kernel
theorem dX6_lies_11 : decode cX6_lies 11 = .ok (.ldc2_w 314, 3) := by decide +kernel
theorem dX6_lies_14 : decode cX6_lies 14 = .ok (.invokestatic 130, 3) := by decide +kernel
theorem dX6_lies_17 : decode cX6_lies 17 = .ok (.ifCond .ne 7, 3) := by decide +kernel
theorem dX6_lies_20 : decode cX6_lies 20 = .ok (.sipush (-1002), 3) := by decide +kernel
theorem dX6_lies_23 : decode cX6_lies 23 = .ok (.ireturn, 1) := by decide +kernel
theorem dX6_lies_24 : decode cX6_lies 24 = .ok (.iload_n 3, 1) := by decide +kernel
theorem dX6_lies_25 : decode cX6_lies 25 = .ok (.iconst 2, 1) := by decide +kernel
theorem dX6_lies_26 : decode cX6_lies 26 = .ok (.if_icmp .ne 23, 3) := by decide +kernel
theorem dX6_lies_29 : decode cX6_lies 29 = .ok (.aload_n 0, 1) := by decide +kernel
theorem dX6_lies_30 : decode cX6_lies 30 = .ok (.getfield 58, 3) := by decide +kernel
theorem dX6_lies_33 : decode cX6_lies 33 = .ok (.bipush 9, 2) := by decide +kernel
theorem dX6_lies_35 : decode cX6_lies 35 = .ok (.iload_n 2, 1) := by decide +kernel
theorem dX6_lies_36 : decode cX6_lies 36 = .ok (.imul, 1) := by decide +kernel
theorem dX6_lies_37 : decode cX6_lies 37 = .ok (.iload_n 1, 1) := by decide +kernel
theorem dX6_lies_38 : decode cX6_lies 38 = .ok (.iadd, 1) := by decide +kernel
theorem dX6_lies_39 : decode cX6_lies 39 = .ok (.baload, 1) := by decide +kernel
theorem dX6_lies_40 : decode cX6_lies 40 = .ok (.ifCond .eq 7, 3) := by decide +kernel
theorem dX6_lies_43 : decode cX6_lies 43 = .ok (.iconst 1, 1) := by decide +kernel
theorem dX6_lies_44 : decode cX6_lies 44 = .ok (.goto 4, 3) := by decide +kernel
theorem dX6_lies_47 : decode cX6_lies 47 = .ok (.iconst 0, 1) := by decide +kernel
theorem dX6_lies_48 : decode cX6_lies 48 = .ok (.ireturn, 1) := by decide +kernel
theorem dX6_lies_49 : decode cX6_lies 49 = .ok (.aload_n 0, 1) := by decide +kernel
theorem dX6_lies_50 : decode cX6_lies 50 = .ok (.iload_n 1, 1) := by decide +kernel
theorem dX6_lies_51 : decode cX6_lies 51 = .ok (.iload_n 2, 1) := by decide +kernel
theorem dX6_lies_52 : decode cX6_lies 52 = .ok (.invokevirtual 316, 3) := by decide +kernel
theorem dX6_lies_55 : decode cX6_lies 55 = .ok (.ifCond .ne 9, 3) := by decide +kernel
theorem dX6_lies_58 : decode cX6_lies 58 = .ok (.sipush (-1003), 3) := by decide +kernel
theorem dX6_lies_61 : decode cX6_lies 61 = .ok (.goto 18, 3) := by decide +kernel
theorem dX6_lies_64 : decode cX6_lies 64 = .ok (.iload_n 3, 1) := by decide +kernel
theorem dX6_lies_65 : decode cX6_lies 65 = .ok (.ifCond .ne 10, 3) := by decide +kernel
theorem dX6_lies_68 : decode cX6_lies 68 = .ok (.aload_n 0, 1) := by decide +kernel
theorem dX6_lies_69 : decode cX6_lies 69 = .ok (.getfield 304, 3) := by decide +kernel
theorem dX6_lies_72 : decode cX6_lies 72 = .ok (.goto 7, 3) := by decide +kernel
theorem dX6_lies_75 : decode cX6_lies 75 = .ok (.aload_n 0, 1) := by decide +kernel
theorem dX6_lies_76 : decode cX6_lies 76 = .ok (.getfield 307, 3) := by decide +kernel
theorem dX6_lies_79 : decode cX6_lies 79 = .ok (.ireturn, 1) := by decide +kernel
theorem dX6_area_0 : decode cX6_area 0 = .ok (.iload_n 1, 1) := by decide +kernel
theorem dX6_area_1 : decode cX6_area 1 = .ok (.invokestatic 190, 3) := by decide +kernel
theorem dX6_area_4 : decode cX6_area 4 = .ok (.ifCond .ne 7, 3) := by decide +kernel
theorem dX6_area_7 : decode cX6_area 7 = .ok (.ldc2_w 319, 3) := by decide +kernel
theorem dX6_area_10 : decode cX6_area 10 = .ok (.lreturn, 1) := by decide +kernel
theorem dX6_area_11 : decode cX6_area 11 = .ok (.iload_n 1, 1) := by decide +kernel
theorem dX6_area_12 : decode cX6_area 12 = .ok (.bipush 8, 2) := by decide +kernel
theorem dX6_area_14 : decode cX6_area 14 = .ok (.irem, 1) := by decide +kernel
theorem dX6_area_15 : decode cX6_area 15 = .ok (.istore_n 2, 1) := by decide +kernel
theorem dX6_area_16 : decode cX6_area 16 = .ok (.iload_n 1, 1) := by decide +kernel
theorem dX6_area_17 : decode cX6_area 17 = .ok (.bipush 8, 2) := by decide +kernel
theorem dX6_area_19 : decode cX6_area 19 = .ok (.idiv, 1) := by decide +kernel
theorem dX6_area_20 : decode cX6_area 20 = .ok (.istore_n 3, 1) := by decide +kernel
theorem dX6_area_21 : decode cX6_area 21 = .ok (.lconst 0, 1) := by decide +kernel
theorem dX6_area_22 : decode cX6_area 22 = .ok (.lstore 4, 2) := by decide +kernel
theorem dX6_area_24 : decode cX6_area 24 = .ok (.aload_n 0, 1) := by decide +kernel
theorem dX6_area_25 : decode cX6_area 25 = .ok (.iload_n 2, 1) := by decide +kernel
theorem dX6_area_26 : decode cX6_area 26 = .ok (.iload_n 3, 1) := by decide +kernel
theorem dX6_area_27 : decode cX6_area 27 = .ok (.iconst 1, 1) := by decide +kernel
theorem dX6_area_28 : decode cX6_area 28 = .ok (.iadd, 1) := by decide +kernel
theorem dX6_area_29 : decode cX6_area 29 = .ok (.invokevirtual 316, 3) := by decide +kernel
theorem dX6_area_32 : decode cX6_area 32 = .ok (.istore 6, 2) := by decide +kernel
theorem dX6_area_34 : decode cX6_area 34 = .ok (.aload_n 0, 1) := by decide +kernel
theorem dX6_area_35 : decode cX6_area 35 = .ok (.getfield 304, 3) := by decide +kernel
theorem dX6_area_38 : decode cX6_area 38 = .ok (.i2l, 1) := by decide +kernel
theorem dX6_area_39 : decode cX6_area 39 = .ok (.lstore 7, 2) := by decide +kernel
theorem dX6_area_41 : decode cX6_area 41 = .ok (.aload_n 0, 1) := by decide +kernel
theorem dX6_area_42 : decode cX6_area 42 = .ok (.getfield 307, 3) := by decide +kernel
theorem dX6_area_45 : decode cX6_area 45 = .ok (.i2l, 1) := by decide +kernel
theorem dX6_area_46 : decode cX6_area 46 = .ok (.lstore 9, 2) := by decide +kernel
theorem dX6_area_48 : decode cX6_area 48 = .ok (.iconst 0, 1) := by decide +kernel
theorem dX6_area_49 : decode cX6_area 49 = .ok (.istore 11, 2) := by decide +kernel
theorem dX6_area_51 : decode cX6_area 51 = .ok (.iload 11, 2) := by decide +kernel
theorem dX6_area_53 : decode cX6_area 53 = .ok (.iconst 4, 1) := by decide +kernel
theorem dX6_area_54 : decode cX6_area 54 = .ok (.if_icmp .ge 96, 3) := by decide +kernel
theorem dX6_area_57 : decode cX6_area 57 = .ok (.aload_n 0, 1) := by decide +kernel
theorem dX6_area_58 : decode cX6_area 58 = .ok (.iload 11, 2) := by decide +kernel
theorem dX6_area_60 : decode cX6_area 60 = .ok (.iconst 1, 1) := by decide +kernel
theorem dX6_area_61 : decode cX6_area 61 = .ok (.if_icmp .eq 9, 3) := by decide +kernel
theorem dX6_area_64 : decode cX6_area 64 = .ok (.iload 11, 2) := by decide +kernel
theorem dX6_area_66 : decode cX6_area 66 = .ok (.iconst 2, 1) := by decide +kernel
theorem dX6_area_67 : decode cX6_area 67 = .ok (.if_icmp .ne 9, 3) := by decide +kernel
theorem dX6_area_70 : decode cX6_area 70 = .ok (.iload_n 2, 1) := by decide +kernel
theorem dX6_area_71 : decode cX6_area 71 = .ok (.iconst 1, 1) := by decide +kernel
theorem dX6_area_72 : decode cX6_area 72 = .ok (.iadd, 1) := by decide +kernel
theorem dX6_area_73 : decode cX6_area 73 = .ok (.goto 4, 3) := by decide +kernel
theorem dX6_area_76 : decode cX6_area 76 = .ok (.iload_n 2, 1) := by decide +kernel
theorem dX6_area_77 : decode cX6_area 77 = .ok (.iload 11, 2) := by decide +kernel
theorem dX6_area_79 : decode cX6_area 79 = .ok (.iconst 1, 1) := by decide +kernel
theorem dX6_area_80 : decode cX6_area 80 = .ok (.if_icmp .le 9, 3) := by decide +kernel
theorem dX6_area_83 : decode cX6_area 83 = .ok (.iload_n 3, 1) := by decide +kernel
theorem dX6_area_84 : decode cX6_area 84 = .ok (.iconst 1, 1) := by decide +kernel
theorem dX6_area_85 : decode cX6_area 85 = .ok (.iadd, 1) := by decide +kernel
theorem dX6_area_86 : decode cX6_area 86 = .ok (.goto 4, 3) := by decide +kernel
theorem dX6_area_89 : decode cX6_area 89 = .ok (.iload_n 3, 1) := by decide +kernel
theorem dX6_area_90 : decode cX6_area 90 = .ok (.invokevirtual 316, 3) := by decide +kernel
theorem dX6_area_93 : decode cX6_area 93 = .ok (.ifCond .eq 12, 3) := by decide +kernel
theorem dX6_area_96 : decode cX6_area 96 = .ok (.iload 6, 2) := by decide +kernel
theorem dX6_area_98 : decode cX6_area 98 = .ok (.ifCond .eq 7, 3) := by decide +kernel
theorem dX6_area_101 : decode cX6_area 101 = .ok (.iconst 1, 1) := by decide +kernel
theorem dX6_area_102 : decode cX6_area 102 = .ok (.goto 4, 3) := by decide +kernel
theorem dX6_area_105 : decode cX6_area 105 = .ok (.iconst 0, 1) := by decide +kernel
theorem dX6_area_106 : decode cX6_area 106 = .ok (.istore 6, 2) := by decide +kernel
theorem dX6_area_108 : decode cX6_area 108 = .ok (.lload 4, 2) := by decide +kernel
theorem dX6_area_110 : decode cX6_area 110 = .ok (.lload 7, 2) := by decide +kernel
theorem dX6_area_112 : decode cX6_area 112 = .ok (.aload_n 0, 1) := by decide +kernel
theorem dX6_area_113 : decode cX6_area 113 = .ok (.getfield 307, 3) := by decide +kernel
theorem dX6_area_116 : decode cX6_area 116 = .ok (.i2l, 1) := by decide +kernel
theorem dX6_area_117 : decode cX6_area 117 = .ok (.lmul, 1) := by decide +kernel
theorem dX6_area_118 : decode cX6_area 118 = .ok (.aload_n 0, 1) := by decide +kernel
theorem dX6_area_119 : decode cX6_area 119 = .ok (.getfield 304, 3) := by decide +kernel
theorem dX6_area_122 : decode cX6_area 122 = .ok (.i2l, 1) := by decide +kernel
theorem dX6_area_123 : decode cX6_area 123 = .ok (.lload 9, 2) := by decide +kernel
theorem dX6_area_125 : decode cX6_area 125 = .ok (.lmul, 1) := by decide +kernel
theorem dX6_area_126 : decode cX6_area 126 = .ok (.lsub, 1) := by decide +kernel
theorem dX6_area_127 : decode cX6_area 127 = .ok (.ladd, 1) := by decide +kernel
theorem dX6_area_128 : decode cX6_area 128 = .ok (.lstore 4, 2) := by decide +kernel
theorem dX6_area_130 : decode cX6_area 130 = .ok (.aload_n 0, 1) := by decide +kernel
theorem dX6_area_131 : decode cX6_area 131 = .ok (.getfield 304, 3) := by decide +kernel
theorem dX6_area_134 : decode cX6_area 134 = .ok (.i2l, 1) := by decide +kernel
theorem dX6_area_135 : decode cX6_area 135 = .ok (.lstore 7, 2) := by decide +kernel
theorem dX6_area_137 : decode cX6_area 137 = .ok (.aload_n 0, 1) := by decide +kernel
theorem dX6_area_138 : decode cX6_area 138 = .ok (.getfield 307, 3) := by decide +kernel
theorem dX6_area_141 : decode cX6_area 141 = .ok (.i2l, 1) := by decide +kernel
theorem dX6_area_142 : decode cX6_area 142 = .ok (.lstore 9, 2) := by decide +kernel
theorem dX6_area_144 : decode cX6_area 144 = .ok (.iinc 11 1, 3) := by decide +kernel
theorem dX6_area_147 : decode cX6_area 147 = .ok (.goto (-96), 3) := by decide +kernel
theorem dX6_area_150 : decode cX6_area 150 = .ok (.iload 6, 2) := by decide +kernel
theorem dX6_area_152 : decode cX6_area 152 = .ok (.ifCond .eq 8, 3) := by decide +kernel
theorem dX6_area_155 : decode cX6_area 155 = .ok (.lload 4, 2) := by decide +kernel
theorem dX6_area_157 : decode cX6_area 157 = .ok (.goto 6, 3) := by decide +kernel
theorem dX6_area_160 : decode cX6_area 160 = .ok (.ldc2_w 321, 3) := by decide +kernel
theorem dX6_area_163 : decode cX6_area 163 = .ok (.lreturn, 1) := by decide +kernel
theorem dJ9_max_7cf53_0 : decode cJ9_max_7cf53 0 = .ok (.iload_n 0, 1) := by decide +kernel
theorem dJ9_max_7cf53_1 : decode cJ9_max_7cf53 1 = .ok (.iload_n 1, 1) := by decide +kernel
theorem dJ9_max_7cf53_2 : decode cJ9_max_7cf53 2 = .ok (.if_icmp .lt 7, 3) := by decide +kernel
theorem dJ9_max_7cf53_5 : decode cJ9_max_7cf53 5 = .ok (.iload_n 0, 1) := by decide +kernel
theorem dJ9_max_7cf53_6 : decode cJ9_max_7cf53 6 = .ok (.goto 4, 3) := by decide +kernel
theorem dJ9_max_7cf53_9 : decode cJ9_max_7cf53 9 = .ok (.iload_n 1, 1) := by decide +kernel
theorem dJ9_max_7cf53_10 : decode cJ9_max_7cf53 10 = .ok (.ireturn, 1) := by decide +kernel
theorem dJ9_min_7cf53_0 : decode cJ9_min_7cf53 0 = .ok (.iload_n 0, 1) := by decide +kernel
theorem dJ9_min_7cf53_1 : decode cJ9_min_7cf53 1 = .ok (.iload_n 1, 1) := by decide +kernel
theorem dJ9_min_7cf53_2 : decode cJ9_min_7cf53 2 = .ok (.if_icmp .gt 7, 3) := by decide +kernel
theorem dJ9_min_7cf53_5 : decode cJ9_min_7cf53 5 = .ok (.iload_n 0, 1) := by decide +kernel
theorem dJ9_min_7cf53_6 : decode cJ9_min_7cf53 6 = .ok (.goto 4, 3) := by decide +kernel
theorem dJ9_min_7cf53_9 : decode cJ9_min_7cf53 9 = .ok (.iload_n 1, 1) := by decide +kernel
theorem dJ9_min_7cf53_10 : decode cJ9_min_7cf53 10 = .ok (.ireturn, 1) := by decide +kernel
theorem dJ0_length_8abf5_0 : decode cJ0_length_8abf5 0 = .ok (.aload_n 0, 1) := by decide +kernel
theorem dJ0_length_8abf5_1 : decode cJ0_length_8abf5 1 = .ok (.getfield 9, 3) := by decide +kernel
theorem dJ0_length_8abf5_4 : decode cJ0_length_8abf5 4 = .ok (.arraylength, 1) := by decide +kernel
theorem dJ0_length_8abf5_5 : decode cJ0_length_8abf5 5 = .ok (.aload_n 0, 1) := by decide +kernel
theorem dJ0_length_8abf5_6 : decode cJ0_length_8abf5 6 = .ok (.invokevirtual 335, 3) := by decide +kernel
theorem dJ0_length_8abf5_9 : decode cJ0_length_8abf5 9 = .ok (.ishr, 1) := by decide +kernel
theorem dJ0_length_8abf5_10 : decode cJ0_length_8abf5 10 = .ok (.ireturn, 1) := by decide +kernel
theorem dJ0_charAt_5068e_0 : decode cJ0_charAt_5068e 0 = .ok (.aload_n 0, 1) := by decide +kernel
theorem dJ0_charAt_5068e_1 : decode cJ0_charAt_5068e 1 = .ok (.invokevirtual 492, 3) := by decide +kernel
theorem dJ0_charAt_5068e_4 : decode cJ0_charAt_5068e 4 = .ok (.ifCond .eq 12, 3) := by decide +kernel
theorem dJ0_charAt_5068e_7 : decode cJ0_charAt_5068e 7 = .ok (.aload_n 0, 1) := by decide +kernel
theorem dJ0_charAt_5068e_8 : decode cJ0_charAt_5068e 8 = .ok (.getfield 9, 3) := by decide +kernel
theorem dJ0_charAt_5068e_11 : decode cJ0_charAt_5068e 11 = .ok (.iload_n 1, 1) := by decide +kernel
theorem dJ0_charAt_5068e_12 : decode cJ0_charAt_5068e 12 = .ok (.invokestatic 495, 3) := by decide +kernel
theorem dJ0_charAt_5068e_15 : decode cJ0_charAt_5068e 15 = .ok (.ireturn, 1) := by decide +kernel
theorem dJ0_charAt_5068e_16 : decode cJ0_charAt_5068e 16 = .ok (.aload_n 0, 1) := by decide +kernel
theorem dJ0_charAt_5068e_17 : decode cJ0_charAt_5068e 17 = .ok (.getfield 9, 3) := by decide +kernel
theorem dJ0_charAt_5068e_20 : decode cJ0_charAt_5068e 20 = .ok (.iload_n 1, 1) := by decide +kernel
theorem dJ0_charAt_5068e_21 : decode cJ0_charAt_5068e 21 = .ok (.invokestatic 498, 3) := by decide +kernel
theorem dJ0_charAt_5068e_24 : decode cJ0_charAt_5068e 24 = .ok (.ireturn, 1) := by decide +kernel
theorem dJ0_coder_7d493_0 : decode cJ0_coder_7d493 0 = .ok (.getstatic 38, 3) := by decide +kernel
theorem dJ0_coder_7d493_3 : decode cJ0_coder_7d493 3 = .ok (.ifCond .eq 10, 3) := by decide +kernel
theorem dJ0_coder_7d493_6 : decode cJ0_coder_7d493 6 = .ok (.aload_n 0, 1) := by decide +kernel
theorem dJ0_coder_7d493_7 : decode cJ0_coder_7d493 7 = .ok (.getfield 15, 3) := by decide +kernel
theorem dJ0_coder_7d493_10 : decode cJ0_coder_7d493 10 = .ok (.goto 4, 3) := by decide +kernel
theorem dJ0_coder_7d493_13 : decode cJ0_coder_7d493 13 = .ok (.iconst 1, 1) := by decide +kernel
theorem dJ0_coder_7d493_14 : decode cJ0_coder_7d493 14 = .ok (.ireturn, 1) := by decide +kernel
theorem dJ0_isLatin1_aae02_0 : decode cJ0_isLatin1_aae02 0 = .ok (.getstatic 38, 3) := by decide +kernel
theorem dJ0_isLatin1_aae02_3 : decode cJ0_isLatin1_aae02 3 = .ok (.ifCond .eq 14, 3) := by decide +kernel
theorem dJ0_isLatin1_aae02_6 : decode cJ0_isLatin1_aae02 6 = .ok (.aload_n 0, 1) := by decide +kernel
theorem dJ0_isLatin1_aae02_7 : decode cJ0_isLatin1_aae02 7 = .ok (.getfield 15, 3) := by decide +kernel
theorem dJ0_isLatin1_aae02_10 : decode cJ0_isLatin1_aae02 10 = .ok (.ifCond .ne 7, 3) := by decide +kernel
theorem dJ0_isLatin1_aae02_13 : decode cJ0_isLatin1_aae02 13 = .ok (.iconst 1, 1) := by decide +kernel
theorem dJ0_isLatin1_aae02_14 : decode cJ0_isLatin1_aae02 14 = .ok (.goto 4, 3) := by decide +kernel
theorem dJ0_isLatin1_aae02_17 : decode cJ0_isLatin1_aae02 17 = .ok (.iconst 0, 1) := by decide +kernel
theorem dJ0_isLatin1_aae02_18 : decode cJ0_isLatin1_aae02 18 = .ok (.ireturn, 1) := by decide +kernel
theorem dJ0_checkIndex_df160_0 : decode cJ0_checkIndex_df160 0 = .ok (.iload_n 0, 1) := by decide +kernel
theorem dJ0_checkIndex_df160_1 : decode cJ0_checkIndex_df160 1 = .ok (.iload_n 1, 1) := by decide +kernel
theorem dJ0_checkIndex_df160_2 : decode cJ0_checkIndex_df160 2 = .ok (.getstatic 1053, 3) := by decide +kernel
theorem dJ0_checkIndex_df160_5 : decode cJ0_checkIndex_df160 5 = .ok (.invokestatic 1059, 3) := by decide +kernel
theorem dJ0_checkIndex_df160_8 : decode cJ0_checkIndex_df160 8 = .ok (.pop, 1) := by decide +kernel
theorem dJ0_checkIndex_df160_9 : decode cJ0_checkIndex_df160 9 = .ok (.return_, 1) := by decide +kernel
theorem dJ1_charAt_3b067_0 : decode cJ1_charAt_3b067 0 = .ok (.iload_n 1, 1) := by decide +kernel
theorem dJ1_charAt_3b067_1 : decode cJ1_charAt_3b067 1 = .ok (.aload_n 0, 1) := by decide +kernel
theorem dJ1_charAt_3b067_2 : decode cJ1_charAt_3b067 2 = .ok (.arraylength, 1) := by decide +kernel
theorem dJ1_charAt_3b067_3 : decode cJ1_charAt_3b067 3 = .ok (.invokestatic 9, 3) := by decide +kernel
theorem dJ1_charAt_3b067_6 : decode cJ1_charAt_3b067 6 = .ok (.aload_n 0, 1) := by decide +kernel
theorem dJ1_charAt_3b067_7 : decode cJ1_charAt_3b067 7 = .ok (.iload_n 1, 1) := by decide +kernel
theorem dJ1_charAt_3b067_8 : decode cJ1_charAt_3b067 8 = .ok (.baload, 1) := by decide +kernel
theorem dJ1_charAt_3b067_9 : decode cJ1_charAt_3b067 9 = .ok (.sipush 255, 3) := by decide +kernel
theorem dJ1_charAt_3b067_12 : decode cJ1_charAt_3b067 12 = .ok (.iand, 1) := by decide +kernel
theorem dJ1_charAt_3b067_13 : decode cJ1_charAt_3b067 13 = .ok (.i2c, 1) := by decide +kernel
theorem dJ1_charAt_3b067_14 : decode cJ1_charAt_3b067 14 = .ok (.ireturn, 1) := by decide +kernel
theorem dJ2_getChar_3b067_0 : decode cJ2_getChar_3b067 0 = .ok (.getstatic 44, 3) := by decide +kernel
theorem dJ2_getChar_3b067_3 : decode cJ2_getChar_3b067 3 = .ok (.ifCond .ne 25, 3) := by decide +kernel
theorem dJ2_getChar_3b067_6 : decode cJ2_getChar_3b067 6 = .ok (.iload_n 1, 1) := by decide +kernel
theorem dJ2_getChar_3b067_7 : decode cJ2_getChar_3b067 7 = .ok (.ifCond .lt 11, 3) := by decide +kernel
theorem dJ2_getChar_3b067_10 : decode cJ2_getChar_3b067 10 = .ok (.iload_n 1, 1) := by decide +kernel
theorem dJ2_getChar_3b067_11 : decode cJ2_getChar_3b067 11 = .ok (.aload_n 0, 1) := by decide +kernel
theorem dJ2_getChar_3b067_12 : decode cJ2_getChar_3b067 12 = .ok (.invokestatic 48, 3) := by decide +kernel
theorem dJ2_getChar_3b067_15 : decode cJ2_getChar_3b067 15 = .ok (.if_icmp .lt 13, 3) := by decide +kernel
theorem dJ2_getChar_3b067_18 : decode cJ2_getChar_3b067 18 = .ok (.new 52, 3) := by decide +kernel
theorem dJ2_getChar_3b067_21 : decode cJ2_getChar_3b067 21 = .ok (.dup, 1) := by decide +kernel
theorem dJ2_getChar_3b067_22 : decode cJ2_getChar_3b067 22 = .ok (.ldc 54, 2) := by decide +kernel
theorem dJ2_getChar_3b067_24 : decode cJ2_getChar_3b067 24 = .ok (.invokespecial 56, 3) := by decide +kernel
theorem dJ2_getChar_3b067_27 : decode cJ2_getChar_3b067 27 = .ok (.athrow, 1) := by decide +kernel
theorem dJ2_getChar_3b067_28 : decode cJ2_getChar_3b067 28 = .ok (.iload_n 1, 1) := by decide +kernel
theorem dJ2_getChar_3b067_29 : decode cJ2_getChar_3b067 29 = .ok (.iconst 1, 1) := by decide +kernel
theorem dJ2_getChar_3b067_30 : decode cJ2_getChar_3b067 30 = .ok (.ishl, 1) := by decide +kernel
theorem dJ2_getChar_3b067_31 : decode cJ2_getChar_3b067 31 = .ok (.istore_n 1, 1) := by decide +kernel
theorem dJ2_getChar_3b067_32 : decode cJ2_getChar_3b067 32 = .ok (.aload_n 0, 1) := by decide +kernel
theorem dJ2_getChar_3b067_33 : decode cJ2_getChar_3b067 33 = .ok (.iload_n 1, 1) := by decide +kernel
theorem dJ2_getChar_3b067_34 : decode cJ2_getChar_3b067 34 = .ok (.iinc 1 1, 3) := by decide +kernel
theorem dJ2_getChar_3b067_37 : decode cJ2_getChar_3b067 37 = .ok (.baload, 1) := by decide +kernel
theorem dJ2_getChar_3b067_38 : decode cJ2_getChar_3b067 38 = .ok (.sipush 255, 3) := by decide +kernel
theorem dJ2_getChar_3b067_41 : decode cJ2_getChar_3b067 41 = .ok (.iand, 1) := by decide +kernel
theorem dJ2_getChar_3b067_42 : decode cJ2_getChar_3b067 42 = .ok (.getstatic 59, 3) := by decide +kernel
theorem dJ2_getChar_3b067_45 : decode cJ2_getChar_3b067 45 = .ok (.ishl, 1) := by decide +kernel
theorem dJ2_getChar_3b067_46 : decode cJ2_getChar_3b067 46 = .ok (.aload_n 0, 1) := by decide +kernel
theorem dJ2_getChar_3b067_47 : decode cJ2_getChar_3b067 47 = .ok (.iload_n 1, 1) := by decide +kernel
theorem dJ2_getChar_3b067_48 : decode cJ2_getChar_3b067 48 = .ok (.baload, 1) := by decide +kernel
theorem dJ2_getChar_3b067_49 : decode cJ2_getChar_3b067 49 = .ok (.sipush 255, 3) := by decide +kernel
theorem dJ2_getChar_3b067_52 : decode cJ2_getChar_3b067 52 = .ok (.iand, 1) := by decide +kernel
theorem dJ2_getChar_3b067_53 : decode cJ2_getChar_3b067 53 = .ok (.getstatic 63, 3) := by decide +kernel
theorem dJ2_getChar_3b067_56 : decode cJ2_getChar_3b067 56 = .ok (.ishl, 1) := by decide +kernel
theorem dJ2_getChar_3b067_57 : decode cJ2_getChar_3b067 57 = .ok (.ior, 1) := by decide +kernel
theorem dJ2_getChar_3b067_58 : decode cJ2_getChar_3b067 58 = .ok (.i2c, 1) := by decide +kernel
theorem dJ2_getChar_3b067_59 : decode cJ2_getChar_3b067 59 = .ok (.ireturn, 1) := by decide +kernel
