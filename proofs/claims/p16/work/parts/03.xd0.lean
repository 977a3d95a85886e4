theorem dX0_init_0 : decode cX0_init 0 = .ok (.aload_n 0, 1) := by decide +kernel
theorem dX0_init_1 : decode cX0_init 1 = .ok (.invokespecial 3, 3) := by decide +kernel
theorem dX0_init_4 : decode cX0_init 4 = .ok (.aload_n 0, 1) := by decide +kernel
theorem dX0_init_5 : decode cX0_init 5 = .ok (.bipush 120, 2) := by decide +kernel
theorem dX0_init_7 : decode cX0_init 7 = .ok (.newarray .int, 2) := by decide +kernel
theorem dX0_init_9 : decode cX0_init 9 = .ok (.putfield 9, 3) := by decide +kernel
theorem dX0_init_12 : decode cX0_init 12 = .ok (.aload_n 0, 1) := by decide +kernel
theorem dX0_init_13 : decode cX0_init 13 = .ok (.bipush 120, 2) := by decide +kernel
theorem dX0_init_15 : decode cX0_init 15 = .ok (.newarray .int, 2) := by decide +kernel
theorem dX0_init_17 : decode cX0_init 17 = .ok (.putfield 15, 3) := by decide +kernel
theorem dX0_init_20 : decode cX0_init 20 = .ok (.aload_n 0, 1) := by decide +kernel
theorem dX0_init_21 : decode cX0_init 21 = .ok (.bipush 120, 2) := by decide +kernel
theorem dX0_init_23 : decode cX0_init 23 = .ok (.newarray .int, 2) := by decide +kernel
theorem dX0_init_25 : decode cX0_init 25 = .ok (.putfield 18, 3) := by decide +kernel
theorem dX0_init_28 : decode cX0_init 28 = .ok (.aload_n 0, 1) := by decide +kernel
theorem dX0_init_29 : decode cX0_init 29 = .ok (.bipush 120, 2) := by decide +kernel
theorem dX0_init_31 : decode cX0_init 31 = .ok (.newarray .int, 2) := by decide +kernel
theorem dX0_init_33 : decode cX0_init 33 = .ok (.putfield 21, 3) := by decide +kernel
theorem dX0_init_36 : decode cX0_init 36 = .ok (.aload_n 0, 1) := by decide +kernel
theorem dX0_init_37 : decode cX0_init 37 = .ok (.bipush 120, 2) := by decide +kernel
theorem dX0_init_39 : decode cX0_init 39 = .ok (.newarray .int, 2) := by decide +kernel
theorem dX0_init_41 : decode cX0_init 41 = .ok (.putfield 24, 3) := by decide +kernel
theorem dX0_init_44 : decode cX0_init 44 = .ok (.aload_n 0, 1) := by decide +kernel
theorem dX0_init_45 : decode cX0_init 45 = .ok (.bipush 120, 2) := by decide +kernel
theorem dX0_init_47 : decode cX0_init 47 = .ok (.newarray .boolean, 2) := by decide +kernel
theorem dX0_init_49 : decode cX0_init 49 = .ok (.putfield 27, 3) := by decide +kernel
theorem dX0_init_52 : decode cX0_init 52 = .ok (.aload_n 0, 1) := by decide +kernel
theorem dX0_init_53 : decode cX0_init 53 = .ok (.bipush 120, 2) := by decide +kernel
theorem dX0_init_55 : decode cX0_init 55 = .ok (.newarray .int, 2) := by decide +kernel
theorem dX0_init_57 : decode cX0_init 57 = .ok (.putfield 31, 3) := by decide +kernel
theorem dX0_init_60 : decode cX0_init 60 = .ok (.return_, 1) := by decide +kernel
theorem dX0_add_0 : decode cX0_add 0 = .ok (.aload_n 0, 1) := by decide +kernel
theorem dX0_add_1 : decode cX0_add 1 = .ok (.getfield 9, 3) := by decide +kernel
theorem dX0_add_4 : decode cX0_add 4 = .ok (.aload_n 0, 1) := by decide +kernel
theorem dX0_add_5 : decode cX0_add 5 = .ok (.getfield 34, 3) := by decide +kernel
theorem dX0_add_8 : decode cX0_add 8 = .ok (.iload_n 1, 1) := by decide +kernel
theorem dX0_add_9 : decode cX0_add 9 = .ok (.iastore, 1) := by decide +kernel
theorem dX0_add_10 : decode cX0_add 10 = .ok (.aload_n 0, 1) := by decide +kernel
theorem dX0_add_11 : decode cX0_add 11 = .ok (.getfield 15, 3) := by decide +kernel
theorem dX0_add_14 : decode cX0_add 14 = .ok (.aload_n 0, 1) := by decide +kernel
theorem dX0_add_15 : decode cX0_add 15 = .ok (.getfield 34, 3) := by decide +kernel
theorem dX0_add_18 : decode cX0_add 18 = .ok (.iload_n 2, 1) := by decide +kernel
theorem dX0_add_19 : decode cX0_add 19 = .ok (.iastore, 1) := by decide +kernel
theorem dX0_add_20 : decode cX0_add 20 = .ok (.aload_n 0, 1) := by decide +kernel
theorem dX0_add_21 : decode cX0_add 21 = .ok (.getfield 34, 3) := by decide +kernel
theorem dX0_add_24 : decode cX0_add 24 = .ok (.istore_n 3, 1) := by decide +kernel
theorem dX0_add_25 : decode cX0_add 25 = .ok (.iload_n 3, 1) := by decide +kernel
theorem dX0_add_26 : decode cX0_add 26 = .ok (.ifCond .le 40, 3) := by decide +kernel
theorem dX0_add_29 : decode cX0_add 29 = .ok (.aload_n 0, 1) := by decide +kernel
theorem dX0_add_30 : decode cX0_add 30 = .ok (.getfield 9, 3) := by decide +kernel
theorem dX0_add_33 : decode cX0_add 33 = .ok (.aload_n 0, 1) := by decide +kernel
theorem dX0_add_34 : decode cX0_add 34 = .ok (.getfield 31, 3) := by decide +kernel
theorem dX0_add_37 : decode cX0_add 37 = .ok (.iload_n 3, 1) := by decide +kernel
theorem dX0_add_38 : decode cX0_add 38 = .ok (.iconst 1, 1) := by decide +kernel
theorem dX0_add_39 : decode cX0_add 39 = .ok (.isub, 1) := by decide +kernel
theorem dX0_add_40 : decode cX0_add 40 = .ok (.iaload, 1) := by decide +kernel
theorem dX0_add_41 : decode cX0_add 41 = .ok (.iaload, 1) := by decide +kernel
theorem dX0_add_42 : decode cX0_add 42 = .ok (.iload_n 1, 1) := by decide +kernel
theorem dX0_add_43 : decode cX0_add 43 = .ok (.if_icmp .le 23, 3) := by decide +kernel
theorem dX0_add_46 : decode cX0_add 46 = .ok (.aload_n 0, 1) := by decide +kernel
theorem dX0_add_47 : decode cX0_add 47 = .ok (.getfield 31, 3) := by decide +kernel
theorem dX0_add_50 : decode cX0_add 50 = .ok (.iload_n 3, 1) := by decide +kernel
theorem dX0_add_51 : decode cX0_add 51 = .ok (.aload_n 0, 1) := by decide +kernel
theorem dX0_add_52 : decode cX0_add 52 = .ok (.getfield 31, 3) := by decide +kernel
theorem dX0_add_55 : decode cX0_add 55 = .ok (.iload_n 3, 1) := by decide +kernel
theorem dX0_add_56 : decode cX0_add 56 = .ok (.iconst 1, 1) := by decide +kernel
theorem dX0_add_57 : decode cX0_add 57 = .ok (.isub, 1) := by decide +kernel
theorem dX0_add_58 : decode cX0_add 58 = .ok (.iaload, 1) := by decide +kernel
theorem dX0_add_59 : decode cX0_add 59 = .ok (.iastore, 1) := by decide +kernel
theorem dX0_add_60 : decode cX0_add 60 = .ok (.iinc 3 (-1), 3) := by decide +kernel
theorem dX0_add_63 : decode cX0_add 63 = .ok (.goto (-38), 3) := by decide +kernel
theorem dX0_add_66 : decode cX0_add 66 = .ok (.aload_n 0, 1) := by decide +kernel
theorem dX0_add_67 : decode cX0_add 67 = .ok (.getfield 31, 3) := by decide +kernel
theorem dX0_add_70 : decode cX0_add 70 = .ok (.iload_n 3, 1) := by decide +kernel
theorem dX0_add_71 : decode cX0_add 71 = .ok (.aload_n 0, 1) := by decide +kernel
theorem dX0_add_72 : decode cX0_add 72 = .ok (.getfield 34, 3) := by decide +kernel
theorem dX0_add_75 : decode cX0_add 75 = .ok (.iastore, 1) := by decide +kernel
theorem dX0_add_76 : decode cX0_add 76 = .ok (.aload_n 0, 1) := by decide +kernel
theorem dX0_add_77 : decode cX0_add 77 = .ok (.dup, 1) := by decide +kernel
theorem dX0_add_78 : decode cX0_add 78 = .ok (.getfield 34, 3) := by decide +kernel
theorem dX0_add_81 : decode cX0_add 81 = .ok (.iconst 1, 1) := by decide +kernel
theorem dX0_add_82 : decode cX0_add 82 = .ok (.iadd, 1) := by decide +kernel
theorem dX0_add_83 : decode cX0_add 83 = .ok (.putfield 34, 3) := by decide +kernel
theorem dX0_add_86 : decode cX0_add 86 = .ok (.aload_n 0, 1) := by decide +kernel
theorem dX0_add_87 : decode cX0_add 87 = .ok (.getfield 34, 3) := by decide +kernel
theorem dX0_add_90 : decode cX0_add 90 = .ok (.iconst 1, 1) := by decide +kernel
theorem dX0_add_91 : decode cX0_add 91 = .ok (.isub, 1) := by decide +kernel
theorem dX0_add_92 : decode cX0_add 92 = .ok (.ireturn, 1) := by decide +kernel
theorem dX0_countStruck_0 : decode cX0_countStruck 0 = .ok (.iconst 0, 1) := by decide +kernel
theorem dX0_countStruck_1 : decode cX0_countStruck 1 = .ok (.istore_n 1, 1) := by decide +kernel
theorem dX0_countStruck_2 : decode cX0_countStruck 2 = .ok (.iconst 0, 1) := by decide +kernel
theorem dX0_countStruck_3 : decode cX0_countStruck 3 = .ok (.istore_n 2, 1) := by decide +kernel
theorem dX0_countStruck_4 : decode cX0_countStruck 4 = .ok (.iload_n 2, 1) := by decide +kernel
theorem dX0_countStruck_5 : decode cX0_countStruck 5 = .ok (.aload_n 0, 1) := by decide +kernel
theorem dX0_countStruck_6 : decode cX0_countStruck 6 = .ok (.getfield 34, 3) := by decide +kernel
theorem dX0_countStruck_9 : decode cX0_countStruck 9 = .ok (.if_icmp .ge 21, 3) := by decide +kernel
theorem dX0_countStruck_12 : decode cX0_countStruck 12 = .ok (.aload_n 0, 1) := by decide +kernel
theorem dX0_countStruck_13 : decode cX0_countStruck 13 = .ok (.getfield 27, 3) := by decide +kernel
theorem dX0_countStruck_16 : decode cX0_countStruck 16 = .ok (.iload_n 2, 1) := by decide +kernel
theorem dX0_countStruck_17 : decode cX0_countStruck 17 = .ok (.baload, 1) := by decide +kernel
theorem dX0_countStruck_18 : decode cX0_countStruck 18 = .ok (.ifCond .eq 6, 3) := by decide +kernel
theorem dX0_countStruck_21 : decode cX0_countStruck 21 = .ok (.iinc 1 1, 3) := by decide +kernel
theorem dX0_countStruck_24 : decode cX0_countStruck 24 = .ok (.iinc 2 1, 3) := by decide +kernel
theorem dX0_countStruck_27 : decode cX0_countStruck 27 = .ok (.goto (-23), 3) := by decide +kernel
theorem dX0_countStruck_30 : decode cX0_countStruck 30 = .ok (.iload_n 1, 1) := by decide +kernel
theorem dX0_countStruck_31 : decode cX0_countStruck 31 = .ok (.ireturn, 1) := by decide +kernel
theorem dX1_init_0 : decode cX1_init 0 = .ok (.aload_n 0, 1) := by decide +kernel
theorem dX1_init_1 : decode cX1_init 1 = .ok (.invokespecial 1, 3) := by decide +kernel
theorem dX1_init_4 : decode cX1_init 4 = .ok (.aload_n 0, 1) := by decide +kernel
theorem dX1_init_5 : decode cX1_init 5 = .ok (.bipush 81, 2) := by decide +kernel
theorem dX1_init_7 : decode cX1_init 7 = .ok (.newarray .boolean, 2) := by decide +kernel
theorem dX1_init_9 : decode cX1_init 9 = .ok (.putfield 9, 3) := by decide +kernel
theorem dX1_init_12 : decode cX1_init 12 = .ok (.aload_n 0, 1) := by decide +kernel
theorem dX1_init_13 : decode cX1_init 13 = .ok (.bipush 81, 2) := by decide +kernel
theorem dX1_init_15 : decode cX1_init 15 = .ok (.newarray .int, 2) := by decide +kernel
theorem dX1_init_17 : decode cX1_init 17 = .ok (.putfield 13, 3) := by decide +kernel
theorem dX1_init_20 : decode cX1_init 20 = .ok (.aload_n 0, 1) := by decide +kernel
theorem dX1_init_21 : decode cX1_init 21 = .ok (.bipush 81, 2) := by decide +kernel
theorem dX1_init_23 : decode cX1_init 23 = .ok (.newarray .int, 2) := by decide +kernel
theorem dX1_init_25 : decode cX1_init 25 = .ok (.putfield 17, 3) := by decide +kernel
theorem dX1_init_28 : decode cX1_init 28 = .ok (.aload_n 0, 1) := by decide +kernel
theorem dX1_init_29 : decode cX1_init 29 = .ok (.iconst 4, 1) := by decide +kernel
theorem dX1_init_30 : decode cX1_init 30 = .ok (.newarray .long, 2) := by decide +kernel
theorem dX1_init_32 : decode cX1_init 32 = .ok (.putfield 20, 3) := by decide +kernel
theorem dX1_init_35 : decode cX1_init 35 = .ok (.aload_n 0, 1) := by decide +kernel
theorem dX1_init_36 : decode cX1_init 36 = .ok (.iconst 4, 1) := by decide +kernel
theorem dX1_init_37 : decode cX1_init 37 = .ok (.newarray .long, 2) := by decide +kernel
theorem dX1_init_39 : decode cX1_init 39 = .ok (.putfield 24, 3) := by decide +kernel
theorem dX1_init_42 : decode cX1_init 42 = .ok (.iconst 0, 1) := by decide +kernel
theorem dX1_init_43 : decode cX1_init 43 = .ok (.istore_n 1, 1) := by decide +kernel
theorem dX1_init_44 : decode cX1_init 44 = .ok (.iload_n 1, 1) := by decide +kernel
theorem dX1_init_45 : decode cX1_init 45 = .ok (.bipush 81, 2) := by decide +kernel
theorem dX1_init_47 : decode cX1_init 47 = .ok (.if_icmp .ge 42, 3) := by decide +kernel
theorem dX1_init_50 : decode cX1_init 50 = .ok (.aload_n 0, 1) := by decide +kernel
theorem dX1_init_51 : decode cX1_init 51 = .ok (.getfield 9, 3) := by decide +kernel
theorem dX1_init_54 : decode cX1_init 54 = .ok (.iload_n 1, 1) := by decide +kernel
theorem dX1_init_55 : decode cX1_init 55 = .ok (.iconst 1, 1) := by decide +kernel
theorem dX1_init_56 : decode cX1_init 56 = .ok (.bastore, 1) := by decide +kernel
theorem dX1_init_57 : decode cX1_init 57 = .ok (.aload_n 0, 1) := by decide +kernel
theorem dX1_init_58 : decode cX1_init 58 = .ok (.getfield 13, 3) := by decide +kernel
theorem dX1_init_61 : decode cX1_init 61 = .ok (.iload_n 1, 1) := by decide +kernel
theorem dX1_init_62 : decode cX1_init 62 = .ok (.bipush 100, 2) := by decide +kernel
theorem dX1_init_64 : decode cX1_init 64 = .ok (.iload_n 1, 1) := by decide +kernel
theorem dX1_init_65 : decode cX1_init 65 = .ok (.bipush 9, 2) := by decide +kernel
theorem dX1_init_67 : decode cX1_init 67 = .ok (.irem, 1) := by decide +kernel
theorem dX1_init_68 : decode cX1_init 68 = .ok (.imul, 1) := by decide +kernel
theorem dX1_init_69 : decode cX1_init 69 = .ok (.iastore, 1) := by decide +kernel
theorem dX1_init_70 : decode cX1_init 70 = .ok (.aload_n 0, 1) := by decide +kernel
theorem dX1_init_71 : decode cX1_init 71 = .ok (.getfield 17, 3) := by decide +kernel
theorem dX1_init_74 : decode cX1_init 74 = .ok (.iload_n 1, 1) := by decide +kernel
theorem dX1_init_75 : decode cX1_init 75 = .ok (.bipush 100, 2) := by decide +kernel
theorem dX1_init_77 : decode cX1_init 77 = .ok (.iload_n 1, 1) := by decide +kernel
theorem dX1_init_78 : decode cX1_init 78 = .ok (.bipush 9, 2) := by decide +kernel
theorem dX1_init_80 : decode cX1_init 80 = .ok (.idiv, 1) := by decide +kernel
theorem dX1_init_81 : decode cX1_init 81 = .ok (.imul, 1) := by decide +kernel
theorem dX1_init_82 : decode cX1_init 82 = .ok (.iastore, 1) := by decide +kernel
theorem dX1_init_83 : decode cX1_init 83 = .ok (.iinc 1 1, 3) := by decide +kernel
theorem dX1_init_86 : decode cX1_init 86 = .ok (.goto (-42), 3) := by decide +kernel
theorem dX1_init_89 : decode cX1_init 89 = .ok (.return_, 1) := by decide +kernel
theorem dX1_set_0 : decode cX1_set 0 = .ok (.bipush 9, 2) := by decide +kernel
theorem dX1_set_2 : decode cX1_set 2 = .ok (.iload_n 2, 1) := by decide +kernel
theorem dX1_set_3 : decode cX1_set 3 = .ok (.imul, 1) := by decide +kernel
theorem dX1_set_4 : decode cX1_set 4 = .ok (.iload_n 1, 1) := by decide +kernel
theorem dX1_set_5 : decode cX1_set 5 = .ok (.iadd, 1) := by decide +kernel
theorem dX1_set_6 : decode cX1_set 6 = .ok (.istore 5, 2) := by decide +kernel
theorem dX1_set_8 : decode cX1_set 8 = .ok (.aload_n 0, 1) := by decide +kernel
theorem dX1_set_9 : decode cX1_set 9 = .ok (.getfield 9, 3) := by decide +kernel
theorem dX1_set_12 : decode cX1_set 12 = .ok (.iload 5, 2) := by decide +kernel
theorem dX1_set_14 : decode cX1_set 14 = .ok (.iconst 1, 1) := by decide +kernel
theorem dX1_set_15 : decode cX1_set 15 = .ok (.bastore, 1) := by decide +kernel
theorem dX1_set_16 : decode cX1_set 16 = .ok (.aload_n 0, 1) := by decide +kernel
theorem dX1_set_17 : decode cX1_set 17 = .ok (.getfield 13, 3) := by decide +kernel
theorem dX1_set_20 : decode cX1_set 20 = .ok (.iload 5, 2) := by decide +kernel
theorem dX1_set_22 : decode cX1_set 22 = .ok (.iload_n 3, 1) := by decide +kernel
theorem dX1_set_23 : decode cX1_set 23 = .ok (.iastore, 1) := by decide +kernel
theorem dX1_set_24 : decode cX1_set 24 = .ok (.aload_n 0, 1) := by decide +kernel
theorem dX1_set_25 : decode cX1_set 25 = .ok (.getfield 17, 3) := by decide +kernel
theorem dX1_set_28 : decode cX1_set 28 = .ok (.iload 5, 2) := by decide +kernel
theorem dX1_set_30 : decode cX1_set 30 = .ok (.iload 4, 2) := by decide +kernel
theorem dX1_set_32 : decode cX1_set 32 = .ok (.iastore, 1) := by decide +kernel
theorem dX1_set_33 : decode cX1_set 33 = .ok (.return_, 1) := by decide +kernel
theorem dX1_forget_0 : decode cX1_forget 0 = .ok (.aload_n 0, 1) := by decide +kernel
theorem dX1_forget_1 : decode cX1_forget 1 = .ok (.iload_n 1, 1) := by decide +kernel
theorem dX1_forget_2 : decode cX1_forget 2 = .ok (.iload_n 2, 1) := by decide +kernel
theorem dX1_forget_3 : decode cX1_forget 3 = .ok (.invokevirtual 27, 3) := by decide +kernel
theorem dX1_forget_6 : decode cX1_forget 6 = .ok (.istore_n 3, 1) := by decide +kernel
theorem dX1_forget_7 : decode cX1_forget 7 = .ok (.aload_n 0, 1) := by decide +kernel
theorem dX1_forget_8 : decode cX1_forget 8 = .ok (.getfield 9, 3) := by decide +kernel
theorem dX1_forget_11 : decode cX1_forget 11 = .ok (.bipush 9, 2) := by decide +kernel
theorem dX1_forget_13 : decode cX1_forget 13 = .ok (.iload_n 2, 1) := by decide +kernel
theorem dX1_forget_14 : decode cX1_forget 14 = .ok (.imul, 1) := by decide +kernel
theorem dX1_forget_15 : decode cX1_forget 15 = .ok (.iload_n 1, 1) := by decide +kernel
theorem dX1_forget_16 : decode cX1_forget 16 = .ok (.iadd, 1) := by decide +kernel
theorem dX1_forget_17 : decode cX1_forget 17 = .ok (.iconst 0, 1) := by decide +kernel
theorem dX1_forget_18 : decode cX1_forget 18 = .ok (.bastore, 1) := by decide +kernel
theorem dX1_forget_19 : decode cX1_forget 19 = .ok (.iload_n 3, 1) := by decide +kernel
theorem dX1_forget_20 : decode cX1_forget 20 = .ok (.ireturn, 1) := by decide +kernel
theorem dX1_isKnown_0 : decode cX1_isKnown 0 = .ok (.aload_n 0, 1) := by decide +kernel
theorem dX1_isKnown_1 : decode cX1_isKnown 1 = .ok (.getfield 9, 3) := by decide +kernel
theorem dX1_isKnown_4 : decode cX1_isKnown 4 = .ok (.bipush 9, 2) := by decide +kernel
theorem dX1_isKnown_6 : decode cX1_isKnown 6 = .ok (.iload_n 2, 1) := by decide +kernel
theorem dX1_isKnown_7 : decode cX1_isKnown 7 = .ok (.imul, 1) := by decide +kernel
theorem dX1_isKnown_8 : decode cX1_isKnown 8 = .ok (.iload_n 1, 1) := by decide +kernel
theorem dX1_isKnown_9 : decode cX1_isKnown 9 = .ok (.iadd, 1) := by decide +kernel
theorem dX1_isKnown_10 : decode cX1_isKnown 10 = .ok (.baload, 1) := by decide +kernel
theorem dX1_isKnown_11 : decode cX1_isKnown 11 = .ok (.ireturn, 1) := by decide +kernel
theorem dX1_find_0 : decode cX1_find 0 = .ok (.bipush 9, 2) := by decide +kernel
theorem dX1_find_2 : decode cX1_find 2 = .ok (.iload_n 2, 1) := by decide +kernel
theorem dX1_find_3 : decode cX1_find 3 = .ok (.imul, 1) := by decide +kernel
theorem dX1_find_4 : decode cX1_find 4 = .ok (.iload_n 1, 1) := by decide +kernel
theorem dX1_find_5 : decode cX1_find 5 = .ok (.iadd, 1) := by decide +kernel
theorem dX1_find_6 : decode cX1_find 6 = .ok (.istore_n 3, 1) := by decide +kernel
theorem dX1_find_7 : decode cX1_find 7 = .ok (.aload_n 0, 1) := by decide +kernel
theorem dX1_find_8 : decode cX1_find 8 = .ok (.getfield 9, 3) := by decide +kernel
theorem dX1_find_11 : decode cX1_find 11 = .ok (.iload_n 3, 1) := by decide +kernel
theorem dX1_find_12 : decode cX1_find 12 = .ok (.baload, 1) := by decide +kernel
theorem dX1_find_13 : decode cX1_find 13 = .ok (.ifCond .eq 33, 3) := by decide +kernel
theorem dX1_find_16 : decode cX1_find 16 = .ok (.aload_n 0, 1) := by decide +kernel
theorem dX1_find_17 : decode cX1_find 17 = .ok (.sipush 840, 3) := by decide +kernel
theorem dX1_find_20 : decode cX1_find 20 = .ok (.aload_n 0, 1) := by decide +kernel
theorem dX1_find_21 : decode cX1_find 21 = .ok (.getfield 13, 3) := by decide +kernel
theorem dX1_find_24 : decode cX1_find 24 = .ok (.iload_n 3, 1) := by decide +kernel
theorem dX1_find_25 : decode cX1_find 25 = .ok (.iaload, 1) := by decide +kernel
theorem dX1_find_26 : decode cX1_find 26 = .ok (.imul, 1) := by decide +kernel
theorem dX1_find_27 : decode cX1_find 27 = .ok (.putfield 31, 3) := by decide +kernel
theorem dX1_find_30 : decode cX1_find 30 = .ok (.aload_n 0, 1) := by decide +kernel
theorem dX1_find_31 : decode cX1_find 31 = .ok (.sipush 840, 3) := by decide +kernel
theorem dX1_find_34 : decode cX1_find 34 = .ok (.aload_n 0, 1) := by decide +kernel
theorem dX1_find_35 : decode cX1_find 35 = .ok (.getfield 17, 3) := by decide +kernel
theorem dX1_find_38 : decode cX1_find 38 = .ok (.iload_n 3, 1) := by decide +kernel
theorem dX1_find_39 : decode cX1_find 39 = .ok (.iaload, 1) := by decide +kernel
theorem dX1_find_40 : decode cX1_find 40 = .ok (.imul, 1) := by decide +kernel
theorem dX1_find_41 : decode cX1_find 41 = .ok (.putfield 35, 3) := by decide +kernel
theorem dX1_find_44 : decode cX1_find 44 = .ok (.iconst 1, 1) := by decide +kernel
theorem dX1_find_45 : decode cX1_find 45 = .ok (.ireturn, 1) := by decide +kernel
theorem dX1_find_46 : decode cX1_find 46 = .ok (.aload_n 0, 1) := by decide +kernel
theorem dX1_find_47 : decode cX1_find 47 = .ok (.iload_n 3, 1) := by decide +kernel
theorem dX1_find_48 : decode cX1_find 48 = .ok (.iload_n 1, 1) := by decide +kernel
theorem dX1_find_49 : decode cX1_find 49 = .ok (.iconst 1, 1) := by decide +kernel
theorem dX1_find_50 : decode cX1_find 50 = .ok (.invokevirtual 38, 3) := by decide +kernel
theorem dX1_find_53 : decode cX1_find 53 = .ok (.ifCond .ne 14, 3) := by decide +kernel
theorem dX1_find_56 : decode cX1_find 56 = .ok (.aload_n 0, 1) := by decide +kernel
theorem dX1_find_57 : decode cX1_find 57 = .ok (.iload_n 3, 1) := by decide +kernel
theorem dX1_find_58 : decode cX1_find 58 = .ok (.iload_n 2, 1) := by decide +kernel
theorem dX1_find_59 : decode cX1_find 59 = .ok (.bipush 9, 2) := by decide +kernel
theorem dX1_find_61 : decode cX1_find 61 = .ok (.invokevirtual 38, 3) := by decide +kernel
theorem dX1_find_64 : decode cX1_find 64 = .ok (.ifCond .eq 7, 3) := by decide +kernel
theorem dX1_find_67 : decode cX1_find 67 = .ok (.iconst 1, 1) := by decide +kernel
theorem dX1_find_68 : decode cX1_find 68 = .ok (.goto 4, 3) := by decide +kernel
theorem dX1_find_71 : decode cX1_find 71 = .ok (.iconst 0, 1) := by decide +kernel
theorem dX1_find_72 : decode cX1_find 72 = .ok (.ireturn, 1) := by decide +kernel
theorem dX1_findBetween_0 : decode cX1_findBetween 0 = .ok (.iconst 1, 1) := by decide +kernel
theorem dX1_findBetween_1 : decode cX1_findBetween 1 = .ok (.istore 4, 2) := by decide +kernel
theorem dX1_findBetween_3 : decode cX1_findBetween 3 = .ok (.iload 4, 2) := by decide +kernel
theorem dX1_findBetween_5 : decode cX1_findBetween 5 = .ok (.iload_n 2, 1) := by decide +kernel
theorem dX1_findBetween_6 : decode cX1_findBetween 6 = .ok (.if_icmp .gt 23, 3) := by decide +kernel
theorem dX1_findBetween_9 : decode cX1_findBetween 9 = .ok (.aload_n 0, 1) := by decide +kernel
theorem dX1_findBetween_10 : decode cX1_findBetween 10 = .ok (.getfield 9, 3) := by decide +kernel
theorem dX1_findBetween_13 : decode cX1_findBetween 13 = .ok (.iload_n 1, 1) := by decide +kernel
theorem dX1_findBetween_14 : decode cX1_findBetween 14 = .ok (.iload 4, 2) := by decide +kernel
theorem dX1_findBetween_16 : decode cX1_findBetween 16 = .ok (.iload_n 3, 1) := by decide +kernel
theorem dX1_findBetween_17 : decode cX1_findBetween 17 = .ok (.imul, 1) := by decide +kernel
theorem dX1_findBetween_18 : decode cX1_findBetween 18 = .ok (.isub, 1) := by decide +kernel
theorem dX1_findBetween_19 : decode cX1_findBetween 19 = .ok (.baload, 1) := by decide +kernel
theorem dX1_findBetween_20 : decode cX1_findBetween 20 = .ok (.ifCond .ne 9, 3) := by decide +kernel
theorem dX1_findBetween_23 : decode cX1_findBetween 23 = .ok (.iinc 4 1, 3) := by decide +kernel
theorem dX1_findBetween_26 : decode cX1_findBetween 26 = .ok (.goto (-23), 3) := by decide +kernel
theorem dX1_findBetween_29 : decode cX1_findBetween 29 = .ok (.iconst 1, 1) := by decide +kernel
theorem dX1_findBetween_30 : decode cX1_findBetween 30 = .ok (.istore 5, 2) := by decide +kernel
theorem dX1_findBetween_32 : decode cX1_findBetween 32 = .ok (.iload_n 2, 1) := by decide +kernel
theorem dX1_findBetween_33 : decode cX1_findBetween 33 = .ok (.iload 5, 2) := by decide +kernel
theorem dX1_findBetween_35 : decode cX1_findBetween 35 = .ok (.iadd, 1) := by decide +kernel
theorem dX1_findBetween_36 : decode cX1_findBetween 36 = .ok (.bipush 9, 2) := by decide +kernel
theorem dX1_findBetween_38 : decode cX1_findBetween 38 = .ok (.if_icmp .ge 23, 3) := by decide +kernel
theorem dX1_findBetween_41 : decode cX1_findBetween 41 = .ok (.aload_n 0, 1) := by decide +kernel
theorem dX1_findBetween_42 : decode cX1_findBetween 42 = .ok (.getfield 9, 3) := by decide +kernel
theorem dX1_findBetween_45 : decode cX1_findBetween 45 = .ok (.iload_n 1, 1) := by decide +kernel
theorem dX1_findBetween_46 : decode cX1_findBetween 46 = .ok (.iload 5, 2) := by decide +kernel
theorem dX1_findBetween_48 : decode cX1_findBetween 48 = .ok (.iload_n 3, 1) := by decide +kernel
theorem dX1_findBetween_49 : decode cX1_findBetween 49 = .ok (.imul, 1) := by decide +kernel
theorem dX1_findBetween_50 : decode cX1_findBetween 50 = .ok (.iadd, 1) := by decide +kernel
theorem dX1_findBetween_51 : decode cX1_findBetween 51 = .ok (.baload, 1) := by decide +kernel
theorem dX1_findBetween_52 : decode cX1_findBetween 52 = .ok (.ifCond .ne 9, 3) := by decide +kernel
theorem dX1_findBetween_55 : decode cX1_findBetween 55 = .ok (.iinc 5 1, 3) := by decide +kernel
theorem dX1_findBetween_58 : decode cX1_findBetween 58 = .ok (.goto (-26), 3) := by decide +kernel
theorem dX1_findBetween_61 : decode cX1_findBetween 61 = .ok (.iload 4, 2) := by decide +kernel
theorem dX1_findBetween_63 : decode cX1_findBetween 63 = .ok (.iload_n 2, 1) := by decide +kernel
theorem dX1_findBetween_64 : decode cX1_findBetween 64 = .ok (.if_icmp .gt 12, 3) := by decide +kernel
theorem dX1_findBetween_67 : decode cX1_findBetween 67 = .ok (.iload_n 2, 1) := by decide +kernel
theorem dX1_findBetween_68 : decode cX1_findBetween 68 = .ok (.iload 5, 2) := by decide +kernel
theorem dX1_findBetween_70 : decode cX1_findBetween 70 = .ok (.iadd, 1) := by decide +kernel
theorem dX1_findBetween_71 : decode cX1_findBetween 71 = .ok (.bipush 9, 2) := by decide +kernel
theorem dX1_findBetween_73 : decode cX1_findBetween 73 = .ok (.if_icmp .lt 5, 3) := by decide +kernel
theorem dX1_findBetween_76 : decode cX1_findBetween 76 = .ok (.iconst 0, 1) := by decide +kernel
theorem dX1_findBetween_77 : decode cX1_findBetween 77 = .ok (.ireturn, 1) := by decide +kernel
theorem dX1_findBetween_78 : decode cX1_findBetween 78 = .ok (.iload_n 1, 1) := by decide +kernel
theorem dX1_findBetween_79 : decode cX1_findBetween 79 = .ok (.iload 4, 2) := by decide +kernel
theorem dX1_findBetween_81 : decode cX1_findBetween 81 = .ok (.iload_n 3, 1) := by decide +kernel
theorem dX1_findBetween_82 : decode cX1_findBetween 82 = .ok (.imul, 1) := by decide +kernel
theorem dX1_findBetween_83 : decode cX1_findBetween 83 = .ok (.isub, 1) := by decide +kernel
theorem dX1_findBetween_84 : decode cX1_findBetween 84 = .ok (.istore 6, 2) := by decide +kernel
theorem dX1_findBetween_86 : decode cX1_findBetween 86 = .ok (.iload_n 1, 1) := by decide +kernel
theorem dX1_findBetween_87 : decode cX1_findBetween 87 = .ok (.iload 5, 2) := by decide +kernel
theorem dX1_findBetween_89 : decode cX1_findBetween 89 = .ok (.iload_n 3, 1) := by decide +kernel
theorem dX1_findBetween_90 : decode cX1_findBetween 90 = .ok (.imul, 1) := by decide +kernel
theorem dX1_findBetween_91 : decode cX1_findBetween 91 = .ok (.iadd, 1) := by decide +kernel
theorem dX1_findBetween_92 : decode cX1_findBetween 92 = .ok (.istore 7, 2) := by decide +kernel
theorem dX1_findBetween_94 : decode cX1_findBetween 94 = .ok (.sipush 840, 3) := by decide +kernel
theorem dX1_findBetween_97 : decode cX1_findBetween 97 = .ok (.iload 4, 2) := by decide +kernel
theorem dX1_findBetween_99 : decode cX1_findBetween 99 = .ok (.iload 5, 2) := by decide +kernel
theorem dX1_findBetween_101 : decode cX1_findBetween 101 = .ok (.iadd, 1) := by decide +kernel
theorem dX1_findBetween_102 : decode cX1_findBetween 102 = .ok (.idiv, 1) := by decide +kernel
theorem dX1_findBetween_103 : decode cX1_findBetween 103 = .ok (.iload 4, 2) := by decide +kernel
theorem dX1_findBetween_105 : decode cX1_findBetween 105 = .ok (.imul, 1) := by decide +kernel
theorem dX1_findBetween_106 : decode cX1_findBetween 106 = .ok (.istore 8, 2) := by decide +kernel
theorem dX1_findBetween_108 : decode cX1_findBetween 108 = .ok (.aload_n 0, 1) := by decide +kernel
theorem dX1_findBetween_109 : decode cX1_findBetween 109 = .ok (.sipush 840, 3) := by decide +kernel
theorem dX1_findBetween_112 : decode cX1_findBetween 112 = .ok (.aload_n 0, 1) := by decide +kernel
theorem dX1_findBetween_113 : decode cX1_findBetween 113 = .ok (.getfield 13, 3) := by decide +kernel
theorem dX1_findBetween_116 : decode cX1_findBetween 116 = .ok (.iload 6, 2) := by decide +kernel
theorem dX1_findBetween_118 : decode cX1_findBetween 118 = .ok (.iaload, 1) := by decide +kernel
theorem dX1_findBetween_119 : decode cX1_findBetween 119 = .ok (.imul, 1) := by decide +kernel
theorem dX1_findBetween_120 : decode cX1_findBetween 120 = .ok (.aload_n 0, 1) := by decide +kernel
theorem dX1_findBetween_121 : decode cX1_findBetween 121 = .ok (.getfield 13, 3) := by decide +kernel
theorem dX1_findBetween_124 : decode cX1_findBetween 124 = .ok (.iload 7, 2) := by decide +kernel
theorem dX1_findBetween_126 : decode cX1_findBetween 126 = .ok (.iaload, 1) := by decide +kernel
theorem dX1_findBetween_127 : decode cX1_findBetween 127 = .ok (.aload_n 0, 1) := by decide +kernel
theorem dX1_findBetween_128 : decode cX1_findBetween 128 = .ok (.getfield 13, 3) := by decide +kernel
theorem dX1_findBetween_131 : decode cX1_findBetween 131 = .ok (.iload 6, 2) := by decide +kernel
theorem dX1_findBetween_133 : decode cX1_findBetween 133 = .ok (.iaload, 1) := by decide +kernel
theorem dX1_findBetween_134 : decode cX1_findBetween 134 = .ok (.isub, 1) := by decide +kernel
theorem dX1_findBetween_135 : decode cX1_findBetween 135 = .ok (.iload 8, 2) := by decide +kernel
theorem dX1_findBetween_137 : decode cX1_findBetween 137 = .ok (.imul, 1) := by decide +kernel
theorem dX1_findBetween_138 : decode cX1_findBetween 138 = .ok (.iadd, 1) := by decide +kernel
theorem dX1_findBetween_139 : decode cX1_findBetween 139 = .ok (.putfield 31, 3) := by decide +kernel
theorem dX1_findBetween_142 : decode cX1_findBetween 142 = .ok (.aload_n 0, 1) := by decide +kernel
theorem dX1_findBetween_143 : decode cX1_findBetween 143 = .ok (.sipush 840, 3) := by decide +kernel
theorem dX1_findBetween_146 : decode cX1_findBetween 146 = .ok (.aload_n 0, 1) := by decide +kernel
theorem dX1_findBetween_147 : decode cX1_findBetween 147 = .ok (.getfield 17, 3) := by decide +kernel
theorem dX1_findBetween_150 : decode cX1_findBetween 150 = .ok (.iload 6, 2) := by decide +kernel
theorem dX1_findBetween_152 : decode cX1_findBetween 152 = .ok (.iaload, 1) := by decide +kernel
theorem dX1_findBetween_153 : decode cX1_findBetween 153 = .ok (.imul, 1) := by decide +kernel
theorem dX1_findBetween_154 : decode cX1_findBetween 154 = .ok (.aload_n 0, 1) := by decide +kernel
theorem dX1_findBetween_155 : decode cX1_findBetween 155 = .ok (.getfield 17, 3) := by decide +kernel
theorem dX1_findBetween_158 : decode cX1_findBetween 158 = .ok (.iload 7, 2) := by decide +kernel
theorem dX1_findBetween_160 : decode cX1_findBetween 160 = .ok (.iaload, 1) := by decide +kernel
theorem dX1_findBetween_161 : decode cX1_findBetween 161 = .ok (.aload_n 0, 1) := by decide +kernel
theorem dX1_findBetween_162 : decode cX1_findBetween 162 = .ok (.getfield 17, 3) := by decide +kernel
theorem dX1_findBetween_165 : decode cX1_findBetween 165 = .ok (.iload 6, 2) := by decide +kernel
theorem dX1_findBetween_167 : decode cX1_findBetween 167 = .ok (.iaload, 1) := by decide +kernel
theorem dX1_findBetween_168 : decode cX1_findBetween 168 = .ok (.isub, 1) := by decide +kernel
theorem dX1_findBetween_169 : decode cX1_findBetween 169 = .ok (.iload 8, 2) := by decide +kernel
theorem dX1_findBetween_171 : decode cX1_findBetween 171 = .ok (.imul, 1) := by decide +kernel
theorem dX1_findBetween_172 : decode cX1_findBetween 172 = .ok (.iadd, 1) := by decide +kernel
theorem dX1_findBetween_173 : decode cX1_findBetween 173 = .ok (.putfield 35, 3) := by decide +kernel
theorem dX1_findBetween_176 : decode cX1_findBetween 176 = .ok (.iconst 1, 1) := by decide +kernel
theorem dX1_findBetween_177 : decode cX1_findBetween 177 = .ok (.ireturn, 1) := by decide +kernel
theorem dX1_findAround_0 : decode cX1_findAround 0 = .ok (.iconst 0, 1) := by decide +kernel
theorem dX1_findAround_1 : decode cX1_findAround 1 = .ok (.istore_n 3, 1) := by decide +kernel
theorem dX1_findAround_2 : decode cX1_findAround 2 = .ok (.iload_n 3, 1) := by decide +kernel
theorem dX1_findAround_3 : decode cX1_findAround 3 = .ok (.iconst 4, 1) := by decide +kernel
theorem dX1_findAround_4 : decode cX1_findAround 4 = .ok (.if_icmp .ge 77, 3) := by decide +kernel
theorem dX1_findAround_7 : decode cX1_findAround 7 = .ok (.iload_n 3, 1) := by decide +kernel
theorem dX1_findAround_8 : decode cX1_findAround 8 = .ok (.iconst 1, 1) := by decide +kernel
theorem dX1_findAround_9 : decode cX1_findAround 9 = .ok (.if_icmp .eq 8, 3) := by decide +kernel
theorem dX1_findAround_12 : decode cX1_findAround 12 = .ok (.iload_n 3, 1) := by decide +kernel
theorem dX1_findAround_13 : decode cX1_findAround 13 = .ok (.iconst 2, 1) := by decide +kernel
theorem dX1_findAround_14 : decode cX1_findAround 14 = .ok (.if_icmp .ne 7, 3) := by decide +kernel
theorem dX1_findAround_17 : decode cX1_findAround 17 = .ok (.iconst 1, 1) := by decide +kernel
theorem dX1_findAround_18 : decode cX1_findAround 18 = .ok (.goto 4, 3) := by decide +kernel
theorem dX1_findAround_21 : decode cX1_findAround 21 = .ok (.iconst 0, 1) := by decide +kernel
theorem dX1_findAround_22 : decode cX1_findAround 22 = .ok (.istore 4, 2) := by decide +kernel
theorem dX1_findAround_24 : decode cX1_findAround 24 = .ok (.iload_n 3, 1) := by decide +kernel
theorem dX1_findAround_25 : decode cX1_findAround 25 = .ok (.iconst 2, 1) := by decide +kernel
theorem dX1_findAround_26 : decode cX1_findAround 26 = .ok (.if_icmp .lt 7, 3) := by decide +kernel
theorem dX1_findAround_29 : decode cX1_findAround 29 = .ok (.iconst 1, 1) := by decide +kernel
theorem dX1_findAround_30 : decode cX1_findAround 30 = .ok (.goto 4, 3) := by decide +kernel
theorem dX1_findAround_33 : decode cX1_findAround 33 = .ok (.iconst 0, 1) := by decide +kernel
theorem dX1_findAround_34 : decode cX1_findAround 34 = .ok (.istore 5, 2) := by decide +kernel
theorem dX1_findAround_36 : decode cX1_findAround 36 = .ok (.aload_n 0, 1) := by decide +kernel
theorem dX1_findAround_37 : decode cX1_findAround 37 = .ok (.iload_n 1, 1) := by decide +kernel
theorem dX1_findAround_38 : decode cX1_findAround 38 = .ok (.iload 4, 2) := by decide +kernel
theorem dX1_findAround_40 : decode cX1_findAround 40 = .ok (.iadd, 1) := by decide +kernel
theorem dX1_findAround_41 : decode cX1_findAround 41 = .ok (.iload_n 2, 1) := by decide +kernel
theorem dX1_findAround_42 : decode cX1_findAround 42 = .ok (.iload 5, 2) := by decide +kernel
theorem dX1_findAround_44 : decode cX1_findAround 44 = .ok (.iadd, 1) := by decide +kernel
theorem dX1_findAround_45 : decode cX1_findAround 45 = .ok (.invokevirtual 42, 3) := by decide +kernel
theorem dX1_findAround_48 : decode cX1_findAround 48 = .ok (.ifCond .ne 5, 3) := by decide +kernel
theorem dX1_findAround_51 : decode cX1_findAround 51 = .ok (.iconst 0, 1) := by decide +kernel
theorem dX1_findAround_52 : decode cX1_findAround 52 = .ok (.ireturn, 1) := by decide +kernel
theorem dX1_findAround_53 : decode cX1_findAround 53 = .ok (.aload_n 0, 1) := by decide +kernel
theorem dX1_findAround_54 : decode cX1_findAround 54 = .ok (.getfield 20, 3) := by decide +kernel
theorem dX1_findAround_57 : decode cX1_findAround 57 = .ok (.iload_n 3, 1) := by decide +kernel
theorem dX1_findAround_58 : decode cX1_findAround 58 = .ok (.aload_n 0, 1) := by decide +kernel
theorem dX1_findAround_59 : decode cX1_findAround 59 = .ok (.getfield 31, 3) := by decide +kernel
theorem dX1_findAround_62 : decode cX1_findAround 62 = .ok (.i2l, 1) := by decide +kernel
theorem dX1_findAround_63 : decode cX1_findAround 63 = .ok (.lastore, 1) := by decide +kernel
theorem dX1_findAround_64 : decode cX1_findAround 64 = .ok (.aload_n 0, 1) := by decide +kernel
theorem dX1_findAround_65 : decode cX1_findAround 65 = .ok (.getfield 24, 3) := by decide +kernel
theorem dX1_findAround_68 : decode cX1_findAround 68 = .ok (.iload_n 3, 1) := by decide +kernel
theorem dX1_findAround_69 : decode cX1_findAround 69 = .ok (.aload_n 0, 1) := by decide +kernel
theorem dX1_findAround_70 : decode cX1_findAround 70 = .ok (.getfield 35, 3) := by decide +kernel
theorem dX1_findAround_73 : decode cX1_findAround 73 = .ok (.i2l, 1) := by decide +kernel
theorem dX1_findAround_74 : decode cX1_findAround 74 = .ok (.lastore, 1) := by decide +kernel
theorem dX1_findAround_75 : decode cX1_findAround 75 = .ok (.iinc 3 1, 3) := by decide +kernel
theorem dX1_findAround_78 : decode cX1_findAround 78 = .ok (.goto (-76), 3) := by decide +kernel
theorem dX1_findAround_81 : decode cX1_findAround 81 = .ok (.iconst 1, 1) := by decide +kernel
theorem dX1_findAround_82 : decode cX1_findAround 82 = .ok (.ireturn, 1) := by decide +kernel
theorem dX1_crossSum_0 : decode cX1_crossSum 0 = .ok (.lconst 0, 1) := by decide +kernel
theorem dX1_crossSum_1 : decode cX1_crossSum 1 = .ok (.lstore_n 1, 1) := by decide +kernel
theorem dX1_crossSum_2 : decode cX1_crossSum 2 = .ok (.iconst 0, 1) := by decide +kernel
theorem dX1_crossSum_3 : decode cX1_crossSum 3 = .ok (.istore_n 3, 1) := by decide +kernel
theorem dX1_crossSum_4 : decode cX1_crossSum 4 = .ok (.iload_n 3, 1) := by decide +kernel
theorem dX1_crossSum_5 : decode cX1_crossSum 5 = .ok (.iconst 4, 1) := by decide +kernel
theorem dX1_crossSum_6 : decode cX1_crossSum 6 = .ok (.if_icmp .ge 48, 3) := by decide +kernel
theorem dX1_crossSum_9 : decode cX1_crossSum 9 = .ok (.iload_n 3, 1) := by decide +kernel
theorem dX1_crossSum_10 : decode cX1_crossSum 10 = .ok (.iconst 1, 1) := by decide +kernel
theorem dX1_crossSum_11 : decode cX1_crossSum 11 = .ok (.iadd, 1) := by decide +kernel
theorem dX1_crossSum_12 : decode cX1_crossSum 12 = .ok (.iconst 4, 1) := by decide +kernel
theorem dX1_crossSum_13 : decode cX1_crossSum 13 = .ok (.irem, 1) := by decide +kernel
theorem dX1_crossSum_14 : decode cX1_crossSum 14 = .ok (.istore 4, 2) := by decide +kernel
theorem dX1_crossSum_16 : decode cX1_crossSum 16 = .ok (.lload_n 1, 1) := by decide +kernel
theorem dX1_crossSum_17 : decode cX1_crossSum 17 = .ok (.aload_n 0, 1) := by decide +kernel
theorem dX1_crossSum_18 : decode cX1_crossSum 18 = .ok (.getfield 20, 3) := by decide +kernel
theorem dX1_crossSum_21 : decode cX1_crossSum 21 = .ok (.iload_n 3, 1) := by decide +kernel
theorem dX1_crossSum_22 : decode cX1_crossSum 22 = .ok (.laload, 1) := by decide +kernel
theorem dX1_crossSum_23 : decode cX1_crossSum 23 = .ok (.aload_n 0, 1) := by decide +kernel
theorem dX1_crossSum_24 : decode cX1_crossSum 24 = .ok (.getfield 24, 3) := by decide +kernel
theorem dX1_crossSum_27 : decode cX1_crossSum 27 = .ok (.iload 4, 2) := by decide +kernel
theorem dX1_crossSum_29 : decode cX1_crossSum 29 = .ok (.laload, 1) := by decide +kernel
theorem dX1_crossSum_30 : decode cX1_crossSum 30 = .ok (.lmul, 1) := by decide +kernel
theorem dX1_crossSum_31 : decode cX1_crossSum 31 = .ok (.aload_n 0, 1) := by decide +kernel
theorem dX1_crossSum_32 : decode cX1_crossSum 32 = .ok (.getfield 20, 3) := by decide +kernel
theorem dX1_crossSum_35 : decode cX1_crossSum 35 = .ok (.iload 4, 2) := by decide +kernel
theorem dX1_crossSum_37 : decode cX1_crossSum 37 = .ok (.laload, 1) := by decide +kernel
theorem dX1_crossSum_38 : decode cX1_crossSum 38 = .ok (.aload_n 0, 1) := by decide +kernel
theorem dX1_crossSum_39 : decode cX1_crossSum 39 = .ok (.getfield 24, 3) := by decide +kernel
theorem dX1_crossSum_42 : decode cX1_crossSum 42 = .ok (.iload_n 3, 1) := by decide +kernel
theorem dX1_crossSum_43 : decode cX1_crossSum 43 = .ok (.laload, 1) := by decide +kernel
theorem dX1_crossSum_44 : decode cX1_crossSum 44 = .ok (.lmul, 1) := by decide +kernel
theorem dX1_crossSum_45 : decode cX1_crossSum 45 = .ok (.lsub, 1) := by decide +kernel
theorem dX1_crossSum_46 : decode cX1_crossSum 46 = .ok (.ladd, 1) := by decide +kernel
theorem dX1_crossSum_47 : decode cX1_crossSum 47 = .ok (.lstore_n 1, 1) := by decide +kernel
theorem dX1_crossSum_48 : decode cX1_crossSum 48 = .ok (.iinc 3 1, 3) := by decide +kernel
theorem dX1_crossSum_51 : decode cX1_crossSum 51 = .ok (.goto (-47), 3) := by decide +kernel
theorem dX1_crossSum_54 : decode cX1_crossSum 54 = .ok (.lload_n 1, 1) := by decide +kernel
theorem dX1_crossSum_55 : decode cX1_crossSum 55 = .ok (.lreturn, 1) := by decide +kernel
theorem dX2_init_0 : decode cX2_init 0 = .ok (.aload_n 0, 1) := by decide +kernel
theorem dX2_init_1 : decode cX2_init 1 = .ok (.invokespecial 3, 3) := by decide +kernel
theorem dX2_init_4 : decode cX2_init 4 = .ok (.aload_n 0, 1) := by decide +kernel
theorem dX2_init_5 : decode cX2_init 5 = .ok (.bipush 120, 2) := by decide +kernel
theorem dX2_init_7 : decode cX2_init 7 = .ok (.newarray .byte, 2) := by decide +kernel
theorem dX2_init_9 : decode cX2_init 9 = .ok (.putfield 9, 3) := by decide +kernel
theorem dX2_init_12 : decode cX2_init 12 = .ok (.aload_n 0, 1) := by decide +kernel
theorem dX2_init_13 : decode cX2_init 13 = .ok (.iconst (-1), 1) := by decide +kernel
theorem dX2_init_14 : decode cX2_init 14 = .ok (.putfield 15, 3) := by decide +kernel
theorem dX2_init_17 : decode cX2_init 17 = .ok (.aload_n 0, 1) := by decide +kernel
theorem dX2_init_18 : decode cX2_init 18 = .ok (.bipush 8, 2) := by decide +kernel
theorem dX2_init_20 : decode cX2_init 20 = .ok (.newarray .int, 2) := by decide +kernel
theorem dX2_init_22 : decode cX2_init 22 = .ok (.putfield 19, 3) := by decide +kernel
theorem dX2_init_25 : decode cX2_init 25 = .ok (.aload_n 0, 1) := by decide +kernel
theorem dX2_init_26 : decode cX2_init 26 = .ok (.bipush 8, 2) := by decide +kernel
theorem dX2_init_28 : decode cX2_init 28 = .ok (.bipush 9, 2) := by decide +kernel
theorem dX2_init_30 : decode cX2_init 30 = .ok (.multianewarray 23 2, 4) := by decide +kernel
theorem dX2_init_34 : decode cX2_init 34 = .ok (.putfield 25, 3) := by decide +kernel
theorem dX2_init_37 : decode cX2_init 37 = .ok (.aload_n 0, 1) := by decide +kernel
theorem dX2_init_38 : decode cX2_init 38 = .ok (.bipush 8, 2) := by decide +kernel
theorem dX2_init_40 : decode cX2_init 40 = .ok (.newarray .int, 2) := by decide +kernel
theorem dX2_init_42 : decode cX2_init 42 = .ok (.putfield 28, 3) := by decide +kernel
theorem dX2_init_45 : decode cX2_init 45 = .ok (.return_, 1) := by decide +kernel
theorem dX2_append_0 : decode cX2_append 0 = .ok (.iload_n 1, 1) := by decide +kernel
theorem dX2_append_1 : decode cX2_append 1 = .ok (.iconst 1, 1) := by decide +kernel
theorem dX2_append_2 : decode cX2_append 2 = .ok (.isub, 1) := by decide +kernel
theorem dX2_append_3 : decode cX2_append 3 = .ok (.istore 4, 2) := by decide +kernel
theorem dX2_append_5 : decode cX2_append 5 = .ok (.iload 4, 2) := by decide +kernel
theorem dX2_append_7 : decode cX2_append 7 = .ok (.ifCond .lt 37, 3) := by decide +kernel
theorem dX2_append_10 : decode cX2_append 10 = .ok (.aload_n 0, 1) := by decide +kernel
theorem dX2_append_11 : decode cX2_append 11 = .ok (.getfield 9, 3) := by decide +kernel
theorem dX2_append_14 : decode cX2_append 14 = .ok (.aload_n 0, 1) := by decide +kernel
theorem dX2_append_15 : decode cX2_append 15 = .ok (.getfield 31, 3) := by decide +kernel
theorem dX2_append_18 : decode cX2_append 18 = .ok (.lload_n 2, 1) := by decide +kernel
theorem dX2_append_19 : decode cX2_append 19 = .ok (.bipush 8, 2) := by decide +kernel
theorem dX2_append_21 : decode cX2_append 21 = .ok (.iload 4, 2) := by decide +kernel
theorem dX2_append_23 : decode cX2_append 23 = .ok (.imul, 1) := by decide +kernel
theorem dX2_append_24 : decode cX2_append 24 = .ok (.lshr, 1) := by decide +kernel
theorem dX2_append_25 : decode cX2_append 25 = .ok (.l2i, 1) := by decide +kernel
theorem dX2_append_26 : decode cX2_append 26 = .ok (.i2b, 1) := by decide +kernel
theorem dX2_append_27 : decode cX2_append 27 = .ok (.bastore, 1) := by decide +kernel
theorem dX2_append_28 : decode cX2_append 28 = .ok (.aload_n 0, 1) := by decide +kernel
theorem dX2_append_29 : decode cX2_append 29 = .ok (.dup, 1) := by decide +kernel
theorem dX2_append_30 : decode cX2_append 30 = .ok (.getfield 31, 3) := by decide +kernel
theorem dX2_append_33 : decode cX2_append 33 = .ok (.iconst 1, 1) := by decide +kernel
theorem dX2_append_34 : decode cX2_append 34 = .ok (.iadd, 1) := by decide +kernel
theorem dX2_append_35 : decode cX2_append 35 = .ok (.putfield 31, 3) := by decide +kernel
theorem dX2_append_38 : decode cX2_append 38 = .ok (.iinc 4 (-1), 3) := by decide +kernel
theorem dX2_append_41 : decode cX2_append 41 = .ok (.goto (-36), 3) := by decide +kernel
theorem dX2_append_44 : decode cX2_append 44 = .ok (.aload_n 0, 1) := by decide +kernel
theorem dX2_append_45 : decode cX2_append 45 = .ok (.getfield 31, 3) := by decide +kernel
theorem dX2_append_48 : decode cX2_append 48 = .ok (.ireturn, 1) := by decide +kernel
theorem dX2_enact_0 : decode cX2_enact 0 = .ok (.aload_n 0, 1) := by decide +kernel
theorem dX2_enact_1 : decode cX2_enact 1 = .ok (.aload_n 0, 1) := by decide +kernel
theorem dX2_enact_2 : decode cX2_enact 2 = .ok (.getfield 25, 3) := by decide +kernel
theorem dX2_enact_5 : decode cX2_enact 5 = .ok (.aload_n 0, 1) := by decide +kernel
theorem dX2_enact_6 : decode cX2_enact 6 = .ok (.getfield 34, 3) := by decide +kernel
theorem dX2_enact_9 : decode cX2_enact 9 = .ok (.aaload, 1) := by decide +kernel
theorem dX2_enact_10 : decode cX2_enact 10 = .ok (.invokevirtual 37, 3) := by decide +kernel
theorem dX2_enact_13 : decode cX2_enact 13 = .ok (.istore_n 2, 1) := by decide +kernel
theorem dX2_enact_14 : decode cX2_enact 14 = .ok (.aload_n 0, 1) := by decide +kernel
theorem dX2_enact_15 : decode cX2_enact 15 = .ok (.iconst 0, 1) := by decide +kernel
theorem dX2_enact_16 : decode cX2_enact 16 = .ok (.putfield 31, 3) := by decide +kernel
theorem dX2_enact_19 : decode cX2_enact 19 = .ok (.iload_n 2, 1) := by decide +kernel
theorem dX2_enact_20 : decode cX2_enact 20 = .ok (.ifCond .eq 8, 3) := by decide +kernel
theorem dX2_enact_23 : decode cX2_enact 23 = .ok (.bipush (-10), 2) := by decide +kernel
theorem dX2_enact_25 : decode cX2_enact 25 = .ok (.iload_n 2, 1) := by decide +kernel
theorem dX2_enact_26 : decode cX2_enact 26 = .ok (.isub, 1) := by decide +kernel
theorem dX2_enact_27 : decode cX2_enact 27 = .ok (.ireturn, 1) := by decide +kernel
theorem dX2_enact_28 : decode cX2_enact 28 = .ok (.aload_n 0, 1) := by decide +kernel
theorem dX2_enact_29 : decode cX2_enact 29 = .ok (.getfield 19, 3) := by decide +kernel
theorem dX2_enact_32 : decode cX2_enact 32 = .ok (.aload_n 0, 1) := by decide +kernel
theorem dX2_enact_33 : decode cX2_enact 33 = .ok (.getfield 34, 3) := by decide +kernel
theorem dX2_enact_36 : decode cX2_enact 36 = .ok (.iload_n 1, 1) := by decide +kernel
theorem dX2_enact_37 : decode cX2_enact 37 = .ok (.iastore, 1) := by decide +kernel
theorem dX2_enact_38 : decode cX2_enact 38 = .ok (.aload_n 0, 1) := by decide +kernel
theorem dX2_enact_39 : decode cX2_enact 39 = .ok (.getfield 34, 3) := by decide +kernel
theorem dX2_enact_42 : decode cX2_enact 42 = .ok (.istore_n 3, 1) := by decide +kernel
theorem dX2_enact_43 : decode cX2_enact 43 = .ok (.iload_n 3, 1) := by decide +kernel
theorem dX2_enact_44 : decode cX2_enact 44 = .ok (.ifCond .le 40, 3) := by decide +kernel
theorem dX2_enact_47 : decode cX2_enact 47 = .ok (.aload_n 0, 1) := by decide +kernel
theorem dX2_enact_48 : decode cX2_enact 48 = .ok (.getfield 19, 3) := by decide +kernel
theorem dX2_enact_51 : decode cX2_enact 51 = .ok (.aload_n 0, 1) := by decide +kernel
theorem dX2_enact_52 : decode cX2_enact 52 = .ok (.getfield 28, 3) := by decide +kernel
theorem dX2_enact_55 : decode cX2_enact 55 = .ok (.iload_n 3, 1) := by decide +kernel
theorem dX2_enact_56 : decode cX2_enact 56 = .ok (.iconst 1, 1) := by decide +kernel
theorem dX2_enact_57 : decode cX2_enact 57 = .ok (.isub, 1) := by decide +kernel
theorem dX2_enact_58 : decode cX2_enact 58 = .ok (.iaload, 1) := by decide +kernel
theorem dX2_enact_59 : decode cX2_enact 59 = .ok (.iaload, 1) := by decide +kernel
theorem dX2_enact_60 : decode cX2_enact 60 = .ok (.iload_n 1, 1) := by decide +kernel
theorem dX2_enact_61 : decode cX2_enact 61 = .ok (.if_icmp .le 23, 3) := by decide +kernel
theorem dX2_enact_64 : decode cX2_enact 64 = .ok (.aload_n 0, 1) := by decide +kernel
theorem dX2_enact_65 : decode cX2_enact 65 = .ok (.getfield 28, 3) := by decide +kernel
theorem dX2_enact_68 : decode cX2_enact 68 = .ok (.iload_n 3, 1) := by decide +kernel
theorem dX2_enact_69 : decode cX2_enact 69 = .ok (.aload_n 0, 1) := by decide +kernel
theorem dX2_enact_70 : decode cX2_enact 70 = .ok (.getfield 28, 3) := by decide +kernel
theorem dX2_enact_73 : decode cX2_enact 73 = .ok (.iload_n 3, 1) := by decide +kernel
theorem dX2_enact_74 : decode cX2_enact 74 = .ok (.iconst 1, 1) := by decide +kernel
theorem dX2_enact_75 : decode cX2_enact 75 = .ok (.isub, 1) := by decide +kernel
theorem dX2_enact_76 : decode cX2_enact 76 = .ok (.iaload, 1) := by decide +kernel
theorem dX2_enact_77 : decode cX2_enact 77 = .ok (.iastore, 1) := by decide +kernel
theorem dX2_enact_78 : decode cX2_enact 78 = .ok (.iinc 3 (-1), 3) := by decide +kernel
theorem dX2_enact_81 : decode cX2_enact 81 = .ok (.goto (-38), 3) := by decide +kernel
theorem dX2_enact_84 : decode cX2_enact 84 = .ok (.aload_n 0, 1) := by decide +kernel
theorem dX2_enact_85 : decode cX2_enact 85 = .ok (.getfield 28, 3) := by decide +kernel
theorem dX2_enact_88 : decode cX2_enact 88 = .ok (.iload_n 3, 1) := by decide +kernel
theorem dX2_enact_89 : decode cX2_enact 89 = .ok (.aload_n 0, 1) := by decide +kernel
theorem dX2_enact_90 : decode cX2_enact 90 = .ok (.getfield 34, 3) := by decide +kernel
theorem dX2_enact_93 : decode cX2_enact 93 = .ok (.iastore, 1) := by decide +kernel
theorem dX2_enact_94 : decode cX2_enact 94 = .ok (.aload_n 0, 1) := by decide +kernel
theorem dX2_enact_95 : decode cX2_enact 95 = .ok (.dup, 1) := by decide +kernel
theorem dX2_enact_96 : decode cX2_enact 96 = .ok (.getfield 34, 3) := by decide +kernel
theorem dX2_enact_99 : decode cX2_enact 99 = .ok (.iconst 1, 1) := by decide +kernel
theorem dX2_enact_100 : decode cX2_enact 100 = .ok (.iadd, 1) := by decide +kernel
theorem dX2_enact_101 : decode cX2_enact 101 = .ok (.putfield 34, 3) := by decide +kernel
theorem dX2_enact_104 : decode cX2_enact 104 = .ok (.aload_n 0, 1) := by decide +kernel
theorem dX2_enact_105 : decode cX2_enact 105 = .ok (.getfield 34, 3) := by decide +kernel
theorem dX2_enact_108 : decode cX2_enact 108 = .ok (.iconst 1, 1) := by decide +kernel
theorem dX2_enact_109 : decode cX2_enact 109 = .ok (.isub, 1) := by decide +kernel
theorem dX2_enact_110 : decode cX2_enact 110 = .ok (.ireturn, 1) := by decide +kernel
theorem dX2_read_0 : decode cX2_read 0 = .ok (.iconst 0, 1) := by decide +kernel
theorem dX2_read_1 : decode cX2_read 1 = .ok (.istore_n 2, 1) := by decide +kernel
theorem dX2_read_2 : decode cX2_read 2 = .ok (.iload_n 2, 1) := by decide +kernel
theorem dX2_read_3 : decode cX2_read 3 = .ok (.bipush 9, 2) := by decide +kernel
theorem dX2_read_5 : decode cX2_read 5 = .ok (.if_icmp .ge 13, 3) := by decide +kernel
theorem dX2_read_8 : decode cX2_read 8 = .ok (.aload_n 1, 1) := by decide +kernel
theorem dX2_read_9 : decode cX2_read 9 = .ok (.iload_n 2, 1) := by decide +kernel
theorem dX2_read_10 : decode cX2_read 10 = .ok (.iconst (-1), 1) := by decide +kernel
theorem dX2_read_11 : decode cX2_read 11 = .ok (.iastore, 1) := by decide +kernel
theorem dX2_read_12 : decode cX2_read 12 = .ok (.iinc 2 1, 3) := by decide +kernel
theorem dX2_read_15 : decode cX2_read 15 = .ok (.goto (-13), 3) := by decide +kernel
theorem dX2_read_18 : decode cX2_read 18 = .ok (.aload_n 0, 1) := by decide +kernel
theorem dX2_read_19 : decode cX2_read 19 = .ok (.iconst (-1), 1) := by decide +kernel
theorem dX2_read_20 : decode cX2_read 20 = .ok (.putfield 15, 3) := by decide +kernel
theorem dX2_read_23 : decode cX2_read 23 = .ok (.iconst (-1), 1) := by decide +kernel
theorem dX2_read_24 : decode cX2_read 24 = .ok (.istore_n 2, 1) := by decide +kernel
theorem dX2_read_25 : decode cX2_read 25 = .ok (.iconst 0, 1) := by decide +kernel
theorem dX2_read_26 : decode cX2_read 26 = .ok (.istore_n 3, 1) := by decide +kernel
theorem dX2_read_27 : decode cX2_read 27 = .ok (.iload_n 3, 1) := by decide +kernel
theorem dX2_read_28 : decode cX2_read 28 = .ok (.aload_n 0, 1) := by decide +kernel
theorem dX2_read_29 : decode cX2_read 29 = .ok (.getfield 31, 3) := by decide +kernel
theorem dX2_read_32 : decode cX2_read 32 = .ok (.if_icmp .ge 105, 3) := by decide +kernel
theorem dX2_read_35 : decode cX2_read 35 = .ok (.aload_n 0, 1) := by decide +kernel
theorem dX2_read_36 : decode cX2_read 36 = .ok (.iload_n 3, 1) := by decide +kernel
theorem dX2_read_37 : decode cX2_read 37 = .ok (.invokevirtual 41, 3) := by decide +kernel
theorem dX2_read_40 : decode cX2_read 40 = .ok (.ifCond .ne 6, 3) := by decide +kernel
theorem dX2_read_43 : decode cX2_read 43 = .ok (.goto 88, 3) := by decide +kernel
theorem dX2_read_46 : decode cX2_read 46 = .ok (.aload_n 0, 1) := by decide +kernel
theorem dX2_read_47 : decode cX2_read 47 = .ok (.iload_n 3, 1) := by decide +kernel
theorem dX2_read_48 : decode cX2_read 48 = .ok (.invokevirtual 45, 3) := by decide +kernel
theorem dX2_read_51 : decode cX2_read 51 = .ok (.istore 4, 2) := by decide +kernel
theorem dX2_read_53 : decode cX2_read 53 = .ok (.iload_n 2, 1) := by decide +kernel
theorem dX2_read_54 : decode cX2_read 54 = .ok (.iconst (-1), 1) := by decide +kernel
theorem dX2_read_55 : decode cX2_read 55 = .ok (.if_icmp .ne 37, 3) := by decide +kernel
theorem dX2_read_58 : decode cX2_read 58 = .ok (.aload_n 0, 1) := by decide +kernel
theorem dX2_read_59 : decode cX2_read 59 = .ok (.iload_n 3, 1) := by decide +kernel
theorem dX2_read_60 : decode cX2_read 60 = .ok (.iload 4, 2) := by decide +kernel
theorem dX2_read_62 : decode cX2_read 62 = .ok (.invokevirtual 49, 3) := by decide +kernel
theorem dX2_read_65 : decode cX2_read 65 = .ok (.istore_n 2, 1) := by decide +kernel
theorem dX2_read_66 : decode cX2_read 66 = .ok (.iload_n 2, 1) := by decide +kernel
theorem dX2_read_67 : decode cX2_read 67 = .ok (.iconst (-1), 1) := by decide +kernel
theorem dX2_read_68 : decode cX2_read 68 = .ok (.if_icmp .ne 7, 3) := by decide +kernel
theorem dX2_read_71 : decode cX2_read 71 = .ok (.iconst 1, 1) := by decide +kernel
theorem dX2_read_72 : decode cX2_read 72 = .ok (.goto 15, 3) := by decide +kernel
theorem dX2_read_75 : decode cX2_read 75 = .ok (.aload_n 1, 1) := by decide +kernel
theorem dX2_read_76 : decode cX2_read 76 = .ok (.iload_n 2, 1) := by decide +kernel
theorem dX2_read_77 : decode cX2_read 77 = .ok (.iaload, 1) := by decide +kernel
theorem dX2_read_78 : decode cX2_read 78 = .ok (.iconst (-1), 1) := by decide +kernel
theorem dX2_read_79 : decode cX2_read 79 = .ok (.if_icmp .eq 7, 3) := by decide +kernel
theorem dX2_read_82 : decode cX2_read 82 = .ok (.iconst 3, 1) := by decide +kernel
theorem dX2_read_83 : decode cX2_read 83 = .ok (.goto 4, 3) := by decide +kernel
theorem dX2_read_86 : decode cX2_read 86 = .ok (.iconst 0, 1) := by decide +kernel
theorem dX2_read_87 : decode cX2_read 87 = .ok (.istore 5, 2) := by decide +kernel
theorem dX2_read_89 : decode cX2_read 89 = .ok (.goto 29, 3) := by decide +kernel
theorem dX2_read_92 : decode cX2_read 92 = .ok (.aload_n 0, 1) := by decide +kernel
theorem dX2_read_93 : decode cX2_read 93 = .ok (.iload_n 3, 1) := by decide +kernel
theorem dX2_read_94 : decode cX2_read 94 = .ok (.iload 4, 2) := by decide +kernel
theorem dX2_read_96 : decode cX2_read 96 = .ok (.invokevirtual 53, 3) := by decide +kernel
theorem dX2_read_99 : decode cX2_read 99 = .ok (.istore 5, 2) := by decide +kernel
theorem dX2_read_101 : decode cX2_read 101 = .ok (.iload 5, 2) := by decide +kernel
theorem dX2_read_103 : decode cX2_read 103 = .ok (.ifCond .ne 13, 3) := by decide +kernel
theorem dX2_read_106 : decode cX2_read 106 = .ok (.aload_n 1, 1) := by decide +kernel
theorem dX2_read_107 : decode cX2_read 107 = .ok (.iload_n 2, 1) := by decide +kernel
theorem dX2_read_108 : decode cX2_read 108 = .ok (.aload_n 0, 1) := by decide +kernel
theorem dX2_read_109 : decode cX2_read 109 = .ok (.iload_n 3, 1) := by decide +kernel
theorem dX2_read_110 : decode cX2_read 110 = .ok (.iload 4, 2) := by decide +kernel
theorem dX2_read_112 : decode cX2_read 112 = .ok (.invokevirtual 56, 3) := by decide +kernel
theorem dX2_read_115 : decode cX2_read 115 = .ok (.iastore, 1) := by decide +kernel
theorem dX2_read_116 : decode cX2_read 116 = .ok (.iconst (-1), 1) := by decide +kernel
theorem dX2_read_117 : decode cX2_read 117 = .ok (.istore_n 2, 1) := by decide +kernel
theorem dX2_read_118 : decode cX2_read 118 = .ok (.iload 5, 2) := by decide +kernel
theorem dX2_read_120 : decode cX2_read 120 = .ok (.ifCond .eq 11, 3) := by decide +kernel
theorem dX2_read_123 : decode cX2_read 123 = .ok (.aload_n 0, 1) := by decide +kernel
theorem dX2_read_124 : decode cX2_read 124 = .ok (.iload_n 3, 1) := by decide +kernel
theorem dX2_read_125 : decode cX2_read 125 = .ok (.putfield 15, 3) := by decide +kernel
theorem dX2_read_128 : decode cX2_read 128 = .ok (.iload 5, 2) := by decide +kernel
theorem dX2_read_130 : decode cX2_read 130 = .ok (.ireturn, 1) := by decide +kernel
theorem dX2_read_131 : decode cX2_read 131 = .ok (.iinc 3 1, 3) := by decide +kernel
theorem dX2_read_134 : decode cX2_read 134 = .ok (.goto (-107), 3) := by decide +kernel
theorem dX2_read_137 : decode cX2_read 137 = .ok (.iload_n 2, 1) := by decide +kernel
theorem dX2_read_138 : decode cX2_read 138 = .ok (.iconst (-1), 1) := by decide +kernel
theorem dX2_read_139 : decode cX2_read 139 = .ok (.if_icmp .ne 5, 3) := by decide +kernel
theorem dX2_read_142 : decode cX2_read 142 = .ok (.iconst 0, 1) := by decide +kernel
theorem dX2_read_143 : decode cX2_read 143 = .ok (.ireturn, 1) := by decide +kernel
theorem dX2_read_144 : decode cX2_read 144 = .ok (.aload_n 0, 1) := by decide +kernel
theorem dX2_read_145 : decode cX2_read 145 = .ok (.aload_n 0, 1) := by decide +kernel
theorem dX2_read_146 : decode cX2_read 146 = .ok (.getfield 31, 3) := by decide +kernel
theorem dX2_read_149 : decode cX2_read 149 = .ok (.putfield 15, 3) := by decide +kernel
theorem dX2_read_152 : decode cX2_read 152 = .ok (.iconst 1, 1) := by decide +kernel
theorem dX2_read_153 : decode cX2_read 153 = .ok (.ireturn, 1) := by decide +kernel
theorem dX2_beginsThing_0 : decode cX2_beginsThing 0 = .ok (.aload_n 0, 1) := by decide +kernel
theorem dX2_beginsThing_1 : decode cX2_beginsThing 1 = .ok (.getfield 9, 3) := by decide +kernel
theorem dX2_beginsThing_4 : decode cX2_beginsThing 4 = .ok (.iload_n 1, 1) := by decide +kernel
theorem dX2_beginsThing_5 : decode cX2_beginsThing 5 = .ok (.baload, 1) := by decide +kernel
theorem dX2_beginsThing_6 : decode cX2_beginsThing 6 = .ok (.bipush 32, 2) := by decide +kernel
theorem dX2_beginsThing_8 : decode cX2_beginsThing 8 = .ok (.if_icmp .eq 24, 3) := by decide +kernel
theorem dX2_beginsThing_11 : decode cX2_beginsThing 11 = .ok (.iload_n 1, 1) := by decide +kernel
theorem dX2_beginsThing_12 : decode cX2_beginsThing 12 = .ok (.ifCond .eq 16, 3) := by decide +kernel
theorem dX2_beginsThing_15 : decode cX2_beginsThing 15 = .ok (.aload_n 0, 1) := by decide +kernel
theorem dX2_beginsThing_16 : decode cX2_beginsThing 16 = .ok (.getfield 9, 3) := by decide +kernel
theorem dX2_beginsThing_19 : decode cX2_beginsThing 19 = .ok (.iload_n 1, 1) := by decide +kernel
theorem dX2_beginsThing_20 : decode cX2_beginsThing 20 = .ok (.iconst 1, 1) := by decide +kernel
theorem dX2_beginsThing_21 : decode cX2_beginsThing 21 = .ok (.isub, 1) := by decide +kernel
theorem dX2_beginsThing_22 : decode cX2_beginsThing 22 = .ok (.baload, 1) := by decide +kernel
theorem dX2_beginsThing_23 : decode cX2_beginsThing 23 = .ok (.bipush 32, 2) := by decide +kernel
theorem dX2_beginsThing_25 : decode cX2_beginsThing 25 = .ok (.if_icmp .ne 7, 3) := by decide +kernel
theorem dX2_beginsThing_28 : decode cX2_beginsThing 28 = .ok (.iconst 1, 1) := by decide +kernel
theorem dX2_beginsThing_29 : decode cX2_beginsThing 29 = .ok (.goto 4, 3) := by decide +kernel
theorem dX2_beginsThing_32 : decode cX2_beginsThing 32 = .ok (.iconst 0, 1) := by decide +kernel
theorem dX2_beginsThing_33 : decode cX2_beginsThing 33 = .ok (.ireturn, 1) := by decide +kernel
theorem dX2_endOfThing_0 : decode cX2_endOfThing 0 = .ok (.iload_n 1, 1) := by decide +kernel
theorem dX2_endOfThing_1 : decode cX2_endOfThing 1 = .ok (.istore_n 2, 1) := by decide +kernel
theorem dX2_endOfThing_2 : decode cX2_endOfThing 2 = .ok (.iload_n 2, 1) := by decide +kernel
theorem dX2_endOfThing_3 : decode cX2_endOfThing 3 = .ok (.aload_n 0, 1) := by decide +kernel
theorem dX2_endOfThing_4 : decode cX2_endOfThing 4 = .ok (.getfield 31, 3) := by decide +kernel
theorem dX2_endOfThing_7 : decode cX2_endOfThing 7 = .ok (.if_icmp .ge 20, 3) := by decide +kernel
theorem dX2_endOfThing_10 : decode cX2_endOfThing 10 = .ok (.aload_n 0, 1) := by decide +kernel
theorem dX2_endOfThing_11 : decode cX2_endOfThing 11 = .ok (.getfield 9, 3) := by decide +kernel
theorem dX2_endOfThing_14 : decode cX2_endOfThing 14 = .ok (.iload_n 2, 1) := by decide +kernel
theorem dX2_endOfThing_15 : decode cX2_endOfThing 15 = .ok (.baload, 1) := by decide +kernel
theorem dX2_endOfThing_16 : decode cX2_endOfThing 16 = .ok (.bipush 32, 2) := by decide +kernel
theorem dX2_endOfThing_18 : decode cX2_endOfThing 18 = .ok (.if_icmp .eq 9, 3) := by decide +kernel
theorem dX2_endOfThing_21 : decode cX2_endOfThing 21 = .ok (.iinc 2 1, 3) := by decide +kernel
theorem dX2_endOfThing_24 : decode cX2_endOfThing 24 = .ok (.goto (-22), 3) := by decide +kernel
theorem dX2_endOfThing_27 : decode cX2_endOfThing 27 = .ok (.iload_n 2, 1) := by decide +kernel
theorem dX2_endOfThing_28 : decode cX2_endOfThing 28 = .ok (.ireturn, 1) := by decide +kernel
theorem dX2_wordAt_0 : decode cX2_wordAt 0 = .ok (.iconst 0, 1) := by decide +kernel
theorem dX2_wordAt_1 : decode cX2_wordAt 1 = .ok (.istore_n 3, 1) := by decide +kernel
theorem dX2_wordAt_2 : decode cX2_wordAt 2 = .ok (.iload_n 3, 1) := by decide +kernel
theorem dX2_wordAt_3 : decode cX2_wordAt 3 = .ok (.bipush 9, 2) := by decide +kernel
theorem dX2_wordAt_5 : decode cX2_wordAt 5 = .ok (.if_icmp .ge 24, 3) := by decide +kernel
theorem dX2_wordAt_8 : decode cX2_wordAt 8 = .ok (.aload_n 0, 1) := by decide +kernel
theorem dX2_wordAt_9 : decode cX2_wordAt 9 = .ok (.iload_n 3, 1) := by decide +kernel
theorem dX2_wordAt_10 : decode cX2_wordAt 10 = .ok (.invokestatic 59, 3) := by decide +kernel
theorem dX2_wordAt_13 : decode cX2_wordAt 13 = .ok (.iload_n 1, 1) := by decide +kernel
theorem dX2_wordAt_14 : decode cX2_wordAt 14 = .ok (.iload_n 2, 1) := by decide +kernel
theorem dX2_wordAt_15 : decode cX2_wordAt 15 = .ok (.invokevirtual 63, 3) := by decide +kernel
theorem dX2_wordAt_18 : decode cX2_wordAt 18 = .ok (.ifCond .eq 5, 3) := by decide +kernel
theorem dX2_wordAt_21 : decode cX2_wordAt 21 = .ok (.iload_n 3, 1) := by decide +kernel
theorem dX2_wordAt_22 : decode cX2_wordAt 22 = .ok (.ireturn, 1) := by decide +kernel
theorem dX2_wordAt_23 : decode cX2_wordAt 23 = .ok (.iinc 3 1, 3) := by decide +kernel
theorem dX2_wordAt_26 : decode cX2_wordAt 26 = .ok (.goto (-24), 3) := by decide +kernel
theorem dX2_wordAt_29 : decode cX2_wordAt 29 = .ok (.iconst (-1), 1) := by decide +kernel
theorem dX2_wordAt_30 : decode cX2_wordAt 30 = .ok (.ireturn, 1) := by decide +kernel
theorem dX2_isWritten_0 : decode cX2_isWritten 0 = .ok (.aload_n 1, 1) := by decide +kernel
theorem dX2_isWritten_1 : decode cX2_isWritten 1 = .ok (.invokevirtual 67, 3) := by decide +kernel
theorem dX2_isWritten_4 : decode cX2_isWritten 4 = .ok (.iload_n 3, 1) := by decide +kernel
theorem dX2_isWritten_5 : decode cX2_isWritten 5 = .ok (.iload_n 2, 1) := by decide +kernel
theorem dX2_isWritten_6 : decode cX2_isWritten 6 = .ok (.isub, 1) := by decide +kernel
theorem dX2_isWritten_7 : decode cX2_isWritten 7 = .ok (.if_icmp .eq 5, 3) := by decide +kernel
theorem dX2_isWritten_10 : decode cX2_isWritten 10 = .ok (.iconst 0, 1) := by decide +kernel
theorem dX2_isWritten_11 : decode cX2_isWritten 11 = .ok (.ireturn, 1) := by decide +kernel
theorem dX2_isWritten_12 : decode cX2_isWritten 12 = .ok (.iconst 0, 1) := by decide +kernel
theorem dX2_isWritten_13 : decode cX2_isWritten 13 = .ok (.istore 4, 2) := by decide +kernel
theorem dX2_isWritten_15 : decode cX2_isWritten 15 = .ok (.iload 4, 2) := by decide +kernel
theorem dX2_isWritten_17 : decode cX2_isWritten 17 = .ok (.aload_n 1, 1) := by decide +kernel
theorem dX2_isWritten_18 : decode cX2_isWritten 18 = .ok (.invokevirtual 67, 3) := by decide +kernel
theorem dX2_isWritten_21 : decode cX2_isWritten 21 = .ok (.if_icmp .ge 29, 3) := by decide +kernel
theorem dX2_isWritten_24 : decode cX2_isWritten 24 = .ok (.aload_n 0, 1) := by decide +kernel
theorem dX2_isWritten_25 : decode cX2_isWritten 25 = .ok (.getfield 9, 3) := by decide +kernel
theorem dX2_isWritten_28 : decode cX2_isWritten 28 = .ok (.iload_n 2, 1) := by decide +kernel
theorem dX2_isWritten_29 : decode cX2_isWritten 29 = .ok (.iload 4, 2) := by decide +kernel
theorem dX2_isWritten_31 : decode cX2_isWritten 31 = .ok (.iadd, 1) := by decide +kernel
theorem dX2_isWritten_32 : decode cX2_isWritten 32 = .ok (.baload, 1) := by decide +kernel
theorem dX2_isWritten_33 : decode cX2_isWritten 33 = .ok (.aload_n 1, 1) := by decide +kernel
theorem dX2_isWritten_34 : decode cX2_isWritten 34 = .ok (.iload 4, 2) := by decide +kernel
theorem dX2_isWritten_36 : decode cX2_isWritten 36 = .ok (.invokevirtual 72, 3) := by decide +kernel
theorem dX2_isWritten_39 : decode cX2_isWritten 39 = .ok (.if_icmp .eq 5, 3) := by decide +kernel
theorem dX2_isWritten_42 : decode cX2_isWritten 42 = .ok (.iconst 0, 1) := by decide +kernel
theorem dX2_isWritten_43 : decode cX2_isWritten 43 = .ok (.ireturn, 1) := by decide +kernel
theorem dX2_isWritten_44 : decode cX2_isWritten 44 = .ok (.iinc 4 1, 3) := by decide +kernel
theorem dX2_isWritten_47 : decode cX2_isWritten 47 = .ok (.goto (-32), 3) := by decide +kernel
theorem dX2_isWritten_50 : decode cX2_isWritten 50 = .ok (.iconst 1, 1) := by decide +kernel
theorem dX2_isWritten_51 : decode cX2_isWritten 51 = .ok (.ireturn, 1) := by decide +kernel
theorem dX2_nameOf_0 : decode cX2_nameOf 0 = .ok (.iload_n 0, 1) := by decide +kernel
theorem dX2_nameOf_1 : decode cX2_nameOf 1 = .ok (.tableswitch 71 0 7 #[47, 50, 53, 56, 59, 62, 65, 68], 47) := by decide +kernel
theorem dX2_nameOf_48 : decode cX2_nameOf 48 = .ok (.ldc 76, 2) := by decide +kernel
theorem dX2_nameOf_50 : decode cX2_nameOf 50 = .ok (.areturn, 1) := by decide +kernel
theorem dX2_nameOf_51 : decode cX2_nameOf 51 = .ok (.ldc 78, 2) := by decide +kernel
theorem dX2_nameOf_53 : decode cX2_nameOf 53 = .ok (.areturn, 1) := by decide +kernel
theorem dX2_nameOf_54 : decode cX2_nameOf 54 = .ok (.ldc 80, 2) := by decide +kernel
theorem dX2_nameOf_56 : decode cX2_nameOf 56 = .ok (.areturn, 1) := by decide +kernel
theorem dX2_nameOf_57 : decode cX2_nameOf 57 = .ok (.ldc 82, 2) := by decide +kernel
theorem dX2_nameOf_59 : decode cX2_nameOf 59 = .ok (.areturn, 1) := by decide +kernel
theorem dX2_nameOf_60 : decode cX2_nameOf 60 = .ok (.ldc 84, 2) := by decide +kernel
theorem dX2_nameOf_62 : decode cX2_nameOf 62 = .ok (.areturn, 1) := by decide +kernel
theorem dX2_nameOf_63 : decode cX2_nameOf 63 = .ok (.ldc 86, 2) := by decide +kernel
theorem dX2_nameOf_65 : decode cX2_nameOf 65 = .ok (.areturn, 1) := by decide +kernel
theorem dX2_nameOf_66 : decode cX2_nameOf 66 = .ok (.ldc 88, 2) := by decide +kernel
theorem dX2_nameOf_68 : decode cX2_nameOf 68 = .ok (.areturn, 1) := by decide +kernel
theorem dX2_nameOf_69 : decode cX2_nameOf 69 = .ok (.ldc 90, 2) := by decide +kernel
theorem dX2_nameOf_71 : decode cX2_nameOf 71 = .ok (.areturn, 1) := by decide +kernel
theorem dX2_nameOf_72 : decode cX2_nameOf 72 = .ok (.ldc 92, 2) := by decide +kernel
theorem dX2_nameOf_74 : decode cX2_nameOf 74 = .ok (.areturn, 1) := by decide +kernel
theorem dX2_faultOfNumber_0 : decode cX2_faultOfNumber 0 = .ok (.iload_n 1, 1) := by decide +kernel
theorem dX2_faultOfNumber_1 : decode cX2_faultOfNumber 1 = .ok (.istore_n 3, 1) := by decide +kernel
theorem dX2_faultOfNumber_2 : decode cX2_faultOfNumber 2 = .ok (.iload_n 3, 1) := by decide +kernel
theorem dX2_faultOfNumber_3 : decode cX2_faultOfNumber 3 = .ok (.iload_n 2, 1) := by decide +kernel
theorem dX2_faultOfNumber_4 : decode cX2_faultOfNumber 4 = .ok (.if_icmp .ge 33, 3) := by decide +kernel
theorem dX2_faultOfNumber_7 : decode cX2_faultOfNumber 7 = .ok (.aload_n 0, 1) := by decide +kernel
theorem dX2_faultOfNumber_8 : decode cX2_faultOfNumber 8 = .ok (.getfield 9, 3) := by decide +kernel
theorem dX2_faultOfNumber_11 : decode cX2_faultOfNumber 11 = .ok (.iload_n 3, 1) := by decide +kernel
theorem dX2_faultOfNumber_12 : decode cX2_faultOfNumber 12 = .ok (.baload, 1) := by decide +kernel
theorem dX2_faultOfNumber_13 : decode cX2_faultOfNumber 13 = .ok (.bipush 48, 2) := by decide +kernel
theorem dX2_faultOfNumber_15 : decode cX2_faultOfNumber 15 = .ok (.if_icmp .lt 14, 3) := by decide +kernel
theorem dX2_faultOfNumber_18 : decode cX2_faultOfNumber 18 = .ok (.aload_n 0, 1) := by decide +kernel
theorem dX2_faultOfNumber_19 : decode cX2_faultOfNumber 19 = .ok (.getfield 9, 3) := by decide +kernel
theorem dX2_faultOfNumber_22 : decode cX2_faultOfNumber 22 = .ok (.iload_n 3, 1) := by decide +kernel
theorem dX2_faultOfNumber_23 : decode cX2_faultOfNumber 23 = .ok (.baload, 1) := by decide +kernel
theorem dX2_faultOfNumber_24 : decode cX2_faultOfNumber 24 = .ok (.bipush 57, 2) := by decide +kernel
theorem dX2_faultOfNumber_26 : decode cX2_faultOfNumber 26 = .ok (.if_icmp .le 5, 3) := by decide +kernel
theorem dX2_faultOfNumber_29 : decode cX2_faultOfNumber 29 = .ok (.iconst 1, 1) := by decide +kernel
theorem dX2_faultOfNumber_30 : decode cX2_faultOfNumber 30 = .ok (.ireturn, 1) := by decide +kernel
theorem dX2_faultOfNumber_31 : decode cX2_faultOfNumber 31 = .ok (.iinc 3 1, 3) := by decide +kernel
theorem dX2_faultOfNumber_34 : decode cX2_faultOfNumber 34 = .ok (.goto (-32), 3) := by decide +kernel
theorem dX2_faultOfNumber_37 : decode cX2_faultOfNumber 37 = .ok (.iload_n 2, 1) := by decide +kernel
theorem dX2_faultOfNumber_38 : decode cX2_faultOfNumber 38 = .ok (.iload_n 1, 1) := by decide +kernel
theorem dX2_faultOfNumber_39 : decode cX2_faultOfNumber 39 = .ok (.isub, 1) := by decide +kernel
theorem dX2_faultOfNumber_40 : decode cX2_faultOfNumber 40 = .ok (.iconst 5, 1) := by decide +kernel
theorem dX2_faultOfNumber_41 : decode cX2_faultOfNumber 41 = .ok (.if_icmp .le 7, 3) := by decide +kernel
theorem dX2_faultOfNumber_44 : decode cX2_faultOfNumber 44 = .ok (.iconst 2, 1) := by decide +kernel
theorem dX2_faultOfNumber_45 : decode cX2_faultOfNumber 45 = .ok (.goto 4, 3) := by decide +kernel
theorem dX2_faultOfNumber_48 : decode cX2_faultOfNumber 48 = .ok (.iconst 0, 1) := by decide +kernel
theorem dX2_faultOfNumber_49 : decode cX2_faultOfNumber 49 = .ok (.ireturn, 1) := by decide +kernel
theorem dX2_numberAt_0 : decode cX2_numberAt 0 = .ok (.iconst 0, 1) := by decide +kernel
theorem dX2_numberAt_1 : decode cX2_numberAt 1 = .ok (.istore_n 3, 1) := by decide +kernel
theorem dX2_numberAt_2 : decode cX2_numberAt 2 = .ok (.iload_n 1, 1) := by decide +kernel
theorem dX2_numberAt_3 : decode cX2_numberAt 3 = .ok (.istore 4, 2) := by decide +kernel
theorem dX2_numberAt_5 : decode cX2_numberAt 5 = .ok (.iload 4, 2) := by decide +kernel
theorem dX2_numberAt_7 : decode cX2_numberAt 7 = .ok (.iload_n 2, 1) := by decide +kernel
theorem dX2_numberAt_8 : decode cX2_numberAt 8 = .ok (.if_icmp .ge 25, 3) := by decide +kernel
theorem dX2_numberAt_11 : decode cX2_numberAt 11 = .ok (.bipush 10, 2) := by decide +kernel
theorem dX2_numberAt_13 : decode cX2_numberAt 13 = .ok (.iload_n 3, 1) := by decide +kernel
theorem dX2_numberAt_14 : decode cX2_numberAt 14 = .ok (.imul, 1) := by decide +kernel
theorem dX2_numberAt_15 : decode cX2_numberAt 15 = .ok (.aload_n 0, 1) := by decide +kernel
theorem dX2_numberAt_16 : decode cX2_numberAt 16 = .ok (.getfield 9, 3) := by decide +kernel
theorem dX2_numberAt_19 : decode cX2_numberAt 19 = .ok (.iload 4, 2) := by decide +kernel
theorem dX2_numberAt_21 : decode cX2_numberAt 21 = .ok (.baload, 1) := by decide +kernel
theorem dX2_numberAt_22 : decode cX2_numberAt 22 = .ok (.iadd, 1) := by decide +kernel
theorem dX2_numberAt_23 : decode cX2_numberAt 23 = .ok (.bipush 48, 2) := by decide +kernel
theorem dX2_numberAt_25 : decode cX2_numberAt 25 = .ok (.isub, 1) := by decide +kernel
theorem dX2_numberAt_26 : decode cX2_numberAt 26 = .ok (.istore_n 3, 1) := by decide +kernel
theorem dX2_numberAt_27 : decode cX2_numberAt 27 = .ok (.iinc 4 1, 3) := by decide +kernel
theorem dX2_numberAt_30 : decode cX2_numberAt 30 = .ok (.goto (-25), 3) := by decide +kernel
theorem dX2_numberAt_33 : decode cX2_numberAt 33 = .ok (.iload_n 3, 1) := by decide +kernel
theorem dX2_numberAt_34 : decode cX2_numberAt 34 = .ok (.ireturn, 1) := by decide +kernel
theorem dX2_valueOf_0 : decode cX2_valueOf 0 = .ok (.iconst 0, 1) := by decide +kernel
theorem dX2_valueOf_1 : decode cX2_valueOf 1 = .ok (.istore_n 3, 1) := by decide +kernel
theorem dX2_valueOf_2 : decode cX2_valueOf 2 = .ok (.aload_n 0, 1) := by decide +kernel
theorem dX2_valueOf_3 : decode cX2_valueOf 3 = .ok (.getfield 34, 3) := by decide +kernel
theorem dX2_valueOf_6 : decode cX2_valueOf 6 = .ok (.iconst 1, 1) := by decide +kernel
theorem dX2_valueOf_7 : decode cX2_valueOf 7 = .ok (.isub, 1) := by decide +kernel
theorem dX2_valueOf_8 : decode cX2_valueOf 8 = .ok (.istore 4, 2) := by decide +kernel
theorem dX2_valueOf_10 : decode cX2_valueOf 10 = .ok (.iload 4, 2) := by decide +kernel
theorem dX2_valueOf_12 : decode cX2_valueOf 12 = .ok (.ifCond .lt 53, 3) := by decide +kernel
theorem dX2_valueOf_15 : decode cX2_valueOf 15 = .ok (.aload_n 0, 1) := by decide +kernel
theorem dX2_valueOf_16 : decode cX2_valueOf 16 = .ok (.getfield 28, 3) := by decide +kernel
theorem dX2_valueOf_19 : decode cX2_valueOf 19 = .ok (.iload 4, 2) := by decide +kernel
theorem dX2_valueOf_21 : decode cX2_valueOf 21 = .ok (.iaload, 1) := by decide +kernel
theorem dX2_valueOf_22 : decode cX2_valueOf 22 = .ok (.istore 5, 2) := by decide +kernel
theorem dX2_valueOf_24 : decode cX2_valueOf 24 = .ok (.iload 5, 2) := by decide +kernel
theorem dX2_valueOf_26 : decode cX2_valueOf 26 = .ok (.iload_n 1, 1) := by decide +kernel
theorem dX2_valueOf_27 : decode cX2_valueOf 27 = .ok (.if_icmp .ne 5, 3) := by decide +kernel
theorem dX2_valueOf_30 : decode cX2_valueOf 30 = .ok (.iconst 1, 1) := by decide +kernel
theorem dX2_valueOf_31 : decode cX2_valueOf 31 = .ok (.istore_n 3, 1) := by decide +kernel
theorem dX2_valueOf_32 : decode cX2_valueOf 32 = .ok (.iload_n 3, 1) := by decide +kernel
theorem dX2_valueOf_33 : decode cX2_valueOf 33 = .ok (.ifCond .eq 26, 3) := by decide +kernel
theorem dX2_valueOf_36 : decode cX2_valueOf 36 = .ok (.aload_n 0, 1) := by decide +kernel
theorem dX2_valueOf_37 : decode cX2_valueOf 37 = .ok (.getfield 25, 3) := by decide +kernel
theorem dX2_valueOf_40 : decode cX2_valueOf 40 = .ok (.iload 5, 2) := by decide +kernel
theorem dX2_valueOf_42 : decode cX2_valueOf 42 = .ok (.aaload, 1) := by decide +kernel
theorem dX2_valueOf_43 : decode cX2_valueOf 43 = .ok (.iload_n 2, 1) := by decide +kernel
theorem dX2_valueOf_44 : decode cX2_valueOf 44 = .ok (.iaload, 1) := by decide +kernel
theorem dX2_valueOf_45 : decode cX2_valueOf 45 = .ok (.iconst (-1), 1) := by decide +kernel
theorem dX2_valueOf_46 : decode cX2_valueOf 46 = .ok (.if_icmp .eq 13, 3) := by decide +kernel
theorem dX2_valueOf_49 : decode cX2_valueOf 49 = .ok (.aload_n 0, 1) := by decide +kernel
theorem dX2_valueOf_50 : decode cX2_valueOf 50 = .ok (.getfield 25, 3) := by decide +kernel
theorem dX2_valueOf_53 : decode cX2_valueOf 53 = .ok (.iload 5, 2) := by decide +kernel
theorem dX2_valueOf_55 : decode cX2_valueOf 55 = .ok (.aaload, 1) := by decide +kernel
theorem dX2_valueOf_56 : decode cX2_valueOf 56 = .ok (.iload_n 2, 1) := by decide +kernel
theorem dX2_valueOf_57 : decode cX2_valueOf 57 = .ok (.iaload, 1) := by decide +kernel
theorem dX2_valueOf_58 : decode cX2_valueOf 58 = .ok (.ireturn, 1) := by decide +kernel
theorem dX2_valueOf_59 : decode cX2_valueOf 59 = .ok (.iinc 4 (-1), 3) := by decide +kernel
theorem dX2_valueOf_62 : decode cX2_valueOf 62 = .ok (.goto (-52), 3) := by decide +kernel
theorem dX2_valueOf_65 : decode cX2_valueOf 65 = .ok (.getstatic 94, 3) := by decide +kernel
theorem dX2_valueOf_68 : decode cX2_valueOf 68 = .ok (.iload_n 2, 1) := by decide +kernel
theorem dX2_valueOf_69 : decode cX2_valueOf 69 = .ok (.iaload, 1) := by decide +kernel
theorem dX2_valueOf_70 : decode cX2_valueOf 70 = .ok (.ireturn, 1) := by decide +kernel
theorem dX2_inForce_0 : decode cX2_inForce 0 = .ok (.aload_n 0, 1) := by decide +kernel
theorem dX2_inForce_1 : decode cX2_inForce 1 = .ok (.getfield 34, 3) := by decide +kernel
theorem dX2_inForce_4 : decode cX2_inForce 4 = .ok (.iconst 1, 1) := by decide +kernel
theorem dX2_inForce_5 : decode cX2_inForce 5 = .ok (.isub, 1) := by decide +kernel
theorem dX2_inForce_6 : decode cX2_inForce 6 = .ok (.istore_n 2, 1) := by decide +kernel
theorem dX2_inForce_7 : decode cX2_inForce 7 = .ok (.iload_n 2, 1) := by decide +kernel
theorem dX2_inForce_8 : decode cX2_inForce 8 = .ok (.ifCond .lt 31, 3) := by decide +kernel
theorem dX2_inForce_11 : decode cX2_inForce 11 = .ok (.aload_n 0, 1) := by decide +kernel
theorem dX2_inForce_12 : decode cX2_inForce 12 = .ok (.getfield 19, 3) := by decide +kernel
theorem dX2_inForce_15 : decode cX2_inForce 15 = .ok (.aload_n 0, 1) := by decide +kernel
theorem dX2_inForce_16 : decode cX2_inForce 16 = .ok (.getfield 28, 3) := by decide +kernel
theorem dX2_inForce_19 : decode cX2_inForce 19 = .ok (.iload_n 2, 1) := by decide +kernel
theorem dX2_inForce_20 : decode cX2_inForce 20 = .ok (.iaload, 1) := by decide +kernel
theorem dX2_inForce_21 : decode cX2_inForce 21 = .ok (.iaload, 1) := by decide +kernel
theorem dX2_inForce_22 : decode cX2_inForce 22 = .ok (.iload_n 1, 1) := by decide +kernel
theorem dX2_inForce_23 : decode cX2_inForce 23 = .ok (.if_icmp .gt 10, 3) := by decide +kernel
theorem dX2_inForce_26 : decode cX2_inForce 26 = .ok (.aload_n 0, 1) := by decide +kernel
theorem dX2_inForce_27 : decode cX2_inForce 27 = .ok (.getfield 28, 3) := by decide +kernel
theorem dX2_inForce_30 : decode cX2_inForce 30 = .ok (.iload_n 2, 1) := by decide +kernel
theorem dX2_inForce_31 : decode cX2_inForce 31 = .ok (.iaload, 1) := by decide +kernel
theorem dX2_inForce_32 : decode cX2_inForce 32 = .ok (.ireturn, 1) := by decide +kernel
theorem dX2_inForce_33 : decode cX2_inForce 33 = .ok (.iinc 2 (-1), 3) := by decide +kernel
theorem dX2_inForce_36 : decode cX2_inForce 36 = .ok (.goto (-29), 3) := by decide +kernel
theorem dX2_inForce_39 : decode cX2_inForce 39 = .ok (.iconst (-1), 1) := by decide +kernel
theorem dX2_inForce_40 : decode cX2_inForce 40 = .ok (.ireturn, 1) := by decide +kernel
theorem dX3_init_0 : decode cX3_init 0 = .ok (.aload_n 0, 1) := by decide +kernel
theorem dX3_init_1 : decode cX3_init 1 = .ok (.invokespecial 3, 3) := by decide +kernel
theorem dX3_init_4 : decode cX3_init 4 = .ok (.aload_n 0, 1) := by decide +kernel
theorem dX3_init_5 : decode cX3_init 5 = .ok (.bipush 12, 2) := by decide +kernel
theorem dX3_init_7 : decode cX3_init 7 = .ok (.newarray .int, 2) := by decide +kernel
theorem dX3_init_9 : decode cX3_init 9 = .ok (.putfield 9, 3) := by decide +kernel
theorem dX3_init_12 : decode cX3_init 12 = .ok (.aload_n 0, 1) := by decide +kernel
theorem dX3_init_13 : decode cX3_init 13 = .ok (.bipush 12, 2) := by decide +kernel
theorem dX3_init_15 : decode cX3_init 15 = .ok (.newarray .int, 2) := by decide +kernel
theorem dX3_init_17 : decode cX3_init 17 = .ok (.putfield 15, 3) := by decide +kernel
theorem dX3_init_20 : decode cX3_init 20 = .ok (.return_, 1) := by decide +kernel
theorem dX3_add_0 : decode cX3_add 0 = .ok (.aload_n 0, 1) := by decide +kernel
theorem dX3_add_1 : decode cX3_add 1 = .ok (.getfield 9, 3) := by decide +kernel
theorem dX3_add_4 : decode cX3_add 4 = .ok (.aload_n 0, 1) := by decide +kernel
theorem dX3_add_5 : decode cX3_add 5 = .ok (.getfield 18, 3) := by decide +kernel
theorem dX3_add_8 : decode cX3_add 8 = .ok (.iload_n 1, 1) := by decide +kernel
theorem dX3_add_9 : decode cX3_add 9 = .ok (.iastore, 1) := by decide +kernel
theorem dX3_add_10 : decode cX3_add 10 = .ok (.aload_n 0, 1) := by decide +kernel
theorem dX3_add_11 : decode cX3_add 11 = .ok (.getfield 15, 3) := by decide +kernel
theorem dX3_add_14 : decode cX3_add 14 = .ok (.aload_n 0, 1) := by decide +kernel
theorem dX3_add_15 : decode cX3_add 15 = .ok (.getfield 18, 3) := by decide +kernel
theorem dX3_add_18 : decode cX3_add 18 = .ok (.iload_n 2, 1) := by decide +kernel
theorem dX3_add_19 : decode cX3_add 19 = .ok (.iastore, 1) := by decide +kernel
theorem dX3_add_20 : decode cX3_add 20 = .ok (.aload_n 0, 1) := by decide +kernel
theorem dX3_add_21 : decode cX3_add 21 = .ok (.dup, 1) := by decide +kernel
theorem dX3_add_22 : decode cX3_add 22 = .ok (.getfield 18, 3) := by decide +kernel
theorem dX3_add_25 : decode cX3_add 25 = .ok (.iconst 1, 1) := by decide +kernel
theorem dX3_add_26 : decode cX3_add 26 = .ok (.iadd, 1) := by decide +kernel
theorem dX3_add_27 : decode cX3_add 27 = .ok (.putfield 18, 3) := by decide +kernel
theorem dX3_add_30 : decode cX3_add 30 = .ok (.aload_n 0, 1) := by decide +kernel
theorem dX3_add_31 : decode cX3_add 31 = .ok (.getfield 18, 3) := by decide +kernel
theorem dX3_add_34 : decode cX3_add 34 = .ok (.iconst 1, 1) := by decide +kernel
theorem dX3_add_35 : decode cX3_add 35 = .ok (.isub, 1) := by decide +kernel
theorem dX3_add_36 : decode cX3_add 36 = .ok (.ireturn, 1) := by decide +kernel
theorem dX4_init_0 : decode cX4_init 0 = .ok (.aload_n 0, 1) := by decide +kernel
theorem dX4_init_1 : decode cX4_init 1 = .ok (.invokespecial 3, 3) := by decide +kernel
theorem dX4_init_4 : decode cX4_init 4 = .ok (.aload_n 0, 1) := by decide +kernel
theorem dX4_init_5 : decode cX4_init 5 = .ok (.sipush 20001, 3) := by decide +kernel
theorem dX4_init_8 : decode cX4_init 8 = .ok (.putfield 9, 3) := by decide +kernel
theorem dX4_init_11 : decode cX4_init 11 = .ok (.aload_n 0, 1) := by decide +kernel
theorem dX4_init_12 : decode cX4_init 12 = .ok (.bipush 120, 2) := by decide +kernel
theorem dX4_init_14 : decode cX4_init 14 = .ok (.newarray .int, 2) := by decide +kernel
theorem dX4_init_16 : decode cX4_init 16 = .ok (.putfield 15, 3) := by decide +kernel
theorem dX4_init_19 : decode cX4_init 19 = .ok (.aload_n 0, 1) := by decide +kernel
theorem dX4_init_20 : decode cX4_init 20 = .ok (.bipush 120, 2) := by decide +kernel
theorem dX4_init_22 : decode cX4_init 22 = .ok (.newarray .int, 2) := by decide +kernel
theorem dX4_init_24 : decode cX4_init 24 = .ok (.putfield 19, 3) := by decide +kernel
theorem dX4_init_27 : decode cX4_init 27 = .ok (.aload_n 0, 1) := by decide +kernel
theorem dX4_init_28 : decode cX4_init 28 = .ok (.bipush 120, 2) := by decide +kernel
theorem dX4_init_30 : decode cX4_init 30 = .ok (.newarray .int, 2) := by decide +kernel
theorem dX4_init_32 : decode cX4_init 32 = .ok (.putfield 22, 3) := by decide +kernel
theorem dX4_init_35 : decode cX4_init 35 = .ok (.aload_n 0, 1) := by decide +kernel
theorem dX4_init_36 : decode cX4_init 36 = .ok (.bipush 120, 2) := by decide +kernel
theorem dX4_init_38 : decode cX4_init 38 = .ok (.newarray .int, 2) := by decide +kernel
theorem dX4_init_40 : decode cX4_init 40 = .ok (.putfield 25, 3) := by decide +kernel
theorem dX4_init_43 : decode cX4_init 43 = .ok (.aload_n 0, 1) := by decide +kernel
theorem dX4_init_44 : decode cX4_init 44 = .ok (.bipush 120, 2) := by decide +kernel
theorem dX4_init_46 : decode cX4_init 46 = .ok (.newarray .int, 2) := by decide +kernel
theorem dX4_init_48 : decode cX4_init 48 = .ok (.putfield 28, 3) := by decide +kernel
theorem dX4_init_51 : decode cX4_init 51 = .ok (.aload_n 0, 1) := by decide +kernel
theorem dX4_init_52 : decode cX4_init 52 = .ok (.bipush 120, 2) := by decide +kernel
theorem dX4_init_54 : decode cX4_init 54 = .ok (.newarray .int, 2) := by decide +kernel
theorem dX4_init_56 : decode cX4_init 56 = .ok (.putfield 31, 3) := by decide +kernel
theorem dX4_init_59 : decode cX4_init 59 = .ok (.aload_n 0, 1) := by decide +kernel
theorem dX4_init_60 : decode cX4_init 60 = .ok (.bipush 120, 2) := by decide +kernel
theorem dX4_init_62 : decode cX4_init 62 = .ok (.newarray .int, 2) := by decide +kernel
theorem dX4_init_64 : decode cX4_init 64 = .ok (.putfield 34, 3) := by decide +kernel
theorem dX4_init_67 : decode cX4_init 67 = .ok (.aload_n 0, 1) := by decide +kernel
theorem dX4_init_68 : decode cX4_init 68 = .ok (.bipush 64, 2) := by decide +kernel
theorem dX4_init_70 : decode cX4_init 70 = .ok (.newarray .int, 2) := by decide +kernel
theorem dX4_init_72 : decode cX4_init 72 = .ok (.putfield 37, 3) := by decide +kernel
theorem dX4_init_75 : decode cX4_init 75 = .ok (.aload_n 0, 1) := by decide +kernel
theorem dX4_init_76 : decode cX4_init 76 = .ok (.bipush 64, 2) := by decide +kernel
theorem dX4_init_78 : decode cX4_init 78 = .ok (.newarray .int, 2) := by decide +kernel
theorem dX4_init_80 : decode cX4_init 80 = .ok (.putfield 40, 3) := by decide +kernel
theorem dX4_init_83 : decode cX4_init 83 = .ok (.aload_n 0, 1) := by decide +kernel
theorem dX4_init_84 : decode cX4_init 84 = .ok (.bipush 64, 2) := by decide +kernel
theorem dX4_init_86 : decode cX4_init 86 = .ok (.newarray .int, 2) := by decide +kernel
theorem dX4_init_88 : decode cX4_init 88 = .ok (.putfield 43, 3) := by decide +kernel
theorem dX4_init_91 : decode cX4_init 91 = .ok (.aload_n 0, 1) := by decide +kernel
theorem dX4_init_92 : decode cX4_init 92 = .ok (.bipush 12, 2) := by decide +kernel
theorem dX4_init_94 : decode cX4_init 94 = .ok (.newarray .boolean, 2) := by decide +kernel
theorem dX4_init_96 : decode cX4_init 96 = .ok (.putfield 46, 3) := by decide +kernel
theorem dX4_init_99 : decode cX4_init 99 = .ok (.aload_n 0, 1) := by decide +kernel
theorem dX4_init_100 : decode cX4_init 100 = .ok (.bipush 12, 2) := by decide +kernel
theorem dX4_init_102 : decode cX4_init 102 = .ok (.newarray .int, 2) := by decide +kernel
theorem dX4_init_104 : decode cX4_init 104 = .ok (.putfield 50, 3) := by decide +kernel
theorem dX4_init_107 : decode cX4_init 107 = .ok (.aload_n 0, 1) := by decide +kernel
theorem dX4_init_108 : decode cX4_init 108 = .ok (.aload_n 1, 1) := by decide +kernel
theorem dX4_init_109 : decode cX4_init 109 = .ok (.putfield 53, 3) := by decide +kernel
theorem dX4_init_112 : decode cX4_init 112 = .ok (.aload_n 0, 1) := by decide +kernel
theorem dX4_init_113 : decode cX4_init 113 = .ok (.aload_n 2, 1) := by decide +kernel
theorem dX4_init_114 : decode cX4_init 114 = .ok (.putfield 57, 3) := by decide +kernel
theorem dX4_init_117 : decode cX4_init 117 = .ok (.aload_n 0, 1) := by decide +kernel
theorem dX4_init_118 : decode cX4_init 118 = .ok (.aload_n 3, 1) := by decide +kernel
theorem dX4_init_119 : decode cX4_init 119 = .ok (.putfield 61, 3) := by decide +kernel
theorem dX4_init_122 : decode cX4_init 122 = .ok (.return_, 1) := by decide +kernel
theorem dX4_through_0 : decode cX4_through 0 = .ok (.aload_n 0, 1) := by decide +kernel
theorem dX4_through_1 : decode cX4_through 1 = .ok (.invokevirtual 65, 3) := by decide +kernel
theorem dX4_through_4 : decode cX4_through 4 = .ok (.iconst 0, 1) := by decide +kernel
theorem dX4_through_5 : decode cX4_through 5 = .ok (.istore_n 3, 1) := by decide +kernel
theorem dX4_through_6 : decode cX4_through 6 = .ok (.iload_n 3, 1) := by decide +kernel
theorem dX4_through_7 : decode cX4_through 7 = .ok (.aload_n 0, 1) := by decide +kernel
theorem dX4_through_8 : decode cX4_through 8 = .ok (.getfield 61, 3) := by decide +kernel
theorem dX4_through_11 : decode cX4_through 11 = .ok (.getfield 68, 3) := by decide +kernel
theorem dX4_through_14 : decode cX4_through 14 = .ok (.if_icmp .ge 70, 3) := by decide +kernel
theorem dX4_through_17 : decode cX4_through 17 = .ok (.aload_n 0, 1) := by decide +kernel
theorem dX4_through_18 : decode cX4_through 18 = .ok (.getfield 61, 3) := by decide +kernel
theorem dX4_through_21 : decode cX4_through 21 = .ok (.getfield 73, 3) := by decide +kernel
theorem dX4_through_24 : decode cX4_through 24 = .ok (.iload_n 3, 1) := by decide +kernel
theorem dX4_through_25 : decode cX4_through 25 = .ok (.iaload, 1) := by decide +kernel
theorem dX4_through_26 : decode cX4_through 26 = .ok (.istore 4, 2) := by decide +kernel
theorem dX4_through_28 : decode cX4_through 28 = .ok (.aload_n 0, 1) := by decide +kernel
theorem dX4_through_29 : decode cX4_through 29 = .ok (.getfield 61, 3) := by decide +kernel
theorem dX4_through_32 : decode cX4_through 32 = .ok (.getfield 76, 3) := by decide +kernel
theorem dX4_through_35 : decode cX4_through 35 = .ok (.iload 4, 2) := by decide +kernel
theorem dX4_through_37 : decode cX4_through 37 = .ok (.iaload, 1) := by decide +kernel
theorem dX4_through_38 : decode cX4_through 38 = .ok (.iload_n 2, 1) := by decide +kernel
theorem dX4_through_39 : decode cX4_through 39 = .ok (.if_icmp .le 6, 3) := by decide +kernel
theorem dX4_through_42 : decode cX4_through 42 = .ok (.goto 42, 3) := by decide +kernel
theorem dX4_through_45 : decode cX4_through 45 = .ok (.iload 4, 2) := by decide +kernel
theorem dX4_through_47 : decode cX4_through 47 = .ok (.iload_n 1, 1) := by decide +kernel
theorem dX4_through_48 : decode cX4_through 48 = .ok (.if_icmp .ge 30, 3) := by decide +kernel
theorem dX4_through_51 : decode cX4_through 51 = .ok (.aload_n 0, 1) := by decide +kernel
theorem dX4_through_52 : decode cX4_through 52 = .ok (.getfield 61, 3) := by decide +kernel
theorem dX4_through_55 : decode cX4_through 55 = .ok (.getfield 79, 3) := by decide +kernel
theorem dX4_through_58 : decode cX4_through 58 = .ok (.iload 4, 2) := by decide +kernel
theorem dX4_through_60 : decode cX4_through 60 = .ok (.baload, 1) := by decide +kernel
theorem dX4_through_61 : decode cX4_through 61 = .ok (.ifCond .ne 17, 3) := by decide +kernel
theorem dX4_through_64 : decode cX4_through 64 = .ok (.aload_n 0, 1) := by decide +kernel
theorem dX4_through_65 : decode cX4_through 65 = .ok (.getfield 15, 3) := by decide +kernel
theorem dX4_through_68 : decode cX4_through 68 = .ok (.iload 4, 2) := by decide +kernel
theorem dX4_through_70 : decode cX4_through 70 = .ok (.aload_n 0, 1) := by decide +kernel
theorem dX4_through_71 : decode cX4_through 71 = .ok (.iload 4, 2) := by decide +kernel
theorem dX4_through_73 : decode cX4_through 73 = .ok (.iload_n 3, 1) := by decide +kernel
theorem dX4_through_74 : decode cX4_through 74 = .ok (.invokevirtual 82, 3) := by decide +kernel
theorem dX4_through_77 : decode cX4_through 77 = .ok (.iastore, 1) := by decide +kernel
theorem dX4_through_78 : decode cX4_through 78 = .ok (.iinc 3 1, 3) := by decide +kernel
theorem dX4_through_81 : decode cX4_through 81 = .ok (.goto (-75), 3) := by decide +kernel
theorem dX4_through_84 : decode cX4_through 84 = .ok (.return_, 1) := by decide +kernel
theorem dX4_clear_0 : decode cX4_clear 0 = .ok (.iconst 0, 1) := by decide +kernel
theorem dX4_clear_1 : decode cX4_clear 1 = .ok (.istore_n 1, 1) := by decide +kernel
theorem dX4_clear_2 : decode cX4_clear 2 = .ok (.iload_n 1, 1) := by decide +kernel
theorem dX4_clear_3 : decode cX4_clear 3 = .ok (.bipush 120, 2) := by decide +kernel
theorem dX4_clear_5 : decode cX4_clear 5 = .ok (.if_icmp .ge 23, 3) := by decide +kernel
theorem dX4_clear_8 : decode cX4_clear 8 = .ok (.aload_n 0, 1) := by decide +kernel
theorem dX4_clear_9 : decode cX4_clear 9 = .ok (.getfield 15, 3) := by decide +kernel
theorem dX4_clear_12 : decode cX4_clear 12 = .ok (.iload_n 1, 1) := by decide +kernel
theorem dX4_clear_13 : decode cX4_clear 13 = .ok (.iconst (-1), 1) := by decide +kernel
theorem dX4_clear_14 : decode cX4_clear 14 = .ok (.iastore, 1) := by decide +kernel
theorem dX4_clear_15 : decode cX4_clear 15 = .ok (.aload_n 0, 1) := by decide +kernel
theorem dX4_clear_16 : decode cX4_clear 16 = .ok (.getfield 19, 3) := by decide +kernel
theorem dX4_clear_19 : decode cX4_clear 19 = .ok (.iload_n 1, 1) := by decide +kernel
theorem dX4_clear_20 : decode cX4_clear 20 = .ok (.iconst 0, 1) := by decide +kernel
theorem dX4_clear_21 : decode cX4_clear 21 = .ok (.iastore, 1) := by decide +kernel
theorem dX4_clear_22 : decode cX4_clear 22 = .ok (.iinc 1 1, 3) := by decide +kernel
theorem dX4_clear_25 : decode cX4_clear 25 = .ok (.goto (-23), 3) := by decide +kernel
theorem dX4_clear_28 : decode cX4_clear 28 = .ok (.iconst 0, 1) := by decide +kernel
theorem dX4_clear_29 : decode cX4_clear 29 = .ok (.istore_n 1, 1) := by decide +kernel
theorem dX4_clear_30 : decode cX4_clear 30 = .ok (.iload_n 1, 1) := by decide +kernel
theorem dX4_clear_31 : decode cX4_clear 31 = .ok (.bipush 64, 2) := by decide +kernel
theorem dX4_clear_33 : decode cX4_clear 33 = .ok (.if_icmp .ge 23, 3) := by decide +kernel
theorem dX4_clear_36 : decode cX4_clear 36 = .ok (.aload_n 0, 1) := by decide +kernel
theorem dX4_clear_37 : decode cX4_clear 37 = .ok (.getfield 37, 3) := by decide +kernel
theorem dX4_clear_40 : decode cX4_clear 40 = .ok (.iload_n 1, 1) := by decide +kernel
theorem dX4_clear_41 : decode cX4_clear 41 = .ok (.iconst (-1), 1) := by decide +kernel
theorem dX4_clear_42 : decode cX4_clear 42 = .ok (.iastore, 1) := by decide +kernel
theorem dX4_clear_43 : decode cX4_clear 43 = .ok (.aload_n 0, 1) := by decide +kernel
theorem dX4_clear_44 : decode cX4_clear 44 = .ok (.getfield 40, 3) := by decide +kernel
theorem dX4_clear_47 : decode cX4_clear 47 = .ok (.iload_n 1, 1) := by decide +kernel
theorem dX4_clear_48 : decode cX4_clear 48 = .ok (.iconst (-1), 1) := by decide +kernel
theorem dX4_clear_49 : decode cX4_clear 49 = .ok (.iastore, 1) := by decide +kernel
theorem dX4_clear_50 : decode cX4_clear 50 = .ok (.iinc 1 1, 3) := by decide +kernel
theorem dX4_clear_53 : decode cX4_clear 53 = .ok (.goto (-23), 3) := by decide +kernel
theorem dX4_clear_56 : decode cX4_clear 56 = .ok (.iconst 0, 1) := by decide +kernel
theorem dX4_clear_57 : decode cX4_clear 57 = .ok (.istore_n 1, 1) := by decide +kernel
theorem dX4_clear_58 : decode cX4_clear 58 = .ok (.iload_n 1, 1) := by decide +kernel
theorem dX4_clear_59 : decode cX4_clear 59 = .ok (.bipush 12, 2) := by decide +kernel
theorem dX4_clear_61 : decode cX4_clear 61 = .ok (.if_icmp .ge 23, 3) := by decide +kernel
theorem dX4_clear_64 : decode cX4_clear 64 = .ok (.aload_n 0, 1) := by decide +kernel
theorem dX4_clear_65 : decode cX4_clear 65 = .ok (.getfield 46, 3) := by decide +kernel
theorem dX4_clear_68 : decode cX4_clear 68 = .ok (.iload_n 1, 1) := by decide +kernel
theorem dX4_clear_69 : decode cX4_clear 69 = .ok (.iconst 0, 1) := by decide +kernel
theorem dX4_clear_70 : decode cX4_clear 70 = .ok (.bastore, 1) := by decide +kernel
theorem dX4_clear_71 : decode cX4_clear 71 = .ok (.aload_n 0, 1) := by decide +kernel
theorem dX4_clear_72 : decode cX4_clear 72 = .ok (.getfield 50, 3) := by decide +kernel
theorem dX4_clear_75 : decode cX4_clear 75 = .ok (.iload_n 1, 1) := by decide +kernel
theorem dX4_clear_76 : decode cX4_clear 76 = .ok (.iconst 0, 1) := by decide +kernel
theorem dX4_clear_77 : decode cX4_clear 77 = .ok (.iastore, 1) := by decide +kernel
theorem dX4_clear_78 : decode cX4_clear 78 = .ok (.iinc 1 1, 3) := by decide +kernel
theorem dX4_clear_81 : decode cX4_clear 81 = .ok (.goto (-23), 3) := by decide +kernel
theorem dX4_clear_84 : decode cX4_clear 84 = .ok (.return_, 1) := by decide +kernel
theorem dX4_workLine_0 : decode cX4_workLine 0 = .ok (.aload_n 0, 1) := by decide +kernel
theorem dX4_workLine_1 : decode cX4_workLine 1 = .ok (.getfield 46, 3) := by decide +kernel
theorem dX4_workLine_4 : decode cX4_workLine 4 = .ok (.aload_n 0, 1) := by decide +kernel
theorem dX4_workLine_5 : decode cX4_workLine 5 = .ok (.getfield 61, 3) := by decide +kernel
theorem dX4_workLine_8 : decode cX4_workLine 8 = .ok (.getfield 86, 3) := by decide +kernel
theorem dX4_workLine_11 : decode cX4_workLine 11 = .ok (.iload_n 1, 1) := by decide +kernel
theorem dX4_workLine_12 : decode cX4_workLine 12 = .ok (.iaload, 1) := by decide +kernel
theorem dX4_workLine_13 : decode cX4_workLine 13 = .ok (.baload, 1) := by decide +kernel
theorem dX4_workLine_14 : decode cX4_workLine 14 = .ok (.ifCond .eq 5, 3) := by decide +kernel
theorem dX4_workLine_17 : decode cX4_workLine 17 = .ok (.iconst 1, 1) := by decide +kernel
theorem dX4_workLine_18 : decode cX4_workLine 18 = .ok (.ireturn, 1) := by decide +kernel
theorem dX4_workLine_19 : decode cX4_workLine 19 = .ok (.aload_n 0, 1) := by decide +kernel
theorem dX4_workLine_20 : decode cX4_workLine 20 = .ok (.getfield 61, 3) := by decide +kernel
theorem dX4_workLine_23 : decode cX4_workLine 23 = .ok (.getfield 89, 3) := by decide +kernel
theorem dX4_workLine_26 : decode cX4_workLine 26 = .ok (.iload_n 1, 1) := by decide +kernel
theorem dX4_workLine_27 : decode cX4_workLine 27 = .ok (.iaload, 1) := by decide +kernel
theorem dX4_workLine_28 : decode cX4_workLine 28 = .ok (.tableswitch 75 0 6 #[44, 75, 75, 51, 57, 63, 69], 44) := by decide +kernel
theorem dX4_workLine_72 : decode cX4_workLine 72 = .ok (.aload_n 0, 1) := by decide +kernel
theorem dX4_workLine_73 : decode cX4_workLine 73 = .ok (.iload_n 1, 1) := by decide +kernel
theorem dX4_workLine_74 : decode cX4_workLine 74 = .ok (.iload_n 2, 1) := by decide +kernel
theorem dX4_workLine_75 : decode cX4_workLine 75 = .ok (.invokevirtual 92, 3) := by decide +kernel
theorem dX4_workLine_78 : decode cX4_workLine 78 = .ok (.ireturn, 1) := by decide +kernel
theorem dX4_workLine_79 : decode cX4_workLine 79 = .ok (.aload_n 0, 1) := by decide +kernel
theorem dX4_workLine_80 : decode cX4_workLine 80 = .ok (.iload_n 1, 1) := by decide +kernel
theorem dX4_workLine_81 : decode cX4_workLine 81 = .ok (.invokevirtual 95, 3) := by decide +kernel
theorem dX4_workLine_84 : decode cX4_workLine 84 = .ok (.ireturn, 1) := by decide +kernel
theorem dX4_workLine_85 : decode cX4_workLine 85 = .ok (.aload_n 0, 1) := by decide +kernel
theorem dX4_workLine_86 : decode cX4_workLine 86 = .ok (.iload_n 1, 1) := by decide +kernel
theorem dX4_workLine_87 : decode cX4_workLine 87 = .ok (.invokevirtual 99, 3) := by decide +kernel
theorem dX4_workLine_90 : decode cX4_workLine 90 = .ok (.ireturn, 1) := by decide +kernel
theorem dX4_workLine_91 : decode cX4_workLine 91 = .ok (.aload_n 0, 1) := by decide +kernel
theorem dX4_workLine_92 : decode cX4_workLine 92 = .ok (.iload_n 1, 1) := by decide +kernel
theorem dX4_workLine_93 : decode cX4_workLine 93 = .ok (.invokevirtual 102, 3) := by decide +kernel
theorem dX4_workLine_96 : decode cX4_workLine 96 = .ok (.ireturn, 1) := by decide +kernel
theorem dX4_workLine_97 : decode cX4_workLine 97 = .ok (.aload_n 0, 1) := by decide +kernel
theorem dX4_workLine_98 : decode cX4_workLine 98 = .ok (.iload_n 1, 1) := by decide +kernel
theorem dX4_workLine_99 : decode cX4_workLine 99 = .ok (.invokevirtual 105, 3) := by decide +kernel
theorem dX4_workLine_102 : decode cX4_workLine 102 = .ok (.ireturn, 1) := by decide +kernel
theorem dX4_workLine_103 : decode cX4_workLine 103 = .ok (.iconst 0, 1) := by decide +kernel
theorem dX4_workLine_104 : decode cX4_workLine 104 = .ok (.ireturn, 1) := by decide +kernel
theorem dX4_workFile_0 : decode cX4_workFile 0 = .ok (.aload_n 0, 1) := by decide +kernel
theorem dX4_workFile_1 : decode cX4_workFile 1 = .ok (.getfield 61, 3) := by decide +kernel
theorem dX4_workFile_4 : decode cX4_workFile 4 = .ok (.getfield 76, 3) := by decide +kernel
theorem dX4_workFile_7 : decode cX4_workFile 7 = .ok (.iload_n 1, 1) := by decide +kernel
theorem dX4_workFile_8 : decode cX4_workFile 8 = .ok (.iaload, 1) := by decide +kernel
theorem dX4_workFile_9 : decode cX4_workFile 9 = .ok (.istore_n 3, 1) := by decide +kernel
theorem dX4_workFile_10 : decode cX4_workFile 10 = .ok (.aload_n 0, 1) := by decide +kernel
theorem dX4_workFile_11 : decode cX4_workFile 11 = .ok (.getfield 61, 3) := by decide +kernel
theorem dX4_workFile_14 : decode cX4_workFile 14 = .ok (.getfield 86, 3) := by decide +kernel
theorem dX4_workFile_17 : decode cX4_workFile 17 = .ok (.iload_n 1, 1) := by decide +kernel
theorem dX4_workFile_18 : decode cX4_workFile 18 = .ok (.iaload, 1) := by decide +kernel
theorem dX4_workFile_19 : decode cX4_workFile 19 = .ok (.istore 4, 2) := by decide +kernel
theorem dX4_workFile_21 : decode cX4_workFile 21 = .ok (.aload_n 0, 1) := by decide +kernel
theorem dX4_workFile_22 : decode cX4_workFile 22 = .ok (.getfield 61, 3) := by decide +kernel
theorem dX4_workFile_25 : decode cX4_workFile 25 = .ok (.getfield 108, 3) := by decide +kernel
theorem dX4_workFile_28 : decode cX4_workFile 28 = .ok (.iload_n 1, 1) := by decide +kernel
theorem dX4_workFile_29 : decode cX4_workFile 29 = .ok (.iaload, 1) := by decide +kernel
theorem dX4_workFile_30 : decode cX4_workFile 30 = .ok (.istore 5, 2) := by decide +kernel
theorem dX4_workFile_32 : decode cX4_workFile 32 = .ok (.aload_n 0, 1) := by decide +kernel
theorem dX4_workFile_33 : decode cX4_workFile 33 = .ok (.getfield 57, 3) := by decide +kernel
theorem dX4_workFile_36 : decode cX4_workFile 36 = .ok (.iload_n 3, 1) := by decide +kernel
theorem dX4_workFile_37 : decode cX4_workFile 37 = .ok (.invokevirtual 111, 3) := by decide +kernel
theorem dX4_workFile_40 : decode cX4_workFile 40 = .ok (.istore 6, 2) := by decide +kernel
theorem dX4_workFile_42 : decode cX4_workFile 42 = .ok (.iload_n 3, 1) := by decide +kernel
theorem dX4_workFile_43 : decode cX4_workFile 43 = .ok (.aload_n 0, 1) := by decide +kernel
theorem dX4_workFile_44 : decode cX4_workFile 44 = .ok (.getfield 53, 3) := by decide +kernel
theorem dX4_workFile_47 : decode cX4_workFile 47 = .ok (.getfield 116, 3) := by decide +kernel
theorem dX4_workFile_50 : decode cX4_workFile 50 = .ok (.iload 4, 2) := by decide +kernel
theorem dX4_workFile_52 : decode cX4_workFile 52 = .ok (.iaload, 1) := by decide +kernel
theorem dX4_workFile_53 : decode cX4_workFile 53 = .ok (.isub, 1) := by decide +kernel
theorem dX4_workFile_54 : decode cX4_workFile 54 = .ok (.aload_n 0, 1) := by decide +kernel
theorem dX4_workFile_55 : decode cX4_workFile 55 = .ok (.getfield 57, 3) := by decide +kernel
theorem dX4_workFile_58 : decode cX4_workFile 58 = .ok (.iload 6, 2) := by decide +kernel
theorem dX4_workFile_60 : decode cX4_workFile 60 = .ok (.iconst 0, 1) := by decide +kernel
theorem dX4_workFile_61 : decode cX4_workFile 61 = .ok (.invokevirtual 121, 3) := by decide +kernel
theorem dX4_workFile_64 : decode cX4_workFile 64 = .ok (.if_icmp .ge 5, 3) := by decide +kernel
theorem dX4_workFile_67 : decode cX4_workFile 67 = .ok (.iconst 2, 1) := by decide +kernel
theorem dX4_workFile_68 : decode cX4_workFile 68 = .ok (.ireturn, 1) := by decide +kernel
theorem dX4_workFile_69 : decode cX4_workFile 69 = .ok (.aload_n 0, 1) := by decide +kernel
theorem dX4_workFile_70 : decode cX4_workFile 70 = .ok (.getfield 53, 3) := by decide +kernel
theorem dX4_workFile_73 : decode cX4_workFile 73 = .ok (.getfield 124, 3) := by decide +kernel
theorem dX4_workFile_76 : decode cX4_workFile 76 = .ok (.iload 4, 2) := by decide +kernel
theorem dX4_workFile_78 : decode cX4_workFile 78 = .ok (.iaload, 1) := by decide +kernel
theorem dX4_workFile_79 : decode cX4_workFile 79 = .ok (.iload_n 3, 1) := by decide +kernel
theorem dX4_workFile_80 : decode cX4_workFile 80 = .ok (.if_icmp .le 5, 3) := by decide +kernel
theorem dX4_workFile_83 : decode cX4_workFile 83 = .ok (.iconst 3, 1) := by decide +kernel
theorem dX4_workFile_84 : decode cX4_workFile 84 = .ok (.ireturn, 1) := by decide +kernel
theorem dX4_workFile_85 : decode cX4_workFile 85 = .ok (.aload_n 0, 1) := by decide +kernel
theorem dX4_workFile_86 : decode cX4_workFile 86 = .ok (.iload 5, 2) := by decide +kernel
theorem dX4_workFile_88 : decode cX4_workFile 88 = .ok (.iload_n 3, 1) := by decide +kernel
theorem dX4_workFile_89 : decode cX4_workFile 89 = .ok (.invokevirtual 127, 3) := by decide +kernel
theorem dX4_workFile_92 : decode cX4_workFile 92 = .ok (.ifCond .eq 5, 3) := by decide +kernel
theorem dX4_workFile_95 : decode cX4_workFile 95 = .ok (.iconst 4, 1) := by decide +kernel
theorem dX4_workFile_96 : decode cX4_workFile 96 = .ok (.ireturn, 1) := by decide +kernel
theorem dX4_workFile_97 : decode cX4_workFile 97 = .ok (.aload_n 0, 1) := by decide +kernel
theorem dX4_workFile_98 : decode cX4_workFile 98 = .ok (.getfield 37, 3) := by decide +kernel
theorem dX4_workFile_101 : decode cX4_workFile 101 = .ok (.iload 5, 2) := by decide +kernel
theorem dX4_workFile_103 : decode cX4_workFile 103 = .ok (.iaload, 1) := by decide +kernel
theorem dX4_workFile_104 : decode cX4_workFile 104 = .ok (.iconst (-1), 1) := by decide +kernel
theorem dX4_workFile_105 : decode cX4_workFile 105 = .ok (.if_icmp .eq 5, 3) := by decide +kernel
theorem dX4_workFile_108 : decode cX4_workFile 108 = .ok (.iconst 5, 1) := by decide +kernel
theorem dX4_workFile_109 : decode cX4_workFile 109 = .ok (.ireturn, 1) := by decide +kernel
theorem dX4_workFile_110 : decode cX4_workFile 110 = .ok (.aload_n 0, 1) := by decide +kernel
theorem dX4_workFile_111 : decode cX4_workFile 111 = .ok (.iload 5, 2) := by decide +kernel
theorem dX4_workFile_113 : decode cX4_workFile 113 = .ok (.iload_n 3, 1) := by decide +kernel
theorem dX4_workFile_114 : decode cX4_workFile 114 = .ok (.invokevirtual 131, 3) := by decide +kernel
theorem dX4_workFile_117 : decode cX4_workFile 117 = .ok (.istore 7, 2) := by decide +kernel
theorem dX4_workFile_119 : decode cX4_workFile 119 = .ok (.iload 7, 2) := by decide +kernel
theorem dX4_workFile_121 : decode cX4_workFile 121 = .ok (.iconst (-1), 1) := by decide +kernel
theorem dX4_workFile_122 : decode cX4_workFile 122 = .ok (.if_icmp .eq 13, 3) := by decide +kernel
theorem dX4_workFile_125 : decode cX4_workFile 125 = .ok (.iload 7, 2) := by decide +kernel
theorem dX4_workFile_127 : decode cX4_workFile 127 = .ok (.iload 4, 2) := by decide +kernel
theorem dX4_workFile_129 : decode cX4_workFile 129 = .ok (.if_icmp .eq 6, 3) := by decide +kernel
theorem dX4_workFile_132 : decode cX4_workFile 132 = .ok (.bipush 6, 2) := by decide +kernel
theorem dX4_workFile_134 : decode cX4_workFile 134 = .ok (.ireturn, 1) := by decide +kernel
theorem dX4_workFile_135 : decode cX4_workFile 135 = .ok (.aload_n 0, 1) := by decide +kernel
theorem dX4_workFile_136 : decode cX4_workFile 136 = .ok (.getfield 50, 3) := by decide +kernel
theorem dX4_workFile_139 : decode cX4_workFile 139 = .ok (.iload 4, 2) := by decide +kernel
theorem dX4_workFile_141 : decode cX4_workFile 141 = .ok (.iaload, 1) := by decide +kernel
theorem dX4_workFile_142 : decode cX4_workFile 142 = .ok (.aload_n 0, 1) := by decide +kernel
theorem dX4_workFile_143 : decode cX4_workFile 143 = .ok (.getfield 57, 3) := by decide +kernel
theorem dX4_workFile_146 : decode cX4_workFile 146 = .ok (.iload 6, 2) := by decide +kernel
theorem dX4_workFile_148 : decode cX4_workFile 148 = .ok (.bipush 7, 2) := by decide +kernel
theorem dX4_workFile_150 : decode cX4_workFile 150 = .ok (.invokevirtual 121, 3) := by decide +kernel
theorem dX4_workFile_153 : decode cX4_workFile 153 = .ok (.if_icmp .lt 6, 3) := by decide +kernel
theorem dX4_workFile_156 : decode cX4_workFile 156 = .ok (.bipush 7, 2) := by decide +kernel
theorem dX4_workFile_158 : decode cX4_workFile 158 = .ok (.ireturn, 1) := by decide +kernel
theorem dX4_workFile_159 : decode cX4_workFile 159 = .ok (.aload_n 0, 1) := by decide +kernel
theorem dX4_workFile_160 : decode cX4_workFile 160 = .ok (.getfield 50, 3) := by decide +kernel
theorem dX4_workFile_163 : decode cX4_workFile 163 = .ok (.iload 4, 2) := by decide +kernel
theorem dX4_workFile_165 : decode cX4_workFile 165 = .ok (.dup2, 1) := by decide +kernel
theorem dX4_workFile_166 : decode cX4_workFile 166 = .ok (.iaload, 1) := by decide +kernel
theorem dX4_workFile_167 : decode cX4_workFile 167 = .ok (.iconst 1, 1) := by decide +kernel
theorem dX4_workFile_168 : decode cX4_workFile 168 = .ok (.iadd, 1) := by decide +kernel
theorem dX4_workFile_169 : decode cX4_workFile 169 = .ok (.iastore, 1) := by decide +kernel
theorem dX4_workFile_170 : decode cX4_workFile 170 = .ok (.aload_n 0, 1) := by decide +kernel
theorem dX4_workFile_171 : decode cX4_workFile 171 = .ok (.getfield 37, 3) := by decide +kernel
theorem dX4_workFile_174 : decode cX4_workFile 174 = .ok (.iload 5, 2) := by decide +kernel
theorem dX4_workFile_176 : decode cX4_workFile 176 = .ok (.iload_n 1, 1) := by decide +kernel
theorem dX4_workFile_177 : decode cX4_workFile 177 = .ok (.iastore, 1) := by decide +kernel
theorem dX4_workFile_178 : decode cX4_workFile 178 = .ok (.aload_n 0, 1) := by decide +kernel
theorem dX4_workFile_179 : decode cX4_workFile 179 = .ok (.getfield 19, 3) := by decide +kernel
theorem dX4_workFile_182 : decode cX4_workFile 182 = .ok (.iload_n 1, 1) := by decide +kernel
theorem dX4_workFile_183 : decode cX4_workFile 183 = .ok (.iconst 1, 1) := by decide +kernel
theorem dX4_workFile_184 : decode cX4_workFile 184 = .ok (.iastore, 1) := by decide +kernel
theorem dX4_workFile_185 : decode cX4_workFile 185 = .ok (.aload_n 0, 1) := by decide +kernel
theorem dX4_workFile_186 : decode cX4_workFile 186 = .ok (.getfield 22, 3) := by decide +kernel
theorem dX4_workFile_189 : decode cX4_workFile 189 = .ok (.iload_n 1, 1) := by decide +kernel
theorem dX4_workFile_190 : decode cX4_workFile 190 = .ok (.iload 4, 2) := by decide +kernel
theorem dX4_workFile_192 : decode cX4_workFile 192 = .ok (.iastore, 1) := by decide +kernel
theorem dX4_workFile_193 : decode cX4_workFile 193 = .ok (.aload_n 0, 1) := by decide +kernel
theorem dX4_workFile_194 : decode cX4_workFile 194 = .ok (.getfield 25, 3) := by decide +kernel
theorem dX4_workFile_197 : decode cX4_workFile 197 = .ok (.iload_n 1, 1) := by decide +kernel
theorem dX4_workFile_198 : decode cX4_workFile 198 = .ok (.iconst 1, 1) := by decide +kernel
theorem dX4_workFile_199 : decode cX4_workFile 199 = .ok (.iload 4, 2) := by decide +kernel
theorem dX4_workFile_201 : decode cX4_workFile 201 = .ok (.ishl, 1) := by decide +kernel
theorem dX4_workFile_202 : decode cX4_workFile 202 = .ok (.iastore, 1) := by decide +kernel
theorem dX4_workFile_203 : decode cX4_workFile 203 = .ok (.aload_n 0, 1) := by decide +kernel
theorem dX4_workFile_204 : decode cX4_workFile 204 = .ok (.getfield 28, 3) := by decide +kernel
theorem dX4_workFile_207 : decode cX4_workFile 207 = .ok (.iload_n 1, 1) := by decide +kernel
theorem dX4_workFile_208 : decode cX4_workFile 208 = .ok (.iload 6, 2) := by decide +kernel
theorem dX4_workFile_210 : decode cX4_workFile 210 = .ok (.iastore, 1) := by decide +kernel
theorem dX4_workFile_211 : decode cX4_workFile 211 = .ok (.aload_n 0, 1) := by decide +kernel
theorem dX4_workFile_212 : decode cX4_workFile 212 = .ok (.getfield 34, 3) := by decide +kernel
theorem dX4_workFile_215 : decode cX4_workFile 215 = .ok (.iload_n 1, 1) := by decide +kernel
theorem dX4_workFile_216 : decode cX4_workFile 216 = .ok (.iload_n 2, 1) := by decide +kernel
theorem dX4_workFile_217 : decode cX4_workFile 217 = .ok (.iastore, 1) := by decide +kernel
theorem dX4_workFile_218 : decode cX4_workFile 218 = .ok (.iconst 0, 1) := by decide +kernel
theorem dX4_workFile_219 : decode cX4_workFile 219 = .ok (.ireturn, 1) := by decide +kernel
theorem dX4_workGiveUp_0 : decode cX4_workGiveUp 0 = .ok (.aload_n 0, 1) := by decide +kernel
theorem dX4_workGiveUp_1 : decode cX4_workGiveUp 1 = .ok (.getfield 61, 3) := by decide +kernel
theorem dX4_workGiveUp_4 : decode cX4_workGiveUp 4 = .ok (.getfield 108, 3) := by decide +kernel
theorem dX4_workGiveUp_7 : decode cX4_workGiveUp 7 = .ok (.iload_n 1, 1) := by decide +kernel
theorem dX4_workGiveUp_8 : decode cX4_workGiveUp 8 = .ok (.iaload, 1) := by decide +kernel
theorem dX4_workGiveUp_9 : decode cX4_workGiveUp 9 = .ok (.istore_n 2, 1) := by decide +kernel
theorem dX4_workGiveUp_10 : decode cX4_workGiveUp 10 = .ok (.aload_n 0, 1) := by decide +kernel
theorem dX4_workGiveUp_11 : decode cX4_workGiveUp 11 = .ok (.iload_n 2, 1) := by decide +kernel
theorem dX4_workGiveUp_12 : decode cX4_workGiveUp 12 = .ok (.aload_n 0, 1) := by decide +kernel
theorem dX4_workGiveUp_13 : decode cX4_workGiveUp 13 = .ok (.getfield 61, 3) := by decide +kernel
theorem dX4_workGiveUp_16 : decode cX4_workGiveUp 16 = .ok (.getfield 86, 3) := by decide +kernel
theorem dX4_workGiveUp_19 : decode cX4_workGiveUp 19 = .ok (.iload_n 1, 1) := by decide +kernel
theorem dX4_workGiveUp_20 : decode cX4_workGiveUp 20 = .ok (.iaload, 1) := by decide +kernel
theorem dX4_workGiveUp_21 : decode cX4_workGiveUp 21 = .ok (.invokevirtual 134, 3) := by decide +kernel
theorem dX4_workGiveUp_24 : decode cX4_workGiveUp 24 = .ok (.ifCond .ne 6, 3) := by decide +kernel
theorem dX4_workGiveUp_27 : decode cX4_workGiveUp 27 = .ok (.bipush 8, 2) := by decide +kernel
theorem dX4_workGiveUp_29 : decode cX4_workGiveUp 29 = .ok (.ireturn, 1) := by decide +kernel
theorem dX4_workGiveUp_30 : decode cX4_workGiveUp 30 = .ok (.aload_n 0, 1) := by decide +kernel
theorem dX4_workGiveUp_31 : decode cX4_workGiveUp 31 = .ok (.iload_n 2, 1) := by decide +kernel
theorem dX4_workGiveUp_32 : decode cX4_workGiveUp 32 = .ok (.invokevirtual 137, 3) := by decide +kernel
theorem dX4_workGiveUp_35 : decode cX4_workGiveUp 35 = .ok (.iconst 0, 1) := by decide +kernel
theorem dX4_workGiveUp_36 : decode cX4_workGiveUp 36 = .ok (.ireturn, 1) := by decide +kernel
theorem dX4_workContest_0 : decode cX4_workContest 0 = .ok (.aload_n 0, 1) := by decide +kernel
theorem dX4_workContest_1 : decode cX4_workContest 1 = .ok (.getfield 61, 3) := by decide +kernel
theorem dX4_workContest_4 : decode cX4_workContest 4 = .ok (.getfield 108, 3) := by decide +kernel
theorem dX4_workContest_7 : decode cX4_workContest 7 = .ok (.iload_n 1, 1) := by decide +kernel
theorem dX4_workContest_8 : decode cX4_workContest 8 = .ok (.iaload, 1) := by decide +kernel
theorem dX4_workContest_9 : decode cX4_workContest 9 = .ok (.istore_n 2, 1) := by decide +kernel
theorem dX4_workContest_10 : decode cX4_workContest 10 = .ok (.aload_n 0, 1) := by decide +kernel
theorem dX4_workContest_11 : decode cX4_workContest 11 = .ok (.getfield 61, 3) := by decide +kernel
theorem dX4_workContest_14 : decode cX4_workContest 14 = .ok (.getfield 76, 3) := by decide +kernel
theorem dX4_workContest_17 : decode cX4_workContest 17 = .ok (.iload_n 1, 1) := by decide +kernel
theorem dX4_workContest_18 : decode cX4_workContest 18 = .ok (.iaload, 1) := by decide +kernel
theorem dX4_workContest_19 : decode cX4_workContest 19 = .ok (.istore_n 3, 1) := by decide +kernel
theorem dX4_workContest_20 : decode cX4_workContest 20 = .ok (.aload_n 0, 1) := by decide +kernel
theorem dX4_workContest_21 : decode cX4_workContest 21 = .ok (.iload_n 2, 1) := by decide +kernel
theorem dX4_workContest_22 : decode cX4_workContest 22 = .ok (.invokevirtual 141, 3) := by decide +kernel
theorem dX4_workContest_25 : decode cX4_workContest 25 = .ok (.ifCond .ne 6, 3) := by decide +kernel
theorem dX4_workContest_28 : decode cX4_workContest 28 = .ok (.bipush 9, 2) := by decide +kernel
theorem dX4_workContest_30 : decode cX4_workContest 30 = .ok (.ireturn, 1) := by decide +kernel
theorem dX4_workContest_31 : decode cX4_workContest 31 = .ok (.aload_n 0, 1) := by decide +kernel
theorem dX4_workContest_32 : decode cX4_workContest 32 = .ok (.getfield 37, 3) := by decide +kernel
theorem dX4_workContest_35 : decode cX4_workContest 35 = .ok (.iload_n 2, 1) := by decide +kernel
theorem dX4_workContest_36 : decode cX4_workContest 36 = .ok (.iaload, 1) := by decide +kernel
theorem dX4_workContest_37 : decode cX4_workContest 37 = .ok (.istore 4, 2) := by decide +kernel
theorem dX4_workContest_39 : decode cX4_workContest 39 = .ok (.aload_n 0, 1) := by decide +kernel
theorem dX4_workContest_40 : decode cX4_workContest 40 = .ok (.getfield 22, 3) := by decide +kernel
theorem dX4_workContest_43 : decode cX4_workContest 43 = .ok (.iload 4, 2) := by decide +kernel
theorem dX4_workContest_45 : decode cX4_workContest 45 = .ok (.iaload, 1) := by decide +kernel
theorem dX4_workContest_46 : decode cX4_workContest 46 = .ok (.aload_n 0, 1) := by decide +kernel
theorem dX4_workContest_47 : decode cX4_workContest 47 = .ok (.getfield 61, 3) := by decide +kernel
theorem dX4_workContest_50 : decode cX4_workContest 50 = .ok (.getfield 86, 3) := by decide +kernel
theorem dX4_workContest_53 : decode cX4_workContest 53 = .ok (.iload_n 1, 1) := by decide +kernel
theorem dX4_workContest_54 : decode cX4_workContest 54 = .ok (.iaload, 1) := by decide +kernel
theorem dX4_workContest_55 : decode cX4_workContest 55 = .ok (.if_icmp .ne 6, 3) := by decide +kernel
theorem dX4_workContest_58 : decode cX4_workContest 58 = .ok (.bipush 10, 2) := by decide +kernel
theorem dX4_workContest_60 : decode cX4_workContest 60 = .ok (.ireturn, 1) := by decide +kernel
theorem dX4_workContest_61 : decode cX4_workContest 61 = .ok (.iload_n 3, 1) := by decide +kernel
theorem dX4_workContest_62 : decode cX4_workContest 62 = .ok (.aload_n 0, 1) := by decide +kernel
theorem dX4_workContest_63 : decode cX4_workContest 63 = .ok (.getfield 57, 3) := by decide +kernel
theorem dX4_workContest_66 : decode cX4_workContest 66 = .ok (.aload_n 0, 1) := by decide +kernel
theorem dX4_workContest_67 : decode cX4_workContest 67 = .ok (.getfield 28, 3) := by decide +kernel
theorem dX4_workContest_70 : decode cX4_workContest 70 = .ok (.iload 4, 2) := by decide +kernel
theorem dX4_workContest_72 : decode cX4_workContest 72 = .ok (.iaload, 1) := by decide +kernel
theorem dX4_workContest_73 : decode cX4_workContest 73 = .ok (.iconst 5, 1) := by decide +kernel
theorem dX4_workContest_74 : decode cX4_workContest 74 = .ok (.invokevirtual 121, 3) := by decide +kernel
theorem dX4_workContest_77 : decode cX4_workContest 77 = .ok (.isub, 1) := by decide +kernel
theorem dX4_workContest_78 : decode cX4_workContest 78 = .ok (.istore 5, 2) := by decide +kernel
theorem dX4_workContest_80 : decode cX4_workContest 80 = .ok (.aload_n 0, 1) := by decide +kernel
theorem dX4_workContest_81 : decode cX4_workContest 81 = .ok (.getfield 61, 3) := by decide +kernel
theorem dX4_workContest_84 : decode cX4_workContest 84 = .ok (.getfield 76, 3) := by decide +kernel
theorem dX4_workContest_87 : decode cX4_workContest 87 = .ok (.iload 4, 2) := by decide +kernel
theorem dX4_workContest_89 : decode cX4_workContest 89 = .ok (.iaload, 1) := by decide +kernel
theorem dX4_workContest_90 : decode cX4_workContest 90 = .ok (.iload 5, 2) := by decide +kernel
theorem dX4_workContest_92 : decode cX4_workContest 92 = .ok (.if_icmp .lt 6, 3) := by decide +kernel
theorem dX4_workContest_95 : decode cX4_workContest 95 = .ok (.bipush 11, 2) := by decide +kernel
theorem dX4_workContest_97 : decode cX4_workContest 97 = .ok (.ireturn, 1) := by decide +kernel
theorem dX4_workContest_98 : decode cX4_workContest 98 = .ok (.aload_n 0, 1) := by decide +kernel
theorem dX4_workContest_99 : decode cX4_workContest 99 = .ok (.iload 4, 2) := by decide +kernel
theorem dX4_workContest_101 : decode cX4_workContest 101 = .ok (.iload 5, 2) := by decide +kernel
theorem dX4_workContest_103 : decode cX4_workContest 103 = .ok (.iload_n 3, 1) := by decide +kernel
theorem dX4_workContest_104 : decode cX4_workContest 104 = .ok (.iconst 1, 1) := by decide +kernel
theorem dX4_workContest_105 : decode cX4_workContest 105 = .ok (.isub, 1) := by decide +kernel
theorem dX4_workContest_106 : decode cX4_workContest 106 = .ok (.invokevirtual 145, 3) := by decide +kernel
theorem dX4_workContest_109 : decode cX4_workContest 109 = .ok (.aload_n 0, 1) := by decide +kernel
theorem dX4_workContest_110 : decode cX4_workContest 110 = .ok (.getfield 149, 3) := by decide +kernel
theorem dX4_workContest_113 : decode cX4_workContest 113 = .ok (.ifCond .le 6, 3) := by decide +kernel
theorem dX4_workContest_116 : decode cX4_workContest 116 = .ok (.bipush 11, 2) := by decide +kernel
theorem dX4_workContest_118 : decode cX4_workContest 118 = .ok (.ireturn, 1) := by decide +kernel
theorem dX4_workContest_119 : decode cX4_workContest 119 = .ok (.aload_n 0, 1) := by decide +kernel
theorem dX4_workContest_120 : decode cX4_workContest 120 = .ok (.iload_n 2, 1) := by decide +kernel
theorem dX4_workContest_121 : decode cX4_workContest 121 = .ok (.invokevirtual 137, 3) := by decide +kernel
theorem dX4_workContest_124 : decode cX4_workContest 124 = .ok (.aload_n 0, 1) := by decide +kernel
theorem dX4_workContest_125 : decode cX4_workContest 125 = .ok (.getfield 40, 3) := by decide +kernel
theorem dX4_workContest_128 : decode cX4_workContest 128 = .ok (.iload_n 2, 1) := by decide +kernel
theorem dX4_workContest_129 : decode cX4_workContest 129 = .ok (.aload_n 0, 1) := by decide +kernel
theorem dX4_workContest_130 : decode cX4_workContest 130 = .ok (.getfield 61, 3) := by decide +kernel
theorem dX4_workContest_133 : decode cX4_workContest 133 = .ok (.getfield 86, 3) := by decide +kernel
theorem dX4_workContest_136 : decode cX4_workContest 136 = .ok (.iload_n 1, 1) := by decide +kernel
theorem dX4_workContest_137 : decode cX4_workContest 137 = .ok (.iaload, 1) := by decide +kernel
theorem dX4_workContest_138 : decode cX4_workContest 138 = .ok (.iastore, 1) := by decide +kernel
theorem dX4_workContest_139 : decode cX4_workContest 139 = .ok (.aload_n 0, 1) := by decide +kernel
theorem dX4_workContest_140 : decode cX4_workContest 140 = .ok (.getfield 43, 3) := by decide +kernel
theorem dX4_workContest_143 : decode cX4_workContest 143 = .ok (.iload_n 2, 1) := by decide +kernel
theorem dX4_workContest_144 : decode cX4_workContest 144 = .ok (.iload_n 3, 1) := by decide +kernel
theorem dX4_workContest_145 : decode cX4_workContest 145 = .ok (.aload_n 0, 1) := by decide +kernel
theorem dX4_workContest_146 : decode cX4_workContest 146 = .ok (.getfield 57, 3) := by decide +kernel
theorem dX4_workContest_149 : decode cX4_workContest 149 = .ok (.aload_n 0, 1) := by decide +kernel
theorem dX4_workContest_150 : decode cX4_workContest 150 = .ok (.getfield 28, 3) := by decide +kernel
theorem dX4_workContest_153 : decode cX4_workContest 153 = .ok (.iload 4, 2) := by decide +kernel
theorem dX4_workContest_155 : decode cX4_workContest 155 = .ok (.iaload, 1) := by decide +kernel
theorem dX4_workContest_156 : decode cX4_workContest 156 = .ok (.bipush 6, 2) := by decide +kernel
theorem dX4_workContest_158 : decode cX4_workContest 158 = .ok (.invokevirtual 121, 3) := by decide +kernel
theorem dX4_workContest_161 : decode cX4_workContest 161 = .ok (.iadd, 1) := by decide +kernel
theorem dX4_workContest_162 : decode cX4_workContest 162 = .ok (.iastore, 1) := by decide +kernel
theorem dX4_workContest_163 : decode cX4_workContest 163 = .ok (.iconst 0, 1) := by decide +kernel
theorem dX4_workContest_164 : decode cX4_workContest 164 = .ok (.ireturn, 1) := by decide +kernel
theorem dX4_workProve_0 : decode cX4_workProve 0 = .ok (.aload_n 0, 1) := by decide +kernel
theorem dX4_workProve_1 : decode cX4_workProve 1 = .ok (.getfield 61, 3) := by decide +kernel
theorem dX4_workProve_4 : decode cX4_workProve 4 = .ok (.getfield 108, 3) := by decide +kernel
theorem dX4_workProve_7 : decode cX4_workProve 7 = .ok (.iload_n 1, 1) := by decide +kernel
theorem dX4_workProve_8 : decode cX4_workProve 8 = .ok (.iaload, 1) := by decide +kernel
theorem dX4_workProve_9 : decode cX4_workProve 9 = .ok (.istore_n 2, 1) := by decide +kernel
theorem dX4_workProve_10 : decode cX4_workProve 10 = .ok (.aload_n 0, 1) := by decide +kernel
theorem dX4_workProve_11 : decode cX4_workProve 11 = .ok (.getfield 61, 3) := by decide +kernel
theorem dX4_workProve_14 : decode cX4_workProve 14 = .ok (.getfield 76, 3) := by decide +kernel
theorem dX4_workProve_17 : decode cX4_workProve 17 = .ok (.iload_n 1, 1) := by decide +kernel
theorem dX4_workProve_18 : decode cX4_workProve 18 = .ok (.iaload, 1) := by decide +kernel
theorem dX4_workProve_19 : decode cX4_workProve 19 = .ok (.istore_n 3, 1) := by decide +kernel
theorem dX4_workProve_20 : decode cX4_workProve 20 = .ok (.aload_n 0, 1) := by decide +kernel
theorem dX4_workProve_21 : decode cX4_workProve 21 = .ok (.iload_n 2, 1) := by decide +kernel
theorem dX4_workProve_22 : decode cX4_workProve 22 = .ok (.aload_n 0, 1) := by decide +kernel
theorem dX4_workProve_23 : decode cX4_workProve 23 = .ok (.getfield 61, 3) := by decide +kernel
theorem dX4_workProve_26 : decode cX4_workProve 26 = .ok (.getfield 86, 3) := by decide +kernel
theorem dX4_workProve_29 : decode cX4_workProve 29 = .ok (.iload_n 1, 1) := by decide +kernel
theorem dX4_workProve_30 : decode cX4_workProve 30 = .ok (.iaload, 1) := by decide +kernel
theorem dX4_workProve_31 : decode cX4_workProve 31 = .ok (.invokevirtual 134, 3) := by decide +kernel
theorem dX4_workProve_34 : decode cX4_workProve 34 = .ok (.ifCond .ne 6, 3) := by decide +kernel
theorem dX4_workProve_37 : decode cX4_workProve 37 = .ok (.bipush 8, 2) := by decide +kernel
theorem dX4_workProve_39 : decode cX4_workProve 39 = .ok (.ireturn, 1) := by decide +kernel
theorem dX4_workProve_40 : decode cX4_workProve 40 = .ok (.aload_n 0, 1) := by decide +kernel
theorem dX4_workProve_41 : decode cX4_workProve 41 = .ok (.getfield 37, 3) := by decide +kernel
theorem dX4_workProve_44 : decode cX4_workProve 44 = .ok (.iload_n 2, 1) := by decide +kernel
theorem dX4_workProve_45 : decode cX4_workProve 45 = .ok (.iaload, 1) := by decide +kernel
theorem dX4_workProve_46 : decode cX4_workProve 46 = .ok (.istore 4, 2) := by decide +kernel
theorem dX4_workProve_48 : decode cX4_workProve 48 = .ok (.aload_n 0, 1) := by decide +kernel
theorem dX4_workProve_49 : decode cX4_workProve 49 = .ok (.getfield 28, 3) := by decide +kernel
theorem dX4_workProve_52 : decode cX4_workProve 52 = .ok (.iload 4, 2) := by decide +kernel
theorem dX4_workProve_54 : decode cX4_workProve 54 = .ok (.iaload, 1) := by decide +kernel
theorem dX4_workProve_55 : decode cX4_workProve 55 = .ok (.istore 5, 2) := by decide +kernel
theorem dX4_workProve_57 : decode cX4_workProve 57 = .ok (.iload_n 3, 1) := by decide +kernel
theorem dX4_workProve_58 : decode cX4_workProve 58 = .ok (.aload_n 0, 1) := by decide +kernel
theorem dX4_workProve_59 : decode cX4_workProve 59 = .ok (.getfield 61, 3) := by decide +kernel
theorem dX4_workProve_62 : decode cX4_workProve 62 = .ok (.getfield 76, 3) := by decide +kernel
theorem dX4_workProve_65 : decode cX4_workProve 65 = .ok (.iload 4, 2) := by decide +kernel
theorem dX4_workProve_67 : decode cX4_workProve 67 = .ok (.iaload, 1) := by decide +kernel
theorem dX4_workProve_68 : decode cX4_workProve 68 = .ok (.isub, 1) := by decide +kernel
theorem dX4_workProve_69 : decode cX4_workProve 69 = .ok (.aload_n 0, 1) := by decide +kernel
theorem dX4_workProve_70 : decode cX4_workProve 70 = .ok (.getfield 57, 3) := by decide +kernel
theorem dX4_workProve_73 : decode cX4_workProve 73 = .ok (.iload 5, 2) := by decide +kernel
theorem dX4_workProve_75 : decode cX4_workProve 75 = .ok (.iconst 4, 1) := by decide +kernel
theorem dX4_workProve_76 : decode cX4_workProve 76 = .ok (.invokevirtual 121, 3) := by decide +kernel
theorem dX4_workProve_79 : decode cX4_workProve 79 = .ok (.if_icmp .le 6, 3) := by decide +kernel
theorem dX4_workProve_82 : decode cX4_workProve 82 = .ok (.bipush 12, 2) := by decide +kernel
theorem dX4_workProve_84 : decode cX4_workProve 84 = .ok (.ireturn, 1) := by decide +kernel
theorem dX4_workProve_85 : decode cX4_workProve 85 = .ok (.aload_n 0, 1) := by decide +kernel
theorem dX4_workProve_86 : decode cX4_workProve 86 = .ok (.iload 4, 2) := by decide +kernel
theorem dX4_workProve_88 : decode cX4_workProve 88 = .ok (.aload_n 0, 1) := by decide +kernel
theorem dX4_workProve_89 : decode cX4_workProve 89 = .ok (.getfield 61, 3) := by decide +kernel
theorem dX4_workProve_92 : decode cX4_workProve 92 = .ok (.getfield 76, 3) := by decide +kernel
theorem dX4_workProve_95 : decode cX4_workProve 95 = .ok (.iload 4, 2) := by decide +kernel
theorem dX4_workProve_97 : decode cX4_workProve 97 = .ok (.iaload, 1) := by decide +kernel
theorem dX4_workProve_98 : decode cX4_workProve 98 = .ok (.iload_n 3, 1) := by decide +kernel
theorem dX4_workProve_99 : decode cX4_workProve 99 = .ok (.iconst 1, 1) := by decide +kernel
theorem dX4_workProve_100 : decode cX4_workProve 100 = .ok (.isub, 1) := by decide +kernel
theorem dX4_workProve_101 : decode cX4_workProve 101 = .ok (.invokevirtual 145, 3) := by decide +kernel
theorem dX4_workProve_104 : decode cX4_workProve 104 = .ok (.aload_n 0, 1) := by decide +kernel
theorem dX4_workProve_105 : decode cX4_workProve 105 = .ok (.getfield 149, 3) := by decide +kernel
theorem dX4_workProve_108 : decode cX4_workProve 108 = .ok (.aload_n 0, 1) := by decide +kernel
theorem dX4_workProve_109 : decode cX4_workProve 109 = .ok (.getfield 57, 3) := by decide +kernel
theorem dX4_workProve_112 : decode cX4_workProve 112 = .ok (.iload 5, 2) := by decide +kernel
theorem dX4_workProve_114 : decode cX4_workProve 114 = .ok (.iconst 1, 1) := by decide +kernel
theorem dX4_workProve_115 : decode cX4_workProve 115 = .ok (.invokevirtual 121, 3) := by decide +kernel
theorem dX4_workProve_118 : decode cX4_workProve 118 = .ok (.if_icmp .ge 6, 3) := by decide +kernel
theorem dX4_workProve_121 : decode cX4_workProve 121 = .ok (.bipush 13, 2) := by decide +kernel
theorem dX4_workProve_123 : decode cX4_workProve 123 = .ok (.ireturn, 1) := by decide +kernel
theorem dX4_workProve_124 : decode cX4_workProve 124 = .ok (.aload_n 0, 1) := by decide +kernel
theorem dX4_workProve_125 : decode cX4_workProve 125 = .ok (.getfield 152, 3) := by decide +kernel
theorem dX4_workProve_128 : decode cX4_workProve 128 = .ok (.aload_n 0, 1) := by decide +kernel
theorem dX4_workProve_129 : decode cX4_workProve 129 = .ok (.getfield 57, 3) := by decide +kernel
theorem dX4_workProve_132 : decode cX4_workProve 132 = .ok (.iload 5, 2) := by decide +kernel
theorem dX4_workProve_134 : decode cX4_workProve 134 = .ok (.iconst 2, 1) := by decide +kernel
theorem dX4_workProve_135 : decode cX4_workProve 135 = .ok (.invokevirtual 121, 3) := by decide +kernel
theorem dX4_workProve_138 : decode cX4_workProve 138 = .ok (.if_icmp .le 6, 3) := by decide +kernel
theorem dX4_workProve_141 : decode cX4_workProve 141 = .ok (.bipush 14, 2) := by decide +kernel
theorem dX4_workProve_143 : decode cX4_workProve 143 = .ok (.ireturn, 1) := by decide +kernel
theorem dX4_workProve_144 : decode cX4_workProve 144 = .ok (.aload_n 0, 1) := by decide +kernel
theorem dX4_workProve_145 : decode cX4_workProve 145 = .ok (.iload_n 2, 1) := by decide +kernel
theorem dX4_workProve_146 : decode cX4_workProve 146 = .ok (.invokevirtual 155, 3) := by decide +kernel
theorem dX4_workProve_149 : decode cX4_workProve 149 = .ok (.aload_n 0, 1) := by decide +kernel
theorem dX4_workProve_150 : decode cX4_workProve 150 = .ok (.getfield 57, 3) := by decide +kernel
theorem dX4_workProve_153 : decode cX4_workProve 153 = .ok (.iload 5, 2) := by decide +kernel
theorem dX4_workProve_155 : decode cX4_workProve 155 = .ok (.iconst 3, 1) := by decide +kernel
theorem dX4_workProve_156 : decode cX4_workProve 156 = .ok (.invokevirtual 121, 3) := by decide +kernel
theorem dX4_workProve_159 : decode cX4_workProve 159 = .ok (.if_icmp .ge 6, 3) := by decide +kernel
theorem dX4_workProve_162 : decode cX4_workProve 162 = .ok (.bipush 15, 2) := by decide +kernel
theorem dX4_workProve_164 : decode cX4_workProve 164 = .ok (.ireturn, 1) := by decide +kernel
theorem dX4_workProve_165 : decode cX4_workProve 165 = .ok (.aload_n 0, 1) := by decide +kernel
theorem dX4_workProve_166 : decode cX4_workProve 166 = .ok (.getfield 19, 3) := by decide +kernel
theorem dX4_workProve_169 : decode cX4_workProve 169 = .ok (.iload 4, 2) := by decide +kernel
theorem dX4_workProve_171 : decode cX4_workProve 171 = .ok (.iconst 2, 1) := by decide +kernel
theorem dX4_workProve_172 : decode cX4_workProve 172 = .ok (.iastore, 1) := by decide +kernel
theorem dX4_workProve_173 : decode cX4_workProve 173 = .ok (.aload_n 0, 1) := by decide +kernel
theorem dX4_workProve_174 : decode cX4_workProve 174 = .ok (.getfield 31, 3) := by decide +kernel
theorem dX4_workProve_177 : decode cX4_workProve 177 = .ok (.iload 4, 2) := by decide +kernel
theorem dX4_workProve_179 : decode cX4_workProve 179 = .ok (.iload_n 3, 1) := by decide +kernel
theorem dX4_workProve_180 : decode cX4_workProve 180 = .ok (.aload_n 0, 1) := by decide +kernel
theorem dX4_workProve_181 : decode cX4_workProve 181 = .ok (.getfield 57, 3) := by decide +kernel
theorem dX4_workProve_184 : decode cX4_workProve 184 = .ok (.iload 5, 2) := by decide +kernel
theorem dX4_workProve_186 : decode cX4_workProve 186 = .ok (.bipush 8, 2) := by decide +kernel
theorem dX4_workProve_188 : decode cX4_workProve 188 = .ok (.invokevirtual 121, 3) := by decide +kernel
theorem dX4_workProve_191 : decode cX4_workProve 191 = .ok (.iadd, 1) := by decide +kernel
theorem dX4_workProve_192 : decode cX4_workProve 192 = .ok (.iastore, 1) := by decide +kernel
theorem dX4_workProve_193 : decode cX4_workProve 193 = .ok (.iconst 0, 1) := by decide +kernel
theorem dX4_workProve_194 : decode cX4_workProve 194 = .ok (.ireturn, 1) := by decide +kernel
theorem dX4_workDeath_0 : decode cX4_workDeath 0 = .ok (.aload_n 0, 1) := by decide +kernel
theorem dX4_workDeath_1 : decode cX4_workDeath 1 = .ok (.getfield 61, 3) := by decide +kernel
theorem dX4_workDeath_4 : decode cX4_workDeath 4 = .ok (.getfield 86, 3) := by decide +kernel
theorem dX4_workDeath_7 : decode cX4_workDeath 7 = .ok (.iload_n 1, 1) := by decide +kernel
theorem dX4_workDeath_8 : decode cX4_workDeath 8 = .ok (.iaload, 1) := by decide +kernel
theorem dX4_workDeath_9 : decode cX4_workDeath 9 = .ok (.istore_n 2, 1) := by decide +kernel
theorem dX4_workDeath_10 : decode cX4_workDeath 10 = .ok (.aload_n 0, 1) := by decide +kernel
theorem dX4_workDeath_11 : decode cX4_workDeath 11 = .ok (.getfield 61, 3) := by decide +kernel
theorem dX4_workDeath_14 : decode cX4_workDeath 14 = .ok (.getfield 158, 3) := by decide +kernel
theorem dX4_workDeath_17 : decode cX4_workDeath 17 = .ok (.iload_n 1, 1) := by decide +kernel
theorem dX4_workDeath_18 : decode cX4_workDeath 18 = .ok (.iaload, 1) := by decide +kernel
theorem dX4_workDeath_19 : decode cX4_workDeath 19 = .ok (.istore_n 3, 1) := by decide +kernel
theorem dX4_workDeath_20 : decode cX4_workDeath 20 = .ok (.iload_n 3, 1) := by decide +kernel
theorem dX4_workDeath_21 : decode cX4_workDeath 21 = .ok (.iload_n 2, 1) := by decide +kernel
theorem dX4_workDeath_22 : decode cX4_workDeath 22 = .ok (.if_icmp .eq 12, 3) := by decide +kernel
theorem dX4_workDeath_25 : decode cX4_workDeath 25 = .ok (.aload_n 0, 1) := by decide +kernel
theorem dX4_workDeath_26 : decode cX4_workDeath 26 = .ok (.getfield 46, 3) := by decide +kernel
theorem dX4_workDeath_29 : decode cX4_workDeath 29 = .ok (.iload_n 3, 1) := by decide +kernel
theorem dX4_workDeath_30 : decode cX4_workDeath 30 = .ok (.baload, 1) := by decide +kernel
theorem dX4_workDeath_31 : decode cX4_workDeath 31 = .ok (.ifCond .eq 6, 3) := by decide +kernel
theorem dX4_workDeath_34 : decode cX4_workDeath 34 = .ok (.bipush 16, 2) := by decide +kernel
theorem dX4_workDeath_36 : decode cX4_workDeath 36 = .ok (.ireturn, 1) := by decide +kernel
theorem dX4_workDeath_37 : decode cX4_workDeath 37 = .ok (.aload_n 0, 1) := by decide +kernel
theorem dX4_workDeath_38 : decode cX4_workDeath 38 = .ok (.getfield 46, 3) := by decide +kernel
theorem dX4_workDeath_41 : decode cX4_workDeath 41 = .ok (.iload_n 2, 1) := by decide +kernel
theorem dX4_workDeath_42 : decode cX4_workDeath 42 = .ok (.iconst 1, 1) := by decide +kernel
theorem dX4_workDeath_43 : decode cX4_workDeath 43 = .ok (.bastore, 1) := by decide +kernel
theorem dX4_workDeath_44 : decode cX4_workDeath 44 = .ok (.iconst 0, 1) := by decide +kernel
theorem dX4_workDeath_45 : decode cX4_workDeath 45 = .ok (.istore 4, 2) := by decide +kernel
theorem dX4_workDeath_47 : decode cX4_workDeath 47 = .ok (.iload 4, 2) := by decide +kernel
theorem dX4_workDeath_49 : decode cX4_workDeath 49 = .ok (.bipush 64, 2) := by decide +kernel
theorem dX4_workDeath_51 : decode cX4_workDeath 51 = .ok (.if_icmp .ge 50, 3) := by decide +kernel
theorem dX4_workDeath_54 : decode cX4_workDeath 54 = .ok (.aload_n 0, 1) := by decide +kernel
theorem dX4_workDeath_55 : decode cX4_workDeath 55 = .ok (.iload 4, 2) := by decide +kernel
theorem dX4_workDeath_57 : decode cX4_workDeath 57 = .ok (.invokevirtual 161, 3) := by decide +kernel
theorem dX4_workDeath_60 : decode cX4_workDeath 60 = .ok (.iload_n 2, 1) := by decide +kernel
theorem dX4_workDeath_61 : decode cX4_workDeath 61 = .ok (.if_icmp .ne 34, 3) := by decide +kernel
theorem dX4_workDeath_64 : decode cX4_workDeath 64 = .ok (.aload_n 0, 1) := by decide +kernel
theorem dX4_workDeath_65 : decode cX4_workDeath 65 = .ok (.getfield 22, 3) := by decide +kernel
theorem dX4_workDeath_68 : decode cX4_workDeath 68 = .ok (.aload_n 0, 1) := by decide +kernel
theorem dX4_workDeath_69 : decode cX4_workDeath 69 = .ok (.getfield 37, 3) := by decide +kernel
theorem dX4_workDeath_72 : decode cX4_workDeath 72 = .ok (.iload 4, 2) := by decide +kernel
theorem dX4_workDeath_74 : decode cX4_workDeath 74 = .ok (.iaload, 1) := by decide +kernel
theorem dX4_workDeath_75 : decode cX4_workDeath 75 = .ok (.iload_n 3, 1) := by decide +kernel
theorem dX4_workDeath_76 : decode cX4_workDeath 76 = .ok (.iastore, 1) := by decide +kernel
theorem dX4_workDeath_77 : decode cX4_workDeath 77 = .ok (.aload_n 0, 1) := by decide +kernel
theorem dX4_workDeath_78 : decode cX4_workDeath 78 = .ok (.getfield 25, 3) := by decide +kernel
theorem dX4_workDeath_81 : decode cX4_workDeath 81 = .ok (.aload_n 0, 1) := by decide +kernel
theorem dX4_workDeath_82 : decode cX4_workDeath 82 = .ok (.getfield 37, 3) := by decide +kernel
theorem dX4_workDeath_85 : decode cX4_workDeath 85 = .ok (.iload 4, 2) := by decide +kernel
theorem dX4_workDeath_87 : decode cX4_workDeath 87 = .ok (.iaload, 1) := by decide +kernel
theorem dX4_workDeath_88 : decode cX4_workDeath 88 = .ok (.dup2, 1) := by decide +kernel
theorem dX4_workDeath_89 : decode cX4_workDeath 89 = .ok (.iaload, 1) := by decide +kernel
theorem dX4_workDeath_90 : decode cX4_workDeath 90 = .ok (.iconst 1, 1) := by decide +kernel
theorem dX4_workDeath_91 : decode cX4_workDeath 91 = .ok (.iload_n 3, 1) := by decide +kernel
theorem dX4_workDeath_92 : decode cX4_workDeath 92 = .ok (.ishl, 1) := by decide +kernel
theorem dX4_workDeath_93 : decode cX4_workDeath 93 = .ok (.ior, 1) := by decide +kernel
theorem dX4_workDeath_94 : decode cX4_workDeath 94 = .ok (.iastore, 1) := by decide +kernel
theorem dX4_workDeath_95 : decode cX4_workDeath 95 = .ok (.iinc 4 1, 3) := by decide +kernel
theorem dX4_workDeath_98 : decode cX4_workDeath 98 = .ok (.goto (-51), 3) := by decide +kernel
theorem dX4_workDeath_101 : decode cX4_workDeath 101 = .ok (.iconst 0, 1) := by decide +kernel
theorem dX4_workDeath_102 : decode cX4_workDeath 102 = .ok (.ireturn, 1) := by decide +kernel
theorem dX4_end_0 : decode cX4_end 0 = .ok (.aload_n 0, 1) := by decide +kernel
theorem dX4_end_1 : decode cX4_end 1 = .ok (.getfield 19, 3) := by decide +kernel
theorem dX4_end_4 : decode cX4_end 4 = .ok (.aload_n 0, 1) := by decide +kernel
theorem dX4_end_5 : decode cX4_end 5 = .ok (.getfield 37, 3) := by decide +kernel
theorem dX4_end_8 : decode cX4_end 8 = .ok (.iload_n 1, 1) := by decide +kernel
theorem dX4_end_9 : decode cX4_end 9 = .ok (.iaload, 1) := by decide +kernel
theorem dX4_end_10 : decode cX4_end 10 = .ok (.iconst 3, 1) := by decide +kernel
theorem dX4_end_11 : decode cX4_end 11 = .ok (.iastore, 1) := by decide +kernel
theorem dX4_end_12 : decode cX4_end 12 = .ok (.aload_n 0, 1) := by decide +kernel
theorem dX4_end_13 : decode cX4_end 13 = .ok (.getfield 37, 3) := by decide +kernel
theorem dX4_end_16 : decode cX4_end 16 = .ok (.iload_n 1, 1) := by decide +kernel
theorem dX4_end_17 : decode cX4_end 17 = .ok (.iconst (-1), 1) := by decide +kernel
theorem dX4_end_18 : decode cX4_end 18 = .ok (.iastore, 1) := by decide +kernel
theorem dX4_end_19 : decode cX4_end 19 = .ok (.return_, 1) := by decide +kernel
theorem dX4_isRailroads_0 : decode cX4_isRailroads 0 = .ok (.iload_n 1, 1) := by decide +kernel
theorem dX4_isRailroads_1 : decode cX4_isRailroads 1 = .ok (.bipush 8, 2) := by decide +kernel
theorem dX4_isRailroads_3 : decode cX4_isRailroads 3 = .ok (.irem, 1) := by decide +kernel
theorem dX4_isRailroads_4 : decode cX4_isRailroads 4 = .ok (.istore_n 3, 1) := by decide +kernel
theorem dX4_isRailroads_5 : decode cX4_isRailroads 5 = .ok (.iload_n 1, 1) := by decide +kernel
theorem dX4_isRailroads_6 : decode cX4_isRailroads 6 = .ok (.bipush 8, 2) := by decide +kernel
theorem dX4_isRailroads_8 : decode cX4_isRailroads 8 = .ok (.idiv, 1) := by decide +kernel
theorem dX4_isRailroads_9 : decode cX4_isRailroads 9 = .ok (.istore 4, 2) := by decide +kernel
theorem dX4_isRailroads_11 : decode cX4_isRailroads 11 = .ok (.iload_n 2, 1) := by decide +kernel
theorem dX4_isRailroads_12 : decode cX4_isRailroads 12 = .ok (.aload_n 0, 1) := by decide +kernel
theorem dX4_isRailroads_13 : decode cX4_isRailroads 13 = .ok (.getfield 9, 3) := by decide +kernel
theorem dX4_isRailroads_16 : decode cX4_isRailroads 16 = .ok (.if_icmp .lt 21, 3) := by decide +kernel
theorem dX4_isRailroads_19 : decode cX4_isRailroads 19 = .ok (.iload_n 3, 1) := by decide +kernel
theorem dX4_isRailroads_20 : decode cX4_isRailroads 20 = .ok (.iconst 2, 1) := by decide +kernel
theorem dX4_isRailroads_21 : decode cX4_isRailroads 21 = .ok (.idiv, 1) := by decide +kernel
theorem dX4_isRailroads_22 : decode cX4_isRailroads 22 = .ok (.iload 4, 2) := by decide +kernel
theorem dX4_isRailroads_24 : decode cX4_isRailroads 24 = .ok (.iconst 2, 1) := by decide +kernel
theorem dX4_isRailroads_25 : decode cX4_isRailroads 25 = .ok (.idiv, 1) := by decide +kernel
theorem dX4_isRailroads_26 : decode cX4_isRailroads 26 = .ok (.iadd, 1) := by decide +kernel
theorem dX4_isRailroads_27 : decode cX4_isRailroads 27 = .ok (.iconst 2, 1) := by decide +kernel
theorem dX4_isRailroads_28 : decode cX4_isRailroads 28 = .ok (.irem, 1) := by decide +kernel
theorem dX4_isRailroads_29 : decode cX4_isRailroads 29 = .ok (.iconst 1, 1) := by decide +kernel
theorem dX4_isRailroads_30 : decode cX4_isRailroads 30 = .ok (.if_icmp .ne 7, 3) := by decide +kernel
theorem dX4_isRailroads_33 : decode cX4_isRailroads 33 = .ok (.iconst 1, 1) := by decide +kernel
theorem dX4_isRailroads_34 : decode cX4_isRailroads 34 = .ok (.goto 4, 3) := by decide +kernel
theorem dX4_isRailroads_37 : decode cX4_isRailroads 37 = .ok (.iconst 0, 1) := by decide +kernel
theorem dX4_isRailroads_38 : decode cX4_isRailroads 38 = .ok (.ireturn, 1) := by decide +kernel
theorem dX4_isHeldLive_0 : decode cX4_isHeldLive 0 = .ok (.aload_n 0, 1) := by decide +kernel
theorem dX4_isHeldLive_1 : decode cX4_isHeldLive 1 = .ok (.getfield 37, 3) := by decide +kernel
theorem dX4_isHeldLive_4 : decode cX4_isHeldLive 4 = .ok (.iload_n 1, 1) := by decide +kernel
theorem dX4_isHeldLive_5 : decode cX4_isHeldLive 5 = .ok (.iaload, 1) := by decide +kernel
theorem dX4_isHeldLive_6 : decode cX4_isHeldLive 6 = .ok (.iconst (-1), 1) := by decide +kernel
theorem dX4_isHeldLive_7 : decode cX4_isHeldLive 7 = .ok (.if_icmp .eq 22, 3) := by decide +kernel
theorem dX4_isHeldLive_10 : decode cX4_isHeldLive 10 = .ok (.aload_n 0, 1) := by decide +kernel
theorem dX4_isHeldLive_11 : decode cX4_isHeldLive 11 = .ok (.getfield 19, 3) := by decide +kernel
theorem dX4_isHeldLive_14 : decode cX4_isHeldLive 14 = .ok (.aload_n 0, 1) := by decide +kernel
theorem dX4_isHeldLive_15 : decode cX4_isHeldLive 15 = .ok (.getfield 37, 3) := by decide +kernel
theorem dX4_isHeldLive_18 : decode cX4_isHeldLive 18 = .ok (.iload_n 1, 1) := by decide +kernel
theorem dX4_isHeldLive_19 : decode cX4_isHeldLive 19 = .ok (.iaload, 1) := by decide +kernel
theorem dX4_isHeldLive_20 : decode cX4_isHeldLive 20 = .ok (.iaload, 1) := by decide +kernel
theorem dX4_isHeldLive_21 : decode cX4_isHeldLive 21 = .ok (.iconst 1, 1) := by decide +kernel
theorem dX4_isHeldLive_22 : decode cX4_isHeldLive 22 = .ok (.if_icmp .ne 7, 3) := by decide +kernel
theorem dX4_isHeldLive_25 : decode cX4_isHeldLive 25 = .ok (.iconst 1, 1) := by decide +kernel
theorem dX4_isHeldLive_26 : decode cX4_isHeldLive 26 = .ok (.goto 4, 3) := by decide +kernel
theorem dX4_isHeldLive_29 : decode cX4_isHeldLive 29 = .ok (.iconst 0, 1) := by decide +kernel
theorem dX4_isHeldLive_30 : decode cX4_isHeldLive 30 = .ok (.ireturn, 1) := by decide +kernel
theorem dX4_isHeldLiveBy_0 : decode cX4_isHeldLiveBy 0 = .ok (.aload_n 0, 1) := by decide +kernel
theorem dX4_isHeldLiveBy_1 : decode cX4_isHeldLiveBy 1 = .ok (.iload_n 1, 1) := by decide +kernel
theorem dX4_isHeldLiveBy_2 : decode cX4_isHeldLiveBy 2 = .ok (.invokevirtual 141, 3) := by decide +kernel
theorem dX4_isHeldLiveBy_5 : decode cX4_isHeldLiveBy 5 = .ok (.ifCond .eq 22, 3) := by decide +kernel
theorem dX4_isHeldLiveBy_8 : decode cX4_isHeldLiveBy 8 = .ok (.aload_n 0, 1) := by decide +kernel
theorem dX4_isHeldLiveBy_9 : decode cX4_isHeldLiveBy 9 = .ok (.getfield 22, 3) := by decide +kernel
theorem dX4_isHeldLiveBy_12 : decode cX4_isHeldLiveBy 12 = .ok (.aload_n 0, 1) := by decide +kernel
theorem dX4_isHeldLiveBy_13 : decode cX4_isHeldLiveBy 13 = .ok (.getfield 37, 3) := by decide +kernel
theorem dX4_isHeldLiveBy_16 : decode cX4_isHeldLiveBy 16 = .ok (.iload_n 1, 1) := by decide +kernel
theorem dX4_isHeldLiveBy_17 : decode cX4_isHeldLiveBy 17 = .ok (.iaload, 1) := by decide +kernel
theorem dX4_isHeldLiveBy_18 : decode cX4_isHeldLiveBy 18 = .ok (.iaload, 1) := by decide +kernel
theorem dX4_isHeldLiveBy_19 : decode cX4_isHeldLiveBy 19 = .ok (.iload_n 2, 1) := by decide +kernel
theorem dX4_isHeldLiveBy_20 : decode cX4_isHeldLiveBy 20 = .ok (.if_icmp .ne 7, 3) := by decide +kernel
theorem dX4_isHeldLiveBy_23 : decode cX4_isHeldLiveBy 23 = .ok (.iconst 1, 1) := by decide +kernel
theorem dX4_isHeldLiveBy_24 : decode cX4_isHeldLiveBy 24 = .ok (.goto 4, 3) := by decide +kernel
theorem dX4_isHeldLiveBy_27 : decode cX4_isHeldLiveBy 27 = .ok (.iconst 0, 1) := by decide +kernel
theorem dX4_isHeldLiveBy_28 : decode cX4_isHeldLiveBy 28 = .ok (.ireturn, 1) := by decide +kernel
theorem dX4_holderOf_0 : decode cX4_holderOf 0 = .ok (.aload_n 0, 1) := by decide +kernel
theorem dX4_holderOf_1 : decode cX4_holderOf 1 = .ok (.getfield 37, 3) := by decide +kernel
theorem dX4_holderOf_4 : decode cX4_holderOf 4 = .ok (.iload_n 1, 1) := by decide +kernel
theorem dX4_holderOf_5 : decode cX4_holderOf 5 = .ok (.iaload, 1) := by decide +kernel
theorem dX4_holderOf_6 : decode cX4_holderOf 6 = .ok (.iconst (-1), 1) := by decide +kernel
theorem dX4_holderOf_7 : decode cX4_holderOf 7 = .ok (.if_icmp .ne 7, 3) := by decide +kernel
theorem dX4_holderOf_10 : decode cX4_holderOf 10 = .ok (.iconst (-1), 1) := by decide +kernel
theorem dX4_holderOf_11 : decode cX4_holderOf 11 = .ok (.goto 14, 3) := by decide +kernel
theorem dX4_holderOf_14 : decode cX4_holderOf 14 = .ok (.aload_n 0, 1) := by decide +kernel
theorem dX4_holderOf_15 : decode cX4_holderOf 15 = .ok (.getfield 22, 3) := by decide +kernel
theorem dX4_holderOf_18 : decode cX4_holderOf 18 = .ok (.aload_n 0, 1) := by decide +kernel
theorem dX4_holderOf_19 : decode cX4_holderOf 19 = .ok (.getfield 37, 3) := by decide +kernel
theorem dX4_holderOf_22 : decode cX4_holderOf 22 = .ok (.iload_n 1, 1) := by decide +kernel
theorem dX4_holderOf_23 : decode cX4_holderOf 23 = .ok (.iaload, 1) := by decide +kernel
theorem dX4_holderOf_24 : decode cX4_holderOf 24 = .ok (.iaload, 1) := by decide +kernel
theorem dX4_holderOf_25 : decode cX4_holderOf 25 = .ok (.ireturn, 1) := by decide +kernel
theorem dX4_standing_0 : decode cX4_standing 0 = .ok (.aload_n 0, 1) := by decide +kernel
theorem dX4_standing_1 : decode cX4_standing 1 = .ok (.getfield 37, 3) := by decide +kernel
theorem dX4_standing_4 : decode cX4_standing 4 = .ok (.iload_n 1, 1) := by decide +kernel
theorem dX4_standing_5 : decode cX4_standing 5 = .ok (.iaload, 1) := by decide +kernel
theorem dX4_standing_6 : decode cX4_standing 6 = .ok (.istore_n 3, 1) := by decide +kernel
theorem dX4_standing_7 : decode cX4_standing 7 = .ok (.iload_n 3, 1) := by decide +kernel
theorem dX4_standing_8 : decode cX4_standing 8 = .ok (.iconst (-1), 1) := by decide +kernel
theorem dX4_standing_9 : decode cX4_standing 9 = .ok (.if_icmp .ne 18, 3) := by decide +kernel
theorem dX4_standing_12 : decode cX4_standing 12 = .ok (.aload_n 0, 1) := by decide +kernel
theorem dX4_standing_13 : decode cX4_standing 13 = .ok (.iload_n 1, 1) := by decide +kernel
theorem dX4_standing_14 : decode cX4_standing 14 = .ok (.iload_n 2, 1) := by decide +kernel
theorem dX4_standing_15 : decode cX4_standing 15 = .ok (.invokevirtual 127, 3) := by decide +kernel
theorem dX4_standing_18 : decode cX4_standing 18 = .ok (.ifCond .eq 7, 3) := by decide +kernel
theorem dX4_standing_21 : decode cX4_standing 21 = .ok (.iconst 4, 1) := by decide +kernel
theorem dX4_standing_22 : decode cX4_standing 22 = .ok (.goto 4, 3) := by decide +kernel
theorem dX4_standing_25 : decode cX4_standing 25 = .ok (.iconst 0, 1) := by decide +kernel
theorem dX4_standing_26 : decode cX4_standing 26 = .ok (.ireturn, 1) := by decide +kernel
theorem dX4_standing_27 : decode cX4_standing 27 = .ok (.aload_n 0, 1) := by decide +kernel
theorem dX4_standing_28 : decode cX4_standing 28 = .ok (.getfield 19, 3) := by decide +kernel
theorem dX4_standing_31 : decode cX4_standing 31 = .ok (.iload_n 3, 1) := by decide +kernel
theorem dX4_standing_32 : decode cX4_standing 32 = .ok (.iaload, 1) := by decide +kernel
theorem dX4_standing_33 : decode cX4_standing 33 = .ok (.iconst 2, 1) := by decide +kernel
theorem dX4_standing_34 : decode cX4_standing 34 = .ok (.if_icmp .ne 15, 3) := by decide +kernel
theorem dX4_standing_37 : decode cX4_standing 37 = .ok (.iload_n 2, 1) := by decide +kernel
theorem dX4_standing_38 : decode cX4_standing 38 = .ok (.aload_n 0, 1) := by decide +kernel
theorem dX4_standing_39 : decode cX4_standing 39 = .ok (.getfield 31, 3) := by decide +kernel
theorem dX4_standing_42 : decode cX4_standing 42 = .ok (.iload_n 3, 1) := by decide +kernel
theorem dX4_standing_43 : decode cX4_standing 43 = .ok (.iaload, 1) := by decide +kernel
theorem dX4_standing_44 : decode cX4_standing 44 = .ok (.if_icmp .lt 5, 3) := by decide +kernel
theorem dX4_standing_47 : decode cX4_standing 47 = .ok (.iconst 3, 1) := by decide +kernel
theorem dX4_standing_48 : decode cX4_standing 48 = .ok (.ireturn, 1) := by decide +kernel
theorem dX4_standing_49 : decode cX4_standing 49 = .ok (.aload_n 0, 1) := by decide +kernel
theorem dX4_standing_50 : decode cX4_standing 50 = .ok (.getfield 19, 3) := by decide +kernel
theorem dX4_standing_53 : decode cX4_standing 53 = .ok (.iload_n 3, 1) := by decide +kernel
theorem dX4_standing_54 : decode cX4_standing 54 = .ok (.iaload, 1) := by decide +kernel
theorem dX4_standing_55 : decode cX4_standing 55 = .ok (.ireturn, 1) := by decide +kernel
theorem dX4_preferredOn_0 : decode cX4_preferredOn 0 = .ok (.aload_n 0, 1) := by decide +kernel
theorem dX4_preferredOn_1 : decode cX4_preferredOn 1 = .ok (.getfield 40, 3) := by decide +kernel
theorem dX4_preferredOn_4 : decode cX4_preferredOn 4 = .ok (.iload_n 1, 1) := by decide +kernel
theorem dX4_preferredOn_5 : decode cX4_preferredOn 5 = .ok (.iaload, 1) := by decide +kernel
theorem dX4_preferredOn_6 : decode cX4_preferredOn 6 = .ok (.iconst (-1), 1) := by decide +kernel
theorem dX4_preferredOn_7 : decode cX4_preferredOn 7 = .ok (.if_icmp .eq 22, 3) := by decide +kernel
theorem dX4_preferredOn_10 : decode cX4_preferredOn 10 = .ok (.iload_n 2, 1) := by decide +kernel
theorem dX4_preferredOn_11 : decode cX4_preferredOn 11 = .ok (.aload_n 0, 1) := by decide +kernel
theorem dX4_preferredOn_12 : decode cX4_preferredOn 12 = .ok (.getfield 43, 3) := by decide +kernel
theorem dX4_preferredOn_15 : decode cX4_preferredOn 15 = .ok (.iload_n 1, 1) := by decide +kernel
theorem dX4_preferredOn_16 : decode cX4_preferredOn 16 = .ok (.iaload, 1) := by decide +kernel
theorem dX4_preferredOn_17 : decode cX4_preferredOn 17 = .ok (.if_icmp .gt 12, 3) := by decide +kernel
theorem dX4_preferredOn_20 : decode cX4_preferredOn 20 = .ok (.aload_n 0, 1) := by decide +kernel
theorem dX4_preferredOn_21 : decode cX4_preferredOn 21 = .ok (.getfield 40, 3) := by decide +kernel
theorem dX4_preferredOn_24 : decode cX4_preferredOn 24 = .ok (.iload_n 1, 1) := by decide +kernel
theorem dX4_preferredOn_25 : decode cX4_preferredOn 25 = .ok (.iaload, 1) := by decide +kernel
theorem dX4_preferredOn_26 : decode cX4_preferredOn 26 = .ok (.goto 4, 3) := by decide +kernel
theorem dX4_preferredOn_29 : decode cX4_preferredOn 29 = .ok (.iconst (-1), 1) := by decide +kernel
theorem dX4_preferredOn_30 : decode cX4_preferredOn 30 = .ok (.ireturn, 1) := by decide +kernel
theorem dX4_daysLived_0 : decode cX4_daysLived 0 = .ok (.aload_n 0, 1) := by decide +kernel
theorem dX4_daysLived_1 : decode cX4_daysLived 1 = .ok (.getfield 37, 3) := by decide +kernel
theorem dX4_daysLived_4 : decode cX4_daysLived 4 = .ok (.iload_n 1, 1) := by decide +kernel
theorem dX4_daysLived_5 : decode cX4_daysLived 5 = .ok (.iaload, 1) := by decide +kernel
theorem dX4_daysLived_6 : decode cX4_daysLived 6 = .ok (.istore_n 3, 1) := by decide +kernel
theorem dX4_daysLived_7 : decode cX4_daysLived 7 = .ok (.iload_n 3, 1) := by decide +kernel
theorem dX4_daysLived_8 : decode cX4_daysLived 8 = .ok (.iconst (-1), 1) := by decide +kernel
theorem dX4_daysLived_9 : decode cX4_daysLived 9 = .ok (.if_icmp .ne 5, 3) := by decide +kernel
theorem dX4_daysLived_12 : decode cX4_daysLived 12 = .ok (.iconst 0, 1) := by decide +kernel
theorem dX4_daysLived_13 : decode cX4_daysLived 13 = .ok (.ireturn, 1) := by decide +kernel
theorem dX4_daysLived_14 : decode cX4_daysLived 14 = .ok (.aload_n 0, 1) := by decide +kernel
theorem dX4_daysLived_15 : decode cX4_daysLived 15 = .ok (.iload_n 3, 1) := by decide +kernel
theorem dX4_daysLived_16 : decode cX4_daysLived 16 = .ok (.aload_n 0, 1) := by decide +kernel
theorem dX4_daysLived_17 : decode cX4_daysLived 17 = .ok (.getfield 61, 3) := by decide +kernel
theorem dX4_daysLived_20 : decode cX4_daysLived 20 = .ok (.getfield 76, 3) := by decide +kernel
theorem dX4_daysLived_23 : decode cX4_daysLived 23 = .ok (.iload_n 3, 1) := by decide +kernel
theorem dX4_daysLived_24 : decode cX4_daysLived 24 = .ok (.iaload, 1) := by decide +kernel
theorem dX4_daysLived_25 : decode cX4_daysLived 25 = .ok (.iload_n 2, 1) := by decide +kernel
theorem dX4_daysLived_26 : decode cX4_daysLived 26 = .ok (.invokevirtual 145, 3) := by decide +kernel
theorem dX4_daysLived_29 : decode cX4_daysLived 29 = .ok (.aload_n 0, 1) := by decide +kernel
theorem dX4_daysLived_30 : decode cX4_daysLived 30 = .ok (.getfield 149, 3) := by decide +kernel
theorem dX4_daysLived_33 : decode cX4_daysLived 33 = .ok (.ireturn, 1) := by decide +kernel
theorem dX4_lookAtLiving_0 : decode cX4_lookAtLiving 0 = .ok (.aload_n 0, 1) := by decide +kernel
theorem dX4_lookAtLiving_1 : decode cX4_lookAtLiving 1 = .ok (.iconst 0, 1) := by decide +kernel
theorem dX4_lookAtLiving_2 : decode cX4_lookAtLiving 2 = .ok (.putfield 149, 3) := by decide +kernel
theorem dX4_lookAtLiving_5 : decode cX4_lookAtLiving 5 = .ok (.aload_n 0, 1) := by decide +kernel
theorem dX4_lookAtLiving_6 : decode cX4_lookAtLiving 6 = .ok (.iconst 0, 1) := by decide +kernel
theorem dX4_lookAtLiving_7 : decode cX4_lookAtLiving 7 = .ok (.putfield 152, 3) := by decide +kernel
theorem dX4_lookAtLiving_10 : decode cX4_lookAtLiving 10 = .ok (.iload_n 2, 1) := by decide +kernel
theorem dX4_lookAtLiving_11 : decode cX4_lookAtLiving 11 = .ok (.istore 4, 2) := by decide +kernel
theorem dX4_lookAtLiving_13 : decode cX4_lookAtLiving 13 = .ok (.iconst 0, 1) := by decide +kernel
theorem dX4_lookAtLiving_14 : decode cX4_lookAtLiving 14 = .ok (.istore 5, 2) := by decide +kernel
theorem dX4_lookAtLiving_16 : decode cX4_lookAtLiving 16 = .ok (.iload 5, 2) := by decide +kernel
theorem dX4_lookAtLiving_18 : decode cX4_lookAtLiving 18 = .ok (.aload_n 0, 1) := by decide +kernel
theorem dX4_lookAtLiving_19 : decode cX4_lookAtLiving 19 = .ok (.getfield 61, 3) := by decide +kernel
theorem dX4_lookAtLiving_22 : decode cX4_lookAtLiving 22 = .ok (.getfield 68, 3) := by decide +kernel
theorem dX4_lookAtLiving_25 : decode cX4_lookAtLiving 25 = .ok (.if_icmp .ge 129, 3) := by decide +kernel
theorem dX4_lookAtLiving_28 : decode cX4_lookAtLiving 28 = .ok (.aload_n 0, 1) := by decide +kernel
theorem dX4_lookAtLiving_29 : decode cX4_lookAtLiving 29 = .ok (.getfield 61, 3) := by decide +kernel
theorem dX4_lookAtLiving_32 : decode cX4_lookAtLiving 32 = .ok (.getfield 73, 3) := by decide +kernel
theorem dX4_lookAtLiving_35 : decode cX4_lookAtLiving 35 = .ok (.iload 5, 2) := by decide +kernel
theorem dX4_lookAtLiving_37 : decode cX4_lookAtLiving 37 = .ok (.iaload, 1) := by decide +kernel
theorem dX4_lookAtLiving_38 : decode cX4_lookAtLiving 38 = .ok (.istore 6, 2) := by decide +kernel
theorem dX4_lookAtLiving_40 : decode cX4_lookAtLiving 40 = .ok (.aload_n 0, 1) := by decide +kernel
theorem dX4_lookAtLiving_41 : decode cX4_lookAtLiving 41 = .ok (.iload 6, 2) := by decide +kernel
theorem dX4_lookAtLiving_43 : decode cX4_lookAtLiving 43 = .ok (.iconst 1, 1) := by decide +kernel
theorem dX4_lookAtLiving_44 : decode cX4_lookAtLiving 44 = .ok (.iload_n 1, 1) := by decide +kernel
theorem dX4_lookAtLiving_45 : decode cX4_lookAtLiving 45 = .ok (.invokevirtual 164, 3) := by decide +kernel
theorem dX4_lookAtLiving_48 : decode cX4_lookAtLiving 48 = .ok (.ifCond .ne 6, 3) := by decide +kernel
theorem dX4_lookAtLiving_51 : decode cX4_lookAtLiving 51 = .ok (.goto 97, 3) := by decide +kernel
theorem dX4_lookAtLiving_54 : decode cX4_lookAtLiving 54 = .ok (.aload_n 0, 1) := by decide +kernel
theorem dX4_lookAtLiving_55 : decode cX4_lookAtLiving 55 = .ok (.getfield 61, 3) := by decide +kernel
theorem dX4_lookAtLiving_58 : decode cX4_lookAtLiving 58 = .ok (.getfield 76, 3) := by decide +kernel
theorem dX4_lookAtLiving_61 : decode cX4_lookAtLiving 61 = .ok (.iload 6, 2) := by decide +kernel
theorem dX4_lookAtLiving_63 : decode cX4_lookAtLiving 63 = .ok (.iaload, 1) := by decide +kernel
theorem dX4_lookAtLiving_64 : decode cX4_lookAtLiving 64 = .ok (.iload 4, 2) := by decide +kernel
theorem dX4_lookAtLiving_66 : decode cX4_lookAtLiving 66 = .ok (.invokestatic 168, 3) := by decide +kernel
theorem dX4_lookAtLiving_69 : decode cX4_lookAtLiving 69 = .ok (.istore 7, 2) := by decide +kernel
theorem dX4_lookAtLiving_71 : decode cX4_lookAtLiving 71 = .ok (.aload_n 0, 1) := by decide +kernel
theorem dX4_lookAtLiving_72 : decode cX4_lookAtLiving 72 = .ok (.getfield 61, 3) := by decide +kernel
theorem dX4_lookAtLiving_75 : decode cX4_lookAtLiving 75 = .ok (.getfield 76, 3) := by decide +kernel
theorem dX4_lookAtLiving_78 : decode cX4_lookAtLiving 78 = .ok (.iload 6, 2) := by decide +kernel
theorem dX4_lookAtLiving_80 : decode cX4_lookAtLiving 80 = .ok (.iaload, 1) := by decide +kernel
theorem dX4_lookAtLiving_81 : decode cX4_lookAtLiving 81 = .ok (.aload_n 0, 1) := by decide +kernel
theorem dX4_lookAtLiving_82 : decode cX4_lookAtLiving 82 = .ok (.getfield 61, 3) := by decide +kernel
theorem dX4_lookAtLiving_85 : decode cX4_lookAtLiving 85 = .ok (.getfield 158, 3) := by decide +kernel
theorem dX4_lookAtLiving_88 : decode cX4_lookAtLiving 88 = .ok (.iload 6, 2) := by decide +kernel
theorem dX4_lookAtLiving_90 : decode cX4_lookAtLiving 90 = .ok (.iaload, 1) := by decide +kernel
theorem dX4_lookAtLiving_91 : decode cX4_lookAtLiving 91 = .ok (.iadd, 1) := by decide +kernel
theorem dX4_lookAtLiving_92 : decode cX4_lookAtLiving 92 = .ok (.iconst 1, 1) := by decide +kernel
theorem dX4_lookAtLiving_93 : decode cX4_lookAtLiving 93 = .ok (.isub, 1) := by decide +kernel
theorem dX4_lookAtLiving_94 : decode cX4_lookAtLiving 94 = .ok (.iload_n 3, 1) := by decide +kernel
theorem dX4_lookAtLiving_95 : decode cX4_lookAtLiving 95 = .ok (.invokestatic 173, 3) := by decide +kernel
theorem dX4_lookAtLiving_98 : decode cX4_lookAtLiving 98 = .ok (.istore 8, 2) := by decide +kernel
theorem dX4_lookAtLiving_100 : decode cX4_lookAtLiving 100 = .ok (.iload 7, 2) := by decide +kernel
theorem dX4_lookAtLiving_102 : decode cX4_lookAtLiving 102 = .ok (.iload 8, 2) := by decide +kernel
theorem dX4_lookAtLiving_104 : decode cX4_lookAtLiving 104 = .ok (.if_icmp .le 6, 3) := by decide +kernel
theorem dX4_lookAtLiving_107 : decode cX4_lookAtLiving 107 = .ok (.goto 41, 3) := by decide +kernel
theorem dX4_lookAtLiving_110 : decode cX4_lookAtLiving 110 = .ok (.aload_n 0, 1) := by decide +kernel
theorem dX4_lookAtLiving_111 : decode cX4_lookAtLiving 111 = .ok (.aload_n 0, 1) := by decide +kernel
theorem dX4_lookAtLiving_112 : decode cX4_lookAtLiving 112 = .ok (.getfield 152, 3) := by decide +kernel
theorem dX4_lookAtLiving_115 : decode cX4_lookAtLiving 115 = .ok (.iload 7, 2) := by decide +kernel
theorem dX4_lookAtLiving_117 : decode cX4_lookAtLiving 117 = .ok (.iload 4, 2) := by decide +kernel
theorem dX4_lookAtLiving_119 : decode cX4_lookAtLiving 119 = .ok (.isub, 1) := by decide +kernel
theorem dX4_lookAtLiving_120 : decode cX4_lookAtLiving 120 = .ok (.invokestatic 168, 3) := by decide +kernel
theorem dX4_lookAtLiving_123 : decode cX4_lookAtLiving 123 = .ok (.putfield 152, 3) := by decide +kernel
theorem dX4_lookAtLiving_126 : decode cX4_lookAtLiving 126 = .ok (.aload_n 0, 1) := by decide +kernel
theorem dX4_lookAtLiving_127 : decode cX4_lookAtLiving 127 = .ok (.dup, 1) := by decide +kernel
theorem dX4_lookAtLiving_128 : decode cX4_lookAtLiving 128 = .ok (.getfield 149, 3) := by decide +kernel
theorem dX4_lookAtLiving_131 : decode cX4_lookAtLiving 131 = .ok (.iload 8, 2) := by decide +kernel
theorem dX4_lookAtLiving_133 : decode cX4_lookAtLiving 133 = .ok (.iload 7, 2) := by decide +kernel
theorem dX4_lookAtLiving_135 : decode cX4_lookAtLiving 135 = .ok (.isub, 1) := by decide +kernel
theorem dX4_lookAtLiving_136 : decode cX4_lookAtLiving 136 = .ok (.iconst 1, 1) := by decide +kernel
theorem dX4_lookAtLiving_137 : decode cX4_lookAtLiving 137 = .ok (.iadd, 1) := by decide +kernel
theorem dX4_lookAtLiving_138 : decode cX4_lookAtLiving 138 = .ok (.iadd, 1) := by decide +kernel
theorem dX4_lookAtLiving_139 : decode cX4_lookAtLiving 139 = .ok (.putfield 149, 3) := by decide +kernel
theorem dX4_lookAtLiving_142 : decode cX4_lookAtLiving 142 = .ok (.iload 8, 2) := by decide +kernel
theorem dX4_lookAtLiving_144 : decode cX4_lookAtLiving 144 = .ok (.iconst 1, 1) := by decide +kernel
theorem dX4_lookAtLiving_145 : decode cX4_lookAtLiving 145 = .ok (.iadd, 1) := by decide +kernel
theorem dX4_lookAtLiving_146 : decode cX4_lookAtLiving 146 = .ok (.istore 4, 2) := by decide +kernel
theorem dX4_lookAtLiving_148 : decode cX4_lookAtLiving 148 = .ok (.iinc 5 1, 3) := by decide +kernel
theorem dX4_lookAtLiving_151 : decode cX4_lookAtLiving 151 = .ok (.goto (-135), 3) := by decide +kernel
theorem dX4_lookAtLiving_154 : decode cX4_lookAtLiving 154 = .ok (.aload_n 0, 1) := by decide +kernel
theorem dX4_lookAtLiving_155 : decode cX4_lookAtLiving 155 = .ok (.aload_n 0, 1) := by decide +kernel
theorem dX4_lookAtLiving_156 : decode cX4_lookAtLiving 156 = .ok (.getfield 152, 3) := by decide +kernel
theorem dX4_lookAtLiving_159 : decode cX4_lookAtLiving 159 = .ok (.iload_n 3, 1) := by decide +kernel
theorem dX4_lookAtLiving_160 : decode cX4_lookAtLiving 160 = .ok (.iconst 1, 1) := by decide +kernel
theorem dX4_lookAtLiving_161 : decode cX4_lookAtLiving 161 = .ok (.iadd, 1) := by decide +kernel
theorem dX4_lookAtLiving_162 : decode cX4_lookAtLiving 162 = .ok (.iload 4, 2) := by decide +kernel
theorem dX4_lookAtLiving_164 : decode cX4_lookAtLiving 164 = .ok (.isub, 1) := by decide +kernel
theorem dX4_lookAtLiving_165 : decode cX4_lookAtLiving 165 = .ok (.invokestatic 168, 3) := by decide +kernel
theorem dX4_lookAtLiving_168 : decode cX4_lookAtLiving 168 = .ok (.putfield 152, 3) := by decide +kernel
theorem dX4_lookAtLiving_171 : decode cX4_lookAtLiving 171 = .ok (.return_, 1) := by decide +kernel
theorem dX4_acres_0 : decode cX4_acres 0 = .ok (.aload_n 0, 1) := by decide +kernel
theorem dX4_acres_1 : decode cX4_acres 1 = .ok (.getfield 37, 3) := by decide +kernel
theorem dX4_acres_4 : decode cX4_acres 4 = .ok (.iload_n 1, 1) := by decide +kernel
theorem dX4_acres_5 : decode cX4_acres 5 = .ok (.iaload, 1) := by decide +kernel
theorem dX4_acres_6 : decode cX4_acres 6 = .ok (.istore_n 2, 1) := by decide +kernel
theorem dX4_acres_7 : decode cX4_acres 7 = .ok (.iload_n 2, 1) := by decide +kernel
theorem dX4_acres_8 : decode cX4_acres 8 = .ok (.iconst (-1), 1) := by decide +kernel
theorem dX4_acres_9 : decode cX4_acres 9 = .ok (.if_icmp .ne 5, 3) := by decide +kernel
theorem dX4_acres_12 : decode cX4_acres 12 = .ok (.iconst 0, 1) := by decide +kernel
theorem dX4_acres_13 : decode cX4_acres 13 = .ok (.ireturn, 1) := by decide +kernel
theorem dX4_acres_14 : decode cX4_acres 14 = .ok (.iconst 0, 1) := by decide +kernel
theorem dX4_acres_15 : decode cX4_acres 15 = .ok (.istore_n 3, 1) := by decide +kernel
theorem dX4_acres_16 : decode cX4_acres 16 = .ok (.aload_n 0, 1) := by decide +kernel
theorem dX4_acres_17 : decode cX4_acres 17 = .ok (.getfield 34, 3) := by decide +kernel
theorem dX4_acres_20 : decode cX4_acres 20 = .ok (.iload_n 2, 1) := by decide +kernel
theorem dX4_acres_21 : decode cX4_acres 21 = .ok (.iaload, 1) := by decide +kernel
theorem dX4_acres_22 : decode cX4_acres 22 = .ok (.istore 4, 2) := by decide +kernel
theorem dX4_acres_24 : decode cX4_acres 24 = .ok (.iload 4, 2) := by decide +kernel
theorem dX4_acres_26 : decode cX4_acres 26 = .ok (.aload_n 0, 1) := by decide +kernel
theorem dX4_acres_27 : decode cX4_acres 27 = .ok (.getfield 61, 3) := by decide +kernel
theorem dX4_acres_30 : decode cX4_acres 30 = .ok (.getfield 68, 3) := by decide +kernel
theorem dX4_acres_33 : decode cX4_acres 33 = .ok (.if_icmp .ge 45, 3) := by decide +kernel
theorem dX4_acres_36 : decode cX4_acres 36 = .ok (.aload_n 0, 1) := by decide +kernel
theorem dX4_acres_37 : decode cX4_acres 37 = .ok (.getfield 61, 3) := by decide +kernel
theorem dX4_acres_40 : decode cX4_acres 40 = .ok (.getfield 73, 3) := by decide +kernel
theorem dX4_acres_43 : decode cX4_acres 43 = .ok (.iload 4, 2) := by decide +kernel
theorem dX4_acres_45 : decode cX4_acres 45 = .ok (.iaload, 1) := by decide +kernel
theorem dX4_acres_46 : decode cX4_acres 46 = .ok (.istore 5, 2) := by decide +kernel
theorem dX4_acres_48 : decode cX4_acres 48 = .ok (.aload_n 0, 1) := by decide +kernel
theorem dX4_acres_49 : decode cX4_acres 49 = .ok (.iload 5, 2) := by decide +kernel
theorem dX4_acres_51 : decode cX4_acres 51 = .ok (.iconst 2, 1) := by decide +kernel
theorem dX4_acres_52 : decode cX4_acres 52 = .ok (.iload_n 2, 1) := by decide +kernel
theorem dX4_acres_53 : decode cX4_acres 53 = .ok (.invokevirtual 164, 3) := by decide +kernel
theorem dX4_acres_56 : decode cX4_acres 56 = .ok (.ifCond .eq 16, 3) := by decide +kernel
theorem dX4_acres_59 : decode cX4_acres 59 = .ok (.iload_n 3, 1) := by decide +kernel
theorem dX4_acres_60 : decode cX4_acres 60 = .ok (.aload_n 0, 1) := by decide +kernel
theorem dX4_acres_61 : decode cX4_acres 61 = .ok (.getfield 61, 3) := by decide +kernel
theorem dX4_acres_64 : decode cX4_acres 64 = .ok (.getfield 158, 3) := by decide +kernel
theorem dX4_acres_67 : decode cX4_acres 67 = .ok (.iload 5, 2) := by decide +kernel
theorem dX4_acres_69 : decode cX4_acres 69 = .ok (.iaload, 1) := by decide +kernel
theorem dX4_acres_70 : decode cX4_acres 70 = .ok (.iadd, 1) := by decide +kernel
theorem dX4_acres_71 : decode cX4_acres 71 = .ok (.istore_n 3, 1) := by decide +kernel
theorem dX4_acres_72 : decode cX4_acres 72 = .ok (.iinc 4 1, 3) := by decide +kernel
theorem dX4_acres_75 : decode cX4_acres 75 = .ok (.goto (-51), 3) := by decide +kernel
theorem dX4_acres_78 : decode cX4_acres 78 = .ok (.iload_n 3, 1) := by decide +kernel
theorem dX4_acres_79 : decode cX4_acres 79 = .ok (.ireturn, 1) := by decide +kernel
