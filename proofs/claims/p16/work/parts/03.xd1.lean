theorem dX4_isDoneByHolder_0 : decode cX4_isDoneByHolder 0 = .ok (.aload_n 0, 1) := by decide +kernel
theorem dX4_isDoneByHolder_1 : decode cX4_isDoneByHolder 1 = .ok (.getfield 15, 3) := by decide +kernel
theorem dX4_isDoneByHolder_4 : decode cX4_isDoneByHolder 4 = .ok (.iload_n 1, 1) := by decide +kernel
theorem dX4_isDoneByHolder_5 : decode cX4_isDoneByHolder 5 = .ok (.iaload, 1) := by decide +kernel
theorem dX4_isDoneByHolder_6 : decode cX4_isDoneByHolder 6 = .ok (.ifCond .ne 63, 3) := by decide +kernel
theorem dX4_isDoneByHolder_9 : decode cX4_isDoneByHolder 9 = .ok (.aload_n 0, 1) := by decide +kernel
theorem dX4_isDoneByHolder_10 : decode cX4_isDoneByHolder 10 = .ok (.getfield 61, 3) := by decide +kernel
theorem dX4_isDoneByHolder_13 : decode cX4_isDoneByHolder 13 = .ok (.getfield 89, 3) := by decide +kernel
theorem dX4_isDoneByHolder_16 : decode cX4_isDoneByHolder 16 = .ok (.iload_n 1, 1) := by decide +kernel
theorem dX4_isDoneByHolder_17 : decode cX4_isDoneByHolder 17 = .ok (.iaload, 1) := by decide +kernel
theorem dX4_isDoneByHolder_18 : decode cX4_isDoneByHolder 18 = .ok (.iload_n 2, 1) := by decide +kernel
theorem dX4_isDoneByHolder_19 : decode cX4_isDoneByHolder 19 = .ok (.if_icmp .ne 50, 3) := by decide +kernel
theorem dX4_isDoneByHolder_22 : decode cX4_isDoneByHolder 22 = .ok (.aload_n 0, 1) := by decide +kernel
theorem dX4_isDoneByHolder_23 : decode cX4_isDoneByHolder 23 = .ok (.getfield 61, 3) := by decide +kernel
theorem dX4_isDoneByHolder_26 : decode cX4_isDoneByHolder 26 = .ok (.getfield 108, 3) := by decide +kernel
theorem dX4_isDoneByHolder_29 : decode cX4_isDoneByHolder 29 = .ok (.iload_n 1, 1) := by decide +kernel
theorem dX4_isDoneByHolder_30 : decode cX4_isDoneByHolder 30 = .ok (.iaload, 1) := by decide +kernel
theorem dX4_isDoneByHolder_31 : decode cX4_isDoneByHolder 31 = .ok (.aload_n 0, 1) := by decide +kernel
theorem dX4_isDoneByHolder_32 : decode cX4_isDoneByHolder 32 = .ok (.getfield 61, 3) := by decide +kernel
theorem dX4_isDoneByHolder_35 : decode cX4_isDoneByHolder 35 = .ok (.getfield 108, 3) := by decide +kernel
theorem dX4_isDoneByHolder_38 : decode cX4_isDoneByHolder 38 = .ok (.iload_n 3, 1) := by decide +kernel
theorem dX4_isDoneByHolder_39 : decode cX4_isDoneByHolder 39 = .ok (.iaload, 1) := by decide +kernel
theorem dX4_isDoneByHolder_40 : decode cX4_isDoneByHolder 40 = .ok (.if_icmp .ne 29, 3) := by decide +kernel
theorem dX4_isDoneByHolder_43 : decode cX4_isDoneByHolder 43 = .ok (.aload_n 0, 1) := by decide +kernel
theorem dX4_isDoneByHolder_44 : decode cX4_isDoneByHolder 44 = .ok (.getfield 25, 3) := by decide +kernel
theorem dX4_isDoneByHolder_47 : decode cX4_isDoneByHolder 47 = .ok (.iload_n 3, 1) := by decide +kernel
theorem dX4_isDoneByHolder_48 : decode cX4_isDoneByHolder 48 = .ok (.iaload, 1) := by decide +kernel
theorem dX4_isDoneByHolder_49 : decode cX4_isDoneByHolder 49 = .ok (.aload_n 0, 1) := by decide +kernel
theorem dX4_isDoneByHolder_50 : decode cX4_isDoneByHolder 50 = .ok (.getfield 61, 3) := by decide +kernel
theorem dX4_isDoneByHolder_53 : decode cX4_isDoneByHolder 53 = .ok (.getfield 86, 3) := by decide +kernel
theorem dX4_isDoneByHolder_56 : decode cX4_isDoneByHolder 56 = .ok (.iload_n 1, 1) := by decide +kernel
theorem dX4_isDoneByHolder_57 : decode cX4_isDoneByHolder 57 = .ok (.iaload, 1) := by decide +kernel
theorem dX4_isDoneByHolder_58 : decode cX4_isDoneByHolder 58 = .ok (.ishr, 1) := by decide +kernel
theorem dX4_isDoneByHolder_59 : decode cX4_isDoneByHolder 59 = .ok (.iconst 1, 1) := by decide +kernel
theorem dX4_isDoneByHolder_60 : decode cX4_isDoneByHolder 60 = .ok (.iand, 1) := by decide +kernel
theorem dX4_isDoneByHolder_61 : decode cX4_isDoneByHolder 61 = .ok (.iconst 1, 1) := by decide +kernel
theorem dX4_isDoneByHolder_62 : decode cX4_isDoneByHolder 62 = .ok (.if_icmp .ne 7, 3) := by decide +kernel
theorem dX4_isDoneByHolder_65 : decode cX4_isDoneByHolder 65 = .ok (.iconst 1, 1) := by decide +kernel
theorem dX4_isDoneByHolder_66 : decode cX4_isDoneByHolder 66 = .ok (.goto 4, 3) := by decide +kernel
theorem dX4_isDoneByHolder_69 : decode cX4_isDoneByHolder 69 = .ok (.iconst 0, 1) := by decide +kernel
theorem dX4_isDoneByHolder_70 : decode cX4_isDoneByHolder 70 = .ok (.ireturn, 1) := by decide +kernel
theorem dX4_countEntries_0 : decode cX4_countEntries 0 = .ok (.iconst 0, 1) := by decide +kernel
theorem dX4_countEntries_1 : decode cX4_countEntries 1 = .ok (.istore_n 2, 1) := by decide +kernel
theorem dX4_countEntries_2 : decode cX4_countEntries 2 = .ok (.iconst 0, 1) := by decide +kernel
theorem dX4_countEntries_3 : decode cX4_countEntries 3 = .ok (.istore_n 3, 1) := by decide +kernel
theorem dX4_countEntries_4 : decode cX4_countEntries 4 = .ok (.iload_n 3, 1) := by decide +kernel
theorem dX4_countEntries_5 : decode cX4_countEntries 5 = .ok (.aload_n 0, 1) := by decide +kernel
theorem dX4_countEntries_6 : decode cX4_countEntries 6 = .ok (.getfield 61, 3) := by decide +kernel
theorem dX4_countEntries_9 : decode cX4_countEntries 9 = .ok (.getfield 68, 3) := by decide +kernel
theorem dX4_countEntries_12 : decode cX4_countEntries 12 = .ok (.if_icmp .ge 22, 3) := by decide +kernel
theorem dX4_countEntries_15 : decode cX4_countEntries 15 = .ok (.aload_n 0, 1) := by decide +kernel
theorem dX4_countEntries_16 : decode cX4_countEntries 16 = .ok (.getfield 19, 3) := by decide +kernel
theorem dX4_countEntries_19 : decode cX4_countEntries 19 = .ok (.iload_n 3, 1) := by decide +kernel
theorem dX4_countEntries_20 : decode cX4_countEntries 20 = .ok (.iaload, 1) := by decide +kernel
theorem dX4_countEntries_21 : decode cX4_countEntries 21 = .ok (.iload_n 1, 1) := by decide +kernel
theorem dX4_countEntries_22 : decode cX4_countEntries 22 = .ok (.if_icmp .ne 6, 3) := by decide +kernel
theorem dX4_countEntries_25 : decode cX4_countEntries 25 = .ok (.iinc 2 1, 3) := by decide +kernel
theorem dX4_countEntries_28 : decode cX4_countEntries 28 = .ok (.iinc 3 1, 3) := by decide +kernel
theorem dX4_countEntries_31 : decode cX4_countEntries 31 = .ok (.goto (-27), 3) := by decide +kernel
theorem dX4_countEntries_34 : decode cX4_countEntries 34 = .ok (.iload_n 2, 1) := by decide +kernel
theorem dX4_countEntries_35 : decode cX4_countEntries 35 = .ok (.ireturn, 1) := by decide +kernel
theorem dX4_countDead_0 : decode cX4_countDead 0 = .ok (.iconst 0, 1) := by decide +kernel
theorem dX4_countDead_1 : decode cX4_countDead 1 = .ok (.istore_n 1, 1) := by decide +kernel
theorem dX4_countDead_2 : decode cX4_countDead 2 = .ok (.iconst 0, 1) := by decide +kernel
theorem dX4_countDead_3 : decode cX4_countDead 3 = .ok (.istore_n 2, 1) := by decide +kernel
theorem dX4_countDead_4 : decode cX4_countDead 4 = .ok (.iload_n 2, 1) := by decide +kernel
theorem dX4_countDead_5 : decode cX4_countDead 5 = .ok (.bipush 12, 2) := by decide +kernel
theorem dX4_countDead_7 : decode cX4_countDead 7 = .ok (.if_icmp .ge 21, 3) := by decide +kernel
theorem dX4_countDead_10 : decode cX4_countDead 10 = .ok (.aload_n 0, 1) := by decide +kernel
theorem dX4_countDead_11 : decode cX4_countDead 11 = .ok (.getfield 46, 3) := by decide +kernel
theorem dX4_countDead_14 : decode cX4_countDead 14 = .ok (.iload_n 2, 1) := by decide +kernel
theorem dX4_countDead_15 : decode cX4_countDead 15 = .ok (.baload, 1) := by decide +kernel
theorem dX4_countDead_16 : decode cX4_countDead 16 = .ok (.ifCond .eq 6, 3) := by decide +kernel
theorem dX4_countDead_19 : decode cX4_countDead 19 = .ok (.iinc 1 1, 3) := by decide +kernel
theorem dX4_countDead_22 : decode cX4_countDead 22 = .ok (.iinc 2 1, 3) := by decide +kernel
theorem dX4_countDead_25 : decode cX4_countDead 25 = .ok (.goto (-21), 3) := by decide +kernel
theorem dX4_countDead_28 : decode cX4_countDead 28 = .ok (.iload_n 1, 1) := by decide +kernel
theorem dX4_countDead_29 : decode cX4_countDead 29 = .ok (.ireturn, 1) := by decide +kernel
theorem dX4_countNotDone_0 : decode cX4_countNotDone 0 = .ok (.iconst 0, 1) := by decide +kernel
theorem dX4_countNotDone_1 : decode cX4_countNotDone 1 = .ok (.istore_n 1, 1) := by decide +kernel
theorem dX4_countNotDone_2 : decode cX4_countNotDone 2 = .ok (.iconst 0, 1) := by decide +kernel
theorem dX4_countNotDone_3 : decode cX4_countNotDone 3 = .ok (.istore_n 2, 1) := by decide +kernel
theorem dX4_countNotDone_4 : decode cX4_countNotDone 4 = .ok (.iload_n 2, 1) := by decide +kernel
theorem dX4_countNotDone_5 : decode cX4_countNotDone 5 = .ok (.aload_n 0, 1) := by decide +kernel
theorem dX4_countNotDone_6 : decode cX4_countNotDone 6 = .ok (.getfield 61, 3) := by decide +kernel
theorem dX4_countNotDone_9 : decode cX4_countNotDone 9 = .ok (.getfield 68, 3) := by decide +kernel
theorem dX4_countNotDone_12 : decode cX4_countNotDone 12 = .ok (.if_icmp .ge 21, 3) := by decide +kernel
theorem dX4_countNotDone_15 : decode cX4_countNotDone 15 = .ok (.aload_n 0, 1) := by decide +kernel
theorem dX4_countNotDone_16 : decode cX4_countNotDone 16 = .ok (.getfield 15, 3) := by decide +kernel
theorem dX4_countNotDone_19 : decode cX4_countNotDone 19 = .ok (.iload_n 2, 1) := by decide +kernel
theorem dX4_countNotDone_20 : decode cX4_countNotDone 20 = .ok (.iaload, 1) := by decide +kernel
theorem dX4_countNotDone_21 : decode cX4_countNotDone 21 = .ok (.ifCond .le 6, 3) := by decide +kernel
theorem dX4_countNotDone_24 : decode cX4_countNotDone 24 = .ok (.iinc 1 1, 3) := by decide +kernel
theorem dX4_countNotDone_27 : decode cX4_countNotDone 27 = .ok (.iinc 2 1, 3) := by decide +kernel
theorem dX4_countNotDone_30 : decode cX4_countNotDone 30 = .ok (.goto (-26), 3) := by decide +kernel
theorem dX4_countNotDone_33 : decode cX4_countNotDone 33 = .ok (.iload_n 1, 1) := by decide +kernel
theorem dX4_countNotDone_34 : decode cX4_countNotDone 34 = .ok (.ireturn, 1) := by decide +kernel
theorem dX5_init_0 : decode cX5_init 0 = .ok (.aload_n 0, 1) := by decide +kernel
theorem dX5_init_1 : decode cX5_init 1 = .ok (.invokespecial 3, 3) := by decide +kernel
theorem dX5_init_4 : decode cX5_init 4 = .ok (.aload_n 0, 1) := by decide +kernel
theorem dX5_init_5 : decode cX5_init 5 = .ok (.new 9, 3) := by decide +kernel
theorem dX5_init_8 : decode cX5_init 8 = .ok (.dup, 1) := by decide +kernel
theorem dX5_init_9 : decode cX5_init 9 = .ok (.invokespecial 11, 3) := by decide +kernel
theorem dX5_init_12 : decode cX5_init 12 = .ok (.putfield 12, 3) := by decide +kernel
theorem dX5_init_15 : decode cX5_init 15 = .ok (.aload_n 0, 1) := by decide +kernel
theorem dX5_init_16 : decode cX5_init 16 = .ok (.new 16, 3) := by decide +kernel
theorem dX5_init_19 : decode cX5_init 19 = .ok (.dup, 1) := by decide +kernel
theorem dX5_init_20 : decode cX5_init 20 = .ok (.invokespecial 18, 3) := by decide +kernel
theorem dX5_init_23 : decode cX5_init 23 = .ok (.putfield 19, 3) := by decide +kernel
theorem dX5_init_26 : decode cX5_init 26 = .ok (.aload_n 0, 1) := by decide +kernel
theorem dX5_init_27 : decode cX5_init 27 = .ok (.new 23, 3) := by decide +kernel
theorem dX5_init_30 : decode cX5_init 30 = .ok (.dup, 1) := by decide +kernel
theorem dX5_init_31 : decode cX5_init 31 = .ok (.invokespecial 25, 3) := by decide +kernel
theorem dX5_init_34 : decode cX5_init 34 = .ok (.putfield 26, 3) := by decide +kernel
theorem dX5_init_37 : decode cX5_init 37 = .ok (.aload_n 0, 1) := by decide +kernel
theorem dX5_init_38 : decode cX5_init 38 = .ok (.new 30, 3) := by decide +kernel
theorem dX5_init_41 : decode cX5_init 41 = .ok (.dup, 1) := by decide +kernel
theorem dX5_init_42 : decode cX5_init 42 = .ok (.aload_n 0, 1) := by decide +kernel
theorem dX5_init_43 : decode cX5_init 43 = .ok (.getfield 12, 3) := by decide +kernel
theorem dX5_init_46 : decode cX5_init 46 = .ok (.aload_n 0, 1) := by decide +kernel
theorem dX5_init_47 : decode cX5_init 47 = .ok (.getfield 19, 3) := by decide +kernel
theorem dX5_init_50 : decode cX5_init 50 = .ok (.aload_n 0, 1) := by decide +kernel
theorem dX5_init_51 : decode cX5_init 51 = .ok (.getfield 26, 3) := by decide +kernel
theorem dX5_init_54 : decode cX5_init 54 = .ok (.invokespecial 32, 3) := by decide +kernel
theorem dX5_init_57 : decode cX5_init 57 = .ok (.putfield 35, 3) := by decide +kernel
theorem dX5_init_60 : decode cX5_init 60 = .ok (.aload_n 0, 1) := by decide +kernel
theorem dX5_init_61 : decode cX5_init 61 = .ok (.new 39, 3) := by decide +kernel
theorem dX5_init_64 : decode cX5_init 64 = .ok (.dup, 1) := by decide +kernel
theorem dX5_init_65 : decode cX5_init 65 = .ok (.invokespecial 41, 3) := by decide +kernel
theorem dX5_init_68 : decode cX5_init 68 = .ok (.putfield 42, 3) := by decide +kernel
theorem dX5_init_71 : decode cX5_init 71 = .ok (.return_, 1) := by decide +kernel
theorem dX5_person_0 : decode cX5_person 0 = .ok (.iload_n 1, 1) := by decide +kernel
theorem dX5_person_1 : decode cX5_person 1 = .ok (.sipush (-20000), 3) := by decide +kernel
theorem dX5_person_4 : decode cX5_person 4 = .ok (.sipush 20000, 3) := by decide +kernel
theorem dX5_person_7 : decode cX5_person 7 = .ok (.invokestatic 46, 3) := by decide +kernel
theorem dX5_person_10 : decode cX5_person 10 = .ok (.ifCond .eq 16, 3) := by decide +kernel
theorem dX5_person_13 : decode cX5_person 13 = .ok (.iload_n 2, 1) := by decide +kernel
theorem dX5_person_14 : decode cX5_person 14 = .ok (.sipush (-20000), 3) := by decide +kernel
theorem dX5_person_17 : decode cX5_person 17 = .ok (.sipush 20001, 3) := by decide +kernel
theorem dX5_person_20 : decode cX5_person 20 = .ok (.invokestatic 46, 3) := by decide +kernel
theorem dX5_person_23 : decode cX5_person 23 = .ok (.ifCond .ne 7, 3) := by decide +kernel
theorem dX5_person_26 : decode cX5_person 26 = .ok (.sipush (-1002), 3) := by decide +kernel
theorem dX5_person_29 : decode cX5_person 29 = .ok (.ireturn, 1) := by decide +kernel
theorem dX5_person_30 : decode cX5_person 30 = .ok (.aload_n 0, 1) := by decide +kernel
theorem dX5_person_31 : decode cX5_person 31 = .ok (.getfield 12, 3) := by decide +kernel
theorem dX5_person_34 : decode cX5_person 34 = .ok (.getfield 50, 3) := by decide +kernel
theorem dX5_person_37 : decode cX5_person 37 = .ok (.bipush 12, 2) := by decide +kernel
theorem dX5_person_39 : decode cX5_person 39 = .ok (.if_icmp .lt 7, 3) := by decide +kernel
theorem dX5_person_42 : decode cX5_person 42 = .ok (.sipush (-1004), 3) := by decide +kernel
theorem dX5_person_45 : decode cX5_person 45 = .ok (.ireturn, 1) := by decide +kernel
theorem dX5_person_46 : decode cX5_person 46 = .ok (.aload_n 0, 1) := by decide +kernel
theorem dX5_person_47 : decode cX5_person 47 = .ok (.getfield 12, 3) := by decide +kernel
theorem dX5_person_50 : decode cX5_person 50 = .ok (.iload_n 1, 1) := by decide +kernel
theorem dX5_person_51 : decode cX5_person 51 = .ok (.iload_n 2, 1) := by decide +kernel
theorem dX5_person_52 : decode cX5_person 52 = .ok (.invokevirtual 54, 3) := by decide +kernel
theorem dX5_person_55 : decode cX5_person 55 = .ok (.ireturn, 1) := by decide +kernel
theorem dX5_map_0 : decode cX5_map 0 = .ok (.iload_n 1, 1) := by decide +kernel
theorem dX5_map_1 : decode cX5_map 1 = .ok (.iconst 0, 1) := by decide +kernel
theorem dX5_map_2 : decode cX5_map 2 = .ok (.sipush 20001, 3) := by decide +kernel
theorem dX5_map_5 : decode cX5_map 5 = .ok (.invokestatic 46, 3) := by decide +kernel
theorem dX5_map_8 : decode cX5_map 8 = .ok (.ifCond .ne 7, 3) := by decide +kernel
theorem dX5_map_11 : decode cX5_map 11 = .ok (.sipush (-1002), 3) := by decide +kernel
theorem dX5_map_14 : decode cX5_map 14 = .ok (.ireturn, 1) := by decide +kernel
theorem dX5_map_15 : decode cX5_map 15 = .ok (.aload_n 0, 1) := by decide +kernel
theorem dX5_map_16 : decode cX5_map 16 = .ok (.getfield 35, 3) := by decide +kernel
theorem dX5_map_19 : decode cX5_map 19 = .ok (.getfield 58, 3) := by decide +kernel
theorem dX5_map_22 : decode cX5_map 22 = .ok (.istore_n 2, 1) := by decide +kernel
theorem dX5_map_23 : decode cX5_map 23 = .ok (.aload_n 0, 1) := by decide +kernel
theorem dX5_map_24 : decode cX5_map 24 = .ok (.getfield 35, 3) := by decide +kernel
theorem dX5_map_27 : decode cX5_map 27 = .ok (.iload_n 1, 1) := by decide +kernel
theorem dX5_map_28 : decode cX5_map 28 = .ok (.putfield 58, 3) := by decide +kernel
theorem dX5_map_31 : decode cX5_map 31 = .ok (.iload_n 2, 1) := by decide +kernel
theorem dX5_map_32 : decode cX5_map 32 = .ok (.ireturn, 1) := by decide +kernel
theorem dX5_feed_0 : decode cX5_feed 0 = .ok (.iload_n 1, 1) := by decide +kernel
theorem dX5_feed_1 : decode cX5_feed 1 = .ok (.iconst 1, 1) := by decide +kernel
theorem dX5_feed_2 : decode cX5_feed 2 = .ok (.bipush 8, 2) := by decide +kernel
theorem dX5_feed_4 : decode cX5_feed 4 = .ok (.invokestatic 46, 3) := by decide +kernel
theorem dX5_feed_7 : decode cX5_feed 7 = .ok (.ifCond .ne 7, 3) := by decide +kernel
theorem dX5_feed_10 : decode cX5_feed 10 = .ok (.sipush (-1002), 3) := by decide +kernel
theorem dX5_feed_13 : decode cX5_feed 13 = .ok (.ireturn, 1) := by decide +kernel
theorem dX5_feed_14 : decode cX5_feed 14 = .ok (.aload_n 0, 1) := by decide +kernel
theorem dX5_feed_15 : decode cX5_feed 15 = .ok (.getfield 19, 3) := by decide +kernel
theorem dX5_feed_18 : decode cX5_feed 18 = .ok (.getfield 61, 3) := by decide +kernel
theorem dX5_feed_21 : decode cX5_feed 21 = .ok (.iload_n 1, 1) := by decide +kernel
theorem dX5_feed_22 : decode cX5_feed 22 = .ok (.iadd, 1) := by decide +kernel
theorem dX5_feed_23 : decode cX5_feed 23 = .ok (.bipush 120, 2) := by decide +kernel
theorem dX5_feed_25 : decode cX5_feed 25 = .ok (.if_icmp .le 7, 3) := by decide +kernel
theorem dX5_feed_28 : decode cX5_feed 28 = .ok (.sipush (-1004), 3) := by decide +kernel
theorem dX5_feed_31 : decode cX5_feed 31 = .ok (.ireturn, 1) := by decide +kernel
theorem dX5_feed_32 : decode cX5_feed 32 = .ok (.aload_n 0, 1) := by decide +kernel
theorem dX5_feed_33 : decode cX5_feed 33 = .ok (.getfield 19, 3) := by decide +kernel
theorem dX5_feed_36 : decode cX5_feed 36 = .ok (.iload_n 1, 1) := by decide +kernel
theorem dX5_feed_37 : decode cX5_feed 37 = .ok (.lload_n 2, 1) := by decide +kernel
theorem dX5_feed_38 : decode cX5_feed 38 = .ok (.invokevirtual 64, 3) := by decide +kernel
theorem dX5_feed_41 : decode cX5_feed 41 = .ok (.ireturn, 1) := by decide +kernel
theorem dX5_law_0 : decode cX5_law 0 = .ok (.iload_n 1, 1) := by decide +kernel
theorem dX5_law_1 : decode cX5_law 1 = .ok (.invokestatic 68, 3) := by decide +kernel
theorem dX5_law_4 : decode cX5_law 4 = .ok (.ifCond .ne 7, 3) := by decide +kernel
theorem dX5_law_7 : decode cX5_law 7 = .ok (.sipush (-1002), 3) := by decide +kernel
theorem dX5_law_10 : decode cX5_law 10 = .ok (.ireturn, 1) := by decide +kernel
theorem dX5_law_11 : decode cX5_law 11 = .ok (.aload_n 0, 1) := by decide +kernel
theorem dX5_law_12 : decode cX5_law 12 = .ok (.getfield 19, 3) := by decide +kernel
theorem dX5_law_15 : decode cX5_law 15 = .ok (.getfield 72, 3) := by decide +kernel
theorem dX5_law_18 : decode cX5_law 18 = .ok (.bipush 8, 2) := by decide +kernel
theorem dX5_law_20 : decode cX5_law 20 = .ok (.if_icmp .lt 7, 3) := by decide +kernel
theorem dX5_law_23 : decode cX5_law 23 = .ok (.sipush (-1004), 3) := by decide +kernel
theorem dX5_law_26 : decode cX5_law 26 = .ok (.ireturn, 1) := by decide +kernel
theorem dX5_law_27 : decode cX5_law 27 = .ok (.aload_n 0, 1) := by decide +kernel
theorem dX5_law_28 : decode cX5_law 28 = .ok (.getfield 19, 3) := by decide +kernel
theorem dX5_law_31 : decode cX5_law 31 = .ok (.iload_n 1, 1) := by decide +kernel
theorem dX5_law_32 : decode cX5_law 32 = .ok (.invokevirtual 73, 3) := by decide +kernel
theorem dX5_law_35 : decode cX5_law 35 = .ok (.ireturn, 1) := by decide +kernel
theorem dX5_place_0 : decode cX5_place 0 = .ok (.aload_n 0, 1) := by decide +kernel
theorem dX5_place_1 : decode cX5_place 1 = .ok (.getfield 19, 3) := by decide +kernel
theorem dX5_place_4 : decode cX5_place 4 = .ok (.getfield 77, 3) := by decide +kernel
theorem dX5_place_7 : decode cX5_place 7 = .ok (.ireturn, 1) := by decide +kernel
theorem dX5_sets_0 : decode cX5_sets 0 = .ok (.iload_n 1, 1) := by decide +kernel
theorem dX5_sets_1 : decode cX5_sets 1 = .ok (.iconst (-1), 1) := by decide +kernel
theorem dX5_sets_2 : decode cX5_sets 2 = .ok (.if_icmp .eq 24, 3) := by decide +kernel
theorem dX5_sets_5 : decode cX5_sets 5 = .ok (.iload_n 1, 1) := by decide +kernel
theorem dX5_sets_6 : decode cX5_sets 6 = .ok (.iconst 0, 1) := by decide +kernel
theorem dX5_sets_7 : decode cX5_sets 7 = .ok (.aload_n 0, 1) := by decide +kernel
theorem dX5_sets_8 : decode cX5_sets 8 = .ok (.getfield 19, 3) := by decide +kernel
theorem dX5_sets_11 : decode cX5_sets 11 = .ok (.getfield 72, 3) := by decide +kernel
theorem dX5_sets_14 : decode cX5_sets 14 = .ok (.iconst 1, 1) := by decide +kernel
theorem dX5_sets_15 : decode cX5_sets 15 = .ok (.isub, 1) := by decide +kernel
theorem dX5_sets_16 : decode cX5_sets 16 = .ok (.invokestatic 46, 3) := by decide +kernel
theorem dX5_sets_19 : decode cX5_sets 19 = .ok (.ifCond .ne 7, 3) := by decide +kernel
theorem dX5_sets_22 : decode cX5_sets 22 = .ok (.sipush (-1001), 3) := by decide +kernel
theorem dX5_sets_25 : decode cX5_sets 25 = .ok (.ireturn, 1) := by decide +kernel
theorem dX5_sets_26 : decode cX5_sets 26 = .ok (.iload_n 2, 1) := by decide +kernel
theorem dX5_sets_27 : decode cX5_sets 27 = .ok (.iconst 0, 1) := by decide +kernel
theorem dX5_sets_28 : decode cX5_sets 28 = .ok (.bipush 9, 2) := by decide +kernel
theorem dX5_sets_30 : decode cX5_sets 30 = .ok (.invokestatic 46, 3) := by decide +kernel
theorem dX5_sets_33 : decode cX5_sets 33 = .ok (.ifCond .ne 7, 3) := by decide +kernel
theorem dX5_sets_36 : decode cX5_sets 36 = .ok (.sipush (-1002), 3) := by decide +kernel
theorem dX5_sets_39 : decode cX5_sets 39 = .ok (.ireturn, 1) := by decide +kernel
theorem dX5_sets_40 : decode cX5_sets 40 = .ok (.iload_n 2, 1) := by decide +kernel
theorem dX5_sets_41 : decode cX5_sets 41 = .ok (.bipush 9, 2) := by decide +kernel
theorem dX5_sets_43 : decode cX5_sets 43 = .ok (.if_icmp .ne 22, 3) := by decide +kernel
theorem dX5_sets_46 : decode cX5_sets 46 = .ok (.iload_n 1, 1) := by decide +kernel
theorem dX5_sets_47 : decode cX5_sets 47 = .ok (.iconst (-1), 1) := by decide +kernel
theorem dX5_sets_48 : decode cX5_sets 48 = .ok (.if_icmp .ne 7, 3) := by decide +kernel
theorem dX5_sets_51 : decode cX5_sets 51 = .ok (.iconst 0, 1) := by decide +kernel
theorem dX5_sets_52 : decode cX5_sets 52 = .ok (.goto 12, 3) := by decide +kernel
theorem dX5_sets_55 : decode cX5_sets 55 = .ok (.aload_n 0, 1) := by decide +kernel
theorem dX5_sets_56 : decode cX5_sets 56 = .ok (.getfield 19, 3) := by decide +kernel
theorem dX5_sets_59 : decode cX5_sets 59 = .ok (.getfield 80, 3) := by decide +kernel
theorem dX5_sets_62 : decode cX5_sets 62 = .ok (.iload_n 1, 1) := by decide +kernel
theorem dX5_sets_63 : decode cX5_sets 63 = .ok (.iaload, 1) := by decide +kernel
theorem dX5_sets_64 : decode cX5_sets 64 = .ok (.ireturn, 1) := by decide +kernel
theorem dX5_sets_65 : decode cX5_sets 65 = .ok (.aload_n 0, 1) := by decide +kernel
theorem dX5_sets_66 : decode cX5_sets 66 = .ok (.getfield 19, 3) := by decide +kernel
theorem dX5_sets_69 : decode cX5_sets 69 = .ok (.iload_n 1, 1) := by decide +kernel
theorem dX5_sets_70 : decode cX5_sets 70 = .ok (.iload_n 2, 1) := by decide +kernel
theorem dX5_sets_71 : decode cX5_sets 71 = .ok (.invokevirtual 84, 3) := by decide +kernel
theorem dX5_sets_74 : decode cX5_sets 74 = .ok (.ireturn, 1) := by decide +kernel
theorem dX5_lawOf_0 : decode cX5_lawOf 0 = .ok (.iload_n 1, 1) := by decide +kernel
theorem dX5_lawOf_1 : decode cX5_lawOf 1 = .ok (.invokestatic 68, 3) := by decide +kernel
theorem dX5_lawOf_4 : decode cX5_lawOf 4 = .ok (.ifCond .ne 7, 3) := by decide +kernel
theorem dX5_lawOf_7 : decode cX5_lawOf 7 = .ok (.sipush (-1002), 3) := by decide +kernel
theorem dX5_lawOf_10 : decode cX5_lawOf 10 = .ok (.ireturn, 1) := by decide +kernel
theorem dX5_lawOf_11 : decode cX5_lawOf 11 = .ok (.aload_n 0, 1) := by decide +kernel
theorem dX5_lawOf_12 : decode cX5_lawOf 12 = .ok (.getfield 19, 3) := by decide +kernel
theorem dX5_lawOf_15 : decode cX5_lawOf 15 = .ok (.iload_n 1, 1) := by decide +kernel
theorem dX5_lawOf_16 : decode cX5_lawOf 16 = .ok (.invokevirtual 87, 3) := by decide +kernel
theorem dX5_lawOf_19 : decode cX5_lawOf 19 = .ok (.ireturn, 1) := by decide +kernel
theorem dX5_line_0 : decode cX5_line 0 = .ok (.iload_n 2, 1) := by decide +kernel
theorem dX5_line_1 : decode cX5_line 1 = .ok (.iconst 0, 1) := by decide +kernel
theorem dX5_line_2 : decode cX5_line 2 = .ok (.bipush 6, 2) := by decide +kernel
theorem dX5_line_4 : decode cX5_line 4 = .ok (.invokestatic 46, 3) := by decide +kernel
theorem dX5_line_7 : decode cX5_line 7 = .ok (.ifCond .ne 7, 3) := by decide +kernel
theorem dX5_line_10 : decode cX5_line 10 = .ok (.sipush (-1002), 3) := by decide +kernel
theorem dX5_line_13 : decode cX5_line 13 = .ok (.ireturn, 1) := by decide +kernel
theorem dX5_line_14 : decode cX5_line 14 = .ok (.aload_n 0, 1) := by decide +kernel
theorem dX5_line_15 : decode cX5_line 15 = .ok (.iload_n 3, 1) := by decide +kernel
theorem dX5_line_16 : decode cX5_line 16 = .ok (.invokevirtual 90, 3) := by decide +kernel
theorem dX5_line_19 : decode cX5_line 19 = .ok (.ifCond .ne 7, 3) := by decide +kernel
theorem dX5_line_22 : decode cX5_line 22 = .ok (.sipush (-1001), 3) := by decide +kernel
theorem dX5_line_25 : decode cX5_line 25 = .ok (.ireturn, 1) := by decide +kernel
theorem dX5_line_26 : decode cX5_line 26 = .ok (.iload_n 2, 1) := by decide +kernel
theorem dX5_line_27 : decode cX5_line 27 = .ok (.bipush 6, 2) := by decide +kernel
theorem dX5_line_29 : decode cX5_line 29 = .ok (.if_icmp .ne 15, 3) := by decide +kernel
theorem dX5_line_32 : decode cX5_line 32 = .ok (.aload_n 0, 1) := by decide +kernel
theorem dX5_line_33 : decode cX5_line 33 = .ok (.iload 5, 2) := by decide +kernel
theorem dX5_line_35 : decode cX5_line 35 = .ok (.invokevirtual 90, 3) := by decide +kernel
theorem dX5_line_38 : decode cX5_line 38 = .ok (.ifCond .ne 18, 3) := by decide +kernel
theorem dX5_line_41 : decode cX5_line 41 = .ok (.goto 11, 3) := by decide +kernel
theorem dX5_line_44 : decode cX5_line 44 = .ok (.iload 4, 2) := by decide +kernel
theorem dX5_line_46 : decode cX5_line 46 = .ok (.invokestatic 93, 3) := by decide +kernel
theorem dX5_line_49 : decode cX5_line 49 = .ok (.ifCond .ne 7, 3) := by decide +kernel
theorem dX5_line_52 : decode cX5_line 52 = .ok (.sipush (-1001), 3) := by decide +kernel
theorem dX5_line_55 : decode cX5_line 55 = .ok (.ireturn, 1) := by decide +kernel
theorem dX5_line_56 : decode cX5_line 56 = .ok (.iload_n 1, 1) := by decide +kernel
theorem dX5_line_57 : decode cX5_line 57 = .ok (.invokestatic 68, 3) := by decide +kernel
theorem dX5_line_60 : decode cX5_line 60 = .ok (.ifCond .eq 12, 3) := by decide +kernel
theorem dX5_line_63 : decode cX5_line 63 = .ok (.iload_n 2, 1) := by decide +kernel
theorem dX5_line_64 : decode cX5_line 64 = .ok (.iload 5, 2) := by decide +kernel
theorem dX5_line_66 : decode cX5_line 66 = .ok (.invokestatic 96, 3) := by decide +kernel
theorem dX5_line_69 : decode cX5_line 69 = .ok (.ifCond .ne 7, 3) := by decide +kernel
theorem dX5_line_72 : decode cX5_line 72 = .ok (.sipush (-1002), 3) := by decide +kernel
theorem dX5_line_75 : decode cX5_line 75 = .ok (.ireturn, 1) := by decide +kernel
theorem dX5_line_76 : decode cX5_line 76 = .ok (.aload_n 0, 1) := by decide +kernel
theorem dX5_line_77 : decode cX5_line 77 = .ok (.getfield 26, 3) := by decide +kernel
theorem dX5_line_80 : decode cX5_line 80 = .ok (.getfield 100, 3) := by decide +kernel
theorem dX5_line_83 : decode cX5_line 83 = .ok (.bipush 120, 2) := by decide +kernel
theorem dX5_line_85 : decode cX5_line 85 = .ok (.if_icmp .lt 7, 3) := by decide +kernel
theorem dX5_line_88 : decode cX5_line 88 = .ok (.sipush (-1004), 3) := by decide +kernel
theorem dX5_line_91 : decode cX5_line 91 = .ok (.ireturn, 1) := by decide +kernel
theorem dX5_line_92 : decode cX5_line 92 = .ok (.aload_n 0, 1) := by decide +kernel
theorem dX5_line_93 : decode cX5_line 93 = .ok (.getfield 26, 3) := by decide +kernel
theorem dX5_line_96 : decode cX5_line 96 = .ok (.iload_n 1, 1) := by decide +kernel
theorem dX5_line_97 : decode cX5_line 97 = .ok (.iload_n 2, 1) := by decide +kernel
theorem dX5_line_98 : decode cX5_line 98 = .ok (.invokevirtual 101, 3) := by decide +kernel
theorem dX5_line_101 : decode cX5_line 101 = .ok (.istore 6, 2) := by decide +kernel
theorem dX5_line_103 : decode cX5_line 103 = .ok (.aload_n 0, 1) := by decide +kernel
theorem dX5_line_104 : decode cX5_line 104 = .ok (.getfield 26, 3) := by decide +kernel
theorem dX5_line_107 : decode cX5_line 107 = .ok (.getfield 102, 3) := by decide +kernel
theorem dX5_line_110 : decode cX5_line 110 = .ok (.iload 6, 2) := by decide +kernel
theorem dX5_line_112 : decode cX5_line 112 = .ok (.iload_n 3, 1) := by decide +kernel
theorem dX5_line_113 : decode cX5_line 113 = .ok (.iastore, 1) := by decide +kernel
theorem dX5_line_114 : decode cX5_line 114 = .ok (.aload_n 0, 1) := by decide +kernel
theorem dX5_line_115 : decode cX5_line 115 = .ok (.getfield 26, 3) := by decide +kernel
theorem dX5_line_118 : decode cX5_line 118 = .ok (.getfield 105, 3) := by decide +kernel
theorem dX5_line_121 : decode cX5_line 121 = .ok (.iload 6, 2) := by decide +kernel
theorem dX5_line_123 : decode cX5_line 123 = .ok (.iload 4, 2) := by decide +kernel
theorem dX5_line_125 : decode cX5_line 125 = .ok (.iastore, 1) := by decide +kernel
theorem dX5_line_126 : decode cX5_line 126 = .ok (.aload_n 0, 1) := by decide +kernel
theorem dX5_line_127 : decode cX5_line 127 = .ok (.getfield 26, 3) := by decide +kernel
theorem dX5_line_130 : decode cX5_line 130 = .ok (.getfield 108, 3) := by decide +kernel
theorem dX5_line_133 : decode cX5_line 133 = .ok (.iload 6, 2) := by decide +kernel
theorem dX5_line_135 : decode cX5_line 135 = .ok (.iload 5, 2) := by decide +kernel
theorem dX5_line_137 : decode cX5_line 137 = .ok (.iastore, 1) := by decide +kernel
theorem dX5_line_138 : decode cX5_line 138 = .ok (.iload 6, 2) := by decide +kernel
theorem dX5_line_140 : decode cX5_line 140 = .ok (.ireturn, 1) := by decide +kernel
theorem dX5_strike_0 : decode cX5_strike 0 = .ok (.aload_n 0, 1) := by decide +kernel
theorem dX5_strike_1 : decode cX5_strike 1 = .ok (.iload_n 1, 1) := by decide +kernel
theorem dX5_strike_2 : decode cX5_strike 2 = .ok (.invokevirtual 111, 3) := by decide +kernel
theorem dX5_strike_5 : decode cX5_strike 5 = .ok (.ifCond .ne 7, 3) := by decide +kernel
theorem dX5_strike_8 : decode cX5_strike 8 = .ok (.sipush (-1001), 3) := by decide +kernel
theorem dX5_strike_11 : decode cX5_strike 11 = .ok (.ireturn, 1) := by decide +kernel
theorem dX5_strike_12 : decode cX5_strike 12 = .ok (.aload_n 0, 1) := by decide +kernel
theorem dX5_strike_13 : decode cX5_strike 13 = .ok (.getfield 26, 3) := by decide +kernel
theorem dX5_strike_16 : decode cX5_strike 16 = .ok (.getfield 114, 3) := by decide +kernel
theorem dX5_strike_19 : decode cX5_strike 19 = .ok (.iload_n 1, 1) := by decide +kernel
theorem dX5_strike_20 : decode cX5_strike 20 = .ok (.baload, 1) := by decide +kernel
theorem dX5_strike_21 : decode cX5_strike 21 = .ok (.ifCond .eq 7, 3) := by decide +kernel
theorem dX5_strike_24 : decode cX5_strike 24 = .ok (.iconst 1, 1) := by decide +kernel
theorem dX5_strike_25 : decode cX5_strike 25 = .ok (.goto 4, 3) := by decide +kernel
theorem dX5_strike_28 : decode cX5_strike 28 = .ok (.iconst 0, 1) := by decide +kernel
theorem dX5_strike_29 : decode cX5_strike 29 = .ok (.istore_n 3, 1) := by decide +kernel
theorem dX5_strike_30 : decode cX5_strike 30 = .ok (.aload_n 0, 1) := by decide +kernel
theorem dX5_strike_31 : decode cX5_strike 31 = .ok (.getfield 26, 3) := by decide +kernel
theorem dX5_strike_34 : decode cX5_strike 34 = .ok (.getfield 114, 3) := by decide +kernel
theorem dX5_strike_37 : decode cX5_strike 37 = .ok (.iload_n 1, 1) := by decide +kernel
theorem dX5_strike_38 : decode cX5_strike 38 = .ok (.iload_n 2, 1) := by decide +kernel
theorem dX5_strike_39 : decode cX5_strike 39 = .ok (.bastore, 1) := by decide +kernel
theorem dX5_strike_40 : decode cX5_strike 40 = .ok (.iload_n 3, 1) := by decide +kernel
theorem dX5_strike_41 : decode cX5_strike 41 = .ok (.ireturn, 1) := by decide +kernel
theorem dX5_told_0 : decode cX5_told 0 = .ok (.aload_n 0, 1) := by decide +kernel
theorem dX5_told_1 : decode cX5_told 1 = .ok (.iload_n 1, 1) := by decide +kernel
theorem dX5_told_2 : decode cX5_told 2 = .ok (.invokevirtual 111, 3) := by decide +kernel
theorem dX5_told_5 : decode cX5_told 5 = .ok (.ifCond .ne 7, 3) := by decide +kernel
theorem dX5_told_8 : decode cX5_told 8 = .ok (.sipush (-1001), 3) := by decide +kernel
theorem dX5_told_11 : decode cX5_told 11 = .ok (.ireturn, 1) := by decide +kernel
theorem dX5_told_12 : decode cX5_told 12 = .ok (.iload_n 2, 1) := by decide +kernel
theorem dX5_told_13 : decode cX5_told 13 = .ok (.tableswitch 107 0 5 #[39, 49, 59, 69, 79, 89], 39) := by decide +kernel
theorem dX5_told_52 : decode cX5_told 52 = .ok (.aload_n 0, 1) := by decide +kernel
theorem dX5_told_53 : decode cX5_told 53 = .ok (.getfield 26, 3) := by decide +kernel
theorem dX5_told_56 : decode cX5_told 56 = .ok (.getfield 118, 3) := by decide +kernel
theorem dX5_told_59 : decode cX5_told 59 = .ok (.iload_n 1, 1) := by decide +kernel
theorem dX5_told_60 : decode cX5_told 60 = .ok (.iaload, 1) := by decide +kernel
theorem dX5_told_61 : decode cX5_told 61 = .ok (.ireturn, 1) := by decide +kernel
theorem dX5_told_62 : decode cX5_told 62 = .ok (.aload_n 0, 1) := by decide +kernel
theorem dX5_told_63 : decode cX5_told 63 = .ok (.getfield 26, 3) := by decide +kernel
theorem dX5_told_66 : decode cX5_told 66 = .ok (.getfield 121, 3) := by decide +kernel
theorem dX5_told_69 : decode cX5_told 69 = .ok (.iload_n 1, 1) := by decide +kernel
theorem dX5_told_70 : decode cX5_told 70 = .ok (.iaload, 1) := by decide +kernel
theorem dX5_told_71 : decode cX5_told 71 = .ok (.ireturn, 1) := by decide +kernel
theorem dX5_told_72 : decode cX5_told 72 = .ok (.aload_n 0, 1) := by decide +kernel
theorem dX5_told_73 : decode cX5_told 73 = .ok (.getfield 26, 3) := by decide +kernel
theorem dX5_told_76 : decode cX5_told 76 = .ok (.getfield 102, 3) := by decide +kernel
theorem dX5_told_79 : decode cX5_told 79 = .ok (.iload_n 1, 1) := by decide +kernel
theorem dX5_told_80 : decode cX5_told 80 = .ok (.iaload, 1) := by decide +kernel
theorem dX5_told_81 : decode cX5_told 81 = .ok (.ireturn, 1) := by decide +kernel
theorem dX5_told_82 : decode cX5_told 82 = .ok (.aload_n 0, 1) := by decide +kernel
theorem dX5_told_83 : decode cX5_told 83 = .ok (.getfield 26, 3) := by decide +kernel
theorem dX5_told_86 : decode cX5_told 86 = .ok (.getfield 105, 3) := by decide +kernel
theorem dX5_told_89 : decode cX5_told 89 = .ok (.iload_n 1, 1) := by decide +kernel
theorem dX5_told_90 : decode cX5_told 90 = .ok (.iaload, 1) := by decide +kernel
theorem dX5_told_91 : decode cX5_told 91 = .ok (.ireturn, 1) := by decide +kernel
theorem dX5_told_92 : decode cX5_told 92 = .ok (.aload_n 0, 1) := by decide +kernel
theorem dX5_told_93 : decode cX5_told 93 = .ok (.getfield 26, 3) := by decide +kernel
theorem dX5_told_96 : decode cX5_told 96 = .ok (.getfield 108, 3) := by decide +kernel
theorem dX5_told_99 : decode cX5_told 99 = .ok (.iload_n 1, 1) := by decide +kernel
theorem dX5_told_100 : decode cX5_told 100 = .ok (.iaload, 1) := by decide +kernel
theorem dX5_told_101 : decode cX5_told 101 = .ok (.ireturn, 1) := by decide +kernel
theorem dX5_told_102 : decode cX5_told 102 = .ok (.aload_n 0, 1) := by decide +kernel
theorem dX5_told_103 : decode cX5_told 103 = .ok (.getfield 26, 3) := by decide +kernel
theorem dX5_told_106 : decode cX5_told 106 = .ok (.getfield 114, 3) := by decide +kernel
theorem dX5_told_109 : decode cX5_told 109 = .ok (.iload_n 1, 1) := by decide +kernel
theorem dX5_told_110 : decode cX5_told 110 = .ok (.baload, 1) := by decide +kernel
theorem dX5_told_111 : decode cX5_told 111 = .ok (.ifCond .eq 7, 3) := by decide +kernel
theorem dX5_told_114 : decode cX5_told 114 = .ok (.iconst 1, 1) := by decide +kernel
theorem dX5_told_115 : decode cX5_told 115 = .ok (.goto 4, 3) := by decide +kernel
theorem dX5_told_118 : decode cX5_told 118 = .ok (.iconst 0, 1) := by decide +kernel
theorem dX5_told_119 : decode cX5_told 119 = .ok (.ireturn, 1) := by decide +kernel
theorem dX5_told_120 : decode cX5_told 120 = .ok (.sipush (-1002), 3) := by decide +kernel
theorem dX5_told_123 : decode cX5_told 123 = .ok (.ireturn, 1) := by decide +kernel
theorem dX5_outcome_0 : decode cX5_outcome 0 = .ok (.aload_n 0, 1) := by decide +kernel
theorem dX5_outcome_1 : decode cX5_outcome 1 = .ok (.iload_n 1, 1) := by decide +kernel
theorem dX5_outcome_2 : decode cX5_outcome 2 = .ok (.invokevirtual 111, 3) := by decide +kernel
theorem dX5_outcome_5 : decode cX5_outcome 5 = .ok (.ifCond .ne 7, 3) := by decide +kernel
theorem dX5_outcome_8 : decode cX5_outcome 8 = .ok (.sipush (-1001), 3) := by decide +kernel
theorem dX5_outcome_11 : decode cX5_outcome 11 = .ok (.ireturn, 1) := by decide +kernel
theorem dX5_outcome_12 : decode cX5_outcome 12 = .ok (.aload_n 0, 1) := by decide +kernel
theorem dX5_outcome_13 : decode cX5_outcome 13 = .ok (.iload_n 2, 1) := by decide +kernel
theorem dX5_outcome_14 : decode cX5_outcome 14 = .ok (.invokevirtual 124, 3) := by decide +kernel
theorem dX5_outcome_17 : decode cX5_outcome 17 = .ok (.ifCond .ne 7, 3) := by decide +kernel
theorem dX5_outcome_20 : decode cX5_outcome 20 = .ok (.sipush (-1002), 3) := by decide +kernel
theorem dX5_outcome_23 : decode cX5_outcome 23 = .ok (.ireturn, 1) := by decide +kernel
theorem dX5_outcome_24 : decode cX5_outcome 24 = .ok (.aload_n 0, 1) := by decide +kernel
theorem dX5_outcome_25 : decode cX5_outcome 25 = .ok (.getfield 35, 3) := by decide +kernel
theorem dX5_outcome_28 : decode cX5_outcome 28 = .ok (.aload_n 0, 1) := by decide +kernel
theorem dX5_outcome_29 : decode cX5_outcome 29 = .ok (.iload_n 2, 1) := by decide +kernel
theorem dX5_outcome_30 : decode cX5_outcome 30 = .ok (.invokevirtual 127, 3) := by decide +kernel
theorem dX5_outcome_33 : decode cX5_outcome 33 = .ok (.sipush 20000, 3) := by decide +kernel
theorem dX5_outcome_36 : decode cX5_outcome 36 = .ok (.invokevirtual 130, 3) := by decide +kernel
theorem dX5_outcome_39 : decode cX5_outcome 39 = .ok (.aload_n 0, 1) := by decide +kernel
theorem dX5_outcome_40 : decode cX5_outcome 40 = .ok (.getfield 35, 3) := by decide +kernel
theorem dX5_outcome_43 : decode cX5_outcome 43 = .ok (.getfield 134, 3) := by decide +kernel
theorem dX5_outcome_46 : decode cX5_outcome 46 = .ok (.iload_n 1, 1) := by decide +kernel
theorem dX5_outcome_47 : decode cX5_outcome 47 = .ok (.iaload, 1) := by decide +kernel
theorem dX5_outcome_48 : decode cX5_outcome 48 = .ok (.ireturn, 1) := by decide +kernel
theorem dX5_count_0 : decode cX5_count 0 = .ok (.iload_n 1, 1) := by decide +kernel
theorem dX5_count_1 : decode cX5_count 1 = .ok (.tableswitch 75 0 4 #[35, 43, 51, 59, 67], 35) := by decide +kernel
theorem dX5_count_36 : decode cX5_count 36 = .ok (.aload_n 0, 1) := by decide +kernel
theorem dX5_count_37 : decode cX5_count 37 = .ok (.getfield 12, 3) := by decide +kernel
theorem dX5_count_40 : decode cX5_count 40 = .ok (.getfield 50, 3) := by decide +kernel
theorem dX5_count_43 : decode cX5_count 43 = .ok (.ireturn, 1) := by decide +kernel
theorem dX5_count_44 : decode cX5_count 44 = .ok (.aload_n 0, 1) := by decide +kernel
theorem dX5_count_45 : decode cX5_count 45 = .ok (.getfield 19, 3) := by decide +kernel
theorem dX5_count_48 : decode cX5_count 48 = .ok (.getfield 72, 3) := by decide +kernel
theorem dX5_count_51 : decode cX5_count 51 = .ok (.ireturn, 1) := by decide +kernel
theorem dX5_count_52 : decode cX5_count 52 = .ok (.aload_n 0, 1) := by decide +kernel
theorem dX5_count_53 : decode cX5_count 53 = .ok (.getfield 26, 3) := by decide +kernel
theorem dX5_count_56 : decode cX5_count 56 = .ok (.getfield 100, 3) := by decide +kernel
theorem dX5_count_59 : decode cX5_count 59 = .ok (.ireturn, 1) := by decide +kernel
theorem dX5_count_60 : decode cX5_count 60 = .ok (.aload_n 0, 1) := by decide +kernel
theorem dX5_count_61 : decode cX5_count 61 = .ok (.getfield 26, 3) := by decide +kernel
theorem dX5_count_64 : decode cX5_count 64 = .ok (.invokevirtual 137, 3) := by decide +kernel
theorem dX5_count_67 : decode cX5_count 67 = .ok (.ireturn, 1) := by decide +kernel
theorem dX5_count_68 : decode cX5_count 68 = .ok (.aload_n 0, 1) := by decide +kernel
theorem dX5_count_69 : decode cX5_count 69 = .ok (.getfield 19, 3) := by decide +kernel
theorem dX5_count_72 : decode cX5_count 72 = .ok (.getfield 61, 3) := by decide +kernel
theorem dX5_count_75 : decode cX5_count 75 = .ok (.ireturn, 1) := by decide +kernel
theorem dX5_count_76 : decode cX5_count 76 = .ok (.aload_n 0, 1) := by decide +kernel
theorem dX5_count_77 : decode cX5_count 77 = .ok (.iload_n 1, 1) := by decide +kernel
theorem dX5_count_78 : decode cX5_count 78 = .ok (.invokevirtual 141, 3) := by decide +kernel
theorem dX5_count_81 : decode cX5_count 81 = .ok (.ireturn, 1) := by decide +kernel
theorem dX5_countOfWork_0 : decode cX5_countOfWork 0 = .ok (.iload_n 1, 1) := by decide +kernel
theorem dX5_countOfWork_1 : decode cX5_countOfWork 1 = .ok (.iconst 5, 1) := by decide +kernel
theorem dX5_countOfWork_2 : decode cX5_countOfWork 2 = .ok (.bipush 10, 2) := by decide +kernel
theorem dX5_countOfWork_4 : decode cX5_countOfWork 4 = .ok (.invokestatic 46, 3) := by decide +kernel
theorem dX5_countOfWork_7 : decode cX5_countOfWork 7 = .ok (.ifCond .ne 7, 3) := by decide +kernel
theorem dX5_countOfWork_10 : decode cX5_countOfWork 10 = .ok (.sipush (-1002), 3) := by decide +kernel
theorem dX5_countOfWork_13 : decode cX5_countOfWork 13 = .ok (.ireturn, 1) := by decide +kernel
theorem dX5_countOfWork_14 : decode cX5_countOfWork 14 = .ok (.aload_n 0, 1) := by decide +kernel
theorem dX5_countOfWork_15 : decode cX5_countOfWork 15 = .ok (.getfield 35, 3) := by decide +kernel
theorem dX5_countOfWork_18 : decode cX5_countOfWork 18 = .ok (.aload_n 0, 1) := by decide +kernel
theorem dX5_countOfWork_19 : decode cX5_countOfWork 19 = .ok (.getfield 26, 3) := by decide +kernel
theorem dX5_countOfWork_22 : decode cX5_countOfWork 22 = .ok (.getfield 100, 3) := by decide +kernel
theorem dX5_countOfWork_25 : decode cX5_countOfWork 25 = .ok (.sipush 20000, 3) := by decide +kernel
theorem dX5_countOfWork_28 : decode cX5_countOfWork 28 = .ok (.invokevirtual 130, 3) := by decide +kernel
theorem dX5_countOfWork_31 : decode cX5_countOfWork 31 = .ok (.iload_n 1, 1) := by decide +kernel
theorem dX5_countOfWork_32 : decode cX5_countOfWork 32 = .ok (.tableswitch 98 5 9 #[36, 63, 72, 81, 90], 36) := by decide +kernel
theorem dX5_countOfWork_68 : decode cX5_countOfWork 68 = .ok (.aload_n 0, 1) := by decide +kernel
theorem dX5_countOfWork_69 : decode cX5_countOfWork 69 = .ok (.getfield 35, 3) := by decide +kernel
theorem dX5_countOfWork_72 : decode cX5_countOfWork 72 = .ok (.iconst 1, 1) := by decide +kernel
theorem dX5_countOfWork_73 : decode cX5_countOfWork 73 = .ok (.invokevirtual 144, 3) := by decide +kernel
theorem dX5_countOfWork_76 : decode cX5_countOfWork 76 = .ok (.aload_n 0, 1) := by decide +kernel
theorem dX5_countOfWork_77 : decode cX5_countOfWork 77 = .ok (.getfield 35, 3) := by decide +kernel
theorem dX5_countOfWork_80 : decode cX5_countOfWork 80 = .ok (.iconst 2, 1) := by decide +kernel
theorem dX5_countOfWork_81 : decode cX5_countOfWork 81 = .ok (.invokevirtual 144, 3) := by decide +kernel
theorem dX5_countOfWork_84 : decode cX5_countOfWork 84 = .ok (.iadd, 1) := by decide +kernel
theorem dX5_countOfWork_85 : decode cX5_countOfWork 85 = .ok (.aload_n 0, 1) := by decide +kernel
theorem dX5_countOfWork_86 : decode cX5_countOfWork 86 = .ok (.getfield 35, 3) := by decide +kernel
theorem dX5_countOfWork_89 : decode cX5_countOfWork 89 = .ok (.iconst 3, 1) := by decide +kernel
theorem dX5_countOfWork_90 : decode cX5_countOfWork 90 = .ok (.invokevirtual 144, 3) := by decide +kernel
theorem dX5_countOfWork_93 : decode cX5_countOfWork 93 = .ok (.iadd, 1) := by decide +kernel
theorem dX5_countOfWork_94 : decode cX5_countOfWork 94 = .ok (.ireturn, 1) := by decide +kernel
theorem dX5_countOfWork_95 : decode cX5_countOfWork 95 = .ok (.aload_n 0, 1) := by decide +kernel
theorem dX5_countOfWork_96 : decode cX5_countOfWork 96 = .ok (.getfield 35, 3) := by decide +kernel
theorem dX5_countOfWork_99 : decode cX5_countOfWork 99 = .ok (.iconst 1, 1) := by decide +kernel
theorem dX5_countOfWork_100 : decode cX5_countOfWork 100 = .ok (.invokevirtual 144, 3) := by decide +kernel
theorem dX5_countOfWork_103 : decode cX5_countOfWork 103 = .ok (.ireturn, 1) := by decide +kernel
theorem dX5_countOfWork_104 : decode cX5_countOfWork 104 = .ok (.aload_n 0, 1) := by decide +kernel
theorem dX5_countOfWork_105 : decode cX5_countOfWork 105 = .ok (.getfield 35, 3) := by decide +kernel
theorem dX5_countOfWork_108 : decode cX5_countOfWork 108 = .ok (.iconst 2, 1) := by decide +kernel
theorem dX5_countOfWork_109 : decode cX5_countOfWork 109 = .ok (.invokevirtual 144, 3) := by decide +kernel
theorem dX5_countOfWork_112 : decode cX5_countOfWork 112 = .ok (.ireturn, 1) := by decide +kernel
theorem dX5_countOfWork_113 : decode cX5_countOfWork 113 = .ok (.aload_n 0, 1) := by decide +kernel
theorem dX5_countOfWork_114 : decode cX5_countOfWork 114 = .ok (.getfield 35, 3) := by decide +kernel
theorem dX5_countOfWork_117 : decode cX5_countOfWork 117 = .ok (.iconst 3, 1) := by decide +kernel
theorem dX5_countOfWork_118 : decode cX5_countOfWork 118 = .ok (.invokevirtual 144, 3) := by decide +kernel
theorem dX5_countOfWork_121 : decode cX5_countOfWork 121 = .ok (.ireturn, 1) := by decide +kernel
theorem dX5_countOfWork_122 : decode cX5_countOfWork 122 = .ok (.aload_n 0, 1) := by decide +kernel
theorem dX5_countOfWork_123 : decode cX5_countOfWork 123 = .ok (.getfield 35, 3) := by decide +kernel
theorem dX5_countOfWork_126 : decode cX5_countOfWork 126 = .ok (.invokevirtual 147, 3) := by decide +kernel
theorem dX5_countOfWork_129 : decode cX5_countOfWork 129 = .ok (.ireturn, 1) := by decide +kernel
theorem dX5_countOfWork_130 : decode cX5_countOfWork 130 = .ok (.aload_n 0, 1) := by decide +kernel
theorem dX5_countOfWork_131 : decode cX5_countOfWork 131 = .ok (.getfield 35, 3) := by decide +kernel
theorem dX5_countOfWork_134 : decode cX5_countOfWork 134 = .ok (.invokevirtual 150, 3) := by decide +kernel
theorem dX5_countOfWork_137 : decode cX5_countOfWork 137 = .ok (.ireturn, 1) := by decide +kernel
theorem dX5_holds_0 : decode cX5_holds 0 = .ok (.iload_n 1, 1) := by decide +kernel
theorem dX5_holds_1 : decode cX5_holds 1 = .ok (.invokestatic 93, 3) := by decide +kernel
theorem dX5_holds_4 : decode cX5_holds 4 = .ok (.ifCond .ne 7, 3) := by decide +kernel
theorem dX5_holds_7 : decode cX5_holds 7 = .ok (.sipush (-1001), 3) := by decide +kernel
theorem dX5_holds_10 : decode cX5_holds 10 = .ok (.ireturn, 1) := by decide +kernel
theorem dX5_holds_11 : decode cX5_holds 11 = .ok (.iload_n 2, 1) := by decide +kernel
theorem dX5_holds_12 : decode cX5_holds 12 = .ok (.invokestatic 68, 3) := by decide +kernel
theorem dX5_holds_15 : decode cX5_holds 15 = .ok (.ifCond .eq 21, 3) := by decide +kernel
theorem dX5_holds_18 : decode cX5_holds 18 = .ok (.aload_n 0, 1) := by decide +kernel
theorem dX5_holds_19 : decode cX5_holds 19 = .ok (.iload_n 3, 1) := by decide +kernel
theorem dX5_holds_20 : decode cX5_holds 20 = .ok (.invokevirtual 124, 3) := by decide +kernel
theorem dX5_holds_23 : decode cX5_holds 23 = .ok (.ifCond .eq 13, 3) := by decide +kernel
theorem dX5_holds_26 : decode cX5_holds 26 = .ok (.iload 4, 2) := by decide +kernel
theorem dX5_holds_28 : decode cX5_holds 28 = .ok (.iconst 0, 1) := by decide +kernel
theorem dX5_holds_29 : decode cX5_holds 29 = .ok (.iconst 5, 1) := by decide +kernel
theorem dX5_holds_30 : decode cX5_holds 30 = .ok (.invokestatic 46, 3) := by decide +kernel
theorem dX5_holds_33 : decode cX5_holds 33 = .ok (.ifCond .ne 7, 3) := by decide +kernel
theorem dX5_holds_36 : decode cX5_holds 36 = .ok (.sipush (-1002), 3) := by decide +kernel
theorem dX5_holds_39 : decode cX5_holds 39 = .ok (.ireturn, 1) := by decide +kernel
theorem dX5_holds_40 : decode cX5_holds 40 = .ok (.aload_n 0, 1) := by decide +kernel
theorem dX5_holds_41 : decode cX5_holds 41 = .ok (.getfield 35, 3) := by decide +kernel
theorem dX5_holds_44 : decode cX5_holds 44 = .ok (.aload_n 0, 1) := by decide +kernel
theorem dX5_holds_45 : decode cX5_holds 45 = .ok (.iload_n 3, 1) := by decide +kernel
theorem dX5_holds_46 : decode cX5_holds 46 = .ok (.invokevirtual 127, 3) := by decide +kernel
theorem dX5_holds_49 : decode cX5_holds 49 = .ok (.iload_n 2, 1) := by decide +kernel
theorem dX5_holds_50 : decode cX5_holds 50 = .ok (.invokevirtual 130, 3) := by decide +kernel
theorem dX5_holds_53 : decode cX5_holds 53 = .ok (.iload 4, 2) := by decide +kernel
theorem dX5_holds_55 : decode cX5_holds 55 = .ok (.tableswitch 82 0 4 #[33, 42, 52, 62, 72], 33) := by decide +kernel
theorem dX5_holds_88 : decode cX5_holds 88 = .ok (.aload_n 0, 1) := by decide +kernel
theorem dX5_holds_89 : decode cX5_holds 89 = .ok (.getfield 35, 3) := by decide +kernel
theorem dX5_holds_92 : decode cX5_holds 92 = .ok (.iload_n 1, 1) := by decide +kernel
theorem dX5_holds_93 : decode cX5_holds 93 = .ok (.invokevirtual 153, 3) := by decide +kernel
theorem dX5_holds_96 : decode cX5_holds 96 = .ok (.ireturn, 1) := by decide +kernel
theorem dX5_holds_97 : decode cX5_holds 97 = .ok (.aload_n 0, 1) := by decide +kernel
theorem dX5_holds_98 : decode cX5_holds 98 = .ok (.getfield 35, 3) := by decide +kernel
theorem dX5_holds_101 : decode cX5_holds 101 = .ok (.iload_n 1, 1) := by decide +kernel
theorem dX5_holds_102 : decode cX5_holds 102 = .ok (.iload_n 2, 1) := by decide +kernel
theorem dX5_holds_103 : decode cX5_holds 103 = .ok (.invokevirtual 156, 3) := by decide +kernel
theorem dX5_holds_106 : decode cX5_holds 106 = .ok (.ireturn, 1) := by decide +kernel
theorem dX5_holds_107 : decode cX5_holds 107 = .ok (.aload_n 0, 1) := by decide +kernel
theorem dX5_holds_108 : decode cX5_holds 108 = .ok (.getfield 35, 3) := by decide +kernel
theorem dX5_holds_111 : decode cX5_holds 111 = .ok (.getfield 159, 3) := by decide +kernel
theorem dX5_holds_114 : decode cX5_holds 114 = .ok (.iload_n 1, 1) := by decide +kernel
theorem dX5_holds_115 : decode cX5_holds 115 = .ok (.iaload, 1) := by decide +kernel
theorem dX5_holds_116 : decode cX5_holds 116 = .ok (.ireturn, 1) := by decide +kernel
theorem dX5_holds_117 : decode cX5_holds 117 = .ok (.aload_n 0, 1) := by decide +kernel
theorem dX5_holds_118 : decode cX5_holds 118 = .ok (.getfield 35, 3) := by decide +kernel
theorem dX5_holds_121 : decode cX5_holds 121 = .ok (.iload_n 1, 1) := by decide +kernel
theorem dX5_holds_122 : decode cX5_holds 122 = .ok (.iload_n 2, 1) := by decide +kernel
theorem dX5_holds_123 : decode cX5_holds 123 = .ok (.invokevirtual 162, 3) := by decide +kernel
theorem dX5_holds_126 : decode cX5_holds 126 = .ok (.ireturn, 1) := by decide +kernel
theorem dX5_holds_127 : decode cX5_holds 127 = .ok (.aload_n 0, 1) := by decide +kernel
theorem dX5_holds_128 : decode cX5_holds 128 = .ok (.getfield 35, 3) := by decide +kernel
theorem dX5_holds_131 : decode cX5_holds 131 = .ok (.iload_n 1, 1) := by decide +kernel
theorem dX5_holds_132 : decode cX5_holds 132 = .ok (.iload_n 2, 1) := by decide +kernel
theorem dX5_holds_133 : decode cX5_holds 133 = .ok (.invokevirtual 165, 3) := by decide +kernel
theorem dX5_holds_136 : decode cX5_holds 136 = .ok (.ireturn, 1) := by decide +kernel
theorem dX5_holds_137 : decode cX5_holds 137 = .ok (.aload_n 0, 1) := by decide +kernel
theorem dX5_holds_138 : decode cX5_holds 138 = .ok (.getfield 35, 3) := by decide +kernel
theorem dX5_holds_141 : decode cX5_holds 141 = .ok (.iload_n 1, 1) := by decide +kernel
theorem dX5_holds_142 : decode cX5_holds 142 = .ok (.invokevirtual 168, 3) := by decide +kernel
theorem dX5_holds_145 : decode cX5_holds 145 = .ok (.ireturn, 1) := by decide +kernel
theorem dX5_holdings_0 : decode cX5_holdings 0 = .ok (.aload_n 0, 1) := by decide +kernel
theorem dX5_holdings_1 : decode cX5_holdings 1 = .ok (.iload_n 1, 1) := by decide +kernel
theorem dX5_holdings_2 : decode cX5_holdings 2 = .ok (.invokevirtual 90, 3) := by decide +kernel
theorem dX5_holdings_5 : decode cX5_holdings 5 = .ok (.ifCond .ne 7, 3) := by decide +kernel
theorem dX5_holdings_8 : decode cX5_holdings 8 = .ok (.sipush (-1001), 3) := by decide +kernel
theorem dX5_holdings_11 : decode cX5_holdings 11 = .ok (.ireturn, 1) := by decide +kernel
theorem dX5_holdings_12 : decode cX5_holdings 12 = .ok (.aload_n 0, 1) := by decide +kernel
theorem dX5_holdings_13 : decode cX5_holdings 13 = .ok (.iload_n 2, 1) := by decide +kernel
theorem dX5_holdings_14 : decode cX5_holdings 14 = .ok (.invokevirtual 124, 3) := by decide +kernel
theorem dX5_holdings_17 : decode cX5_holdings 17 = .ok (.ifCond .ne 7, 3) := by decide +kernel
theorem dX5_holdings_20 : decode cX5_holdings 20 = .ok (.sipush (-1002), 3) := by decide +kernel
theorem dX5_holdings_23 : decode cX5_holdings 23 = .ok (.ireturn, 1) := by decide +kernel
theorem dX5_holdings_24 : decode cX5_holdings 24 = .ok (.aload_n 0, 1) := by decide +kernel
theorem dX5_holdings_25 : decode cX5_holdings 25 = .ok (.getfield 35, 3) := by decide +kernel
theorem dX5_holdings_28 : decode cX5_holdings 28 = .ok (.aload_n 0, 1) := by decide +kernel
theorem dX5_holdings_29 : decode cX5_holdings 29 = .ok (.iload_n 2, 1) := by decide +kernel
theorem dX5_holdings_30 : decode cX5_holdings 30 = .ok (.invokevirtual 127, 3) := by decide +kernel
theorem dX5_holdings_33 : decode cX5_holdings 33 = .ok (.sipush 20000, 3) := by decide +kernel
theorem dX5_holdings_36 : decode cX5_holdings 36 = .ok (.invokevirtual 130, 3) := by decide +kernel
theorem dX5_holdings_39 : decode cX5_holdings 39 = .ok (.iconst 0, 1) := by decide +kernel
theorem dX5_holdings_40 : decode cX5_holdings 40 = .ok (.istore_n 3, 1) := by decide +kernel
theorem dX5_holdings_41 : decode cX5_holdings 41 = .ok (.iconst 0, 1) := by decide +kernel
theorem dX5_holdings_42 : decode cX5_holdings 42 = .ok (.istore 4, 2) := by decide +kernel
theorem dX5_holdings_44 : decode cX5_holdings 44 = .ok (.iload 4, 2) := by decide +kernel
theorem dX5_holdings_46 : decode cX5_holdings 46 = .ok (.bipush 64, 2) := by decide +kernel
theorem dX5_holdings_48 : decode cX5_holdings 48 = .ok (.if_icmp .ge 25, 3) := by decide +kernel
theorem dX5_holdings_51 : decode cX5_holdings 51 = .ok (.aload_n 0, 1) := by decide +kernel
theorem dX5_holdings_52 : decode cX5_holdings 52 = .ok (.getfield 35, 3) := by decide +kernel
theorem dX5_holdings_55 : decode cX5_holdings 55 = .ok (.iload 4, 2) := by decide +kernel
theorem dX5_holdings_57 : decode cX5_holdings 57 = .ok (.invokevirtual 153, 3) := by decide +kernel
theorem dX5_holdings_60 : decode cX5_holdings 60 = .ok (.iload_n 1, 1) := by decide +kernel
theorem dX5_holdings_61 : decode cX5_holdings 61 = .ok (.if_icmp .ne 6, 3) := by decide +kernel
theorem dX5_holdings_64 : decode cX5_holdings 64 = .ok (.iinc 3 1, 3) := by decide +kernel
theorem dX5_holdings_67 : decode cX5_holdings 67 = .ok (.iinc 4 1, 3) := by decide +kernel
theorem dX5_holdings_70 : decode cX5_holdings 70 = .ok (.goto (-26), 3) := by decide +kernel
theorem dX5_holdings_73 : decode cX5_holdings 73 = .ok (.iload_n 3, 1) := by decide +kernel
theorem dX5_holdings_74 : decode cX5_holdings 74 = .ok (.ireturn, 1) := by decide +kernel
theorem dX5_digest_0 : decode cX5_digest 0 = .ok (.aload_n 0, 1) := by decide +kernel
theorem dX5_digest_1 : decode cX5_digest 1 = .ok (.iload_n 1, 1) := by decide +kernel
theorem dX5_digest_2 : decode cX5_digest 2 = .ok (.invokevirtual 124, 3) := by decide +kernel
theorem dX5_digest_5 : decode cX5_digest 5 = .ok (.ifCond .ne 7, 3) := by decide +kernel
theorem dX5_digest_8 : decode cX5_digest 8 = .ok (.sipush (-1002), 3) := by decide +kernel
theorem dX5_digest_11 : decode cX5_digest 11 = .ok (.ireturn, 1) := by decide +kernel
theorem dX5_digest_12 : decode cX5_digest 12 = .ok (.aload_n 0, 1) := by decide +kernel
theorem dX5_digest_13 : decode cX5_digest 13 = .ok (.iload_n 1, 1) := by decide +kernel
theorem dX5_digest_14 : decode cX5_digest 14 = .ok (.invokevirtual 127, 3) := by decide +kernel
theorem dX5_digest_17 : decode cX5_digest 17 = .ok (.istore_n 2, 1) := by decide +kernel
theorem dX5_digest_18 : decode cX5_digest 18 = .ok (.aload_n 0, 1) := by decide +kernel
theorem dX5_digest_19 : decode cX5_digest 19 = .ok (.getfield 35, 3) := by decide +kernel
theorem dX5_digest_22 : decode cX5_digest 22 = .ok (.iload_n 2, 1) := by decide +kernel
theorem dX5_digest_23 : decode cX5_digest 23 = .ok (.sipush 20000, 3) := by decide +kernel
theorem dX5_digest_26 : decode cX5_digest 26 = .ok (.invokevirtual 130, 3) := by decide +kernel
theorem dX5_digest_29 : decode cX5_digest 29 = .ok (.bipush 7, 2) := by decide +kernel
theorem dX5_digest_31 : decode cX5_digest 31 = .ok (.istore_n 3, 1) := by decide +kernel
theorem dX5_digest_32 : decode cX5_digest 32 = .ok (.iconst 0, 1) := by decide +kernel
theorem dX5_digest_33 : decode cX5_digest 33 = .ok (.istore 4, 2) := by decide +kernel
theorem dX5_digest_35 : decode cX5_digest 35 = .ok (.iload 4, 2) := by decide +kernel
theorem dX5_digest_37 : decode cX5_digest 37 = .ok (.iload_n 2, 1) := by decide +kernel
theorem dX5_digest_38 : decode cX5_digest 38 = .ok (.if_icmp .ge 25, 3) := by decide +kernel
theorem dX5_digest_41 : decode cX5_digest 41 = .ok (.bipush 31, 2) := by decide +kernel
theorem dX5_digest_43 : decode cX5_digest 43 = .ok (.iload_n 3, 1) := by decide +kernel
theorem dX5_digest_44 : decode cX5_digest 44 = .ok (.imul, 1) := by decide +kernel
theorem dX5_digest_45 : decode cX5_digest 45 = .ok (.aload_n 0, 1) := by decide +kernel
theorem dX5_digest_46 : decode cX5_digest 46 = .ok (.getfield 35, 3) := by decide +kernel
theorem dX5_digest_49 : decode cX5_digest 49 = .ok (.getfield 134, 3) := by decide +kernel
theorem dX5_digest_52 : decode cX5_digest 52 = .ok (.iload 4, 2) := by decide +kernel
theorem dX5_digest_54 : decode cX5_digest 54 = .ok (.iaload, 1) := by decide +kernel
theorem dX5_digest_55 : decode cX5_digest 55 = .ok (.iadd, 1) := by decide +kernel
theorem dX5_digest_56 : decode cX5_digest 56 = .ok (.istore_n 3, 1) := by decide +kernel
theorem dX5_digest_57 : decode cX5_digest 57 = .ok (.iinc 4 1, 3) := by decide +kernel
theorem dX5_digest_60 : decode cX5_digest 60 = .ok (.goto (-25), 3) := by decide +kernel
theorem dX5_digest_63 : decode cX5_digest 63 = .ok (.iconst 0, 1) := by decide +kernel
theorem dX5_digest_64 : decode cX5_digest 64 = .ok (.istore 4, 2) := by decide +kernel
theorem dX5_digest_66 : decode cX5_digest 66 = .ok (.iload 4, 2) := by decide +kernel
theorem dX5_digest_68 : decode cX5_digest 68 = .ok (.bipush 64, 2) := by decide +kernel
theorem dX5_digest_70 : decode cX5_digest 70 = .ok (.if_icmp .ge 24, 3) := by decide +kernel
theorem dX5_digest_73 : decode cX5_digest 73 = .ok (.bipush 31, 2) := by decide +kernel
theorem dX5_digest_75 : decode cX5_digest 75 = .ok (.iload_n 3, 1) := by decide +kernel
theorem dX5_digest_76 : decode cX5_digest 76 = .ok (.imul, 1) := by decide +kernel
theorem dX5_digest_77 : decode cX5_digest 77 = .ok (.aload_n 0, 1) := by decide +kernel
theorem dX5_digest_78 : decode cX5_digest 78 = .ok (.getfield 35, 3) := by decide +kernel
theorem dX5_digest_81 : decode cX5_digest 81 = .ok (.iload 4, 2) := by decide +kernel
theorem dX5_digest_83 : decode cX5_digest 83 = .ok (.invokevirtual 153, 3) := by decide +kernel
theorem dX5_digest_86 : decode cX5_digest 86 = .ok (.iadd, 1) := by decide +kernel
theorem dX5_digest_87 : decode cX5_digest 87 = .ok (.istore_n 3, 1) := by decide +kernel
theorem dX5_digest_88 : decode cX5_digest 88 = .ok (.iinc 4 1, 3) := by decide +kernel
theorem dX5_digest_91 : decode cX5_digest 91 = .ok (.goto (-25), 3) := by decide +kernel
theorem dX5_digest_94 : decode cX5_digest 94 = .ok (.iload_n 3, 1) := by decide +kernel
theorem dX5_digest_95 : decode cX5_digest 95 = .ok (.ireturn, 1) := by decide +kernel
theorem dX5_corner_0 : decode cX5_corner 0 = .ok (.iload_n 1, 1) := by decide +kernel
theorem dX5_corner_1 : decode cX5_corner 1 = .ok (.iload_n 2, 1) := by decide +kernel
theorem dX5_corner_2 : decode cX5_corner 2 = .ok (.invokestatic 171, 3) := by decide +kernel
theorem dX5_corner_5 : decode cX5_corner 5 = .ok (.ifCond .eq 30, 3) := by decide +kernel
theorem dX5_corner_8 : decode cX5_corner 8 = .ok (.iload_n 3, 1) := by decide +kernel
theorem dX5_corner_9 : decode cX5_corner 9 = .ok (.sipush (-10000), 3) := by decide +kernel
theorem dX5_corner_12 : decode cX5_corner 12 = .ok (.sipush 10000, 3) := by decide +kernel
theorem dX5_corner_15 : decode cX5_corner 15 = .ok (.invokestatic 46, 3) := by decide +kernel
theorem dX5_corner_18 : decode cX5_corner 18 = .ok (.ifCond .eq 17, 3) := by decide +kernel
theorem dX5_corner_21 : decode cX5_corner 21 = .ok (.iload 4, 2) := by decide +kernel
theorem dX5_corner_23 : decode cX5_corner 23 = .ok (.sipush (-10000), 3) := by decide +kernel
theorem dX5_corner_26 : decode cX5_corner 26 = .ok (.sipush 10000, 3) := by decide +kernel
theorem dX5_corner_29 : decode cX5_corner 29 = .ok (.invokestatic 46, 3) := by decide +kernel
theorem dX5_corner_32 : decode cX5_corner 32 = .ok (.ifCond .ne 7, 3) := by decide +kernel
theorem dX5_corner_35 : decode cX5_corner 35 = .ok (.sipush (-1002), 3) := by decide +kernel
theorem dX5_corner_38 : decode cX5_corner 38 = .ok (.ireturn, 1) := by decide +kernel
theorem dX5_corner_39 : decode cX5_corner 39 = .ok (.aload_n 0, 1) := by decide +kernel
theorem dX5_corner_40 : decode cX5_corner 40 = .ok (.getfield 42, 3) := by decide +kernel
theorem dX5_corner_43 : decode cX5_corner 43 = .ok (.iload_n 1, 1) := by decide +kernel
theorem dX5_corner_44 : decode cX5_corner 44 = .ok (.iload_n 2, 1) := by decide +kernel
theorem dX5_corner_45 : decode cX5_corner 45 = .ok (.iload_n 3, 1) := by decide +kernel
theorem dX5_corner_46 : decode cX5_corner 46 = .ok (.iload 4, 2) := by decide +kernel
theorem dX5_corner_48 : decode cX5_corner 48 = .ok (.invokevirtual 174, 3) := by decide +kernel
theorem dX5_corner_51 : decode cX5_corner 51 = .ok (.iconst 1, 1) := by decide +kernel
theorem dX5_corner_52 : decode cX5_corner 52 = .ok (.ireturn, 1) := by decide +kernel
theorem dX5_lose_0 : decode cX5_lose 0 = .ok (.iload_n 1, 1) := by decide +kernel
theorem dX5_lose_1 : decode cX5_lose 1 = .ok (.iload_n 2, 1) := by decide +kernel
theorem dX5_lose_2 : decode cX5_lose 2 = .ok (.invokestatic 171, 3) := by decide +kernel
theorem dX5_lose_5 : decode cX5_lose 5 = .ok (.ifCond .ne 7, 3) := by decide +kernel
theorem dX5_lose_8 : decode cX5_lose 8 = .ok (.sipush (-1002), 3) := by decide +kernel
theorem dX5_lose_11 : decode cX5_lose 11 = .ok (.ireturn, 1) := by decide +kernel
theorem dX5_lose_12 : decode cX5_lose 12 = .ok (.aload_n 0, 1) := by decide +kernel
theorem dX5_lose_13 : decode cX5_lose 13 = .ok (.getfield 42, 3) := by decide +kernel
theorem dX5_lose_16 : decode cX5_lose 16 = .ok (.iload_n 1, 1) := by decide +kernel
theorem dX5_lose_17 : decode cX5_lose 17 = .ok (.iload_n 2, 1) := by decide +kernel
theorem dX5_lose_18 : decode cX5_lose 18 = .ok (.invokevirtual 178, 3) := by decide +kernel
theorem dX5_lose_21 : decode cX5_lose 21 = .ok (.ifCond .eq 7, 3) := by decide +kernel
theorem dX5_lose_24 : decode cX5_lose 24 = .ok (.iconst 1, 1) := by decide +kernel
theorem dX5_lose_25 : decode cX5_lose 25 = .ok (.goto 4, 3) := by decide +kernel
theorem dX5_lose_28 : decode cX5_lose 28 = .ok (.iconst 0, 1) := by decide +kernel
theorem dX5_lose_29 : decode cX5_lose 29 = .ok (.ireturn, 1) := by decide +kernel
theorem dX5_lies_0 : decode cX5_lies 0 = .ok (.iload_n 1, 1) := by decide +kernel
theorem dX5_lies_1 : decode cX5_lies 1 = .ok (.iload_n 2, 1) := by decide +kernel
theorem dX5_lies_2 : decode cX5_lies 2 = .ok (.invokestatic 171, 3) := by decide +kernel
theorem dX5_lies_5 : decode cX5_lies 5 = .ok (.ifCond .eq 12, 3) := by decide +kernel
theorem dX5_lies_8 : decode cX5_lies 8 = .ok (.iload_n 3, 1) := by decide +kernel
theorem dX5_lies_9 : decode cX5_lies 9 = .ok (.iconst 0, 1) := by decide +kernel
theorem dX5_lies_10 : decode cX5_lies 10 = .ok (.iconst 2, 1) := by decide +kernel
theorem dX5_lies_11 : decode cX5_lies 11 = .ok (.invokestatic 46, 3) := by decide +kernel
theorem dX5_lies_14 : decode cX5_lies 14 = .ok (.ifCond .ne 7, 3) := by decide +kernel
theorem dX5_lies_17 : decode cX5_lies 17 = .ok (.sipush (-1002), 3) := by decide +kernel
theorem dX5_lies_20 : decode cX5_lies 20 = .ok (.ireturn, 1) := by decide +kernel
theorem dX5_lies_21 : decode cX5_lies 21 = .ok (.aload_n 0, 1) := by decide +kernel
theorem dX5_lies_22 : decode cX5_lies 22 = .ok (.getfield 42, 3) := by decide +kernel
theorem dX5_lies_25 : decode cX5_lies 25 = .ok (.iload_n 1, 1) := by decide +kernel
theorem dX5_lies_26 : decode cX5_lies 26 = .ok (.iload_n 2, 1) := by decide +kernel
theorem dX5_lies_27 : decode cX5_lies 27 = .ok (.invokevirtual 181, 3) := by decide +kernel
theorem dX5_lies_30 : decode cX5_lies 30 = .ok (.ifCond .ne 7, 3) := by decide +kernel
theorem dX5_lies_33 : decode cX5_lies 33 = .ok (.sipush (-1003), 3) := by decide +kernel
theorem dX5_lies_36 : decode cX5_lies 36 = .ok (.ireturn, 1) := by decide +kernel
theorem dX5_lies_37 : decode cX5_lies 37 = .ok (.iload_n 3, 1) := by decide +kernel
theorem dX5_lies_38 : decode cX5_lies 38 = .ok (.lookupswitch 42 #[(0, 26), (1, 34)], 26) := by decide +kernel
theorem dX5_lies_64 : decode cX5_lies 64 = .ok (.aload_n 0, 1) := by decide +kernel
theorem dX5_lies_65 : decode cX5_lies 65 = .ok (.getfield 42, 3) := by decide +kernel
theorem dX5_lies_68 : decode cX5_lies 68 = .ok (.getfield 184, 3) := by decide +kernel
theorem dX5_lies_71 : decode cX5_lies 71 = .ok (.ireturn, 1) := by decide +kernel
theorem dX5_lies_72 : decode cX5_lies 72 = .ok (.aload_n 0, 1) := by decide +kernel
theorem dX5_lies_73 : decode cX5_lies 73 = .ok (.getfield 42, 3) := by decide +kernel
theorem dX5_lies_76 : decode cX5_lies 76 = .ok (.getfield 187, 3) := by decide +kernel
theorem dX5_lies_79 : decode cX5_lies 79 = .ok (.ireturn, 1) := by decide +kernel
theorem dX5_lies_80 : decode cX5_lies 80 = .ok (.aload_n 0, 1) := by decide +kernel
theorem dX5_lies_81 : decode cX5_lies 81 = .ok (.getfield 42, 3) := by decide +kernel
theorem dX5_lies_84 : decode cX5_lies 84 = .ok (.iload_n 1, 1) := by decide +kernel
theorem dX5_lies_85 : decode cX5_lies 85 = .ok (.iload_n 2, 1) := by decide +kernel
theorem dX5_lies_86 : decode cX5_lies 86 = .ok (.invokevirtual 190, 3) := by decide +kernel
theorem dX5_lies_89 : decode cX5_lies 89 = .ok (.ifCond .eq 7, 3) := by decide +kernel
theorem dX5_lies_92 : decode cX5_lies 92 = .ok (.iconst 1, 1) := by decide +kernel
theorem dX5_lies_93 : decode cX5_lies 93 = .ok (.goto 4, 3) := by decide +kernel
theorem dX5_lies_96 : decode cX5_lies 96 = .ok (.iconst 0, 1) := by decide +kernel
theorem dX5_lies_97 : decode cX5_lies 97 = .ok (.ireturn, 1) := by decide +kernel
theorem dX5_area_0 : decode cX5_area 0 = .ok (.iload_n 1, 1) := by decide +kernel
theorem dX5_area_1 : decode cX5_area 1 = .ok (.invokestatic 93, 3) := by decide +kernel
theorem dX5_area_4 : decode cX5_area 4 = .ok (.ifCond .ne 7, 3) := by decide +kernel
theorem dX5_area_7 : decode cX5_area 7 = .ok (.ldc2_w 193, 3) := by decide +kernel
theorem dX5_area_10 : decode cX5_area 10 = .ok (.lreturn, 1) := by decide +kernel
theorem dX5_area_11 : decode cX5_area 11 = .ok (.aload_n 0, 1) := by decide +kernel
theorem dX5_area_12 : decode cX5_area 12 = .ok (.getfield 42, 3) := by decide +kernel
theorem dX5_area_15 : decode cX5_area 15 = .ok (.iload_n 1, 1) := by decide +kernel
theorem dX5_area_16 : decode cX5_area 16 = .ok (.bipush 8, 2) := by decide +kernel
theorem dX5_area_18 : decode cX5_area 18 = .ok (.irem, 1) := by decide +kernel
theorem dX5_area_19 : decode cX5_area 19 = .ok (.iload_n 1, 1) := by decide +kernel
theorem dX5_area_20 : decode cX5_area 20 = .ok (.bipush 8, 2) := by decide +kernel
theorem dX5_area_22 : decode cX5_area 22 = .ok (.idiv, 1) := by decide +kernel
theorem dX5_area_23 : decode cX5_area 23 = .ok (.invokevirtual 195, 3) := by decide +kernel
theorem dX5_area_26 : decode cX5_area 26 = .ok (.ifCond .ne 7, 3) := by decide +kernel
theorem dX5_area_29 : decode cX5_area 29 = .ok (.ldc2_w 198, 3) := by decide +kernel
theorem dX5_area_32 : decode cX5_area 32 = .ok (.lreturn, 1) := by decide +kernel
theorem dX5_area_33 : decode cX5_area 33 = .ok (.aload_n 0, 1) := by decide +kernel
theorem dX5_area_34 : decode cX5_area 34 = .ok (.getfield 42, 3) := by decide +kernel
theorem dX5_area_37 : decode cX5_area 37 = .ok (.invokevirtual 200, 3) := by decide +kernel
theorem dX5_area_40 : decode cX5_area 40 = .ok (.lreturn, 1) := by decide +kernel
theorem dX5_within_0 : decode cX5_within 0 = .ok (.iload_n 0, 1) := by decide +kernel
theorem dX5_within_1 : decode cX5_within 1 = .ok (.iload_n 1, 1) := by decide +kernel
theorem dX5_within_2 : decode cX5_within 2 = .ok (.if_icmp .lt 12, 3) := by decide +kernel
theorem dX5_within_5 : decode cX5_within 5 = .ok (.iload_n 0, 1) := by decide +kernel
theorem dX5_within_6 : decode cX5_within 6 = .ok (.iload_n 2, 1) := by decide +kernel
theorem dX5_within_7 : decode cX5_within 7 = .ok (.if_icmp .gt 7, 3) := by decide +kernel
theorem dX5_within_10 : decode cX5_within 10 = .ok (.iconst 1, 1) := by decide +kernel
theorem dX5_within_11 : decode cX5_within 11 = .ok (.goto 4, 3) := by decide +kernel
theorem dX5_within_14 : decode cX5_within 14 = .ok (.iconst 0, 1) := by decide +kernel
theorem dX5_within_15 : decode cX5_within 15 = .ok (.ireturn, 1) := by decide +kernel
theorem dX5_isDay_0 : decode cX5_isDay 0 = .ok (.iload_n 0, 1) := by decide +kernel
theorem dX5_isDay_1 : decode cX5_isDay 1 = .ok (.iconst 0, 1) := by decide +kernel
theorem dX5_isDay_2 : decode cX5_isDay 2 = .ok (.sipush 20000, 3) := by decide +kernel
theorem dX5_isDay_5 : decode cX5_isDay 5 = .ok (.invokestatic 46, 3) := by decide +kernel
theorem dX5_isDay_8 : decode cX5_isDay 8 = .ok (.ireturn, 1) := by decide +kernel
theorem dX5_isQuarter_0 : decode cX5_isQuarter 0 = .ok (.iload_n 0, 1) := by decide +kernel
theorem dX5_isQuarter_1 : decode cX5_isQuarter 1 = .ok (.iconst 0, 1) := by decide +kernel
theorem dX5_isQuarter_2 : decode cX5_isQuarter 2 = .ok (.bipush 63, 2) := by decide +kernel
theorem dX5_isQuarter_4 : decode cX5_isQuarter 4 = .ok (.invokestatic 46, 3) := by decide +kernel
theorem dX5_isQuarter_7 : decode cX5_isQuarter 7 = .ok (.ireturn, 1) := by decide +kernel
theorem dX5_isCorner_0 : decode cX5_isCorner 0 = .ok (.iload_n 0, 1) := by decide +kernel
theorem dX5_isCorner_1 : decode cX5_isCorner 1 = .ok (.iconst 0, 1) := by decide +kernel
theorem dX5_isCorner_2 : decode cX5_isCorner 2 = .ok (.bipush 8, 2) := by decide +kernel
theorem dX5_isCorner_4 : decode cX5_isCorner 4 = .ok (.invokestatic 46, 3) := by decide +kernel
theorem dX5_isCorner_7 : decode cX5_isCorner 7 = .ok (.ifCond .eq 17, 3) := by decide +kernel
theorem dX5_isCorner_10 : decode cX5_isCorner 10 = .ok (.iload_n 1, 1) := by decide +kernel
theorem dX5_isCorner_11 : decode cX5_isCorner 11 = .ok (.iconst 0, 1) := by decide +kernel
theorem dX5_isCorner_12 : decode cX5_isCorner 12 = .ok (.bipush 8, 2) := by decide +kernel
theorem dX5_isCorner_14 : decode cX5_isCorner 14 = .ok (.invokestatic 46, 3) := by decide +kernel
theorem dX5_isCorner_17 : decode cX5_isCorner 17 = .ok (.ifCond .eq 7, 3) := by decide +kernel
theorem dX5_isCorner_20 : decode cX5_isCorner 20 = .ok (.iconst 1, 1) := by decide +kernel
theorem dX5_isCorner_21 : decode cX5_isCorner 21 = .ok (.goto 4, 3) := by decide +kernel
theorem dX5_isCorner_24 : decode cX5_isCorner 24 = .ok (.iconst 0, 1) := by decide +kernel
theorem dX5_isCorner_25 : decode cX5_isCorner 25 = .ok (.ireturn, 1) := by decide +kernel
theorem dX5_isPerson_0 : decode cX5_isPerson 0 = .ok (.iload_n 1, 1) := by decide +kernel
theorem dX5_isPerson_1 : decode cX5_isPerson 1 = .ok (.iconst 0, 1) := by decide +kernel
theorem dX5_isPerson_2 : decode cX5_isPerson 2 = .ok (.aload_n 0, 1) := by decide +kernel
theorem dX5_isPerson_3 : decode cX5_isPerson 3 = .ok (.getfield 12, 3) := by decide +kernel
theorem dX5_isPerson_6 : decode cX5_isPerson 6 = .ok (.getfield 50, 3) := by decide +kernel
theorem dX5_isPerson_9 : decode cX5_isPerson 9 = .ok (.iconst 1, 1) := by decide +kernel
theorem dX5_isPerson_10 : decode cX5_isPerson 10 = .ok (.isub, 1) := by decide +kernel
theorem dX5_isPerson_11 : decode cX5_isPerson 11 = .ok (.invokestatic 46, 3) := by decide +kernel
theorem dX5_isPerson_14 : decode cX5_isPerson 14 = .ok (.ireturn, 1) := by decide +kernel
theorem dX5_isLine_0 : decode cX5_isLine 0 = .ok (.iload_n 1, 1) := by decide +kernel
theorem dX5_isLine_1 : decode cX5_isLine 1 = .ok (.iconst 0, 1) := by decide +kernel
theorem dX5_isLine_2 : decode cX5_isLine 2 = .ok (.aload_n 0, 1) := by decide +kernel
theorem dX5_isLine_3 : decode cX5_isLine 3 = .ok (.getfield 26, 3) := by decide +kernel
theorem dX5_isLine_6 : decode cX5_isLine 6 = .ok (.getfield 100, 3) := by decide +kernel
theorem dX5_isLine_9 : decode cX5_isLine 9 = .ok (.iconst 1, 1) := by decide +kernel
theorem dX5_isLine_10 : decode cX5_isLine 10 = .ok (.isub, 1) := by decide +kernel
theorem dX5_isLine_11 : decode cX5_isLine 11 = .ok (.invokestatic 46, 3) := by decide +kernel
theorem dX5_isLine_14 : decode cX5_isLine 14 = .ok (.ireturn, 1) := by decide +kernel
theorem dX5_isKnownBy_0 : decode cX5_isKnownBy 0 = .ok (.iload_n 1, 1) := by decide +kernel
theorem dX5_isKnownBy_1 : decode cX5_isKnownBy 1 = .ok (.iconst (-1), 1) := by decide +kernel
theorem dX5_isKnownBy_2 : decode cX5_isKnownBy 2 = .ok (.aload_n 0, 1) := by decide +kernel
theorem dX5_isKnownBy_3 : decode cX5_isKnownBy 3 = .ok (.getfield 26, 3) := by decide +kernel
theorem dX5_isKnownBy_6 : decode cX5_isKnownBy 6 = .ok (.getfield 100, 3) := by decide +kernel
theorem dX5_isKnownBy_9 : decode cX5_isKnownBy 9 = .ok (.invokestatic 46, 3) := by decide +kernel
theorem dX5_isKnownBy_12 : decode cX5_isKnownBy 12 = .ok (.ireturn, 1) := by decide +kernel
theorem dX5_linesOf_0 : decode cX5_linesOf 0 = .ok (.iload_n 1, 1) := by decide +kernel
theorem dX5_linesOf_1 : decode cX5_linesOf 1 = .ok (.iconst (-1), 1) := by decide +kernel
theorem dX5_linesOf_2 : decode cX5_linesOf 2 = .ok (.if_icmp .ne 13, 3) := by decide +kernel
theorem dX5_linesOf_5 : decode cX5_linesOf 5 = .ok (.aload_n 0, 1) := by decide +kernel
theorem dX5_linesOf_6 : decode cX5_linesOf 6 = .ok (.getfield 26, 3) := by decide +kernel
theorem dX5_linesOf_9 : decode cX5_linesOf 9 = .ok (.getfield 100, 3) := by decide +kernel
theorem dX5_linesOf_12 : decode cX5_linesOf 12 = .ok (.goto 4, 3) := by decide +kernel
theorem dX5_linesOf_15 : decode cX5_linesOf 15 = .ok (.iload_n 1, 1) := by decide +kernel
theorem dX5_linesOf_16 : decode cX5_linesOf 16 = .ok (.ireturn, 1) := by decide +kernel
theorem dX5_fitsSort_0 : decode cX5_fitsSort 0 = .ok (.iload_n 0, 1) := by decide +kernel
theorem dX5_fitsSort_1 : decode cX5_fitsSort 1 = .ok (.iconst 1, 1) := by decide +kernel
theorem dX5_fitsSort_2 : decode cX5_fitsSort 2 = .ok (.if_icmp .ne 12, 3) := by decide +kernel
theorem dX5_fitsSort_5 : decode cX5_fitsSort 5 = .ok (.iload_n 1, 1) := by decide +kernel
theorem dX5_fitsSort_6 : decode cX5_fitsSort 6 = .ok (.iconst 1, 1) := by decide +kernel
theorem dX5_fitsSort_7 : decode cX5_fitsSort 7 = .ok (.sipush 5000, 3) := by decide +kernel
theorem dX5_fitsSort_10 : decode cX5_fitsSort 10 = .ok (.invokestatic 46, 3) := by decide +kernel
theorem dX5_fitsSort_13 : decode cX5_fitsSort 13 = .ok (.ireturn, 1) := by decide +kernel
theorem dX5_fitsSort_14 : decode cX5_fitsSort 14 = .ok (.iload_n 0, 1) := by decide +kernel
theorem dX5_fitsSort_15 : decode cX5_fitsSort 15 = .ok (.iconst 2, 1) := by decide +kernel
theorem dX5_fitsSort_16 : decode cX5_fitsSort 16 = .ok (.if_icmp .ne 12, 3) := by decide +kernel
theorem dX5_fitsSort_19 : decode cX5_fitsSort 19 = .ok (.iload_n 1, 1) := by decide +kernel
theorem dX5_fitsSort_20 : decode cX5_fitsSort 20 = .ok (.iconst 1, 1) := by decide +kernel
theorem dX5_fitsSort_21 : decode cX5_fitsSort 21 = .ok (.sipush 160, 3) := by decide +kernel
theorem dX5_fitsSort_24 : decode cX5_fitsSort 24 = .ok (.invokestatic 46, 3) := by decide +kernel
theorem dX5_fitsSort_27 : decode cX5_fitsSort 27 = .ok (.ireturn, 1) := by decide +kernel
theorem dX5_fitsSort_28 : decode cX5_fitsSort 28 = .ok (.iconst 1, 1) := by decide +kernel
theorem dX5_fitsSort_29 : decode cX5_fitsSort 29 = .ok (.ireturn, 1) := by decide +kernel
theorem dX6_init_0 : decode cX6_init 0 = .ok (.aload_n 0, 1) := by decide +kernel
theorem dX6_init_1 : decode cX6_init 1 = .ok (.invokespecial 1, 3) := by decide +kernel
theorem dX6_init_4 : decode cX6_init 4 = .ok (.aload_n 0, 1) := by decide +kernel
theorem dX6_init_5 : decode cX6_init 5 = .ok (.bipush 12, 2) := by decide +kernel
theorem dX6_init_7 : decode cX6_init 7 = .ok (.newarray .int, 2) := by decide +kernel
theorem dX6_init_9 : decode cX6_init 9 = .ok (.putfield 7, 3) := by decide +kernel
theorem dX6_init_12 : decode cX6_init 12 = .ok (.aload_n 0, 1) := by decide +kernel
theorem dX6_init_13 : decode cX6_init 13 = .ok (.bipush 12, 2) := by decide +kernel
theorem dX6_init_15 : decode cX6_init 15 = .ok (.newarray .int, 2) := by decide +kernel
theorem dX6_init_17 : decode cX6_init 17 = .ok (.putfield 13, 3) := by decide +kernel
theorem dX6_init_20 : decode cX6_init 20 = .ok (.aload_n 0, 1) := by decide +kernel
theorem dX6_init_21 : decode cX6_init 21 = .ok (.sipush 20001, 3) := by decide +kernel
theorem dX6_init_24 : decode cX6_init 24 = .ok (.putfield 16, 3) := by decide +kernel
theorem dX6_init_27 : decode cX6_init 27 = .ok (.aload_n 0, 1) := by decide +kernel
theorem dX6_init_28 : decode cX6_init 28 = .ok (.bipush 120, 2) := by decide +kernel
theorem dX6_init_30 : decode cX6_init 30 = .ok (.newarray .int, 2) := by decide +kernel
theorem dX6_init_32 : decode cX6_init 32 = .ok (.putfield 20, 3) := by decide +kernel
theorem dX6_init_35 : decode cX6_init 35 = .ok (.aload_n 0, 1) := by decide +kernel
theorem dX6_init_36 : decode cX6_init 36 = .ok (.iconst (-1), 1) := by decide +kernel
theorem dX6_init_37 : decode cX6_init 37 = .ok (.putfield 23, 3) := by decide +kernel
theorem dX6_init_40 : decode cX6_init 40 = .ok (.aload_n 0, 1) := by decide +kernel
theorem dX6_init_41 : decode cX6_init 41 = .ok (.bipush 8, 2) := by decide +kernel
theorem dX6_init_43 : decode cX6_init 43 = .ok (.newarray .int, 2) := by decide +kernel
theorem dX6_init_45 : decode cX6_init 45 = .ok (.putfield 26, 3) := by decide +kernel
theorem dX6_init_48 : decode cX6_init 48 = .ok (.aload_n 0, 1) := by decide +kernel
theorem dX6_init_49 : decode cX6_init 49 = .ok (.bipush 72, 2) := by decide +kernel
theorem dX6_init_51 : decode cX6_init 51 = .ok (.newarray .int, 2) := by decide +kernel
theorem dX6_init_53 : decode cX6_init 53 = .ok (.putfield 29, 3) := by decide +kernel
theorem dX6_init_56 : decode cX6_init 56 = .ok (.aload_n 0, 1) := by decide +kernel
theorem dX6_init_57 : decode cX6_init 57 = .ok (.bipush 9, 2) := by decide +kernel
theorem dX6_init_59 : decode cX6_init 59 = .ok (.newarray .int, 2) := by decide +kernel
theorem dX6_init_61 : decode cX6_init 61 = .ok (.putfield 32, 3) := by decide +kernel
theorem dX6_init_64 : decode cX6_init 64 = .ok (.aload_n 0, 1) := by decide +kernel
theorem dX6_init_65 : decode cX6_init 65 = .ok (.bipush 9, 2) := by decide +kernel
theorem dX6_init_67 : decode cX6_init 67 = .ok (.newarray .long, 2) := by decide +kernel
theorem dX6_init_69 : decode cX6_init 69 = .ok (.putfield 35, 3) := by decide +kernel
theorem dX6_init_72 : decode cX6_init 72 = .ok (.aload_n 0, 1) := by decide +kernel
theorem dX6_init_73 : decode cX6_init 73 = .ok (.bipush 120, 2) := by decide +kernel
theorem dX6_init_75 : decode cX6_init 75 = .ok (.newarray .int, 2) := by decide +kernel
theorem dX6_init_77 : decode cX6_init 77 = .ok (.putfield 39, 3) := by decide +kernel
theorem dX6_init_80 : decode cX6_init 80 = .ok (.aload_n 0, 1) := by decide +kernel
theorem dX6_init_81 : decode cX6_init 81 = .ok (.bipush 120, 2) := by decide +kernel
theorem dX6_init_83 : decode cX6_init 83 = .ok (.newarray .int, 2) := by decide +kernel
theorem dX6_init_85 : decode cX6_init 85 = .ok (.putfield 42, 3) := by decide +kernel
theorem dX6_init_88 : decode cX6_init 88 = .ok (.aload_n 0, 1) := by decide +kernel
theorem dX6_init_89 : decode cX6_init 89 = .ok (.bipush 120, 2) := by decide +kernel
theorem dX6_init_91 : decode cX6_init 91 = .ok (.newarray .int, 2) := by decide +kernel
theorem dX6_init_93 : decode cX6_init 93 = .ok (.putfield 45, 3) := by decide +kernel
theorem dX6_init_96 : decode cX6_init 96 = .ok (.aload_n 0, 1) := by decide +kernel
theorem dX6_init_97 : decode cX6_init 97 = .ok (.bipush 120, 2) := by decide +kernel
theorem dX6_init_99 : decode cX6_init 99 = .ok (.newarray .int, 2) := by decide +kernel
theorem dX6_init_101 : decode cX6_init 101 = .ok (.putfield 48, 3) := by decide +kernel
theorem dX6_init_104 : decode cX6_init 104 = .ok (.aload_n 0, 1) := by decide +kernel
theorem dX6_init_105 : decode cX6_init 105 = .ok (.bipush 120, 2) := by decide +kernel
theorem dX6_init_107 : decode cX6_init 107 = .ok (.newarray .int, 2) := by decide +kernel
theorem dX6_init_109 : decode cX6_init 109 = .ok (.putfield 51, 3) := by decide +kernel
theorem dX6_init_112 : decode cX6_init 112 = .ok (.aload_n 0, 1) := by decide +kernel
theorem dX6_init_113 : decode cX6_init 113 = .ok (.bipush 120, 2) := by decide +kernel
theorem dX6_init_115 : decode cX6_init 115 = .ok (.newarray .boolean, 2) := by decide +kernel
theorem dX6_init_117 : decode cX6_init 117 = .ok (.putfield 54, 3) := by decide +kernel
theorem dX6_init_120 : decode cX6_init 120 = .ok (.aload_n 0, 1) := by decide +kernel
theorem dX6_init_121 : decode cX6_init 121 = .ok (.bipush 81, 2) := by decide +kernel
theorem dX6_init_123 : decode cX6_init 123 = .ok (.newarray .boolean, 2) := by decide +kernel
theorem dX6_init_125 : decode cX6_init 125 = .ok (.putfield 58, 3) := by decide +kernel
theorem dX6_init_128 : decode cX6_init 128 = .ok (.aload_n 0, 1) := by decide +kernel
theorem dX6_init_129 : decode cX6_init 129 = .ok (.bipush 81, 2) := by decide +kernel
theorem dX6_init_131 : decode cX6_init 131 = .ok (.newarray .int, 2) := by decide +kernel
theorem dX6_init_133 : decode cX6_init 133 = .ok (.putfield 61, 3) := by decide +kernel
theorem dX6_init_136 : decode cX6_init 136 = .ok (.aload_n 0, 1) := by decide +kernel
theorem dX6_init_137 : decode cX6_init 137 = .ok (.bipush 81, 2) := by decide +kernel
theorem dX6_init_139 : decode cX6_init 139 = .ok (.newarray .int, 2) := by decide +kernel
theorem dX6_init_141 : decode cX6_init 141 = .ok (.putfield 64, 3) := by decide +kernel
theorem dX6_init_144 : decode cX6_init 144 = .ok (.aload_n 0, 1) := by decide +kernel
theorem dX6_init_145 : decode cX6_init 145 = .ok (.bipush 120, 2) := by decide +kernel
theorem dX6_init_147 : decode cX6_init 147 = .ok (.newarray .int, 2) := by decide +kernel
theorem dX6_init_149 : decode cX6_init 149 = .ok (.putfield 67, 3) := by decide +kernel
theorem dX6_init_152 : decode cX6_init 152 = .ok (.aload_n 0, 1) := by decide +kernel
theorem dX6_init_153 : decode cX6_init 153 = .ok (.bipush 120, 2) := by decide +kernel
theorem dX6_init_155 : decode cX6_init 155 = .ok (.newarray .int, 2) := by decide +kernel
theorem dX6_init_157 : decode cX6_init 157 = .ok (.putfield 70, 3) := by decide +kernel
theorem dX6_init_160 : decode cX6_init 160 = .ok (.aload_n 0, 1) := by decide +kernel
theorem dX6_init_161 : decode cX6_init 161 = .ok (.bipush 12, 2) := by decide +kernel
theorem dX6_init_163 : decode cX6_init 163 = .ok (.newarray .boolean, 2) := by decide +kernel
theorem dX6_init_165 : decode cX6_init 165 = .ok (.putfield 73, 3) := by decide +kernel
theorem dX6_init_168 : decode cX6_init 168 = .ok (.aload_n 0, 1) := by decide +kernel
theorem dX6_init_169 : decode cX6_init 169 = .ok (.bipush 120, 2) := by decide +kernel
theorem dX6_init_171 : decode cX6_init 171 = .ok (.newarray .int, 2) := by decide +kernel
theorem dX6_init_173 : decode cX6_init 173 = .ok (.putfield 76, 3) := by decide +kernel
theorem dX6_init_176 : decode cX6_init 176 = .ok (.aload_n 0, 1) := by decide +kernel
theorem dX6_init_177 : decode cX6_init 177 = .ok (.bipush 120, 2) := by decide +kernel
theorem dX6_init_179 : decode cX6_init 179 = .ok (.newarray .int, 2) := by decide +kernel
theorem dX6_init_181 : decode cX6_init 181 = .ok (.putfield 79, 3) := by decide +kernel
theorem dX6_init_184 : decode cX6_init 184 = .ok (.aload_n 0, 1) := by decide +kernel
theorem dX6_init_185 : decode cX6_init 185 = .ok (.bipush 120, 2) := by decide +kernel
theorem dX6_init_187 : decode cX6_init 187 = .ok (.newarray .int, 2) := by decide +kernel
theorem dX6_init_189 : decode cX6_init 189 = .ok (.putfield 82, 3) := by decide +kernel
theorem dX6_init_192 : decode cX6_init 192 = .ok (.aload_n 0, 1) := by decide +kernel
theorem dX6_init_193 : decode cX6_init 193 = .ok (.bipush 120, 2) := by decide +kernel
theorem dX6_init_195 : decode cX6_init 195 = .ok (.newarray .int, 2) := by decide +kernel
theorem dX6_init_197 : decode cX6_init 197 = .ok (.putfield 85, 3) := by decide +kernel
theorem dX6_init_200 : decode cX6_init 200 = .ok (.aload_n 0, 1) := by decide +kernel
theorem dX6_init_201 : decode cX6_init 201 = .ok (.bipush 120, 2) := by decide +kernel
theorem dX6_init_203 : decode cX6_init 203 = .ok (.newarray .int, 2) := by decide +kernel
theorem dX6_init_205 : decode cX6_init 205 = .ok (.putfield 88, 3) := by decide +kernel
theorem dX6_init_208 : decode cX6_init 208 = .ok (.aload_n 0, 1) := by decide +kernel
theorem dX6_init_209 : decode cX6_init 209 = .ok (.bipush 120, 2) := by decide +kernel
theorem dX6_init_211 : decode cX6_init 211 = .ok (.newarray .int, 2) := by decide +kernel
theorem dX6_init_213 : decode cX6_init 213 = .ok (.putfield 91, 3) := by decide +kernel
theorem dX6_init_216 : decode cX6_init 216 = .ok (.aload_n 0, 1) := by decide +kernel
theorem dX6_init_217 : decode cX6_init 217 = .ok (.bipush 120, 2) := by decide +kernel
theorem dX6_init_219 : decode cX6_init 219 = .ok (.newarray .int, 2) := by decide +kernel
theorem dX6_init_221 : decode cX6_init 221 = .ok (.putfield 94, 3) := by decide +kernel
theorem dX6_init_224 : decode cX6_init 224 = .ok (.aload_n 0, 1) := by decide +kernel
theorem dX6_init_225 : decode cX6_init 225 = .ok (.bipush 64, 2) := by decide +kernel
theorem dX6_init_227 : decode cX6_init 227 = .ok (.newarray .int, 2) := by decide +kernel
theorem dX6_init_229 : decode cX6_init 229 = .ok (.putfield 97, 3) := by decide +kernel
theorem dX6_init_232 : decode cX6_init 232 = .ok (.aload_n 0, 1) := by decide +kernel
theorem dX6_init_233 : decode cX6_init 233 = .ok (.bipush 64, 2) := by decide +kernel
theorem dX6_init_235 : decode cX6_init 235 = .ok (.newarray .int, 2) := by decide +kernel
theorem dX6_init_237 : decode cX6_init 237 = .ok (.putfield 100, 3) := by decide +kernel
theorem dX6_init_240 : decode cX6_init 240 = .ok (.aload_n 0, 1) := by decide +kernel
theorem dX6_init_241 : decode cX6_init 241 = .ok (.sipush 25200, 3) := by decide +kernel
theorem dX6_init_244 : decode cX6_init 244 = .ok (.newarray .boolean, 2) := by decide +kernel
theorem dX6_init_246 : decode cX6_init 246 = .ok (.putfield 103, 3) := by decide +kernel
theorem dX6_init_249 : decode cX6_init 249 = .ok (.aload_n 0, 1) := by decide +kernel
theorem dX6_init_250 : decode cX6_init 250 = .ok (.iconst 0, 1) := by decide +kernel
theorem dX6_init_251 : decode cX6_init 251 = .ok (.ldc2_w 106, 3) := by decide +kernel
theorem dX6_init_254 : decode cX6_init 254 = .ok (.sipush 7600, 3) := by decide +kernel
theorem dX6_init_257 : decode cX6_init 257 = .ok (.invokevirtual 108, 3) := by decide +kernel
theorem dX6_init_260 : decode cX6_init 260 = .ok (.aload_n 0, 1) := by decide +kernel
theorem dX6_init_261 : decode cX6_init 261 = .ok (.iconst 1, 1) := by decide +kernel
theorem dX6_init_262 : decode cX6_init 262 = .ok (.ldc2_w 112, 3) := by decide +kernel
theorem dX6_init_265 : decode cX6_init 265 = .ok (.sipush 1800, 3) := by decide +kernel
theorem dX6_init_268 : decode cX6_init 268 = .ok (.invokevirtual 108, 3) := by decide +kernel
theorem dX6_init_271 : decode cX6_init 271 = .ok (.aload_n 0, 1) := by decide +kernel
theorem dX6_init_272 : decode cX6_init 272 = .ok (.iconst 2, 1) := by decide +kernel
theorem dX6_init_273 : decode cX6_init 273 = .ok (.ldc2_w 114, 3) := by decide +kernel
theorem dX6_init_276 : decode cX6_init 276 = .ok (.sipush 180, 3) := by decide +kernel
theorem dX6_init_279 : decode cX6_init 279 = .ok (.invokevirtual 108, 3) := by decide +kernel
theorem dX6_init_282 : decode cX6_init 282 = .ok (.aload_n 0, 1) := by decide +kernel
theorem dX6_init_283 : decode cX6_init 283 = .ok (.iconst 3, 1) := by decide +kernel
theorem dX6_init_284 : decode cX6_init 284 = .ok (.ldc2_w 116, 3) := by decide +kernel
theorem dX6_init_287 : decode cX6_init 287 = .ok (.bipush 10, 2) := by decide +kernel
theorem dX6_init_289 : decode cX6_init 289 = .ok (.invokevirtual 108, 3) := by decide +kernel
theorem dX6_init_292 : decode cX6_init 292 = .ok (.aload_n 0, 1) := by decide +kernel
theorem dX6_init_293 : decode cX6_init 293 = .ok (.iconst 4, 1) := by decide +kernel
theorem dX6_init_294 : decode cX6_init 294 = .ok (.ldc2_w 118, 3) := by decide +kernel
theorem dX6_init_297 : decode cX6_init 297 = .ok (.sipush 2600, 3) := by decide +kernel
theorem dX6_init_300 : decode cX6_init 300 = .ok (.invokevirtual 108, 3) := by decide +kernel
theorem dX6_init_303 : decode cX6_init 303 = .ok (.aload_n 0, 1) := by decide +kernel
theorem dX6_init_304 : decode cX6_init 304 = .ok (.iconst 5, 1) := by decide +kernel
theorem dX6_init_305 : decode cX6_init 305 = .ok (.ldc2_w 120, 3) := by decide +kernel
theorem dX6_init_308 : decode cX6_init 308 = .ok (.sipush 180, 3) := by decide +kernel
theorem dX6_init_311 : decode cX6_init 311 = .ok (.invokevirtual 108, 3) := by decide +kernel
theorem dX6_init_314 : decode cX6_init 314 = .ok (.aload_n 0, 1) := by decide +kernel
theorem dX6_init_315 : decode cX6_init 315 = .ok (.bipush 6, 2) := by decide +kernel
theorem dX6_init_317 : decode cX6_init 317 = .ok (.ldc2_w 122, 3) := by decide +kernel
theorem dX6_init_320 : decode cX6_init 320 = .ok (.bipush 30, 2) := by decide +kernel
theorem dX6_init_322 : decode cX6_init 322 = .ok (.invokevirtual 108, 3) := by decide +kernel
theorem dX6_init_325 : decode cX6_init 325 = .ok (.aload_n 0, 1) := by decide +kernel
theorem dX6_init_326 : decode cX6_init 326 = .ok (.bipush 7, 2) := by decide +kernel
theorem dX6_init_328 : decode cX6_init 328 = .ok (.ldc2_w 124, 3) := by decide +kernel
theorem dX6_init_331 : decode cX6_init 331 = .ok (.iconst 1, 1) := by decide +kernel
theorem dX6_init_332 : decode cX6_init 332 = .ok (.invokevirtual 108, 3) := by decide +kernel
theorem dX6_init_335 : decode cX6_init 335 = .ok (.aload_n 0, 1) := by decide +kernel
theorem dX6_init_336 : decode cX6_init 336 = .ok (.bipush 8, 2) := by decide +kernel
theorem dX6_init_338 : decode cX6_init 338 = .ok (.ldc2_w 126, 3) := by decide +kernel
theorem dX6_init_341 : decode cX6_init 341 = .ok (.bipush 100, 2) := by decide +kernel
theorem dX6_init_343 : decode cX6_init 343 = .ok (.invokevirtual 108, 3) := by decide +kernel
theorem dX6_init_346 : decode cX6_init 346 = .ok (.iconst 0, 1) := by decide +kernel
theorem dX6_init_347 : decode cX6_init 347 = .ok (.istore_n 1, 1) := by decide +kernel
theorem dX6_init_348 : decode cX6_init 348 = .ok (.iload_n 1, 1) := by decide +kernel
theorem dX6_init_349 : decode cX6_init 349 = .ok (.bipush 81, 2) := by decide +kernel
theorem dX6_init_351 : decode cX6_init 351 = .ok (.if_icmp .ge 42, 3) := by decide +kernel
theorem dX6_init_354 : decode cX6_init 354 = .ok (.aload_n 0, 1) := by decide +kernel
theorem dX6_init_355 : decode cX6_init 355 = .ok (.getfield 58, 3) := by decide +kernel
theorem dX6_init_358 : decode cX6_init 358 = .ok (.iload_n 1, 1) := by decide +kernel
theorem dX6_init_359 : decode cX6_init 359 = .ok (.iconst 1, 1) := by decide +kernel
theorem dX6_init_360 : decode cX6_init 360 = .ok (.bastore, 1) := by decide +kernel
theorem dX6_init_361 : decode cX6_init 361 = .ok (.aload_n 0, 1) := by decide +kernel
theorem dX6_init_362 : decode cX6_init 362 = .ok (.getfield 61, 3) := by decide +kernel
theorem dX6_init_365 : decode cX6_init 365 = .ok (.iload_n 1, 1) := by decide +kernel
theorem dX6_init_366 : decode cX6_init 366 = .ok (.bipush 100, 2) := by decide +kernel
theorem dX6_init_368 : decode cX6_init 368 = .ok (.iload_n 1, 1) := by decide +kernel
theorem dX6_init_369 : decode cX6_init 369 = .ok (.bipush 9, 2) := by decide +kernel
theorem dX6_init_371 : decode cX6_init 371 = .ok (.irem, 1) := by decide +kernel
theorem dX6_init_372 : decode cX6_init 372 = .ok (.imul, 1) := by decide +kernel
theorem dX6_init_373 : decode cX6_init 373 = .ok (.iastore, 1) := by decide +kernel
theorem dX6_init_374 : decode cX6_init 374 = .ok (.aload_n 0, 1) := by decide +kernel
theorem dX6_init_375 : decode cX6_init 375 = .ok (.getfield 64, 3) := by decide +kernel
theorem dX6_init_378 : decode cX6_init 378 = .ok (.iload_n 1, 1) := by decide +kernel
theorem dX6_init_379 : decode cX6_init 379 = .ok (.bipush 100, 2) := by decide +kernel
theorem dX6_init_381 : decode cX6_init 381 = .ok (.iload_n 1, 1) := by decide +kernel
theorem dX6_init_382 : decode cX6_init 382 = .ok (.bipush 9, 2) := by decide +kernel
theorem dX6_init_384 : decode cX6_init 384 = .ok (.idiv, 1) := by decide +kernel
theorem dX6_init_385 : decode cX6_init 385 = .ok (.imul, 1) := by decide +kernel
theorem dX6_init_386 : decode cX6_init 386 = .ok (.iastore, 1) := by decide +kernel
theorem dX6_init_387 : decode cX6_init 387 = .ok (.iinc 1 1, 3) := by decide +kernel
theorem dX6_init_390 : decode cX6_init 390 = .ok (.goto (-42), 3) := by decide +kernel
theorem dX6_init_393 : decode cX6_init 393 = .ok (.return_, 1) := by decide +kernel
theorem dX6_setDefault_0 : decode cX6_setDefault 0 = .ok (.aload_n 0, 1) := by decide +kernel
theorem dX6_setDefault_1 : decode cX6_setDefault 1 = .ok (.getfield 35, 3) := by decide +kernel
theorem dX6_setDefault_4 : decode cX6_setDefault 4 = .ok (.iload_n 1, 1) := by decide +kernel
theorem dX6_setDefault_5 : decode cX6_setDefault 5 = .ok (.lload_n 2, 1) := by decide +kernel
theorem dX6_setDefault_6 : decode cX6_setDefault 6 = .ok (.lastore, 1) := by decide +kernel
theorem dX6_setDefault_7 : decode cX6_setDefault 7 = .ok (.aload_n 0, 1) := by decide +kernel
theorem dX6_setDefault_8 : decode cX6_setDefault 8 = .ok (.getfield 32, 3) := by decide +kernel
theorem dX6_setDefault_11 : decode cX6_setDefault 11 = .ok (.iload_n 1, 1) := by decide +kernel
theorem dX6_setDefault_12 : decode cX6_setDefault 12 = .ok (.iload 4, 2) := by decide +kernel
theorem dX6_setDefault_14 : decode cX6_setDefault 14 = .ok (.iastore, 1) := by decide +kernel
theorem dX6_setDefault_15 : decode cX6_setDefault 15 = .ok (.return_, 1) := by decide +kernel
theorem dX6_in_0 : decode cX6_in 0 = .ok (.lload_n 0, 1) := by decide +kernel
theorem dX6_in_1 : decode cX6_in 1 = .ok (.lload_n 2, 1) := by decide +kernel
theorem dX6_in_2 : decode cX6_in 2 = .ok (.lcmp, 1) := by decide +kernel
theorem dX6_in_3 : decode cX6_in 3 = .ok (.ifCond .lt 14, 3) := by decide +kernel
theorem dX6_in_6 : decode cX6_in 6 = .ok (.lload_n 0, 1) := by decide +kernel
theorem dX6_in_7 : decode cX6_in 7 = .ok (.lload 4, 2) := by decide +kernel
theorem dX6_in_9 : decode cX6_in 9 = .ok (.lcmp, 1) := by decide +kernel
theorem dX6_in_10 : decode cX6_in 10 = .ok (.ifCond .gt 7, 3) := by decide +kernel
theorem dX6_in_13 : decode cX6_in 13 = .ok (.iconst 1, 1) := by decide +kernel
theorem dX6_in_14 : decode cX6_in 14 = .ok (.goto 4, 3) := by decide +kernel
theorem dX6_in_17 : decode cX6_in 17 = .ok (.iconst 0, 1) := by decide +kernel
theorem dX6_in_18 : decode cX6_in 18 = .ok (.ireturn, 1) := by decide +kernel
theorem dX6_isDay_0 : decode cX6_isDay 0 = .ok (.iload_n 0, 1) := by decide +kernel
theorem dX6_isDay_1 : decode cX6_isDay 1 = .ok (.i2l, 1) := by decide +kernel
theorem dX6_isDay_2 : decode cX6_isDay 2 = .ok (.lconst 0, 1) := by decide +kernel
theorem dX6_isDay_3 : decode cX6_isDay 3 = .ok (.ldc2_w 128, 3) := by decide +kernel
theorem dX6_isDay_6 : decode cX6_isDay 6 = .ok (.invokestatic 130, 3) := by decide +kernel
theorem dX6_isDay_9 : decode cX6_isDay 9 = .ok (.ireturn, 1) := by decide +kernel
theorem dX6_isPerson_0 : decode cX6_isPerson 0 = .ok (.iload_n 1, 1) := by decide +kernel
theorem dX6_isPerson_1 : decode cX6_isPerson 1 = .ok (.i2l, 1) := by decide +kernel
theorem dX6_isPerson_2 : decode cX6_isPerson 2 = .ok (.lconst 0, 1) := by decide +kernel
theorem dX6_isPerson_3 : decode cX6_isPerson 3 = .ok (.aload_n 0, 1) := by decide +kernel
theorem dX6_isPerson_4 : decode cX6_isPerson 4 = .ok (.getfield 134, 3) := by decide +kernel
theorem dX6_isPerson_7 : decode cX6_isPerson 7 = .ok (.iconst 1, 1) := by decide +kernel
theorem dX6_isPerson_8 : decode cX6_isPerson 8 = .ok (.isub, 1) := by decide +kernel
theorem dX6_isPerson_9 : decode cX6_isPerson 9 = .ok (.i2l, 1) := by decide +kernel
theorem dX6_isPerson_10 : decode cX6_isPerson 10 = .ok (.invokestatic 130, 3) := by decide +kernel
theorem dX6_isPerson_13 : decode cX6_isPerson 13 = .ok (.ireturn, 1) := by decide +kernel
theorem dX6_isQuarter_0 : decode cX6_isQuarter 0 = .ok (.iload_n 0, 1) := by decide +kernel
theorem dX6_isQuarter_1 : decode cX6_isQuarter 1 = .ok (.i2l, 1) := by decide +kernel
theorem dX6_isQuarter_2 : decode cX6_isQuarter 2 = .ok (.lconst 0, 1) := by decide +kernel
theorem dX6_isQuarter_3 : decode cX6_isQuarter 3 = .ok (.ldc2_w 137, 3) := by decide +kernel
theorem dX6_isQuarter_6 : decode cX6_isQuarter 6 = .ok (.invokestatic 130, 3) := by decide +kernel
theorem dX6_isQuarter_9 : decode cX6_isQuarter 9 = .ok (.ireturn, 1) := by decide +kernel
theorem dX6_person_0 : decode cX6_person 0 = .ok (.iload_n 1, 1) := by decide +kernel
theorem dX6_person_1 : decode cX6_person 1 = .ok (.i2l, 1) := by decide +kernel
theorem dX6_person_2 : decode cX6_person 2 = .ok (.ldc2_w 139, 3) := by decide +kernel
theorem dX6_person_5 : decode cX6_person 5 = .ok (.ldc2_w 128, 3) := by decide +kernel
theorem dX6_person_8 : decode cX6_person 8 = .ok (.invokestatic 130, 3) := by decide +kernel
theorem dX6_person_11 : decode cX6_person 11 = .ok (.ifCond .eq 17, 3) := by decide +kernel
theorem dX6_person_14 : decode cX6_person 14 = .ok (.iload_n 2, 1) := by decide +kernel
theorem dX6_person_15 : decode cX6_person 15 = .ok (.i2l, 1) := by decide +kernel
theorem dX6_person_16 : decode cX6_person 16 = .ok (.ldc2_w 139, 3) := by decide +kernel
theorem dX6_person_19 : decode cX6_person 19 = .ok (.ldc2_w 141, 3) := by decide +kernel
theorem dX6_person_22 : decode cX6_person 22 = .ok (.invokestatic 130, 3) := by decide +kernel
theorem dX6_person_25 : decode cX6_person 25 = .ok (.ifCond .ne 7, 3) := by decide +kernel
theorem dX6_person_28 : decode cX6_person 28 = .ok (.sipush (-1002), 3) := by decide +kernel
theorem dX6_person_31 : decode cX6_person 31 = .ok (.ireturn, 1) := by decide +kernel
theorem dX6_person_32 : decode cX6_person 32 = .ok (.aload_n 0, 1) := by decide +kernel
theorem dX6_person_33 : decode cX6_person 33 = .ok (.getfield 134, 3) := by decide +kernel
theorem dX6_person_36 : decode cX6_person 36 = .ok (.bipush 12, 2) := by decide +kernel
theorem dX6_person_38 : decode cX6_person 38 = .ok (.if_icmp .ne 7, 3) := by decide +kernel
theorem dX6_person_41 : decode cX6_person 41 = .ok (.sipush (-1004), 3) := by decide +kernel
theorem dX6_person_44 : decode cX6_person 44 = .ok (.ireturn, 1) := by decide +kernel
theorem dX6_person_45 : decode cX6_person 45 = .ok (.aload_n 0, 1) := by decide +kernel
theorem dX6_person_46 : decode cX6_person 46 = .ok (.getfield 7, 3) := by decide +kernel
theorem dX6_person_49 : decode cX6_person 49 = .ok (.aload_n 0, 1) := by decide +kernel
theorem dX6_person_50 : decode cX6_person 50 = .ok (.getfield 134, 3) := by decide +kernel
theorem dX6_person_53 : decode cX6_person 53 = .ok (.iload_n 1, 1) := by decide +kernel
theorem dX6_person_54 : decode cX6_person 54 = .ok (.iastore, 1) := by decide +kernel
theorem dX6_person_55 : decode cX6_person 55 = .ok (.aload_n 0, 1) := by decide +kernel
theorem dX6_person_56 : decode cX6_person 56 = .ok (.getfield 13, 3) := by decide +kernel
theorem dX6_person_59 : decode cX6_person 59 = .ok (.aload_n 0, 1) := by decide +kernel
theorem dX6_person_60 : decode cX6_person 60 = .ok (.getfield 134, 3) := by decide +kernel
theorem dX6_person_63 : decode cX6_person 63 = .ok (.iload_n 2, 1) := by decide +kernel
theorem dX6_person_64 : decode cX6_person 64 = .ok (.iastore, 1) := by decide +kernel
theorem dX6_person_65 : decode cX6_person 65 = .ok (.aload_n 0, 1) := by decide +kernel
theorem dX6_person_66 : decode cX6_person 66 = .ok (.dup, 1) := by decide +kernel
theorem dX6_person_67 : decode cX6_person 67 = .ok (.getfield 134, 3) := by decide +kernel
theorem dX6_person_70 : decode cX6_person 70 = .ok (.iconst 1, 1) := by decide +kernel
theorem dX6_person_71 : decode cX6_person 71 = .ok (.iadd, 1) := by decide +kernel
theorem dX6_person_72 : decode cX6_person 72 = .ok (.putfield 134, 3) := by decide +kernel
theorem dX6_person_75 : decode cX6_person 75 = .ok (.aload_n 0, 1) := by decide +kernel
theorem dX6_person_76 : decode cX6_person 76 = .ok (.getfield 134, 3) := by decide +kernel
theorem dX6_person_79 : decode cX6_person 79 = .ok (.iconst 1, 1) := by decide +kernel
theorem dX6_person_80 : decode cX6_person 80 = .ok (.isub, 1) := by decide +kernel
theorem dX6_person_81 : decode cX6_person 81 = .ok (.ireturn, 1) := by decide +kernel
theorem dX6_map_0 : decode cX6_map 0 = .ok (.iload_n 1, 1) := by decide +kernel
theorem dX6_map_1 : decode cX6_map 1 = .ok (.i2l, 1) := by decide +kernel
theorem dX6_map_2 : decode cX6_map 2 = .ok (.lconst 0, 1) := by decide +kernel
theorem dX6_map_3 : decode cX6_map 3 = .ok (.ldc2_w 141, 3) := by decide +kernel
theorem dX6_map_6 : decode cX6_map 6 = .ok (.invokestatic 130, 3) := by decide +kernel
theorem dX6_map_9 : decode cX6_map 9 = .ok (.ifCond .ne 7, 3) := by decide +kernel
theorem dX6_map_12 : decode cX6_map 12 = .ok (.sipush (-1002), 3) := by decide +kernel
theorem dX6_map_15 : decode cX6_map 15 = .ok (.ireturn, 1) := by decide +kernel
theorem dX6_map_16 : decode cX6_map 16 = .ok (.aload_n 0, 1) := by decide +kernel
theorem dX6_map_17 : decode cX6_map 17 = .ok (.getfield 16, 3) := by decide +kernel
theorem dX6_map_20 : decode cX6_map 20 = .ok (.istore_n 2, 1) := by decide +kernel
theorem dX6_map_21 : decode cX6_map 21 = .ok (.aload_n 0, 1) := by decide +kernel
theorem dX6_map_22 : decode cX6_map 22 = .ok (.iload_n 1, 1) := by decide +kernel
theorem dX6_map_23 : decode cX6_map 23 = .ok (.putfield 16, 3) := by decide +kernel
theorem dX6_map_26 : decode cX6_map 26 = .ok (.iload_n 2, 1) := by decide +kernel
theorem dX6_map_27 : decode cX6_map 27 = .ok (.ireturn, 1) := by decide +kernel
theorem dX6_feed_0 : decode cX6_feed 0 = .ok (.iload_n 1, 1) := by decide +kernel
theorem dX6_feed_1 : decode cX6_feed 1 = .ok (.i2l, 1) := by decide +kernel
theorem dX6_feed_2 : decode cX6_feed 2 = .ok (.lconst 1, 1) := by decide +kernel
theorem dX6_feed_3 : decode cX6_feed 3 = .ok (.ldc2_w 143, 3) := by decide +kernel
theorem dX6_feed_6 : decode cX6_feed 6 = .ok (.invokestatic 130, 3) := by decide +kernel
theorem dX6_feed_9 : decode cX6_feed 9 = .ok (.ifCond .ne 7, 3) := by decide +kernel
theorem dX6_feed_12 : decode cX6_feed 12 = .ok (.sipush (-1002), 3) := by decide +kernel
theorem dX6_feed_15 : decode cX6_feed 15 = .ok (.ireturn, 1) := by decide +kernel
theorem dX6_feed_16 : decode cX6_feed 16 = .ok (.aload_n 0, 1) := by decide +kernel
theorem dX6_feed_17 : decode cX6_feed 17 = .ok (.getfield 145, 3) := by decide +kernel
theorem dX6_feed_20 : decode cX6_feed 20 = .ok (.iload_n 1, 1) := by decide +kernel
theorem dX6_feed_21 : decode cX6_feed 21 = .ok (.iadd, 1) := by decide +kernel
theorem dX6_feed_22 : decode cX6_feed 22 = .ok (.bipush 120, 2) := by decide +kernel
theorem dX6_feed_24 : decode cX6_feed 24 = .ok (.if_icmp .le 7, 3) := by decide +kernel
theorem dX6_feed_27 : decode cX6_feed 27 = .ok (.sipush (-1004), 3) := by decide +kernel
theorem dX6_feed_30 : decode cX6_feed 30 = .ok (.ireturn, 1) := by decide +kernel
theorem dX6_feed_31 : decode cX6_feed 31 = .ok (.iload_n 1, 1) := by decide +kernel
theorem dX6_feed_32 : decode cX6_feed 32 = .ok (.iconst 1, 1) := by decide +kernel
theorem dX6_feed_33 : decode cX6_feed 33 = .ok (.isub, 1) := by decide +kernel
theorem dX6_feed_34 : decode cX6_feed 34 = .ok (.istore 4, 2) := by decide +kernel
theorem dX6_feed_36 : decode cX6_feed 36 = .ok (.iload 4, 2) := by decide +kernel
theorem dX6_feed_38 : decode cX6_feed 38 = .ok (.ifCond .lt 40, 3) := by decide +kernel
theorem dX6_feed_41 : decode cX6_feed 41 = .ok (.aload_n 0, 1) := by decide +kernel
theorem dX6_feed_42 : decode cX6_feed 42 = .ok (.getfield 20, 3) := by decide +kernel
theorem dX6_feed_45 : decode cX6_feed 45 = .ok (.aload_n 0, 1) := by decide +kernel
theorem dX6_feed_46 : decode cX6_feed 46 = .ok (.getfield 145, 3) := by decide +kernel
theorem dX6_feed_49 : decode cX6_feed 49 = .ok (.lload_n 2, 1) := by decide +kernel
theorem dX6_feed_50 : decode cX6_feed 50 = .ok (.bipush 8, 2) := by decide +kernel
theorem dX6_feed_52 : decode cX6_feed 52 = .ok (.iload 4, 2) := by decide +kernel
theorem dX6_feed_54 : decode cX6_feed 54 = .ok (.imul, 1) := by decide +kernel
theorem dX6_feed_55 : decode cX6_feed 55 = .ok (.lshr, 1) := by decide +kernel
theorem dX6_feed_56 : decode cX6_feed 56 = .ok (.ldc2_w 148, 3) := by decide +kernel
theorem dX6_feed_59 : decode cX6_feed 59 = .ok (.land, 1) := by decide +kernel
theorem dX6_feed_60 : decode cX6_feed 60 = .ok (.l2i, 1) := by decide +kernel
theorem dX6_feed_61 : decode cX6_feed 61 = .ok (.iastore, 1) := by decide +kernel
theorem dX6_feed_62 : decode cX6_feed 62 = .ok (.aload_n 0, 1) := by decide +kernel
theorem dX6_feed_63 : decode cX6_feed 63 = .ok (.dup, 1) := by decide +kernel
theorem dX6_feed_64 : decode cX6_feed 64 = .ok (.getfield 145, 3) := by decide +kernel
theorem dX6_feed_67 : decode cX6_feed 67 = .ok (.iconst 1, 1) := by decide +kernel
theorem dX6_feed_68 : decode cX6_feed 68 = .ok (.iadd, 1) := by decide +kernel
theorem dX6_feed_69 : decode cX6_feed 69 = .ok (.putfield 145, 3) := by decide +kernel
theorem dX6_feed_72 : decode cX6_feed 72 = .ok (.iinc 4 (-1), 3) := by decide +kernel
theorem dX6_feed_75 : decode cX6_feed 75 = .ok (.goto (-39), 3) := by decide +kernel
theorem dX6_feed_78 : decode cX6_feed 78 = .ok (.aload_n 0, 1) := by decide +kernel
theorem dX6_feed_79 : decode cX6_feed 79 = .ok (.getfield 145, 3) := by decide +kernel
theorem dX6_feed_82 : decode cX6_feed 82 = .ok (.ireturn, 1) := by decide +kernel
theorem dX6_fails_0 : decode cX6_fails 0 = .ok (.aload_n 0, 1) := by decide +kernel
theorem dX6_fails_1 : decode cX6_fails 1 = .ok (.iload_n 2, 1) := by decide +kernel
theorem dX6_fails_2 : decode cX6_fails 2 = .ok (.putfield 23, 3) := by decide +kernel
theorem dX6_fails_5 : decode cX6_fails 5 = .ok (.bipush (-10), 2) := by decide +kernel
theorem dX6_fails_7 : decode cX6_fails 7 = .ok (.iload_n 1, 1) := by decide +kernel
theorem dX6_fails_8 : decode cX6_fails 8 = .ok (.isub, 1) := by decide +kernel
theorem dX6_fails_9 : decode cX6_fails 9 = .ok (.ireturn, 1) := by decide +kernel
theorem dX6_wordAt_0 : decode cX6_wordAt 0 = .ok (.lconst 0, 1) := by decide +kernel
theorem dX6_wordAt_1 : decode cX6_wordAt 1 = .ok (.lstore_n 3, 1) := by decide +kernel
theorem dX6_wordAt_2 : decode cX6_wordAt 2 = .ok (.iload_n 2, 1) := by decide +kernel
theorem dX6_wordAt_3 : decode cX6_wordAt 3 = .ok (.iload_n 1, 1) := by decide +kernel
theorem dX6_wordAt_4 : decode cX6_wordAt 4 = .ok (.isub, 1) := by decide +kernel
theorem dX6_wordAt_5 : decode cX6_wordAt 5 = .ok (.bipush 7, 2) := by decide +kernel
theorem dX6_wordAt_7 : decode cX6_wordAt 7 = .ok (.if_icmp .ge 7, 3) := by decide +kernel
theorem dX6_wordAt_10 : decode cX6_wordAt 10 = .ok (.iconst 1, 1) := by decide +kernel
theorem dX6_wordAt_11 : decode cX6_wordAt 11 = .ok (.goto 4, 3) := by decide +kernel
theorem dX6_wordAt_14 : decode cX6_wordAt 14 = .ok (.iconst 0, 1) := by decide +kernel
theorem dX6_wordAt_15 : decode cX6_wordAt 15 = .ok (.istore 5, 2) := by decide +kernel
theorem dX6_wordAt_17 : decode cX6_wordAt 17 = .ok (.iload_n 1, 1) := by decide +kernel
theorem dX6_wordAt_18 : decode cX6_wordAt 18 = .ok (.istore 6, 2) := by decide +kernel
theorem dX6_wordAt_20 : decode cX6_wordAt 20 = .ok (.iload 6, 2) := by decide +kernel
theorem dX6_wordAt_22 : decode cX6_wordAt 22 = .ok (.iload_n 2, 1) := by decide +kernel
theorem dX6_wordAt_23 : decode cX6_wordAt 23 = .ok (.if_icmp .ge 47, 3) := by decide +kernel
theorem dX6_wordAt_26 : decode cX6_wordAt 26 = .ok (.iload 5, 2) := by decide +kernel
theorem dX6_wordAt_28 : decode cX6_wordAt 28 = .ok (.ifCond .eq 42, 3) := by decide +kernel
theorem dX6_wordAt_31 : decode cX6_wordAt 31 = .ok (.aload_n 0, 1) := by decide +kernel
theorem dX6_wordAt_32 : decode cX6_wordAt 32 = .ok (.getfield 20, 3) := by decide +kernel
theorem dX6_wordAt_35 : decode cX6_wordAt 35 = .ok (.iload 6, 2) := by decide +kernel
theorem dX6_wordAt_37 : decode cX6_wordAt 37 = .ok (.iaload, 1) := by decide +kernel
theorem dX6_wordAt_38 : decode cX6_wordAt 38 = .ok (.i2l, 1) := by decide +kernel
theorem dX6_wordAt_39 : decode cX6_wordAt 39 = .ok (.ldc2_w 150, 3) := by decide +kernel
theorem dX6_wordAt_42 : decode cX6_wordAt 42 = .ok (.ldc2_w 152, 3) := by decide +kernel
theorem dX6_wordAt_45 : decode cX6_wordAt 45 = .ok (.invokestatic 130, 3) := by decide +kernel
theorem dX6_wordAt_48 : decode cX6_wordAt 48 = .ok (.istore 5, 2) := by decide +kernel
theorem dX6_wordAt_50 : decode cX6_wordAt 50 = .ok (.lload_n 3, 1) := by decide +kernel
theorem dX6_wordAt_51 : decode cX6_wordAt 51 = .ok (.bipush 8, 2) := by decide +kernel
theorem dX6_wordAt_53 : decode cX6_wordAt 53 = .ok (.lshl, 1) := by decide +kernel
theorem dX6_wordAt_54 : decode cX6_wordAt 54 = .ok (.aload_n 0, 1) := by decide +kernel
theorem dX6_wordAt_55 : decode cX6_wordAt 55 = .ok (.getfield 20, 3) := by decide +kernel
theorem dX6_wordAt_58 : decode cX6_wordAt 58 = .ok (.iload 6, 2) := by decide +kernel
theorem dX6_wordAt_60 : decode cX6_wordAt 60 = .ok (.iaload, 1) := by decide +kernel
theorem dX6_wordAt_61 : decode cX6_wordAt 61 = .ok (.i2l, 1) := by decide +kernel
theorem dX6_wordAt_62 : decode cX6_wordAt 62 = .ok (.lor, 1) := by decide +kernel
theorem dX6_wordAt_63 : decode cX6_wordAt 63 = .ok (.lstore_n 3, 1) := by decide +kernel
theorem dX6_wordAt_64 : decode cX6_wordAt 64 = .ok (.iinc 6 1, 3) := by decide +kernel
theorem dX6_wordAt_67 : decode cX6_wordAt 67 = .ok (.goto (-47), 3) := by decide +kernel
theorem dX6_wordAt_70 : decode cX6_wordAt 70 = .ok (.iconst (-1), 1) := by decide +kernel
theorem dX6_wordAt_71 : decode cX6_wordAt 71 = .ok (.istore 6, 2) := by decide +kernel
theorem dX6_wordAt_73 : decode cX6_wordAt 73 = .ok (.iconst 0, 1) := by decide +kernel
theorem dX6_wordAt_74 : decode cX6_wordAt 74 = .ok (.istore 7, 2) := by decide +kernel
theorem dX6_wordAt_76 : decode cX6_wordAt 76 = .ok (.iload 7, 2) := by decide +kernel
theorem dX6_wordAt_78 : decode cX6_wordAt 78 = .ok (.bipush 9, 2) := by decide +kernel
theorem dX6_wordAt_80 : decode cX6_wordAt 80 = .ok (.if_icmp .ge 35, 3) := by decide +kernel
theorem dX6_wordAt_83 : decode cX6_wordAt 83 = .ok (.iload 5, 2) := by decide +kernel
theorem dX6_wordAt_85 : decode cX6_wordAt 85 = .ok (.ifCond .eq 30, 3) := by decide +kernel
theorem dX6_wordAt_88 : decode cX6_wordAt 88 = .ok (.aload_n 0, 1) := by decide +kernel
theorem dX6_wordAt_89 : decode cX6_wordAt 89 = .ok (.getfield 35, 3) := by decide +kernel
theorem dX6_wordAt_92 : decode cX6_wordAt 92 = .ok (.iload 7, 2) := by decide +kernel
theorem dX6_wordAt_94 : decode cX6_wordAt 94 = .ok (.laload, 1) := by decide +kernel
theorem dX6_wordAt_95 : decode cX6_wordAt 95 = .ok (.lload_n 3, 1) := by decide +kernel
theorem dX6_wordAt_96 : decode cX6_wordAt 96 = .ok (.lcmp, 1) := by decide +kernel
theorem dX6_wordAt_97 : decode cX6_wordAt 97 = .ok (.ifCond .ne 8, 3) := by decide +kernel
theorem dX6_wordAt_100 : decode cX6_wordAt 100 = .ok (.iload 7, 2) := by decide +kernel
theorem dX6_wordAt_102 : decode cX6_wordAt 102 = .ok (.goto 5, 3) := by decide +kernel
theorem dX6_wordAt_105 : decode cX6_wordAt 105 = .ok (.iload 6, 2) := by decide +kernel
theorem dX6_wordAt_107 : decode cX6_wordAt 107 = .ok (.istore 6, 2) := by decide +kernel
theorem dX6_wordAt_109 : decode cX6_wordAt 109 = .ok (.iinc 7 1, 3) := by decide +kernel
theorem dX6_wordAt_112 : decode cX6_wordAt 112 = .ok (.goto (-36), 3) := by decide +kernel
theorem dX6_wordAt_115 : decode cX6_wordAt 115 = .ok (.iload 6, 2) := by decide +kernel
theorem dX6_wordAt_117 : decode cX6_wordAt 117 = .ok (.ireturn, 1) := by decide +kernel
theorem dX6_law_0 : decode cX6_law 0 = .ok (.iload_n 1, 1) := by decide +kernel
theorem dX6_law_1 : decode cX6_law 1 = .ok (.invokestatic 154, 3) := by decide +kernel
theorem dX6_law_4 : decode cX6_law 4 = .ok (.ifCond .ne 7, 3) := by decide +kernel
theorem dX6_law_7 : decode cX6_law 7 = .ok (.sipush (-1002), 3) := by decide +kernel
theorem dX6_law_10 : decode cX6_law 10 = .ok (.ireturn, 1) := by decide +kernel
theorem dX6_law_11 : decode cX6_law 11 = .ok (.aload_n 0, 1) := by decide +kernel
theorem dX6_law_12 : decode cX6_law 12 = .ok (.getfield 158, 3) := by decide +kernel
theorem dX6_law_15 : decode cX6_law 15 = .ok (.bipush 8, 2) := by decide +kernel
theorem dX6_law_17 : decode cX6_law 17 = .ok (.if_icmp .ne 7, 3) := by decide +kernel
theorem dX6_law_20 : decode cX6_law 20 = .ok (.sipush (-1004), 3) := by decide +kernel
theorem dX6_law_23 : decode cX6_law 23 = .ok (.ireturn, 1) := by decide +kernel
theorem dX6_law_24 : decode cX6_law 24 = .ok (.aload_n 0, 1) := by decide +kernel
theorem dX6_law_25 : decode cX6_law 25 = .ok (.getfield 145, 3) := by decide +kernel
theorem dX6_law_28 : decode cX6_law 28 = .ok (.istore_n 2, 1) := by decide +kernel
theorem dX6_law_29 : decode cX6_law 29 = .ok (.aload_n 0, 1) := by decide +kernel
theorem dX6_law_30 : decode cX6_law 30 = .ok (.iconst 0, 1) := by decide +kernel
theorem dX6_law_31 : decode cX6_law 31 = .ok (.putfield 145, 3) := by decide +kernel
theorem dX6_law_34 : decode cX6_law 34 = .ok (.aload_n 0, 1) := by decide +kernel
theorem dX6_law_35 : decode cX6_law 35 = .ok (.iconst (-1), 1) := by decide +kernel
theorem dX6_law_36 : decode cX6_law 36 = .ok (.putfield 23, 3) := by decide +kernel
theorem dX6_law_39 : decode cX6_law 39 = .ok (.aload_n 0, 1) := by decide +kernel
theorem dX6_law_40 : decode cX6_law 40 = .ok (.getfield 158, 3) := by decide +kernel
theorem dX6_law_43 : decode cX6_law 43 = .ok (.istore_n 3, 1) := by decide +kernel
theorem dX6_law_44 : decode cX6_law 44 = .ok (.iconst 0, 1) := by decide +kernel
theorem dX6_law_45 : decode cX6_law 45 = .ok (.istore 4, 2) := by decide +kernel
theorem dX6_law_47 : decode cX6_law 47 = .ok (.iload 4, 2) := by decide +kernel
theorem dX6_law_49 : decode cX6_law 49 = .ok (.bipush 9, 2) := by decide +kernel
theorem dX6_law_51 : decode cX6_law 51 = .ok (.if_icmp .ge 22, 3) := by decide +kernel
theorem dX6_law_54 : decode cX6_law 54 = .ok (.aload_n 0, 1) := by decide +kernel
theorem dX6_law_55 : decode cX6_law 55 = .ok (.getfield 29, 3) := by decide +kernel
theorem dX6_law_58 : decode cX6_law 58 = .ok (.bipush 9, 2) := by decide +kernel
theorem dX6_law_60 : decode cX6_law 60 = .ok (.iload_n 3, 1) := by decide +kernel
theorem dX6_law_61 : decode cX6_law 61 = .ok (.imul, 1) := by decide +kernel
theorem dX6_law_62 : decode cX6_law 62 = .ok (.iload 4, 2) := by decide +kernel
theorem dX6_law_64 : decode cX6_law 64 = .ok (.iadd, 1) := by decide +kernel
theorem dX6_law_65 : decode cX6_law 65 = .ok (.iconst (-1), 1) := by decide +kernel
theorem dX6_law_66 : decode cX6_law 66 = .ok (.iastore, 1) := by decide +kernel
theorem dX6_law_67 : decode cX6_law 67 = .ok (.iinc 4 1, 3) := by decide +kernel
theorem dX6_law_70 : decode cX6_law 70 = .ok (.goto (-23), 3) := by decide +kernel
theorem dX6_law_73 : decode cX6_law 73 = .ok (.iconst (-1), 1) := by decide +kernel
theorem dX6_law_74 : decode cX6_law 74 = .ok (.istore 4, 2) := by decide +kernel
theorem dX6_law_76 : decode cX6_law 76 = .ok (.iconst 0, 1) := by decide +kernel
theorem dX6_law_77 : decode cX6_law 77 = .ok (.istore 5, 2) := by decide +kernel
theorem dX6_law_79 : decode cX6_law 79 = .ok (.iload 5, 2) := by decide +kernel
theorem dX6_law_81 : decode cX6_law 81 = .ok (.iload_n 2, 1) := by decide +kernel
theorem dX6_law_82 : decode cX6_law 82 = .ok (.if_icmp .ge 21, 3) := by decide +kernel
theorem dX6_law_85 : decode cX6_law 85 = .ok (.aload_n 0, 1) := by decide +kernel
theorem dX6_law_86 : decode cX6_law 86 = .ok (.getfield 20, 3) := by decide +kernel
theorem dX6_law_89 : decode cX6_law 89 = .ok (.iload 5, 2) := by decide +kernel
theorem dX6_law_91 : decode cX6_law 91 = .ok (.iaload, 1) := by decide +kernel
theorem dX6_law_92 : decode cX6_law 92 = .ok (.bipush 32, 2) := by decide +kernel
theorem dX6_law_94 : decode cX6_law 94 = .ok (.if_icmp .ne 9, 3) := by decide +kernel
theorem dX6_law_97 : decode cX6_law 97 = .ok (.iinc 5 1, 3) := by decide +kernel
theorem dX6_law_100 : decode cX6_law 100 = .ok (.goto (-21), 3) := by decide +kernel
theorem dX6_law_103 : decode cX6_law 103 = .ok (.iload 5, 2) := by decide +kernel
theorem dX6_law_105 : decode cX6_law 105 = .ok (.iload_n 2, 1) := by decide +kernel
theorem dX6_law_106 : decode cX6_law 106 = .ok (.if_icmp .ne 6, 3) := by decide +kernel
theorem dX6_law_109 : decode cX6_law 109 = .ok (.goto 207, 3) := by decide +kernel
theorem dX6_law_112 : decode cX6_law 112 = .ok (.iload 5, 2) := by decide +kernel
theorem dX6_law_114 : decode cX6_law 114 = .ok (.istore 6, 2) := by decide +kernel
theorem dX6_law_116 : decode cX6_law 116 = .ok (.iconst 0, 1) := by decide +kernel
theorem dX6_law_117 : decode cX6_law 117 = .ok (.istore 7, 2) := by decide +kernel
theorem dX6_law_119 : decode cX6_law 119 = .ok (.iconst 1, 1) := by decide +kernel
theorem dX6_law_120 : decode cX6_law 120 = .ok (.istore 8, 2) := by decide +kernel
theorem dX6_law_122 : decode cX6_law 122 = .ok (.iload 5, 2) := by decide +kernel
theorem dX6_law_124 : decode cX6_law 124 = .ok (.iload_n 2, 1) := by decide +kernel
theorem dX6_law_125 : decode cX6_law 125 = .ok (.if_icmp .ge 90, 3) := by decide +kernel
theorem dX6_law_128 : decode cX6_law 128 = .ok (.aload_n 0, 1) := by decide +kernel
theorem dX6_law_129 : decode cX6_law 129 = .ok (.getfield 20, 3) := by decide +kernel
theorem dX6_law_132 : decode cX6_law 132 = .ok (.iload 5, 2) := by decide +kernel
theorem dX6_law_134 : decode cX6_law 134 = .ok (.iaload, 1) := by decide +kernel
theorem dX6_law_135 : decode cX6_law 135 = .ok (.bipush 32, 2) := by decide +kernel
theorem dX6_law_137 : decode cX6_law 137 = .ok (.if_icmp .eq 78, 3) := by decide +kernel
theorem dX6_law_140 : decode cX6_law 140 = .ok (.iload 8, 2) := by decide +kernel
theorem dX6_law_142 : decode cX6_law 142 = .ok (.ifCond .eq 27, 3) := by decide +kernel
theorem dX6_law_145 : decode cX6_law 145 = .ok (.aload_n 0, 1) := by decide +kernel
theorem dX6_law_146 : decode cX6_law 146 = .ok (.getfield 20, 3) := by decide +kernel
theorem dX6_law_149 : decode cX6_law 149 = .ok (.iload 5, 2) := by decide +kernel
theorem dX6_law_151 : decode cX6_law 151 = .ok (.iaload, 1) := by decide +kernel
theorem dX6_law_152 : decode cX6_law 152 = .ok (.i2l, 1) := by decide +kernel
theorem dX6_law_153 : decode cX6_law 153 = .ok (.ldc2_w 161, 3) := by decide +kernel
theorem dX6_law_156 : decode cX6_law 156 = .ok (.ldc2_w 163, 3) := by decide +kernel
theorem dX6_law_159 : decode cX6_law 159 = .ok (.invokestatic 130, 3) := by decide +kernel
theorem dX6_law_162 : decode cX6_law 162 = .ok (.ifCond .eq 7, 3) := by decide +kernel
theorem dX6_law_165 : decode cX6_law 165 = .ok (.iconst 1, 1) := by decide +kernel
theorem dX6_law_166 : decode cX6_law 166 = .ok (.goto 4, 3) := by decide +kernel
theorem dX6_law_169 : decode cX6_law 169 = .ok (.iconst 0, 1) := by decide +kernel
theorem dX6_law_170 : decode cX6_law 170 = .ok (.istore 8, 2) := by decide +kernel
theorem dX6_law_172 : decode cX6_law 172 = .ok (.iload 8, 2) := by decide +kernel
theorem dX6_law_174 : decode cX6_law 174 = .ok (.ifCond .eq 31, 3) := by decide +kernel
theorem dX6_law_177 : decode cX6_law 177 = .ok (.iload 5, 2) := by decide +kernel
theorem dX6_law_179 : decode cX6_law 179 = .ok (.iload 6, 2) := by decide +kernel
theorem dX6_law_181 : decode cX6_law 181 = .ok (.isub, 1) := by decide +kernel
theorem dX6_law_182 : decode cX6_law 182 = .ok (.iconst 5, 1) := by decide +kernel
theorem dX6_law_183 : decode cX6_law 183 = .ok (.if_icmp .ge 22, 3) := by decide +kernel
theorem dX6_law_186 : decode cX6_law 186 = .ok (.bipush 10, 2) := by decide +kernel
theorem dX6_law_188 : decode cX6_law 188 = .ok (.iload 7, 2) := by decide +kernel
theorem dX6_law_190 : decode cX6_law 190 = .ok (.imul, 1) := by decide +kernel
theorem dX6_law_191 : decode cX6_law 191 = .ok (.aload_n 0, 1) := by decide +kernel
theorem dX6_law_192 : decode cX6_law 192 = .ok (.getfield 20, 3) := by decide +kernel
theorem dX6_law_195 : decode cX6_law 195 = .ok (.iload 5, 2) := by decide +kernel
theorem dX6_law_197 : decode cX6_law 197 = .ok (.iaload, 1) := by decide +kernel
theorem dX6_law_198 : decode cX6_law 198 = .ok (.iadd, 1) := by decide +kernel
theorem dX6_law_199 : decode cX6_law 199 = .ok (.bipush 48, 2) := by decide +kernel
theorem dX6_law_201 : decode cX6_law 201 = .ok (.isub, 1) := by decide +kernel
theorem dX6_law_202 : decode cX6_law 202 = .ok (.goto 5, 3) := by decide +kernel
theorem dX6_law_205 : decode cX6_law 205 = .ok (.iload 7, 2) := by decide +kernel
theorem dX6_law_207 : decode cX6_law 207 = .ok (.istore 7, 2) := by decide +kernel
theorem dX6_law_209 : decode cX6_law 209 = .ok (.iinc 5 1, 3) := by decide +kernel
theorem dX6_law_212 : decode cX6_law 212 = .ok (.goto (-90), 3) := by decide +kernel
theorem dX6_law_215 : decode cX6_law 215 = .ok (.iload 4, 2) := by decide +kernel
theorem dX6_law_217 : decode cX6_law 217 = .ok (.ifCond .ge 49, 3) := by decide +kernel
theorem dX6_law_220 : decode cX6_law 220 = .ok (.aload_n 0, 1) := by decide +kernel
theorem dX6_law_221 : decode cX6_law 221 = .ok (.iload 6, 2) := by decide +kernel
theorem dX6_law_223 : decode cX6_law 223 = .ok (.iload 5, 2) := by decide +kernel
theorem dX6_law_225 : decode cX6_law 225 = .ok (.invokevirtual 165, 3) := by decide +kernel
theorem dX6_law_228 : decode cX6_law 228 = .ok (.istore 4, 2) := by decide +kernel
theorem dX6_law_230 : decode cX6_law 230 = .ok (.iload 4, 2) := by decide +kernel
theorem dX6_law_232 : decode cX6_law 232 = .ok (.ifCond .ge 11, 3) := by decide +kernel
theorem dX6_law_235 : decode cX6_law 235 = .ok (.aload_n 0, 1) := by decide +kernel
theorem dX6_law_236 : decode cX6_law 236 = .ok (.iconst 1, 1) := by decide +kernel
theorem dX6_law_237 : decode cX6_law 237 = .ok (.iload 6, 2) := by decide +kernel
theorem dX6_law_239 : decode cX6_law 239 = .ok (.invokevirtual 169, 3) := by decide +kernel
theorem dX6_law_242 : decode cX6_law 242 = .ok (.ireturn, 1) := by decide +kernel
theorem dX6_law_243 : decode cX6_law 243 = .ok (.aload_n 0, 1) := by decide +kernel
theorem dX6_law_244 : decode cX6_law 244 = .ok (.getfield 29, 3) := by decide +kernel
theorem dX6_law_247 : decode cX6_law 247 = .ok (.bipush 9, 2) := by decide +kernel
theorem dX6_law_249 : decode cX6_law 249 = .ok (.iload_n 3, 1) := by decide +kernel
theorem dX6_law_250 : decode cX6_law 250 = .ok (.imul, 1) := by decide +kernel
theorem dX6_law_251 : decode cX6_law 251 = .ok (.iload 4, 2) := by decide +kernel
theorem dX6_law_253 : decode cX6_law 253 = .ok (.iadd, 1) := by decide +kernel
theorem dX6_law_254 : decode cX6_law 254 = .ok (.iaload, 1) := by decide +kernel
theorem dX6_law_255 : decode cX6_law 255 = .ok (.ifCond .lt 58, 3) := by decide +kernel
theorem dX6_law_258 : decode cX6_law 258 = .ok (.aload_n 0, 1) := by decide +kernel
theorem dX6_law_259 : decode cX6_law 259 = .ok (.iconst 3, 1) := by decide +kernel
theorem dX6_law_260 : decode cX6_law 260 = .ok (.iload 6, 2) := by decide +kernel
theorem dX6_law_262 : decode cX6_law 262 = .ok (.invokevirtual 169, 3) := by decide +kernel
theorem dX6_law_265 : decode cX6_law 265 = .ok (.ireturn, 1) := by decide +kernel
theorem dX6_law_266 : decode cX6_law 266 = .ok (.iload 8, 2) := by decide +kernel
theorem dX6_law_268 : decode cX6_law 268 = .ok (.ifCond .ne 11, 3) := by decide +kernel
theorem dX6_law_271 : decode cX6_law 271 = .ok (.aload_n 0, 1) := by decide +kernel
theorem dX6_law_272 : decode cX6_law 272 = .ok (.iconst 1, 1) := by decide +kernel
theorem dX6_law_273 : decode cX6_law 273 = .ok (.iload 6, 2) := by decide +kernel
theorem dX6_law_275 : decode cX6_law 275 = .ok (.invokevirtual 169, 3) := by decide +kernel
theorem dX6_law_278 : decode cX6_law 278 = .ok (.ireturn, 1) := by decide +kernel
theorem dX6_law_279 : decode cX6_law 279 = .ok (.iload 5, 2) := by decide +kernel
theorem dX6_law_281 : decode cX6_law 281 = .ok (.iload 6, 2) := by decide +kernel
theorem dX6_law_283 : decode cX6_law 283 = .ok (.isub, 1) := by decide +kernel
theorem dX6_law_284 : decode cX6_law 284 = .ok (.iconst 5, 1) := by decide +kernel
theorem dX6_law_285 : decode cX6_law 285 = .ok (.if_icmp .le 11, 3) := by decide +kernel
theorem dX6_law_288 : decode cX6_law 288 = .ok (.aload_n 0, 1) := by decide +kernel
theorem dX6_law_289 : decode cX6_law 289 = .ok (.iconst 2, 1) := by decide +kernel
theorem dX6_law_290 : decode cX6_law 290 = .ok (.iload 6, 2) := by decide +kernel
theorem dX6_law_292 : decode cX6_law 292 = .ok (.invokevirtual 169, 3) := by decide +kernel
theorem dX6_law_295 : decode cX6_law 295 = .ok (.ireturn, 1) := by decide +kernel
theorem dX6_law_296 : decode cX6_law 296 = .ok (.aload_n 0, 1) := by decide +kernel
theorem dX6_law_297 : decode cX6_law 297 = .ok (.getfield 29, 3) := by decide +kernel
theorem dX6_law_300 : decode cX6_law 300 = .ok (.bipush 9, 2) := by decide +kernel
theorem dX6_law_302 : decode cX6_law 302 = .ok (.iload_n 3, 1) := by decide +kernel
theorem dX6_law_303 : decode cX6_law 303 = .ok (.imul, 1) := by decide +kernel
theorem dX6_law_304 : decode cX6_law 304 = .ok (.iload 4, 2) := by decide +kernel
theorem dX6_law_306 : decode cX6_law 306 = .ok (.iadd, 1) := by decide +kernel
theorem dX6_law_307 : decode cX6_law 307 = .ok (.iload 7, 2) := by decide +kernel
theorem dX6_law_309 : decode cX6_law 309 = .ok (.iastore, 1) := by decide +kernel
theorem dX6_law_310 : decode cX6_law 310 = .ok (.iconst (-1), 1) := by decide +kernel
theorem dX6_law_311 : decode cX6_law 311 = .ok (.istore 4, 2) := by decide +kernel
theorem dX6_law_313 : decode cX6_law 313 = .ok (.goto (-234), 3) := by decide +kernel
theorem dX6_law_316 : decode cX6_law 316 = .ok (.iload 4, 2) := by decide +kernel
theorem dX6_law_318 : decode cX6_law 318 = .ok (.ifCond .lt 10, 3) := by decide +kernel
theorem dX6_law_321 : decode cX6_law 321 = .ok (.aload_n 0, 1) := by decide +kernel
theorem dX6_law_322 : decode cX6_law 322 = .ok (.iconst 1, 1) := by decide +kernel
theorem dX6_law_323 : decode cX6_law 323 = .ok (.iload_n 2, 1) := by decide +kernel
theorem dX6_law_324 : decode cX6_law 324 = .ok (.invokevirtual 169, 3) := by decide +kernel
theorem dX6_law_327 : decode cX6_law 327 = .ok (.ireturn, 1) := by decide +kernel
theorem dX6_law_328 : decode cX6_law 328 = .ok (.aload_n 0, 1) := by decide +kernel
theorem dX6_law_329 : decode cX6_law 329 = .ok (.getfield 26, 3) := by decide +kernel
theorem dX6_law_332 : decode cX6_law 332 = .ok (.iload_n 3, 1) := by decide +kernel
theorem dX6_law_333 : decode cX6_law 333 = .ok (.iload_n 1, 1) := by decide +kernel
theorem dX6_law_334 : decode cX6_law 334 = .ok (.iastore, 1) := by decide +kernel
theorem dX6_law_335 : decode cX6_law 335 = .ok (.aload_n 0, 1) := by decide +kernel
theorem dX6_law_336 : decode cX6_law 336 = .ok (.dup, 1) := by decide +kernel
theorem dX6_law_337 : decode cX6_law 337 = .ok (.getfield 158, 3) := by decide +kernel
theorem dX6_law_340 : decode cX6_law 340 = .ok (.iconst 1, 1) := by decide +kernel
theorem dX6_law_341 : decode cX6_law 341 = .ok (.iadd, 1) := by decide +kernel
theorem dX6_law_342 : decode cX6_law 342 = .ok (.putfield 158, 3) := by decide +kernel
theorem dX6_law_345 : decode cX6_law 345 = .ok (.iload_n 3, 1) := by decide +kernel
theorem dX6_law_346 : decode cX6_law 346 = .ok (.ireturn, 1) := by decide +kernel
theorem dX6_place_0 : decode cX6_place 0 = .ok (.aload_n 0, 1) := by decide +kernel
theorem dX6_place_1 : decode cX6_place 1 = .ok (.getfield 23, 3) := by decide +kernel
theorem dX6_place_4 : decode cX6_place 4 = .ok (.ireturn, 1) := by decide +kernel
theorem dX6_isBefore_0 : decode cX6_isBefore 0 = .ok (.aload_n 0, 1) := by decide +kernel
theorem dX6_isBefore_1 : decode cX6_isBefore 1 = .ok (.getfield 26, 3) := by decide +kernel
theorem dX6_isBefore_4 : decode cX6_isBefore 4 = .ok (.iload_n 1, 1) := by decide +kernel
theorem dX6_isBefore_5 : decode cX6_isBefore 5 = .ok (.iaload, 1) := by decide +kernel
theorem dX6_isBefore_6 : decode cX6_isBefore 6 = .ok (.aload_n 0, 1) := by decide +kernel
theorem dX6_isBefore_7 : decode cX6_isBefore 7 = .ok (.getfield 26, 3) := by decide +kernel
theorem dX6_isBefore_10 : decode cX6_isBefore 10 = .ok (.iload_n 2, 1) := by decide +kernel
theorem dX6_isBefore_11 : decode cX6_isBefore 11 = .ok (.iaload, 1) := by decide +kernel
theorem dX6_isBefore_12 : decode cX6_isBefore 12 = .ok (.if_icmp .lt 23, 3) := by decide +kernel
theorem dX6_isBefore_15 : decode cX6_isBefore 15 = .ok (.aload_n 0, 1) := by decide +kernel
theorem dX6_isBefore_16 : decode cX6_isBefore 16 = .ok (.getfield 26, 3) := by decide +kernel
theorem dX6_isBefore_19 : decode cX6_isBefore 19 = .ok (.iload_n 1, 1) := by decide +kernel
theorem dX6_isBefore_20 : decode cX6_isBefore 20 = .ok (.iaload, 1) := by decide +kernel
theorem dX6_isBefore_21 : decode cX6_isBefore 21 = .ok (.aload_n 0, 1) := by decide +kernel
theorem dX6_isBefore_22 : decode cX6_isBefore 22 = .ok (.getfield 26, 3) := by decide +kernel
theorem dX6_isBefore_25 : decode cX6_isBefore 25 = .ok (.iload_n 2, 1) := by decide +kernel
theorem dX6_isBefore_26 : decode cX6_isBefore 26 = .ok (.iaload, 1) := by decide +kernel
theorem dX6_isBefore_27 : decode cX6_isBefore 27 = .ok (.if_icmp .ne 12, 3) := by decide +kernel
theorem dX6_isBefore_30 : decode cX6_isBefore 30 = .ok (.iload_n 1, 1) := by decide +kernel
theorem dX6_isBefore_31 : decode cX6_isBefore 31 = .ok (.iload_n 2, 1) := by decide +kernel
theorem dX6_isBefore_32 : decode cX6_isBefore 32 = .ok (.if_icmp .ge 7, 3) := by decide +kernel
theorem dX6_isBefore_35 : decode cX6_isBefore 35 = .ok (.iconst 1, 1) := by decide +kernel
theorem dX6_isBefore_36 : decode cX6_isBefore 36 = .ok (.goto 4, 3) := by decide +kernel
theorem dX6_isBefore_39 : decode cX6_isBefore 39 = .ok (.iconst 0, 1) := by decide +kernel
theorem dX6_isBefore_40 : decode cX6_isBefore 40 = .ok (.ireturn, 1) := by decide +kernel
theorem dX6_setBy_0 : decode cX6_setBy 0 = .ok (.iload_n 1, 1) := by decide +kernel
theorem dX6_setBy_1 : decode cX6_setBy 1 = .ok (.ifCond .ge 10, 3) := by decide +kernel
theorem dX6_setBy_4 : decode cX6_setBy 4 = .ok (.aload_n 0, 1) := by decide +kernel
theorem dX6_setBy_5 : decode cX6_setBy 5 = .ok (.getfield 32, 3) := by decide +kernel
theorem dX6_setBy_8 : decode cX6_setBy 8 = .ok (.iload_n 2, 1) := by decide +kernel
theorem dX6_setBy_9 : decode cX6_setBy 9 = .ok (.iaload, 1) := by decide +kernel
theorem dX6_setBy_10 : decode cX6_setBy 10 = .ok (.ireturn, 1) := by decide +kernel
theorem dX6_setBy_11 : decode cX6_setBy 11 = .ok (.aload_n 0, 1) := by decide +kernel
theorem dX6_setBy_12 : decode cX6_setBy 12 = .ok (.getfield 29, 3) := by decide +kernel
theorem dX6_setBy_15 : decode cX6_setBy 15 = .ok (.bipush 9, 2) := by decide +kernel
theorem dX6_setBy_17 : decode cX6_setBy 17 = .ok (.iload_n 1, 1) := by decide +kernel
theorem dX6_setBy_18 : decode cX6_setBy 18 = .ok (.imul, 1) := by decide +kernel
theorem dX6_setBy_19 : decode cX6_setBy 19 = .ok (.iload_n 2, 1) := by decide +kernel
theorem dX6_setBy_20 : decode cX6_setBy 20 = .ok (.iadd, 1) := by decide +kernel
theorem dX6_setBy_21 : decode cX6_setBy 21 = .ok (.iaload, 1) := by decide +kernel
theorem dX6_setBy_22 : decode cX6_setBy 22 = .ok (.ifCond .lt 7, 3) := by decide +kernel
theorem dX6_setBy_25 : decode cX6_setBy 25 = .ok (.iload_n 1, 1) := by decide +kernel
theorem dX6_setBy_26 : decode cX6_setBy 26 = .ok (.goto 4, 3) := by decide +kernel
theorem dX6_setBy_29 : decode cX6_setBy 29 = .ok (.iconst (-1), 1) := by decide +kernel
theorem dX6_setBy_30 : decode cX6_setBy 30 = .ok (.istore_n 3, 1) := by decide +kernel
theorem dX6_setBy_31 : decode cX6_setBy 31 = .ok (.iconst 0, 1) := by decide +kernel
theorem dX6_setBy_32 : decode cX6_setBy 32 = .ok (.istore 4, 2) := by decide +kernel
theorem dX6_setBy_34 : decode cX6_setBy 34 = .ok (.iload 4, 2) := by decide +kernel
theorem dX6_setBy_36 : decode cX6_setBy 36 = .ok (.aload_n 0, 1) := by decide +kernel
theorem dX6_setBy_37 : decode cX6_setBy 37 = .ok (.getfield 158, 3) := by decide +kernel
theorem dX6_setBy_40 : decode cX6_setBy 40 = .ok (.if_icmp .ge 65, 3) := by decide +kernel
theorem dX6_setBy_43 : decode cX6_setBy 43 = .ok (.aload_n 0, 1) := by decide +kernel
theorem dX6_setBy_44 : decode cX6_setBy 44 = .ok (.getfield 29, 3) := by decide +kernel
theorem dX6_setBy_47 : decode cX6_setBy 47 = .ok (.bipush 9, 2) := by decide +kernel
theorem dX6_setBy_49 : decode cX6_setBy 49 = .ok (.iload_n 1, 1) := by decide +kernel
theorem dX6_setBy_50 : decode cX6_setBy 50 = .ok (.imul, 1) := by decide +kernel
theorem dX6_setBy_51 : decode cX6_setBy 51 = .ok (.iload_n 2, 1) := by decide +kernel
theorem dX6_setBy_52 : decode cX6_setBy 52 = .ok (.iadd, 1) := by decide +kernel
theorem dX6_setBy_53 : decode cX6_setBy 53 = .ok (.iaload, 1) := by decide +kernel
theorem dX6_setBy_54 : decode cX6_setBy 54 = .ok (.ifCond .ge 51, 3) := by decide +kernel
theorem dX6_setBy_57 : decode cX6_setBy 57 = .ok (.aload_n 0, 1) := by decide +kernel
theorem dX6_setBy_58 : decode cX6_setBy 58 = .ok (.iload 4, 2) := by decide +kernel
theorem dX6_setBy_60 : decode cX6_setBy 60 = .ok (.iload_n 1, 1) := by decide +kernel
theorem dX6_setBy_61 : decode cX6_setBy 61 = .ok (.invokevirtual 172, 3) := by decide +kernel
theorem dX6_setBy_64 : decode cX6_setBy 64 = .ok (.ifCond .eq 35, 3) := by decide +kernel
theorem dX6_setBy_67 : decode cX6_setBy 67 = .ok (.aload_n 0, 1) := by decide +kernel
theorem dX6_setBy_68 : decode cX6_setBy 68 = .ok (.getfield 29, 3) := by decide +kernel
theorem dX6_setBy_71 : decode cX6_setBy 71 = .ok (.bipush 9, 2) := by decide +kernel
theorem dX6_setBy_73 : decode cX6_setBy 73 = .ok (.iload 4, 2) := by decide +kernel
theorem dX6_setBy_75 : decode cX6_setBy 75 = .ok (.imul, 1) := by decide +kernel
theorem dX6_setBy_76 : decode cX6_setBy 76 = .ok (.iload_n 2, 1) := by decide +kernel
theorem dX6_setBy_77 : decode cX6_setBy 77 = .ok (.iadd, 1) := by decide +kernel
theorem dX6_setBy_78 : decode cX6_setBy 78 = .ok (.iaload, 1) := by decide +kernel
theorem dX6_setBy_79 : decode cX6_setBy 79 = .ok (.ifCond .lt 20, 3) := by decide +kernel
theorem dX6_setBy_82 : decode cX6_setBy 82 = .ok (.iload_n 3, 1) := by decide +kernel
theorem dX6_setBy_83 : decode cX6_setBy 83 = .ok (.ifCond .lt 13, 3) := by decide +kernel
theorem dX6_setBy_86 : decode cX6_setBy 86 = .ok (.aload_n 0, 1) := by decide +kernel
theorem dX6_setBy_87 : decode cX6_setBy 87 = .ok (.iload_n 3, 1) := by decide +kernel
theorem dX6_setBy_88 : decode cX6_setBy 88 = .ok (.iload 4, 2) := by decide +kernel
theorem dX6_setBy_90 : decode cX6_setBy 90 = .ok (.invokevirtual 172, 3) := by decide +kernel
theorem dX6_setBy_93 : decode cX6_setBy 93 = .ok (.ifCond .eq 6, 3) := by decide +kernel
theorem dX6_setBy_96 : decode cX6_setBy 96 = .ok (.iload 4, 2) := by decide +kernel
theorem dX6_setBy_98 : decode cX6_setBy 98 = .ok (.istore_n 3, 1) := by decide +kernel
theorem dX6_setBy_99 : decode cX6_setBy 99 = .ok (.iinc 4 1, 3) := by decide +kernel
theorem dX6_setBy_102 : decode cX6_setBy 102 = .ok (.goto (-68), 3) := by decide +kernel
theorem dX6_setBy_105 : decode cX6_setBy 105 = .ok (.iload_n 3, 1) := by decide +kernel
theorem dX6_setBy_106 : decode cX6_setBy 106 = .ok (.ifCond .ge 12, 3) := by decide +kernel
theorem dX6_setBy_109 : decode cX6_setBy 109 = .ok (.aload_n 0, 1) := by decide +kernel
theorem dX6_setBy_110 : decode cX6_setBy 110 = .ok (.getfield 32, 3) := by decide +kernel
theorem dX6_setBy_113 : decode cX6_setBy 113 = .ok (.iload_n 2, 1) := by decide +kernel
theorem dX6_setBy_114 : decode cX6_setBy 114 = .ok (.iaload, 1) := by decide +kernel
theorem dX6_setBy_115 : decode cX6_setBy 115 = .ok (.goto 14, 3) := by decide +kernel
theorem dX6_setBy_118 : decode cX6_setBy 118 = .ok (.aload_n 0, 1) := by decide +kernel
theorem dX6_setBy_119 : decode cX6_setBy 119 = .ok (.getfield 29, 3) := by decide +kernel
theorem dX6_setBy_122 : decode cX6_setBy 122 = .ok (.bipush 9, 2) := by decide +kernel
theorem dX6_setBy_124 : decode cX6_setBy 124 = .ok (.iload_n 3, 1) := by decide +kernel
theorem dX6_setBy_125 : decode cX6_setBy 125 = .ok (.imul, 1) := by decide +kernel
theorem dX6_setBy_126 : decode cX6_setBy 126 = .ok (.iload_n 2, 1) := by decide +kernel
theorem dX6_setBy_127 : decode cX6_setBy 127 = .ok (.iadd, 1) := by decide +kernel
theorem dX6_setBy_128 : decode cX6_setBy 128 = .ok (.iaload, 1) := by decide +kernel
theorem dX6_setBy_129 : decode cX6_setBy 129 = .ok (.ireturn, 1) := by decide +kernel
theorem dX6_sets_0 : decode cX6_sets 0 = .ok (.iload_n 1, 1) := by decide +kernel
theorem dX6_sets_1 : decode cX6_sets 1 = .ok (.iconst (-1), 1) := by decide +kernel
theorem dX6_sets_2 : decode cX6_sets 2 = .ok (.if_icmp .eq 23, 3) := by decide +kernel
theorem dX6_sets_5 : decode cX6_sets 5 = .ok (.iload_n 1, 1) := by decide +kernel
theorem dX6_sets_6 : decode cX6_sets 6 = .ok (.i2l, 1) := by decide +kernel
theorem dX6_sets_7 : decode cX6_sets 7 = .ok (.lconst 0, 1) := by decide +kernel
theorem dX6_sets_8 : decode cX6_sets 8 = .ok (.aload_n 0, 1) := by decide +kernel
theorem dX6_sets_9 : decode cX6_sets 9 = .ok (.getfield 158, 3) := by decide +kernel
theorem dX6_sets_12 : decode cX6_sets 12 = .ok (.iconst 1, 1) := by decide +kernel
theorem dX6_sets_13 : decode cX6_sets 13 = .ok (.isub, 1) := by decide +kernel
theorem dX6_sets_14 : decode cX6_sets 14 = .ok (.i2l, 1) := by decide +kernel
theorem dX6_sets_15 : decode cX6_sets 15 = .ok (.invokestatic 130, 3) := by decide +kernel
theorem dX6_sets_18 : decode cX6_sets 18 = .ok (.ifCond .ne 7, 3) := by decide +kernel
theorem dX6_sets_21 : decode cX6_sets 21 = .ok (.sipush (-1001), 3) := by decide +kernel
theorem dX6_sets_24 : decode cX6_sets 24 = .ok (.ireturn, 1) := by decide +kernel
theorem dX6_sets_25 : decode cX6_sets 25 = .ok (.iload_n 2, 1) := by decide +kernel
theorem dX6_sets_26 : decode cX6_sets 26 = .ok (.i2l, 1) := by decide +kernel
theorem dX6_sets_27 : decode cX6_sets 27 = .ok (.lconst 0, 1) := by decide +kernel
theorem dX6_sets_28 : decode cX6_sets 28 = .ok (.ldc2_w 176, 3) := by decide +kernel
theorem dX6_sets_31 : decode cX6_sets 31 = .ok (.invokestatic 130, 3) := by decide +kernel
theorem dX6_sets_34 : decode cX6_sets 34 = .ok (.ifCond .ne 7, 3) := by decide +kernel
theorem dX6_sets_37 : decode cX6_sets 37 = .ok (.sipush (-1002), 3) := by decide +kernel
theorem dX6_sets_40 : decode cX6_sets 40 = .ok (.ireturn, 1) := by decide +kernel
theorem dX6_sets_41 : decode cX6_sets 41 = .ok (.iload_n 2, 1) := by decide +kernel
theorem dX6_sets_42 : decode cX6_sets 42 = .ok (.bipush 9, 2) := by decide +kernel
theorem dX6_sets_44 : decode cX6_sets 44 = .ok (.if_icmp .ge 12, 3) := by decide +kernel
theorem dX6_sets_47 : decode cX6_sets 47 = .ok (.aload_n 0, 1) := by decide +kernel
theorem dX6_sets_48 : decode cX6_sets 48 = .ok (.iload_n 1, 1) := by decide +kernel
theorem dX6_sets_49 : decode cX6_sets 49 = .ok (.iload_n 2, 1) := by decide +kernel
theorem dX6_sets_50 : decode cX6_sets 50 = .ok (.invokevirtual 178, 3) := by decide +kernel
theorem dX6_sets_53 : decode cX6_sets 53 = .ok (.goto 17, 3) := by decide +kernel
theorem dX6_sets_56 : decode cX6_sets 56 = .ok (.iload_n 1, 1) := by decide +kernel
theorem dX6_sets_57 : decode cX6_sets 57 = .ok (.ifCond .ge 7, 3) := by decide +kernel
theorem dX6_sets_60 : decode cX6_sets 60 = .ok (.iconst 0, 1) := by decide +kernel
theorem dX6_sets_61 : decode cX6_sets 61 = .ok (.goto 9, 3) := by decide +kernel
theorem dX6_sets_64 : decode cX6_sets 64 = .ok (.aload_n 0, 1) := by decide +kernel
theorem dX6_sets_65 : decode cX6_sets 65 = .ok (.getfield 26, 3) := by decide +kernel
theorem dX6_sets_68 : decode cX6_sets 68 = .ok (.iload_n 1, 1) := by decide +kernel
theorem dX6_sets_69 : decode cX6_sets 69 = .ok (.iaload, 1) := by decide +kernel
theorem dX6_sets_70 : decode cX6_sets 70 = .ok (.ireturn, 1) := by decide +kernel
theorem dX6_lawFor_0 : decode cX6_lawFor 0 = .ok (.iconst (-1), 1) := by decide +kernel
theorem dX6_lawFor_1 : decode cX6_lawFor 1 = .ok (.istore_n 2, 1) := by decide +kernel
theorem dX6_lawFor_2 : decode cX6_lawFor 2 = .ok (.iconst 0, 1) := by decide +kernel
theorem dX6_lawFor_3 : decode cX6_lawFor 3 = .ok (.istore_n 3, 1) := by decide +kernel
theorem dX6_lawFor_4 : decode cX6_lawFor 4 = .ok (.iload_n 3, 1) := by decide +kernel
theorem dX6_lawFor_5 : decode cX6_lawFor 5 = .ok (.aload_n 0, 1) := by decide +kernel
theorem dX6_lawFor_6 : decode cX6_lawFor 6 = .ok (.getfield 158, 3) := by decide +kernel
theorem dX6_lawFor_9 : decode cX6_lawFor 9 = .ok (.if_icmp .ge 34, 3) := by decide +kernel
theorem dX6_lawFor_12 : decode cX6_lawFor 12 = .ok (.aload_n 0, 1) := by decide +kernel
theorem dX6_lawFor_13 : decode cX6_lawFor 13 = .ok (.getfield 26, 3) := by decide +kernel
theorem dX6_lawFor_16 : decode cX6_lawFor 16 = .ok (.iload_n 3, 1) := by decide +kernel
theorem dX6_lawFor_17 : decode cX6_lawFor 17 = .ok (.iaload, 1) := by decide +kernel
theorem dX6_lawFor_18 : decode cX6_lawFor 18 = .ok (.iload_n 1, 1) := by decide +kernel
theorem dX6_lawFor_19 : decode cX6_lawFor 19 = .ok (.if_icmp .gt 18, 3) := by decide +kernel
theorem dX6_lawFor_22 : decode cX6_lawFor 22 = .ok (.iload_n 2, 1) := by decide +kernel
theorem dX6_lawFor_23 : decode cX6_lawFor 23 = .ok (.ifCond .lt 12, 3) := by decide +kernel
theorem dX6_lawFor_26 : decode cX6_lawFor 26 = .ok (.aload_n 0, 1) := by decide +kernel
theorem dX6_lawFor_27 : decode cX6_lawFor 27 = .ok (.iload_n 2, 1) := by decide +kernel
theorem dX6_lawFor_28 : decode cX6_lawFor 28 = .ok (.iload_n 3, 1) := by decide +kernel
theorem dX6_lawFor_29 : decode cX6_lawFor 29 = .ok (.invokevirtual 172, 3) := by decide +kernel
theorem dX6_lawFor_32 : decode cX6_lawFor 32 = .ok (.ifCond .eq 5, 3) := by decide +kernel
theorem dX6_lawFor_35 : decode cX6_lawFor 35 = .ok (.iload_n 3, 1) := by decide +kernel
theorem dX6_lawFor_36 : decode cX6_lawFor 36 = .ok (.istore_n 2, 1) := by decide +kernel
theorem dX6_lawFor_37 : decode cX6_lawFor 37 = .ok (.iinc 3 1, 3) := by decide +kernel
theorem dX6_lawFor_40 : decode cX6_lawFor 40 = .ok (.goto (-36), 3) := by decide +kernel
theorem dX6_lawFor_43 : decode cX6_lawFor 43 = .ok (.iload_n 2, 1) := by decide +kernel
theorem dX6_lawFor_44 : decode cX6_lawFor 44 = .ok (.ireturn, 1) := by decide +kernel
theorem dX6_lawOf_0 : decode cX6_lawOf 0 = .ok (.iload_n 1, 1) := by decide +kernel
theorem dX6_lawOf_1 : decode cX6_lawOf 1 = .ok (.invokestatic 154, 3) := by decide +kernel
theorem dX6_lawOf_4 : decode cX6_lawOf 4 = .ok (.ifCond .eq 11, 3) := by decide +kernel
theorem dX6_lawOf_7 : decode cX6_lawOf 7 = .ok (.aload_n 0, 1) := by decide +kernel
theorem dX6_lawOf_8 : decode cX6_lawOf 8 = .ok (.iload_n 1, 1) := by decide +kernel
theorem dX6_lawOf_9 : decode cX6_lawOf 9 = .ok (.invokevirtual 181, 3) := by decide +kernel
theorem dX6_lawOf_12 : decode cX6_lawOf 12 = .ok (.goto 6, 3) := by decide +kernel
theorem dX6_lawOf_15 : decode cX6_lawOf 15 = .ok (.sipush (-1002), 3) := by decide +kernel
theorem dX6_lawOf_18 : decode cX6_lawOf 18 = .ok (.ireturn, 1) := by decide +kernel
theorem dX6_line_0 : decode cX6_line 0 = .ok (.iload_n 2, 1) := by decide +kernel
theorem dX6_line_1 : decode cX6_line 1 = .ok (.i2l, 1) := by decide +kernel
theorem dX6_line_2 : decode cX6_line 2 = .ok (.lconst 0, 1) := by decide +kernel
theorem dX6_line_3 : decode cX6_line 3 = .ok (.ldc2_w 185, 3) := by decide +kernel
theorem dX6_line_6 : decode cX6_line 6 = .ok (.invokestatic 130, 3) := by decide +kernel
theorem dX6_line_9 : decode cX6_line 9 = .ok (.ifCond .ne 7, 3) := by decide +kernel
theorem dX6_line_12 : decode cX6_line 12 = .ok (.sipush (-1002), 3) := by decide +kernel
theorem dX6_line_15 : decode cX6_line 15 = .ok (.ireturn, 1) := by decide +kernel
theorem dX6_line_16 : decode cX6_line 16 = .ok (.aload_n 0, 1) := by decide +kernel
theorem dX6_line_17 : decode cX6_line 17 = .ok (.iload_n 3, 1) := by decide +kernel
theorem dX6_line_18 : decode cX6_line 18 = .ok (.invokevirtual 187, 3) := by decide +kernel
theorem dX6_line_21 : decode cX6_line 21 = .ok (.ifCond .eq 32, 3) := by decide +kernel
theorem dX6_line_24 : decode cX6_line 24 = .ok (.iload_n 2, 1) := by decide +kernel
theorem dX6_line_25 : decode cX6_line 25 = .ok (.bipush 6, 2) := by decide +kernel
theorem dX6_line_27 : decode cX6_line 27 = .ok (.if_icmp .eq 11, 3) := by decide +kernel
theorem dX6_line_30 : decode cX6_line 30 = .ok (.iload 4, 2) := by decide +kernel
theorem dX6_line_32 : decode cX6_line 32 = .ok (.invokestatic 190, 3) := by decide +kernel
theorem dX6_line_35 : decode cX6_line 35 = .ok (.ifCond .eq 18, 3) := by decide +kernel
theorem dX6_line_38 : decode cX6_line 38 = .ok (.iload_n 2, 1) := by decide +kernel
theorem dX6_line_39 : decode cX6_line 39 = .ok (.bipush 6, 2) := by decide +kernel
theorem dX6_line_41 : decode cX6_line 41 = .ok (.if_icmp .ne 16, 3) := by decide +kernel
theorem dX6_line_44 : decode cX6_line 44 = .ok (.aload_n 0, 1) := by decide +kernel
theorem dX6_line_45 : decode cX6_line 45 = .ok (.iload 5, 2) := by decide +kernel
theorem dX6_line_47 : decode cX6_line 47 = .ok (.invokevirtual 187, 3) := by decide +kernel
theorem dX6_line_50 : decode cX6_line 50 = .ok (.ifCond .ne 7, 3) := by decide +kernel
theorem dX6_line_53 : decode cX6_line 53 = .ok (.sipush (-1001), 3) := by decide +kernel
theorem dX6_line_56 : decode cX6_line 56 = .ok (.ireturn, 1) := by decide +kernel
theorem dX6_line_57 : decode cX6_line 57 = .ok (.iload_n 1, 1) := by decide +kernel
theorem dX6_line_58 : decode cX6_line 58 = .ok (.invokestatic 154, 3) := by decide +kernel
theorem dX6_line_61 : decode cX6_line 61 = .ok (.ifCond .eq 39, 3) := by decide +kernel
theorem dX6_line_64 : decode cX6_line 64 = .ok (.iload_n 2, 1) := by decide +kernel
theorem dX6_line_65 : decode cX6_line 65 = .ok (.iconst 1, 1) := by decide +kernel
theorem dX6_line_66 : decode cX6_line 66 = .ok (.if_icmp .ne 16, 3) := by decide +kernel
theorem dX6_line_69 : decode cX6_line 69 = .ok (.iload 5, 2) := by decide +kernel
theorem dX6_line_71 : decode cX6_line 71 = .ok (.i2l, 1) := by decide +kernel
theorem dX6_line_72 : decode cX6_line 72 = .ok (.lconst 1, 1) := by decide +kernel
theorem dX6_line_73 : decode cX6_line 73 = .ok (.ldc2_w 193, 3) := by decide +kernel
theorem dX6_line_76 : decode cX6_line 76 = .ok (.invokestatic 130, 3) := by decide +kernel
theorem dX6_line_79 : decode cX6_line 79 = .ok (.ifCond .eq 21, 3) := by decide +kernel
theorem dX6_line_82 : decode cX6_line 82 = .ok (.iload_n 2, 1) := by decide +kernel
theorem dX6_line_83 : decode cX6_line 83 = .ok (.iconst 2, 1) := by decide +kernel
theorem dX6_line_84 : decode cX6_line 84 = .ok (.if_icmp .ne 20, 3) := by decide +kernel
theorem dX6_line_87 : decode cX6_line 87 = .ok (.iload 5, 2) := by decide +kernel
theorem dX6_line_89 : decode cX6_line 89 = .ok (.i2l, 1) := by decide +kernel
theorem dX6_line_90 : decode cX6_line 90 = .ok (.lconst 1, 1) := by decide +kernel
theorem dX6_line_91 : decode cX6_line 91 = .ok (.ldc2_w 195, 3) := by decide +kernel
theorem dX6_line_94 : decode cX6_line 94 = .ok (.invokestatic 130, 3) := by decide +kernel
theorem dX6_line_97 : decode cX6_line 97 = .ok (.ifCond .ne 7, 3) := by decide +kernel
theorem dX6_line_100 : decode cX6_line 100 = .ok (.sipush (-1002), 3) := by decide +kernel
theorem dX6_line_103 : decode cX6_line 103 = .ok (.ireturn, 1) := by decide +kernel
theorem dX6_line_104 : decode cX6_line 104 = .ok (.aload_n 0, 1) := by decide +kernel
theorem dX6_line_105 : decode cX6_line 105 = .ok (.getfield 197, 3) := by decide +kernel
theorem dX6_line_108 : decode cX6_line 108 = .ok (.bipush 120, 2) := by decide +kernel
theorem dX6_line_110 : decode cX6_line 110 = .ok (.if_icmp .ne 7, 3) := by decide +kernel
theorem dX6_line_113 : decode cX6_line 113 = .ok (.sipush (-1004), 3) := by decide +kernel
theorem dX6_line_116 : decode cX6_line 116 = .ok (.ireturn, 1) := by decide +kernel
theorem dX6_line_117 : decode cX6_line 117 = .ok (.aload_n 0, 1) := by decide +kernel
theorem dX6_line_118 : decode cX6_line 118 = .ok (.getfield 39, 3) := by decide +kernel
theorem dX6_line_121 : decode cX6_line 121 = .ok (.aload_n 0, 1) := by decide +kernel
theorem dX6_line_122 : decode cX6_line 122 = .ok (.getfield 197, 3) := by decide +kernel
theorem dX6_line_125 : decode cX6_line 125 = .ok (.iload_n 1, 1) := by decide +kernel
theorem dX6_line_126 : decode cX6_line 126 = .ok (.iastore, 1) := by decide +kernel
theorem dX6_line_127 : decode cX6_line 127 = .ok (.aload_n 0, 1) := by decide +kernel
theorem dX6_line_128 : decode cX6_line 128 = .ok (.getfield 42, 3) := by decide +kernel
theorem dX6_line_131 : decode cX6_line 131 = .ok (.aload_n 0, 1) := by decide +kernel
theorem dX6_line_132 : decode cX6_line 132 = .ok (.getfield 197, 3) := by decide +kernel
theorem dX6_line_135 : decode cX6_line 135 = .ok (.iload_n 2, 1) := by decide +kernel
theorem dX6_line_136 : decode cX6_line 136 = .ok (.iastore, 1) := by decide +kernel
theorem dX6_line_137 : decode cX6_line 137 = .ok (.aload_n 0, 1) := by decide +kernel
theorem dX6_line_138 : decode cX6_line 138 = .ok (.getfield 45, 3) := by decide +kernel
theorem dX6_line_141 : decode cX6_line 141 = .ok (.aload_n 0, 1) := by decide +kernel
theorem dX6_line_142 : decode cX6_line 142 = .ok (.getfield 197, 3) := by decide +kernel
theorem dX6_line_145 : decode cX6_line 145 = .ok (.iload_n 3, 1) := by decide +kernel
theorem dX6_line_146 : decode cX6_line 146 = .ok (.iastore, 1) := by decide +kernel
theorem dX6_line_147 : decode cX6_line 147 = .ok (.aload_n 0, 1) := by decide +kernel
theorem dX6_line_148 : decode cX6_line 148 = .ok (.getfield 48, 3) := by decide +kernel
theorem dX6_line_151 : decode cX6_line 151 = .ok (.aload_n 0, 1) := by decide +kernel
theorem dX6_line_152 : decode cX6_line 152 = .ok (.getfield 197, 3) := by decide +kernel
theorem dX6_line_155 : decode cX6_line 155 = .ok (.iload 4, 2) := by decide +kernel
theorem dX6_line_157 : decode cX6_line 157 = .ok (.iastore, 1) := by decide +kernel
theorem dX6_line_158 : decode cX6_line 158 = .ok (.aload_n 0, 1) := by decide +kernel
theorem dX6_line_159 : decode cX6_line 159 = .ok (.getfield 51, 3) := by decide +kernel
theorem dX6_line_162 : decode cX6_line 162 = .ok (.aload_n 0, 1) := by decide +kernel
theorem dX6_line_163 : decode cX6_line 163 = .ok (.getfield 197, 3) := by decide +kernel
theorem dX6_line_166 : decode cX6_line 166 = .ok (.iload 5, 2) := by decide +kernel
theorem dX6_line_168 : decode cX6_line 168 = .ok (.iastore, 1) := by decide +kernel
theorem dX6_line_169 : decode cX6_line 169 = .ok (.aload_n 0, 1) := by decide +kernel
theorem dX6_line_170 : decode cX6_line 170 = .ok (.getfield 54, 3) := by decide +kernel
theorem dX6_line_173 : decode cX6_line 173 = .ok (.aload_n 0, 1) := by decide +kernel
theorem dX6_line_174 : decode cX6_line 174 = .ok (.getfield 197, 3) := by decide +kernel
theorem dX6_line_177 : decode cX6_line 177 = .ok (.iconst 0, 1) := by decide +kernel
theorem dX6_line_178 : decode cX6_line 178 = .ok (.bastore, 1) := by decide +kernel
theorem dX6_line_179 : decode cX6_line 179 = .ok (.aload_n 0, 1) := by decide +kernel
theorem dX6_line_180 : decode cX6_line 180 = .ok (.dup, 1) := by decide +kernel
theorem dX6_line_181 : decode cX6_line 181 = .ok (.getfield 197, 3) := by decide +kernel
theorem dX6_line_184 : decode cX6_line 184 = .ok (.iconst 1, 1) := by decide +kernel
theorem dX6_line_185 : decode cX6_line 185 = .ok (.iadd, 1) := by decide +kernel
theorem dX6_line_186 : decode cX6_line 186 = .ok (.putfield 197, 3) := by decide +kernel
theorem dX6_line_189 : decode cX6_line 189 = .ok (.aload_n 0, 1) := by decide +kernel
theorem dX6_line_190 : decode cX6_line 190 = .ok (.getfield 197, 3) := by decide +kernel
theorem dX6_line_193 : decode cX6_line 193 = .ok (.iconst 1, 1) := by decide +kernel
theorem dX6_line_194 : decode cX6_line 194 = .ok (.isub, 1) := by decide +kernel
theorem dX6_line_195 : decode cX6_line 195 = .ok (.ireturn, 1) := by decide +kernel
theorem dX6_isLine_0 : decode cX6_isLine 0 = .ok (.iload_n 1, 1) := by decide +kernel
theorem dX6_isLine_1 : decode cX6_isLine 1 = .ok (.i2l, 1) := by decide +kernel
theorem dX6_isLine_2 : decode cX6_isLine 2 = .ok (.lconst 0, 1) := by decide +kernel
theorem dX6_isLine_3 : decode cX6_isLine 3 = .ok (.aload_n 0, 1) := by decide +kernel
theorem dX6_isLine_4 : decode cX6_isLine 4 = .ok (.getfield 197, 3) := by decide +kernel
theorem dX6_isLine_7 : decode cX6_isLine 7 = .ok (.iconst 1, 1) := by decide +kernel
theorem dX6_isLine_8 : decode cX6_isLine 8 = .ok (.isub, 1) := by decide +kernel
theorem dX6_isLine_9 : decode cX6_isLine 9 = .ok (.i2l, 1) := by decide +kernel
theorem dX6_isLine_10 : decode cX6_isLine 10 = .ok (.invokestatic 130, 3) := by decide +kernel
theorem dX6_isLine_13 : decode cX6_isLine 13 = .ok (.ireturn, 1) := by decide +kernel
theorem dX6_strike_0 : decode cX6_strike 0 = .ok (.aload_n 0, 1) := by decide +kernel
theorem dX6_strike_1 : decode cX6_strike 1 = .ok (.iload_n 1, 1) := by decide +kernel
theorem dX6_strike_2 : decode cX6_strike 2 = .ok (.invokevirtual 200, 3) := by decide +kernel
theorem dX6_strike_5 : decode cX6_strike 5 = .ok (.ifCond .ne 7, 3) := by decide +kernel
theorem dX6_strike_8 : decode cX6_strike 8 = .ok (.sipush (-1001), 3) := by decide +kernel
theorem dX6_strike_11 : decode cX6_strike 11 = .ok (.ireturn, 1) := by decide +kernel
theorem dX6_strike_12 : decode cX6_strike 12 = .ok (.aload_n 0, 1) := by decide +kernel
theorem dX6_strike_13 : decode cX6_strike 13 = .ok (.getfield 54, 3) := by decide +kernel
theorem dX6_strike_16 : decode cX6_strike 16 = .ok (.iload_n 1, 1) := by decide +kernel
theorem dX6_strike_17 : decode cX6_strike 17 = .ok (.baload, 1) := by decide +kernel
theorem dX6_strike_18 : decode cX6_strike 18 = .ok (.ifCond .eq 7, 3) := by decide +kernel
theorem dX6_strike_21 : decode cX6_strike 21 = .ok (.iconst 1, 1) := by decide +kernel
theorem dX6_strike_22 : decode cX6_strike 22 = .ok (.goto 4, 3) := by decide +kernel
theorem dX6_strike_25 : decode cX6_strike 25 = .ok (.iconst 0, 1) := by decide +kernel
theorem dX6_strike_26 : decode cX6_strike 26 = .ok (.istore_n 3, 1) := by decide +kernel
theorem dX6_strike_27 : decode cX6_strike 27 = .ok (.aload_n 0, 1) := by decide +kernel
theorem dX6_strike_28 : decode cX6_strike 28 = .ok (.getfield 54, 3) := by decide +kernel
theorem dX6_strike_31 : decode cX6_strike 31 = .ok (.iload_n 1, 1) := by decide +kernel
theorem dX6_strike_32 : decode cX6_strike 32 = .ok (.iload_n 2, 1) := by decide +kernel
theorem dX6_strike_33 : decode cX6_strike 33 = .ok (.bastore, 1) := by decide +kernel
theorem dX6_strike_34 : decode cX6_strike 34 = .ok (.iload_n 3, 1) := by decide +kernel
theorem dX6_strike_35 : decode cX6_strike 35 = .ok (.ireturn, 1) := by decide +kernel
theorem dX6_told_0 : decode cX6_told 0 = .ok (.aload_n 0, 1) := by decide +kernel
theorem dX6_told_1 : decode cX6_told 1 = .ok (.iload_n 1, 1) := by decide +kernel
theorem dX6_told_2 : decode cX6_told 2 = .ok (.invokevirtual 200, 3) := by decide +kernel
theorem dX6_told_5 : decode cX6_told 5 = .ok (.ifCond .ne 7, 3) := by decide +kernel
theorem dX6_told_8 : decode cX6_told 8 = .ok (.sipush (-1001), 3) := by decide +kernel
theorem dX6_told_11 : decode cX6_told 11 = .ok (.ireturn, 1) := by decide +kernel
theorem dX6_told_12 : decode cX6_told 12 = .ok (.iload_n 2, 1) := by decide +kernel
theorem dX6_told_13 : decode cX6_told 13 = .ok (.tableswitch 89 0 5 #[39, 46, 53, 60, 67, 74], 39) := by decide +kernel
theorem dX6_told_52 : decode cX6_told 52 = .ok (.aload_n 0, 1) := by decide +kernel
theorem dX6_told_53 : decode cX6_told 53 = .ok (.getfield 39, 3) := by decide +kernel
theorem dX6_told_56 : decode cX6_told 56 = .ok (.iload_n 1, 1) := by decide +kernel
theorem dX6_told_57 : decode cX6_told 57 = .ok (.iaload, 1) := by decide +kernel
theorem dX6_told_58 : decode cX6_told 58 = .ok (.ireturn, 1) := by decide +kernel
theorem dX6_told_59 : decode cX6_told 59 = .ok (.aload_n 0, 1) := by decide +kernel
theorem dX6_told_60 : decode cX6_told 60 = .ok (.getfield 42, 3) := by decide +kernel
theorem dX6_told_63 : decode cX6_told 63 = .ok (.iload_n 1, 1) := by decide +kernel
theorem dX6_told_64 : decode cX6_told 64 = .ok (.iaload, 1) := by decide +kernel
theorem dX6_told_65 : decode cX6_told 65 = .ok (.ireturn, 1) := by decide +kernel
theorem dX6_told_66 : decode cX6_told 66 = .ok (.aload_n 0, 1) := by decide +kernel
theorem dX6_told_67 : decode cX6_told 67 = .ok (.getfield 45, 3) := by decide +kernel
theorem dX6_told_70 : decode cX6_told 70 = .ok (.iload_n 1, 1) := by decide +kernel
theorem dX6_told_71 : decode cX6_told 71 = .ok (.iaload, 1) := by decide +kernel
theorem dX6_told_72 : decode cX6_told 72 = .ok (.ireturn, 1) := by decide +kernel
theorem dX6_told_73 : decode cX6_told 73 = .ok (.aload_n 0, 1) := by decide +kernel
theorem dX6_told_74 : decode cX6_told 74 = .ok (.getfield 48, 3) := by decide +kernel
theorem dX6_told_77 : decode cX6_told 77 = .ok (.iload_n 1, 1) := by decide +kernel
theorem dX6_told_78 : decode cX6_told 78 = .ok (.iaload, 1) := by decide +kernel
theorem dX6_told_79 : decode cX6_told 79 = .ok (.ireturn, 1) := by decide +kernel
theorem dX6_told_80 : decode cX6_told 80 = .ok (.aload_n 0, 1) := by decide +kernel
theorem dX6_told_81 : decode cX6_told 81 = .ok (.getfield 51, 3) := by decide +kernel
theorem dX6_told_84 : decode cX6_told 84 = .ok (.iload_n 1, 1) := by decide +kernel
theorem dX6_told_85 : decode cX6_told 85 = .ok (.iaload, 1) := by decide +kernel
theorem dX6_told_86 : decode cX6_told 86 = .ok (.ireturn, 1) := by decide +kernel
theorem dX6_told_87 : decode cX6_told 87 = .ok (.aload_n 0, 1) := by decide +kernel
theorem dX6_told_88 : decode cX6_told 88 = .ok (.getfield 54, 3) := by decide +kernel
theorem dX6_told_91 : decode cX6_told 91 = .ok (.iload_n 1, 1) := by decide +kernel
theorem dX6_told_92 : decode cX6_told 92 = .ok (.baload, 1) := by decide +kernel
theorem dX6_told_93 : decode cX6_told 93 = .ok (.ifCond .eq 7, 3) := by decide +kernel
theorem dX6_told_96 : decode cX6_told 96 = .ok (.iconst 1, 1) := by decide +kernel
theorem dX6_told_97 : decode cX6_told 97 = .ok (.goto 4, 3) := by decide +kernel
theorem dX6_told_100 : decode cX6_told 100 = .ok (.iconst 0, 1) := by decide +kernel
theorem dX6_told_101 : decode cX6_told 101 = .ok (.ireturn, 1) := by decide +kernel
theorem dX6_told_102 : decode cX6_told 102 = .ok (.sipush (-1002), 3) := by decide +kernel
theorem dX6_told_105 : decode cX6_told 105 = .ok (.ireturn, 1) := by decide +kernel
