theorem dX7_init_0 : decode cX7_init 0 = .ok (.aload_n 0, 1) := by decide +kernel
theorem dX7_init_1 : decode cX7_init 1 = .ok (.invokespecial 1, 3) := by decide +kernel
theorem dX7_init_4 : decode cX7_init 4 = .ok (.aload_n 0, 1) := by decide +kernel
theorem dX7_init_5 : decode cX7_init 5 = .ok (.new 7, 3) := by decide +kernel
theorem dX7_init_8 : decode cX7_init 8 = .ok (.dup, 1) := by decide +kernel
theorem dX7_init_9 : decode cX7_init 9 = .ok (.invokespecial 9, 3) := by decide +kernel
theorem dX7_init_12 : decode cX7_init 12 = .ok (.putfield 10, 3) := by decide +kernel
theorem dX7_init_15 : decode cX7_init 15 = .ok (.aload_n 0, 1) := by decide +kernel
theorem dX7_init_16 : decode cX7_init 16 = .ok (.new 7, 3) := by decide +kernel
theorem dX7_init_19 : decode cX7_init 19 = .ok (.dup, 1) := by decide +kernel
theorem dX7_init_20 : decode cX7_init 20 = .ok (.invokespecial 9, 3) := by decide +kernel
theorem dX7_init_23 : decode cX7_init 23 = .ok (.putfield 16, 3) := by decide +kernel
theorem dX7_init_26 : decode cX7_init 26 = .ok (.aload_n 0, 1) := by decide +kernel
theorem dX7_init_27 : decode cX7_init 27 = .ok (.new 7, 3) := by decide +kernel
theorem dX7_init_30 : decode cX7_init 30 = .ok (.dup, 1) := by decide +kernel
theorem dX7_init_31 : decode cX7_init 31 = .ok (.invokespecial 9, 3) := by decide +kernel
theorem dX7_init_34 : decode cX7_init 34 = .ok (.putfield 19, 3) := by decide +kernel
theorem dX7_init_37 : decode cX7_init 37 = .ok (.aload_n 0, 1) := by decide +kernel
theorem dX7_init_38 : decode cX7_init 38 = .ok (.new 22, 3) := by decide +kernel
theorem dX7_init_41 : decode cX7_init 41 = .ok (.dup, 1) := by decide +kernel
theorem dX7_init_42 : decode cX7_init 42 = .ok (.invokespecial 24, 3) := by decide +kernel
theorem dX7_init_45 : decode cX7_init 45 = .ok (.putfield 25, 3) := by decide +kernel
theorem dX7_init_48 : decode cX7_init 48 = .ok (.aload_n 0, 1) := by decide +kernel
theorem dX7_init_49 : decode cX7_init 49 = .ok (.new 29, 3) := by decide +kernel
theorem dX7_init_52 : decode cX7_init 52 = .ok (.dup, 1) := by decide +kernel
theorem dX7_init_53 : decode cX7_init 53 = .ok (.invokespecial 31, 3) := by decide +kernel
theorem dX7_init_56 : decode cX7_init 56 = .ok (.putfield 32, 3) := by decide +kernel
theorem dX7_init_59 : decode cX7_init 59 = .ok (.aload_n 0, 1) := by decide +kernel
theorem dX7_init_60 : decode cX7_init 60 = .ok (.new 36, 3) := by decide +kernel
theorem dX7_init_63 : decode cX7_init 63 = .ok (.dup, 1) := by decide +kernel
theorem dX7_init_64 : decode cX7_init 64 = .ok (.invokespecial 38, 3) := by decide +kernel
theorem dX7_init_67 : decode cX7_init 67 = .ok (.putfield 39, 3) := by decide +kernel
theorem dX7_init_70 : decode cX7_init 70 = .ok (.aload_n 0, 1) := by decide +kernel
theorem dX7_init_71 : decode cX7_init 71 = .ok (.new 43, 3) := by decide +kernel
theorem dX7_init_74 : decode cX7_init 74 = .ok (.dup, 1) := by decide +kernel
theorem dX7_init_75 : decode cX7_init 75 = .ok (.invokespecial 45, 3) := by decide +kernel
theorem dX7_init_78 : decode cX7_init 78 = .ok (.putfield 46, 3) := by decide +kernel
theorem dX7_init_81 : decode cX7_init 81 = .ok (.aload_n 0, 1) := by decide +kernel
theorem dX7_init_82 : decode cX7_init 82 = .ok (.new 50, 3) := by decide +kernel
theorem dX7_init_85 : decode cX7_init 85 = .ok (.dup, 1) := by decide +kernel
theorem dX7_init_86 : decode cX7_init 86 = .ok (.invokespecial 52, 3) := by decide +kernel
theorem dX7_init_89 : decode cX7_init 89 = .ok (.putfield 53, 3) := by decide +kernel
theorem dX7_init_92 : decode cX7_init 92 = .ok (.aload_n 0, 1) := by decide +kernel
theorem dX7_init_93 : decode cX7_init 93 = .ok (.bipush 6, 2) := by decide +kernel
theorem dX7_init_95 : decode cX7_init 95 = .ok (.newarray .int, 2) := by decide +kernel
theorem dX7_init_97 : decode cX7_init 97 = .ok (.putfield 57, 3) := by decide +kernel
theorem dX7_init_100 : decode cX7_init 100 = .ok (.return_, 1) := by decide +kernel
theorem dX7_row_0 : decode cX7_row 0 = .ok (.aload_n 0, 1) := by decide +kernel
theorem dX7_row_1 : decode cX7_row 1 = .ok (.getfield 16, 3) := by decide +kernel
theorem dX7_row_4 : decode cX7_row 4 = .ok (.aload_n 0, 1) := by decide +kernel
theorem dX7_row_5 : decode cX7_row 5 = .ok (.getfield 10, 3) := by decide +kernel
theorem dX7_row_8 : decode cX7_row 8 = .ok (.invokevirtual 61, 3) := by decide +kernel
theorem dX7_row_11 : decode cX7_row 11 = .ok (.aload_n 0, 1) := by decide +kernel
theorem dX7_row_12 : decode cX7_row 12 = .ok (.aload_n 0, 1) := by decide +kernel
theorem dX7_row_13 : decode cX7_row 13 = .ok (.iload_n 1, 1) := by decide +kernel
theorem dX7_row_14 : decode cX7_row 14 = .ok (.iload_n 2, 1) := by decide +kernel
theorem dX7_row_15 : decode cX7_row 15 = .ok (.invokevirtual 65, 3) := by decide +kernel
theorem dX7_row_18 : decode cX7_row 18 = .ok (.invokevirtual 69, 3) := by decide +kernel
theorem dX7_row_21 : decode cX7_row 21 = .ok (.ireturn, 1) := by decide +kernel
theorem dX7_drop_0 : decode cX7_drop 0 = .ok (.aload_n 0, 1) := by decide +kernel
theorem dX7_drop_1 : decode cX7_drop 1 = .ok (.getfield 16, 3) := by decide +kernel
theorem dX7_drop_4 : decode cX7_drop 4 = .ok (.aload_n 0, 1) := by decide +kernel
theorem dX7_drop_5 : decode cX7_drop 5 = .ok (.getfield 10, 3) := by decide +kernel
theorem dX7_drop_8 : decode cX7_drop 8 = .ok (.invokevirtual 61, 3) := by decide +kernel
theorem dX7_drop_11 : decode cX7_drop 11 = .ok (.aload_n 0, 1) := by decide +kernel
theorem dX7_drop_12 : decode cX7_drop 12 = .ok (.aload_n 0, 1) := by decide +kernel
theorem dX7_drop_13 : decode cX7_drop 13 = .ok (.iload_n 1, 1) := by decide +kernel
theorem dX7_drop_14 : decode cX7_drop 14 = .ok (.invokevirtual 73, 3) := by decide +kernel
theorem dX7_drop_17 : decode cX7_drop 17 = .ok (.invokevirtual 69, 3) := by decide +kernel
theorem dX7_drop_20 : decode cX7_drop 20 = .ok (.ireturn, 1) := by decide +kernel
theorem dX7_turn_0 : decode cX7_turn 0 = .ok (.aload_n 0, 1) := by decide +kernel
theorem dX7_turn_1 : decode cX7_turn 1 = .ok (.getfield 16, 3) := by decide +kernel
theorem dX7_turn_4 : decode cX7_turn 4 = .ok (.aload_n 0, 1) := by decide +kernel
theorem dX7_turn_5 : decode cX7_turn 5 = .ok (.getfield 10, 3) := by decide +kernel
theorem dX7_turn_8 : decode cX7_turn 8 = .ok (.invokevirtual 61, 3) := by decide +kernel
theorem dX7_turn_11 : decode cX7_turn 11 = .ok (.aload_n 0, 1) := by decide +kernel
theorem dX7_turn_12 : decode cX7_turn 12 = .ok (.aload_n 0, 1) := by decide +kernel
theorem dX7_turn_13 : decode cX7_turn 13 = .ok (.iload_n 1, 1) := by decide +kernel
theorem dX7_turn_14 : decode cX7_turn 14 = .ok (.invokevirtual 76, 3) := by decide +kernel
theorem dX7_turn_17 : decode cX7_turn 17 = .ok (.invokevirtual 69, 3) := by decide +kernel
theorem dX7_turn_20 : decode cX7_turn 20 = .ok (.ireturn, 1) := by decide +kernel
theorem dX7_swap_0 : decode cX7_swap 0 = .ok (.aload_n 0, 1) := by decide +kernel
theorem dX7_swap_1 : decode cX7_swap 1 = .ok (.getfield 16, 3) := by decide +kernel
theorem dX7_swap_4 : decode cX7_swap 4 = .ok (.aload_n 0, 1) := by decide +kernel
theorem dX7_swap_5 : decode cX7_swap 5 = .ok (.getfield 10, 3) := by decide +kernel
theorem dX7_swap_8 : decode cX7_swap 8 = .ok (.invokevirtual 61, 3) := by decide +kernel
theorem dX7_swap_11 : decode cX7_swap 11 = .ok (.aload_n 0, 1) := by decide +kernel
theorem dX7_swap_12 : decode cX7_swap 12 = .ok (.aload_n 0, 1) := by decide +kernel
theorem dX7_swap_13 : decode cX7_swap 13 = .ok (.iload_n 1, 1) := by decide +kernel
theorem dX7_swap_14 : decode cX7_swap 14 = .ok (.iload_n 2, 1) := by decide +kernel
theorem dX7_swap_15 : decode cX7_swap 15 = .ok (.iload_n 3, 1) := by decide +kernel
theorem dX7_swap_16 : decode cX7_swap 16 = .ok (.invokevirtual 79, 3) := by decide +kernel
theorem dX7_swap_19 : decode cX7_swap 19 = .ok (.invokevirtual 69, 3) := by decide +kernel
theorem dX7_swap_22 : decode cX7_swap 22 = .ok (.ireturn, 1) := by decide +kernel
theorem dX7_lift_0 : decode cX7_lift 0 = .ok (.aload_n 0, 1) := by decide +kernel
theorem dX7_lift_1 : decode cX7_lift 1 = .ok (.getfield 16, 3) := by decide +kernel
theorem dX7_lift_4 : decode cX7_lift 4 = .ok (.aload_n 0, 1) := by decide +kernel
theorem dX7_lift_5 : decode cX7_lift 5 = .ok (.getfield 10, 3) := by decide +kernel
theorem dX7_lift_8 : decode cX7_lift 8 = .ok (.invokevirtual 61, 3) := by decide +kernel
theorem dX7_lift_11 : decode cX7_lift 11 = .ok (.aload_n 0, 1) := by decide +kernel
theorem dX7_lift_12 : decode cX7_lift 12 = .ok (.aload_n 0, 1) := by decide +kernel
theorem dX7_lift_13 : decode cX7_lift 13 = .ok (.iload_n 1, 1) := by decide +kernel
theorem dX7_lift_14 : decode cX7_lift 14 = .ok (.invokevirtual 83, 3) := by decide +kernel
theorem dX7_lift_17 : decode cX7_lift 17 = .ok (.invokevirtual 69, 3) := by decide +kernel
theorem dX7_lift_20 : decode cX7_lift 20 = .ok (.ireturn, 1) := by decide +kernel
theorem dX7_begin_0 : decode cX7_begin 0 = .ok (.aload_n 0, 1) := by decide +kernel
theorem dX7_begin_1 : decode cX7_begin 1 = .ok (.getfield 16, 3) := by decide +kernel
theorem dX7_begin_4 : decode cX7_begin 4 = .ok (.aload_n 0, 1) := by decide +kernel
theorem dX7_begin_5 : decode cX7_begin 5 = .ok (.getfield 10, 3) := by decide +kernel
theorem dX7_begin_8 : decode cX7_begin 8 = .ok (.invokevirtual 61, 3) := by decide +kernel
theorem dX7_begin_11 : decode cX7_begin 11 = .ok (.aload_n 0, 1) := by decide +kernel
theorem dX7_begin_12 : decode cX7_begin 12 = .ok (.aload_n 0, 1) := by decide +kernel
theorem dX7_begin_13 : decode cX7_begin 13 = .ok (.iload_n 1, 1) := by decide +kernel
theorem dX7_begin_14 : decode cX7_begin 14 = .ok (.invokevirtual 86, 3) := by decide +kernel
theorem dX7_begin_17 : decode cX7_begin 17 = .ok (.invokevirtual 69, 3) := by decide +kernel
theorem dX7_begin_20 : decode cX7_begin 20 = .ok (.ireturn, 1) := by decide +kernel
theorem dX7_toss_0 : decode cX7_toss 0 = .ok (.aload_n 0, 1) := by decide +kernel
theorem dX7_toss_1 : decode cX7_toss 1 = .ok (.getfield 16, 3) := by decide +kernel
theorem dX7_toss_4 : decode cX7_toss 4 = .ok (.aload_n 0, 1) := by decide +kernel
theorem dX7_toss_5 : decode cX7_toss 5 = .ok (.getfield 10, 3) := by decide +kernel
theorem dX7_toss_8 : decode cX7_toss 8 = .ok (.invokevirtual 61, 3) := by decide +kernel
theorem dX7_toss_11 : decode cX7_toss 11 = .ok (.aload_n 0, 1) := by decide +kernel
theorem dX7_toss_12 : decode cX7_toss 12 = .ok (.aload_n 0, 1) := by decide +kernel
theorem dX7_toss_13 : decode cX7_toss 13 = .ok (.iload_n 1, 1) := by decide +kernel
theorem dX7_toss_14 : decode cX7_toss 14 = .ok (.invokevirtual 89, 3) := by decide +kernel
theorem dX7_toss_17 : decode cX7_toss 17 = .ok (.invokevirtual 69, 3) := by decide +kernel
theorem dX7_toss_20 : decode cX7_toss 20 = .ok (.ireturn, 1) := by decide +kernel
theorem dX7_join_0 : decode cX7_join 0 = .ok (.aload_n 0, 1) := by decide +kernel
theorem dX7_join_1 : decode cX7_join 1 = .ok (.getfield 16, 3) := by decide +kernel
theorem dX7_join_4 : decode cX7_join 4 = .ok (.aload_n 0, 1) := by decide +kernel
theorem dX7_join_5 : decode cX7_join 5 = .ok (.getfield 10, 3) := by decide +kernel
theorem dX7_join_8 : decode cX7_join 8 = .ok (.invokevirtual 61, 3) := by decide +kernel
theorem dX7_join_11 : decode cX7_join 11 = .ok (.aload_n 0, 1) := by decide +kernel
theorem dX7_join_12 : decode cX7_join 12 = .ok (.aload_n 0, 1) := by decide +kernel
theorem dX7_join_13 : decode cX7_join 13 = .ok (.iload_n 1, 1) := by decide +kernel
theorem dX7_join_14 : decode cX7_join 14 = .ok (.invokevirtual 92, 3) := by decide +kernel
theorem dX7_join_17 : decode cX7_join 17 = .ok (.invokevirtual 69, 3) := by decide +kernel
theorem dX7_join_20 : decode cX7_join 20 = .ok (.ireturn, 1) := by decide +kernel
theorem dX7_once_0 : decode cX7_once 0 = .ok (.aload_n 0, 1) := by decide +kernel
theorem dX7_once_1 : decode cX7_once 1 = .ok (.getfield 16, 3) := by decide +kernel
theorem dX7_once_4 : decode cX7_once 4 = .ok (.aload_n 0, 1) := by decide +kernel
theorem dX7_once_5 : decode cX7_once 5 = .ok (.getfield 10, 3) := by decide +kernel
theorem dX7_once_8 : decode cX7_once 8 = .ok (.invokevirtual 61, 3) := by decide +kernel
theorem dX7_once_11 : decode cX7_once 11 = .ok (.aload_n 0, 1) := by decide +kernel
theorem dX7_once_12 : decode cX7_once 12 = .ok (.aload_n 0, 1) := by decide +kernel
theorem dX7_once_13 : decode cX7_once 13 = .ok (.iload_n 1, 1) := by decide +kernel
theorem dX7_once_14 : decode cX7_once 14 = .ok (.invokevirtual 95, 3) := by decide +kernel
theorem dX7_once_17 : decode cX7_once 17 = .ok (.invokevirtual 69, 3) := by decide +kernel
theorem dX7_once_20 : decode cX7_once 20 = .ok (.ireturn, 1) := by decide +kernel
theorem dX7_rowOf_0 : decode cX7_rowOf 0 = .ok (.aload_n 0, 1) := by decide +kernel
theorem dX7_rowOf_1 : decode cX7_rowOf 1 = .ok (.getfield 10, 3) := by decide +kernel
theorem dX7_rowOf_4 : decode cX7_rowOf 4 = .ok (.iload_n 1, 1) := by decide +kernel
theorem dX7_rowOf_5 : decode cX7_rowOf 5 = .ok (.invokevirtual 98, 3) := by decide +kernel
theorem dX7_rowOf_8 : decode cX7_rowOf 8 = .ok (.astore_n 3, 1) := by decide +kernel
theorem dX7_rowOf_9 : decode cX7_rowOf 9 = .ok (.aload_n 3, 1) := by decide +kernel
theorem dX7_rowOf_10 : decode cX7_rowOf 10 = .ok (.ifnonnull 5, 3) := by decide +kernel
theorem dX7_rowOf_13 : decode cX7_rowOf 13 = .ok (.iconst (-1), 1) := by decide +kernel
theorem dX7_rowOf_14 : decode cX7_rowOf 14 = .ok (.ireturn, 1) := by decide +kernel
theorem dX7_rowOf_15 : decode cX7_rowOf 15 = .ok (.iload_n 2, 1) := by decide +kernel
theorem dX7_rowOf_16 : decode cX7_rowOf 16 = .ok (.tableswitch 88 0 7 #[48, 53, 58, 63, 68, 73, 78, 83], 48) := by decide +kernel
theorem dX7_rowOf_64 : decode cX7_rowOf 64 = .ok (.aload_n 3, 1) := by decide +kernel
theorem dX7_rowOf_65 : decode cX7_rowOf 65 = .ok (.getfield 102, 3) := by decide +kernel
theorem dX7_rowOf_68 : decode cX7_rowOf 68 = .ok (.ireturn, 1) := by decide +kernel
theorem dX7_rowOf_69 : decode cX7_rowOf 69 = .ok (.aload_n 3, 1) := by decide +kernel
theorem dX7_rowOf_70 : decode cX7_rowOf 70 = .ok (.invokevirtual 108, 3) := by decide +kernel
theorem dX7_rowOf_73 : decode cX7_rowOf 73 = .ok (.ireturn, 1) := by decide +kernel
theorem dX7_rowOf_74 : decode cX7_rowOf 74 = .ok (.aload_n 3, 1) := by decide +kernel
theorem dX7_rowOf_75 : decode cX7_rowOf 75 = .ok (.invokevirtual 112, 3) := by decide +kernel
theorem dX7_rowOf_78 : decode cX7_rowOf 78 = .ok (.ireturn, 1) := by decide +kernel
theorem dX7_rowOf_79 : decode cX7_rowOf 79 = .ok (.aload_n 3, 1) := by decide +kernel
theorem dX7_rowOf_80 : decode cX7_rowOf 80 = .ok (.invokevirtual 115, 3) := by decide +kernel
theorem dX7_rowOf_83 : decode cX7_rowOf 83 = .ok (.ireturn, 1) := by decide +kernel
theorem dX7_rowOf_84 : decode cX7_rowOf 84 = .ok (.aload_n 3, 1) := by decide +kernel
theorem dX7_rowOf_85 : decode cX7_rowOf 85 = .ok (.invokevirtual 118, 3) := by decide +kernel
theorem dX7_rowOf_88 : decode cX7_rowOf 88 = .ok (.ireturn, 1) := by decide +kernel
theorem dX7_rowOf_89 : decode cX7_rowOf 89 = .ok (.aload_n 3, 1) := by decide +kernel
theorem dX7_rowOf_90 : decode cX7_rowOf 90 = .ok (.invokevirtual 121, 3) := by decide +kernel
theorem dX7_rowOf_93 : decode cX7_rowOf 93 = .ok (.ireturn, 1) := by decide +kernel
theorem dX7_rowOf_94 : decode cX7_rowOf 94 = .ok (.aload_n 3, 1) := by decide +kernel
theorem dX7_rowOf_95 : decode cX7_rowOf 95 = .ok (.invokevirtual 124, 3) := by decide +kernel
theorem dX7_rowOf_98 : decode cX7_rowOf 98 = .ok (.ireturn, 1) := by decide +kernel
theorem dX7_rowOf_99 : decode cX7_rowOf 99 = .ok (.aload_n 3, 1) := by decide +kernel
theorem dX7_rowOf_100 : decode cX7_rowOf 100 = .ok (.invokevirtual 127, 3) := by decide +kernel
theorem dX7_rowOf_103 : decode cX7_rowOf 103 = .ok (.ireturn, 1) := by decide +kernel
theorem dX7_rowOf_104 : decode cX7_rowOf 104 = .ok (.bipush (-2), 2) := by decide +kernel
theorem dX7_rowOf_106 : decode cX7_rowOf 106 = .ok (.ireturn, 1) := by decide +kernel
theorem dX7_throwAt_0 : decode cX7_throwAt 0 = .ok (.aload_n 0, 1) := by decide +kernel
theorem dX7_throwAt_1 : decode cX7_throwAt 1 = .ok (.getfield 10, 3) := by decide +kernel
theorem dX7_throwAt_4 : decode cX7_throwAt 4 = .ok (.iload_n 1, 1) := by decide +kernel
theorem dX7_throwAt_5 : decode cX7_throwAt 5 = .ok (.invokevirtual 98, 3) := by decide +kernel
theorem dX7_throwAt_8 : decode cX7_throwAt 8 = .ok (.astore_n 3, 1) := by decide +kernel
theorem dX7_throwAt_9 : decode cX7_throwAt 9 = .ok (.aload_n 3, 1) := by decide +kernel
theorem dX7_throwAt_10 : decode cX7_throwAt 10 = .ok (.ifnull 11, 3) := by decide +kernel
theorem dX7_throwAt_13 : decode cX7_throwAt 13 = .ok (.aload_n 3, 1) := by decide +kernel
theorem dX7_throwAt_14 : decode cX7_throwAt 14 = .ok (.iload_n 2, 1) := by decide +kernel
theorem dX7_throwAt_15 : decode cX7_throwAt 15 = .ok (.invokevirtual 130, 3) := by decide +kernel
theorem dX7_throwAt_18 : decode cX7_throwAt 18 = .ok (.ifCond .ne 5, 3) := by decide +kernel
theorem dX7_throwAt_21 : decode cX7_throwAt 21 = .ok (.iconst (-1), 1) := by decide +kernel
theorem dX7_throwAt_22 : decode cX7_throwAt 22 = .ok (.ireturn, 1) := by decide +kernel
theorem dX7_throwAt_23 : decode cX7_throwAt 23 = .ok (.aload_n 3, 1) := by decide +kernel
theorem dX7_throwAt_24 : decode cX7_throwAt 24 = .ok (.iload_n 2, 1) := by decide +kernel
theorem dX7_throwAt_25 : decode cX7_throwAt 25 = .ok (.invokevirtual 134, 3) := by decide +kernel
theorem dX7_throwAt_28 : decode cX7_throwAt 28 = .ok (.ireturn, 1) := by decide +kernel
theorem dX7_isClean_0 : decode cX7_isClean 0 = .ok (.aload_n 0, 1) := by decide +kernel
theorem dX7_isClean_1 : decode cX7_isClean 1 = .ok (.getfield 10, 3) := by decide +kernel
theorem dX7_isClean_4 : decode cX7_isClean 4 = .ok (.iload_n 1, 1) := by decide +kernel
theorem dX7_isClean_5 : decode cX7_isClean 5 = .ok (.invokevirtual 98, 3) := by decide +kernel
theorem dX7_isClean_8 : decode cX7_isClean 8 = .ok (.astore_n 2, 1) := by decide +kernel
theorem dX7_isClean_9 : decode cX7_isClean 9 = .ok (.aload_n 2, 1) := by decide +kernel
theorem dX7_isClean_10 : decode cX7_isClean 10 = .ok (.ifnonnull 5, 3) := by decide +kernel
theorem dX7_isClean_13 : decode cX7_isClean 13 = .ok (.iconst (-1), 1) := by decide +kernel
theorem dX7_isClean_14 : decode cX7_isClean 14 = .ok (.ireturn, 1) := by decide +kernel
theorem dX7_isClean_15 : decode cX7_isClean 15 = .ok (.aload_n 2, 1) := by decide +kernel
theorem dX7_isClean_16 : decode cX7_isClean 16 = .ok (.invokevirtual 137, 3) := by decide +kernel
theorem dX7_isClean_19 : decode cX7_isClean 19 = .ok (.ifCond .eq 7, 3) := by decide +kernel
theorem dX7_isClean_22 : decode cX7_isClean 22 = .ok (.iconst 1, 1) := by decide +kernel
theorem dX7_isClean_23 : decode cX7_isClean 23 = .ok (.goto 4, 3) := by decide +kernel
theorem dX7_isClean_26 : decode cX7_isClean 26 = .ok (.iconst 0, 1) := by decide +kernel
theorem dX7_isClean_27 : decode cX7_isClean 27 = .ok (.ireturn, 1) := by decide +kernel
theorem dX7_isCleanAgain_0 : decode cX7_isCleanAgain 0 = .ok (.aload_n 0, 1) := by decide +kernel
theorem dX7_isCleanAgain_1 : decode cX7_isCleanAgain 1 = .ok (.getfield 10, 3) := by decide +kernel
theorem dX7_isCleanAgain_4 : decode cX7_isCleanAgain 4 = .ok (.iload_n 1, 1) := by decide +kernel
theorem dX7_isCleanAgain_5 : decode cX7_isCleanAgain 5 = .ok (.invokevirtual 98, 3) := by decide +kernel
theorem dX7_isCleanAgain_8 : decode cX7_isCleanAgain 8 = .ok (.astore_n 2, 1) := by decide +kernel
theorem dX7_isCleanAgain_9 : decode cX7_isCleanAgain 9 = .ok (.aload_n 2, 1) := by decide +kernel
theorem dX7_isCleanAgain_10 : decode cX7_isCleanAgain 10 = .ok (.ifnonnull 5, 3) := by decide +kernel
theorem dX7_isCleanAgain_13 : decode cX7_isCleanAgain 13 = .ok (.iconst (-1), 1) := by decide +kernel
theorem dX7_isCleanAgain_14 : decode cX7_isCleanAgain 14 = .ok (.ireturn, 1) := by decide +kernel
theorem dX7_isCleanAgain_15 : decode cX7_isCleanAgain 15 = .ok (.aload_n 2, 1) := by decide +kernel
theorem dX7_isCleanAgain_16 : decode cX7_isCleanAgain 16 = .ok (.invokevirtual 115, 3) := by decide +kernel
theorem dX7_isCleanAgain_19 : decode cX7_isCleanAgain 19 = .ok (.bipush (-4), 2) := by decide +kernel
theorem dX7_isCleanAgain_21 : decode cX7_isCleanAgain 21 = .ok (.if_icmp .ne 7, 3) := by decide +kernel
theorem dX7_isCleanAgain_24 : decode cX7_isCleanAgain 24 = .ok (.iconst 1, 1) := by decide +kernel
theorem dX7_isCleanAgain_25 : decode cX7_isCleanAgain 25 = .ok (.goto 4, 3) := by decide +kernel
theorem dX7_isCleanAgain_28 : decode cX7_isCleanAgain 28 = .ok (.iconst 0, 1) := by decide +kernel
theorem dX7_isCleanAgain_29 : decode cX7_isCleanAgain 29 = .ok (.ireturn, 1) := by decide +kernel
theorem dX7_stateOf_0 : decode cX7_stateOf 0 = .ok (.aload_n 0, 1) := by decide +kernel
theorem dX7_stateOf_1 : decode cX7_stateOf 1 = .ok (.getfield 10, 3) := by decide +kernel
theorem dX7_stateOf_4 : decode cX7_stateOf 4 = .ok (.iload_n 1, 1) := by decide +kernel
theorem dX7_stateOf_5 : decode cX7_stateOf 5 = .ok (.invokevirtual 98, 3) := by decide +kernel
theorem dX7_stateOf_8 : decode cX7_stateOf 8 = .ok (.astore_n 3, 1) := by decide +kernel
theorem dX7_stateOf_9 : decode cX7_stateOf 9 = .ok (.aload_n 3, 1) := by decide +kernel
theorem dX7_stateOf_10 : decode cX7_stateOf 10 = .ok (.ifnull 11, 3) := by decide +kernel
theorem dX7_stateOf_13 : decode cX7_stateOf 13 = .ok (.aload_n 3, 1) := by decide +kernel
theorem dX7_stateOf_14 : decode cX7_stateOf 14 = .ok (.iload_n 2, 1) := by decide +kernel
theorem dX7_stateOf_15 : decode cX7_stateOf 15 = .ok (.invokevirtual 130, 3) := by decide +kernel
theorem dX7_stateOf_18 : decode cX7_stateOf 18 = .ok (.ifCond .ne 5, 3) := by decide +kernel
theorem dX7_stateOf_21 : decode cX7_stateOf 21 = .ok (.iconst (-1), 1) := by decide +kernel
theorem dX7_stateOf_22 : decode cX7_stateOf 22 = .ok (.ireturn, 1) := by decide +kernel
theorem dX7_stateOf_23 : decode cX7_stateOf 23 = .ok (.aload_n 3, 1) := by decide +kernel
theorem dX7_stateOf_24 : decode cX7_stateOf 24 = .ok (.invokevirtual 137, 3) := by decide +kernel
theorem dX7_stateOf_27 : decode cX7_stateOf 27 = .ok (.ifCond .eq 11, 3) := by decide +kernel
theorem dX7_stateOf_30 : decode cX7_stateOf 30 = .ok (.aload_n 3, 1) := by decide +kernel
theorem dX7_stateOf_31 : decode cX7_stateOf 31 = .ok (.iload_n 2, 1) := by decide +kernel
theorem dX7_stateOf_32 : decode cX7_stateOf 32 = .ok (.invokevirtual 141, 3) := by decide +kernel
theorem dX7_stateOf_35 : decode cX7_stateOf 35 = .ok (.goto 5, 3) := by decide +kernel
theorem dX7_stateOf_38 : decode cX7_stateOf 38 = .ok (.bipush (-4), 2) := by decide +kernel
theorem dX7_stateOf_40 : decode cX7_stateOf 40 = .ok (.ireturn, 1) := by decide +kernel
theorem dX7_juggler_0 : decode cX7_juggler 0 = .ok (.iload_n 1, 1) := by decide +kernel
theorem dX7_juggler_1 : decode cX7_juggler 1 = .ok (.tableswitch 94 0 5 #[39, 47, 55, 63, 73, 83], 39) := by decide +kernel
theorem dX7_juggler_40 : decode cX7_juggler 40 = .ok (.aload_n 0, 1) := by decide +kernel
theorem dX7_juggler_41 : decode cX7_juggler 41 = .ok (.getfield 10, 3) := by decide +kernel
theorem dX7_juggler_44 : decode cX7_juggler 44 = .ok (.getfield 144, 3) := by decide +kernel
theorem dX7_juggler_47 : decode cX7_juggler 47 = .ok (.ireturn, 1) := by decide +kernel
theorem dX7_juggler_48 : decode cX7_juggler 48 = .ok (.aload_n 0, 1) := by decide +kernel
theorem dX7_juggler_49 : decode cX7_juggler 49 = .ok (.getfield 10, 3) := by decide +kernel
theorem dX7_juggler_52 : decode cX7_juggler 52 = .ok (.invokevirtual 147, 3) := by decide +kernel
theorem dX7_juggler_55 : decode cX7_juggler 55 = .ok (.ireturn, 1) := by decide +kernel
theorem dX7_juggler_56 : decode cX7_juggler 56 = .ok (.aload_n 0, 1) := by decide +kernel
theorem dX7_juggler_57 : decode cX7_juggler 57 = .ok (.getfield 10, 3) := by decide +kernel
theorem dX7_juggler_60 : decode cX7_juggler 60 = .ok (.getfield 148, 3) := by decide +kernel
theorem dX7_juggler_63 : decode cX7_juggler 63 = .ok (.ireturn, 1) := by decide +kernel
theorem dX7_juggler_64 : decode cX7_juggler 64 = .ok (.aload_n 0, 1) := by decide +kernel
theorem dX7_juggler_65 : decode cX7_juggler 65 = .ok (.getfield 10, 3) := by decide +kernel
theorem dX7_juggler_68 : decode cX7_juggler 68 = .ok (.getfield 148, 3) := by decide +kernel
theorem dX7_juggler_71 : decode cX7_juggler 71 = .ok (.iconst 1, 1) := by decide +kernel
theorem dX7_juggler_72 : decode cX7_juggler 72 = .ok (.iand, 1) := by decide +kernel
theorem dX7_juggler_73 : decode cX7_juggler 73 = .ok (.ireturn, 1) := by decide +kernel
theorem dX7_juggler_74 : decode cX7_juggler 74 = .ok (.aload_n 0, 1) := by decide +kernel
theorem dX7_juggler_75 : decode cX7_juggler 75 = .ok (.getfield 10, 3) := by decide +kernel
theorem dX7_juggler_78 : decode cX7_juggler 78 = .ok (.getfield 144, 3) := by decide +kernel
theorem dX7_juggler_81 : decode cX7_juggler 81 = .ok (.iconst 1, 1) := by decide +kernel
theorem dX7_juggler_82 : decode cX7_juggler 82 = .ok (.iand, 1) := by decide +kernel
theorem dX7_juggler_83 : decode cX7_juggler 83 = .ok (.ireturn, 1) := by decide +kernel
theorem dX7_juggler_84 : decode cX7_juggler 84 = .ok (.aload_n 0, 1) := by decide +kernel
theorem dX7_juggler_85 : decode cX7_juggler 85 = .ok (.getfield 10, 3) := by decide +kernel
theorem dX7_juggler_88 : decode cX7_juggler 88 = .ok (.getfield 144, 3) := by decide +kernel
theorem dX7_juggler_91 : decode cX7_juggler 91 = .ok (.invokestatic 151, 3) := by decide +kernel
theorem dX7_juggler_94 : decode cX7_juggler 94 = .ok (.ireturn, 1) := by decide +kernel
theorem dX7_juggler_95 : decode cX7_juggler 95 = .ok (.bipush (-2), 2) := by decide +kernel
theorem dX7_juggler_97 : decode cX7_juggler 97 = .ok (.ireturn, 1) := by decide +kernel
theorem dX7_could_0 : decode cX7_could 0 = .ok (.iconst 0, 1) := by decide +kernel
theorem dX7_could_1 : decode cX7_could 1 = .ok (.istore_n 2, 1) := by decide +kernel
theorem dX7_could_2 : decode cX7_could 2 = .ok (.iconst 0, 1) := by decide +kernel
theorem dX7_could_3 : decode cX7_could 3 = .ok (.istore_n 3, 1) := by decide +kernel
theorem dX7_could_4 : decode cX7_could 4 = .ok (.iload_n 3, 1) := by decide +kernel
theorem dX7_could_5 : decode cX7_could 5 = .ok (.bipush 9, 2) := by decide +kernel
theorem dX7_could_7 : decode cX7_could 7 = .ok (.if_icmp .gt 33, 3) := by decide +kernel
theorem dX7_could_10 : decode cX7_could 10 = .ok (.aload_n 0, 1) := by decide +kernel
theorem dX7_could_11 : decode cX7_could 11 = .ok (.getfield 10, 3) := by decide +kernel
theorem dX7_could_14 : decode cX7_could 14 = .ok (.getfield 144, 3) := by decide +kernel
theorem dX7_could_17 : decode cX7_could 17 = .ok (.iload_n 3, 1) := by decide +kernel
theorem dX7_could_18 : decode cX7_could 18 = .ok (.invokestatic 154, 3) := by decide +kernel
theorem dX7_could_21 : decode cX7_could 21 = .ok (.ifCond .eq 13, 3) := by decide +kernel
theorem dX7_could_24 : decode cX7_could 24 = .ok (.iload_n 2, 1) := by decide +kernel
theorem dX7_could_25 : decode cX7_could 25 = .ok (.iload_n 1, 1) := by decide +kernel
theorem dX7_could_26 : decode cX7_could 26 = .ok (.if_icmp .ne 5, 3) := by decide +kernel
theorem dX7_could_29 : decode cX7_could 29 = .ok (.iload_n 3, 1) := by decide +kernel
theorem dX7_could_30 : decode cX7_could 30 = .ok (.ireturn, 1) := by decide +kernel
theorem dX7_could_31 : decode cX7_could 31 = .ok (.iinc 2 1, 3) := by decide +kernel
theorem dX7_could_34 : decode cX7_could 34 = .ok (.iinc 3 1, 3) := by decide +kernel
theorem dX7_could_37 : decode cX7_could 37 = .ok (.goto (-33), 3) := by decide +kernel
theorem dX7_could_40 : decode cX7_could 40 = .ok (.iconst (-1), 1) := by decide +kernel
theorem dX7_could_41 : decode cX7_could 41 = .ok (.ireturn, 1) := by decide +kernel
theorem dX7_joinTo_0 : decode cX7_joinTo 0 = .ok (.aload_n 0, 1) := by decide +kernel
theorem dX7_joinTo_1 : decode cX7_joinTo 1 = .ok (.getfield 10, 3) := by decide +kernel
theorem dX7_joinTo_4 : decode cX7_joinTo 4 = .ok (.iload_n 1, 1) := by decide +kernel
theorem dX7_joinTo_5 : decode cX7_joinTo 5 = .ok (.invokevirtual 98, 3) := by decide +kernel
theorem dX7_joinTo_8 : decode cX7_joinTo 8 = .ok (.astore_n 2, 1) := by decide +kernel
theorem dX7_joinTo_9 : decode cX7_joinTo 9 = .ok (.aload_n 2, 1) := by decide +kernel
theorem dX7_joinTo_10 : decode cX7_joinTo 10 = .ok (.ifnonnull 5, 3) := by decide +kernel
theorem dX7_joinTo_13 : decode cX7_joinTo 13 = .ok (.iconst (-1), 1) := by decide +kernel
theorem dX7_joinTo_14 : decode cX7_joinTo 14 = .ok (.ireturn, 1) := by decide +kernel
theorem dX7_joinTo_15 : decode cX7_joinTo 15 = .ok (.aload_n 0, 1) := by decide +kernel
theorem dX7_joinTo_16 : decode cX7_joinTo 16 = .ok (.aload_n 2, 1) := by decide +kernel
theorem dX7_joinTo_17 : decode cX7_joinTo 17 = .ok (.invokevirtual 158, 3) := by decide +kernel
theorem dX7_joinTo_20 : decode cX7_joinTo 20 = .ok (.ifCond .eq 25, 3) := by decide +kernel
theorem dX7_joinTo_23 : decode cX7_joinTo 23 = .ok (.aload_n 0, 1) := by decide +kernel
theorem dX7_joinTo_24 : decode cX7_joinTo 24 = .ok (.getfield 32, 3) := by decide +kernel
theorem dX7_joinTo_27 : decode cX7_joinTo 27 = .ok (.aload_n 0, 1) := by decide +kernel
theorem dX7_joinTo_28 : decode cX7_joinTo 28 = .ok (.getfield 10, 3) := by decide +kernel
theorem dX7_joinTo_31 : decode cX7_joinTo 31 = .ok (.getfield 144, 3) := by decide +kernel
theorem dX7_joinTo_34 : decode cX7_joinTo 34 = .ok (.aload_n 2, 1) := by decide +kernel
theorem dX7_joinTo_35 : decode cX7_joinTo 35 = .ok (.iconst 0, 1) := by decide +kernel
theorem dX7_joinTo_36 : decode cX7_joinTo 36 = .ok (.invokevirtual 141, 3) := by decide +kernel
theorem dX7_joinTo_39 : decode cX7_joinTo 39 = .ok (.invokevirtual 162, 3) := by decide +kernel
theorem dX7_joinTo_42 : decode cX7_joinTo 42 = .ok (.goto 5, 3) := by decide +kernel
theorem dX7_joinTo_45 : decode cX7_joinTo 45 = .ok (.bipush (-4), 2) := by decide +kernel
theorem dX7_joinTo_47 : decode cX7_joinTo 47 = .ok (.ireturn, 1) := by decide +kernel
theorem dX7_joinAgain_0 : decode cX7_joinAgain 0 = .ok (.aload_n 0, 1) := by decide +kernel
theorem dX7_joinAgain_1 : decode cX7_joinAgain 1 = .ok (.getfield 10, 3) := by decide +kernel
theorem dX7_joinAgain_4 : decode cX7_joinAgain 4 = .ok (.iload_n 1, 1) := by decide +kernel
theorem dX7_joinAgain_5 : decode cX7_joinAgain 5 = .ok (.invokevirtual 98, 3) := by decide +kernel
theorem dX7_joinAgain_8 : decode cX7_joinAgain 8 = .ok (.astore_n 2, 1) := by decide +kernel
theorem dX7_joinAgain_9 : decode cX7_joinAgain 9 = .ok (.aload_n 2, 1) := by decide +kernel
theorem dX7_joinAgain_10 : decode cX7_joinAgain 10 = .ok (.ifnonnull 5, 3) := by decide +kernel
theorem dX7_joinAgain_13 : decode cX7_joinAgain 13 = .ok (.iconst (-1), 1) := by decide +kernel
theorem dX7_joinAgain_14 : decode cX7_joinAgain 14 = .ok (.ireturn, 1) := by decide +kernel
theorem dX7_joinAgain_15 : decode cX7_joinAgain 15 = .ok (.aload_n 0, 1) := by decide +kernel
theorem dX7_joinAgain_16 : decode cX7_joinAgain 16 = .ok (.aload_n 2, 1) := by decide +kernel
theorem dX7_joinAgain_17 : decode cX7_joinAgain 17 = .ok (.invokevirtual 158, 3) := by decide +kernel
theorem dX7_joinAgain_20 : decode cX7_joinAgain 20 = .ok (.ifCond .eq 25, 3) := by decide +kernel
theorem dX7_joinAgain_23 : decode cX7_joinAgain 23 = .ok (.aload_n 0, 1) := by decide +kernel
theorem dX7_joinAgain_24 : decode cX7_joinAgain 24 = .ok (.getfield 32, 3) := by decide +kernel
theorem dX7_joinAgain_27 : decode cX7_joinAgain 27 = .ok (.aload_n 0, 1) := by decide +kernel
theorem dX7_joinAgain_28 : decode cX7_joinAgain 28 = .ok (.getfield 10, 3) := by decide +kernel
theorem dX7_joinAgain_31 : decode cX7_joinAgain 31 = .ok (.getfield 144, 3) := by decide +kernel
theorem dX7_joinAgain_34 : decode cX7_joinAgain 34 = .ok (.aload_n 2, 1) := by decide +kernel
theorem dX7_joinAgain_35 : decode cX7_joinAgain 35 = .ok (.iconst 0, 1) := by decide +kernel
theorem dX7_joinAgain_36 : decode cX7_joinAgain 36 = .ok (.invokevirtual 141, 3) := by decide +kernel
theorem dX7_joinAgain_39 : decode cX7_joinAgain 39 = .ok (.invokevirtual 165, 3) := by decide +kernel
theorem dX7_joinAgain_42 : decode cX7_joinAgain 42 = .ok (.goto 5, 3) := by decide +kernel
theorem dX7_joinAgain_45 : decode cX7_joinAgain 45 = .ok (.bipush (-4), 2) := by decide +kernel
theorem dX7_joinAgain_47 : decode cX7_joinAgain 47 = .ok (.ireturn, 1) := by decide +kernel
theorem dX7_joinThrow_0 : decode cX7_joinThrow 0 = .ok (.aload_n 0, 1) := by decide +kernel
theorem dX7_joinThrow_1 : decode cX7_joinThrow 1 = .ok (.getfield 10, 3) := by decide +kernel
theorem dX7_joinThrow_4 : decode cX7_joinThrow 4 = .ok (.iload_n 1, 1) := by decide +kernel
theorem dX7_joinThrow_5 : decode cX7_joinThrow 5 = .ok (.invokevirtual 98, 3) := by decide +kernel
theorem dX7_joinThrow_8 : decode cX7_joinThrow 8 = .ok (.astore_n 3, 1) := by decide +kernel
theorem dX7_joinThrow_9 : decode cX7_joinThrow 9 = .ok (.aload_n 3, 1) := by decide +kernel
theorem dX7_joinThrow_10 : decode cX7_joinThrow 10 = .ok (.ifnonnull 5, 3) := by decide +kernel
theorem dX7_joinThrow_13 : decode cX7_joinThrow 13 = .ok (.iconst (-1), 1) := by decide +kernel
theorem dX7_joinThrow_14 : decode cX7_joinThrow 14 = .ok (.ireturn, 1) := by decide +kernel
theorem dX7_joinThrow_15 : decode cX7_joinThrow 15 = .ok (.aload_n 0, 1) := by decide +kernel
theorem dX7_joinThrow_16 : decode cX7_joinThrow 16 = .ok (.aload_n 3, 1) := by decide +kernel
theorem dX7_joinThrow_17 : decode cX7_joinThrow 17 = .ok (.invokevirtual 158, 3) := by decide +kernel
theorem dX7_joinThrow_20 : decode cX7_joinThrow 20 = .ok (.ifCond .ne 6, 3) := by decide +kernel
theorem dX7_joinThrow_23 : decode cX7_joinThrow 23 = .ok (.bipush (-4), 2) := by decide +kernel
theorem dX7_joinThrow_25 : decode cX7_joinThrow 25 = .ok (.ireturn, 1) := by decide +kernel
theorem dX7_joinThrow_26 : decode cX7_joinThrow 26 = .ok (.aload_n 0, 1) := by decide +kernel
theorem dX7_joinThrow_27 : decode cX7_joinThrow 27 = .ok (.getfield 32, 3) := by decide +kernel
theorem dX7_joinThrow_30 : decode cX7_joinThrow 30 = .ok (.aload_n 0, 1) := by decide +kernel
theorem dX7_joinThrow_31 : decode cX7_joinThrow 31 = .ok (.getfield 10, 3) := by decide +kernel
theorem dX7_joinThrow_34 : decode cX7_joinThrow 34 = .ok (.getfield 144, 3) := by decide +kernel
theorem dX7_joinThrow_37 : decode cX7_joinThrow 37 = .ok (.aload_n 3, 1) := by decide +kernel
theorem dX7_joinThrow_38 : decode cX7_joinThrow 38 = .ok (.iconst 0, 1) := by decide +kernel
theorem dX7_joinThrow_39 : decode cX7_joinThrow 39 = .ok (.invokevirtual 141, 3) := by decide +kernel
theorem dX7_joinThrow_42 : decode cX7_joinThrow 42 = .ok (.invokevirtual 168, 3) := by decide +kernel
theorem dX7_joinThrow_45 : decode cX7_joinThrow 45 = .ok (.istore 4, 2) := by decide +kernel
theorem dX7_joinThrow_47 : decode cX7_joinThrow 47 = .ok (.iload_n 2, 1) := by decide +kernel
theorem dX7_joinThrow_48 : decode cX7_joinThrow 48 = .ok (.ifCond .lt 20, 3) := by decide +kernel
theorem dX7_joinThrow_51 : decode cX7_joinThrow 51 = .ok (.iload_n 2, 1) := by decide +kernel
theorem dX7_joinThrow_52 : decode cX7_joinThrow 52 = .ok (.iload 4, 2) := by decide +kernel
theorem dX7_joinThrow_54 : decode cX7_joinThrow 54 = .ok (.if_icmp .ge 14, 3) := by decide +kernel
theorem dX7_joinThrow_57 : decode cX7_joinThrow 57 = .ok (.aload_n 0, 1) := by decide +kernel
theorem dX7_joinThrow_58 : decode cX7_joinThrow 58 = .ok (.getfield 32, 3) := by decide +kernel
theorem dX7_joinThrow_61 : decode cX7_joinThrow 61 = .ok (.iload_n 2, 1) := by decide +kernel
theorem dX7_joinThrow_62 : decode cX7_joinThrow 62 = .ok (.invokevirtual 171, 3) := by decide +kernel
theorem dX7_joinThrow_65 : decode cX7_joinThrow 65 = .ok (.goto 4, 3) := by decide +kernel
theorem dX7_joinThrow_68 : decode cX7_joinThrow 68 = .ok (.iconst (-1), 1) := by decide +kernel
theorem dX7_joinThrow_69 : decode cX7_joinThrow 69 = .ok (.ireturn, 1) := by decide +kernel
theorem dX7_between_0 : decode cX7_between 0 = .ok (.aload_n 0, 1) := by decide +kernel
theorem dX7_between_1 : decode cX7_between 1 = .ok (.getfield 10, 3) := by decide +kernel
theorem dX7_between_4 : decode cX7_between 4 = .ok (.iload_n 1, 1) := by decide +kernel
theorem dX7_between_5 : decode cX7_between 5 = .ok (.invokevirtual 98, 3) := by decide +kernel
theorem dX7_between_8 : decode cX7_between 8 = .ok (.astore_n 3, 1) := by decide +kernel
theorem dX7_between_9 : decode cX7_between 9 = .ok (.aload_n 0, 1) := by decide +kernel
theorem dX7_between_10 : decode cX7_between 10 = .ok (.getfield 10, 3) := by decide +kernel
theorem dX7_between_13 : decode cX7_between 13 = .ok (.iload_n 2, 1) := by decide +kernel
theorem dX7_between_14 : decode cX7_between 14 = .ok (.invokevirtual 98, 3) := by decide +kernel
theorem dX7_between_17 : decode cX7_between 17 = .ok (.astore 4, 2) := by decide +kernel
theorem dX7_between_19 : decode cX7_between 19 = .ok (.aload_n 3, 1) := by decide +kernel
theorem dX7_between_20 : decode cX7_between 20 = .ok (.ifnull 8, 3) := by decide +kernel
theorem dX7_between_23 : decode cX7_between 23 = .ok (.aload 4, 2) := by decide +kernel
theorem dX7_between_25 : decode cX7_between 25 = .ok (.ifnonnull 5, 3) := by decide +kernel
theorem dX7_between_28 : decode cX7_between 28 = .ok (.iconst (-1), 1) := by decide +kernel
theorem dX7_between_29 : decode cX7_between 29 = .ok (.ireturn, 1) := by decide +kernel
theorem dX7_between_30 : decode cX7_between 30 = .ok (.aload_n 3, 1) := by decide +kernel
theorem dX7_between_31 : decode cX7_between 31 = .ok (.invokevirtual 112, 3) := by decide +kernel
theorem dX7_between_34 : decode cX7_between 34 = .ok (.istore 5, 2) := by decide +kernel
theorem dX7_between_36 : decode cX7_between 36 = .ok (.iload 5, 2) := by decide +kernel
theorem dX7_between_38 : decode cX7_between 38 = .ok (.bipush (-4), 2) := by decide +kernel
theorem dX7_between_40 : decode cX7_between 40 = .ok (.if_icmp .eq 13, 3) := by decide +kernel
theorem dX7_between_43 : decode cX7_between 43 = .ok (.iload 5, 2) := by decide +kernel
theorem dX7_between_45 : decode cX7_between 45 = .ok (.aload 4, 2) := by decide +kernel
theorem dX7_between_47 : decode cX7_between 47 = .ok (.invokevirtual 112, 3) := by decide +kernel
theorem dX7_between_50 : decode cX7_between 50 = .ok (.if_icmp .eq 6, 3) := by decide +kernel
theorem dX7_between_53 : decode cX7_between 53 = .ok (.bipush (-4), 2) := by decide +kernel
theorem dX7_between_55 : decode cX7_between 55 = .ok (.ireturn, 1) := by decide +kernel
theorem dX7_between_56 : decode cX7_between 56 = .ok (.aload_n 0, 1) := by decide +kernel
theorem dX7_between_57 : decode cX7_between 57 = .ok (.getfield 32, 3) := by decide +kernel
theorem dX7_between_60 : decode cX7_between 60 = .ok (.aload_n 3, 1) := by decide +kernel
theorem dX7_between_61 : decode cX7_between 61 = .ok (.iconst 0, 1) := by decide +kernel
theorem dX7_between_62 : decode cX7_between 62 = .ok (.invokevirtual 141, 3) := by decide +kernel
theorem dX7_between_65 : decode cX7_between 65 = .ok (.aload 4, 2) := by decide +kernel
theorem dX7_between_67 : decode cX7_between 67 = .ok (.iconst 0, 1) := by decide +kernel
theorem dX7_between_68 : decode cX7_between 68 = .ok (.invokevirtual 141, 3) := by decide +kernel
theorem dX7_between_71 : decode cX7_between 71 = .ok (.invokevirtual 162, 3) := by decide +kernel
theorem dX7_between_74 : decode cX7_between 74 = .ok (.ireturn, 1) := by decide +kernel
theorem dX7_ranked_0 : decode cX7_ranked 0 = .ok (.iload_n 1, 1) := by decide +kernel
theorem dX7_ranked_1 : decode cX7_ranked 1 = .ok (.ifCond .lt 8, 3) := by decide +kernel
theorem dX7_ranked_4 : decode cX7_ranked 4 = .ok (.iload_n 1, 1) := by decide +kernel
theorem dX7_ranked_5 : decode cX7_ranked 5 = .ok (.iconst 2, 1) := by decide +kernel
theorem dX7_ranked_6 : decode cX7_ranked 6 = .ok (.if_icmp .le 6, 3) := by decide +kernel
theorem dX7_ranked_9 : decode cX7_ranked 9 = .ok (.bipush (-2), 2) := by decide +kernel
theorem dX7_ranked_11 : decode cX7_ranked 11 = .ok (.ireturn, 1) := by decide +kernel
theorem dX7_ranked_12 : decode cX7_ranked 12 = .ok (.iload_n 2, 1) := by decide +kernel
theorem dX7_ranked_13 : decode cX7_ranked 13 = .ok (.ifCond .lt 14, 3) := by decide +kernel
theorem dX7_ranked_16 : decode cX7_ranked 16 = .ok (.iload_n 2, 1) := by decide +kernel
theorem dX7_ranked_17 : decode cX7_ranked 17 = .ok (.aload_n 0, 1) := by decide +kernel
theorem dX7_ranked_18 : decode cX7_ranked 18 = .ok (.getfield 10, 3) := by decide +kernel
theorem dX7_ranked_21 : decode cX7_ranked 21 = .ok (.getfield 172, 3) := by decide +kernel
theorem dX7_ranked_24 : decode cX7_ranked 24 = .ok (.if_icmp .lt 5, 3) := by decide +kernel
theorem dX7_ranked_27 : decode cX7_ranked 27 = .ok (.iconst (-1), 1) := by decide +kernel
theorem dX7_ranked_28 : decode cX7_ranked 28 = .ok (.ireturn, 1) := by decide +kernel
theorem dX7_ranked_29 : decode cX7_ranked 29 = .ok (.iconst 0, 1) := by decide +kernel
theorem dX7_ranked_30 : decode cX7_ranked 30 = .ok (.istore_n 3, 1) := by decide +kernel
theorem dX7_ranked_31 : decode cX7_ranked 31 = .ok (.iload_n 3, 1) := by decide +kernel
theorem dX7_ranked_32 : decode cX7_ranked 32 = .ok (.aload_n 0, 1) := by decide +kernel
theorem dX7_ranked_33 : decode cX7_ranked 33 = .ok (.getfield 10, 3) := by decide +kernel
theorem dX7_ranked_36 : decode cX7_ranked 36 = .ok (.getfield 172, 3) := by decide +kernel
theorem dX7_ranked_39 : decode cX7_ranked 39 = .ok (.if_icmp .ge 30, 3) := by decide +kernel
theorem dX7_ranked_42 : decode cX7_ranked 42 = .ok (.iload_n 3, 1) := by decide +kernel
theorem dX7_ranked_43 : decode cX7_ranked 43 = .ok (.aload_n 0, 1) := by decide +kernel
theorem dX7_ranked_44 : decode cX7_ranked 44 = .ok (.getfield 57, 3) := by decide +kernel
theorem dX7_ranked_47 : decode cX7_ranked 47 = .ok (.arraylength, 1) := by decide +kernel
theorem dX7_ranked_48 : decode cX7_ranked 48 = .ok (.if_icmp .ge 21, 3) := by decide +kernel
theorem dX7_ranked_51 : decode cX7_ranked 51 = .ok (.aload_n 0, 1) := by decide +kernel
theorem dX7_ranked_52 : decode cX7_ranked 52 = .ok (.getfield 57, 3) := by decide +kernel
theorem dX7_ranked_55 : decode cX7_ranked 55 = .ok (.iload_n 3, 1) := by decide +kernel
theorem dX7_ranked_56 : decode cX7_ranked 56 = .ok (.aload_n 0, 1) := by decide +kernel
theorem dX7_ranked_57 : decode cX7_ranked 57 = .ok (.iload_n 1, 1) := by decide +kernel
theorem dX7_ranked_58 : decode cX7_ranked 58 = .ok (.iload_n 3, 1) := by decide +kernel
theorem dX7_ranked_59 : decode cX7_ranked 59 = .ok (.invokevirtual 175, 3) := by decide +kernel
theorem dX7_ranked_62 : decode cX7_ranked 62 = .ok (.iastore, 1) := by decide +kernel
theorem dX7_ranked_63 : decode cX7_ranked 63 = .ok (.iinc 3 1, 3) := by decide +kernel
theorem dX7_ranked_66 : decode cX7_ranked 66 = .ok (.goto (-35), 3) := by decide +kernel
theorem dX7_ranked_69 : decode cX7_ranked 69 = .ok (.iconst 0, 1) := by decide +kernel
theorem dX7_ranked_70 : decode cX7_ranked 70 = .ok (.istore_n 3, 1) := by decide +kernel
theorem dX7_ranked_71 : decode cX7_ranked 71 = .ok (.iload_n 3, 1) := by decide +kernel
theorem dX7_ranked_72 : decode cX7_ranked 72 = .ok (.aload_n 0, 1) := by decide +kernel
theorem dX7_ranked_73 : decode cX7_ranked 73 = .ok (.getfield 10, 3) := by decide +kernel
theorem dX7_ranked_76 : decode cX7_ranked 76 = .ok (.getfield 172, 3) := by decide +kernel
theorem dX7_ranked_79 : decode cX7_ranked 79 = .ok (.if_icmp .ge 20, 3) := by decide +kernel
theorem dX7_ranked_82 : decode cX7_ranked 82 = .ok (.aload_n 0, 1) := by decide +kernel
theorem dX7_ranked_83 : decode cX7_ranked 83 = .ok (.iload_n 3, 1) := by decide +kernel
theorem dX7_ranked_84 : decode cX7_ranked 84 = .ok (.invokevirtual 178, 3) := by decide +kernel
theorem dX7_ranked_87 : decode cX7_ranked 87 = .ok (.iload_n 2, 1) := by decide +kernel
theorem dX7_ranked_88 : decode cX7_ranked 88 = .ok (.if_icmp .ne 5, 3) := by decide +kernel
theorem dX7_ranked_91 : decode cX7_ranked 91 = .ok (.iload_n 3, 1) := by decide +kernel
theorem dX7_ranked_92 : decode cX7_ranked 92 = .ok (.ireturn, 1) := by decide +kernel
theorem dX7_ranked_93 : decode cX7_ranked 93 = .ok (.iinc 3 1, 3) := by decide +kernel
theorem dX7_ranked_96 : decode cX7_ranked 96 = .ok (.goto (-25), 3) := by decide +kernel
theorem dX7_ranked_99 : decode cX7_ranked 99 = .ok (.iconst (-1), 1) := by decide +kernel
theorem dX7_ranked_100 : decode cX7_ranked 100 = .ok (.ireturn, 1) := by decide +kernel
theorem dX7_tellRow_0 : decode cX7_tellRow 0 = .ok (.aload_n 0, 1) := by decide +kernel
theorem dX7_tellRow_1 : decode cX7_tellRow 1 = .ok (.getfield 10, 3) := by decide +kernel
theorem dX7_tellRow_4 : decode cX7_tellRow 4 = .ok (.iload_n 1, 1) := by decide +kernel
theorem dX7_tellRow_5 : decode cX7_tellRow 5 = .ok (.invokevirtual 98, 3) := by decide +kernel
theorem dX7_tellRow_8 : decode cX7_tellRow 8 = .ok (.astore_n 2, 1) := by decide +kernel
theorem dX7_tellRow_9 : decode cX7_tellRow 9 = .ok (.aload_n 2, 1) := by decide +kernel
theorem dX7_tellRow_10 : decode cX7_tellRow 10 = .ok (.ifnonnull 5, 3) := by decide +kernel
theorem dX7_tellRow_13 : decode cX7_tellRow 13 = .ok (.iconst (-1), 1) := by decide +kernel
theorem dX7_tellRow_14 : decode cX7_tellRow 14 = .ok (.ireturn, 1) := by decide +kernel
theorem dX7_tellRow_15 : decode cX7_tellRow 15 = .ok (.aload_n 0, 1) := by decide +kernel
theorem dX7_tellRow_16 : decode cX7_tellRow 16 = .ok (.getfield 39, 3) := by decide +kernel
theorem dX7_tellRow_19 : decode cX7_tellRow 19 = .ok (.invokevirtual 181, 3) := by decide +kernel
theorem dX7_tellRow_22 : decode cX7_tellRow 22 = .ok (.iconst 0, 1) := by decide +kernel
theorem dX7_tellRow_23 : decode cX7_tellRow 23 = .ok (.istore_n 3, 1) := by decide +kernel
theorem dX7_tellRow_24 : decode cX7_tellRow 24 = .ok (.iload_n 3, 1) := by decide +kernel
theorem dX7_tellRow_25 : decode cX7_tellRow 25 = .ok (.aload_n 2, 1) := by decide +kernel
theorem dX7_tellRow_26 : decode cX7_tellRow 26 = .ok (.getfield 102, 3) := by decide +kernel
theorem dX7_tellRow_29 : decode cX7_tellRow 29 = .ok (.if_icmp .ge 21, 3) := by decide +kernel
theorem dX7_tellRow_32 : decode cX7_tellRow 32 = .ok (.aload_n 0, 1) := by decide +kernel
theorem dX7_tellRow_33 : decode cX7_tellRow 33 = .ok (.getfield 39, 3) := by decide +kernel
theorem dX7_tellRow_36 : decode cX7_tellRow 36 = .ok (.aload_n 2, 1) := by decide +kernel
theorem dX7_tellRow_37 : decode cX7_tellRow 37 = .ok (.iload_n 3, 1) := by decide +kernel
theorem dX7_tellRow_38 : decode cX7_tellRow 38 = .ok (.invokevirtual 134, 3) := by decide +kernel
theorem dX7_tellRow_41 : decode cX7_tellRow 41 = .ok (.invokevirtual 184, 3) := by decide +kernel
theorem dX7_tellRow_44 : decode cX7_tellRow 44 = .ok (.iinc 3 1, 3) := by decide +kernel
theorem dX7_tellRow_47 : decode cX7_tellRow 47 = .ok (.goto (-23), 3) := by decide +kernel
theorem dX7_tellRow_50 : decode cX7_tellRow 50 = .ok (.aload_n 2, 1) := by decide +kernel
theorem dX7_tellRow_51 : decode cX7_tellRow 51 = .ok (.invokevirtual 115, 3) := by decide +kernel
theorem dX7_tellRow_54 : decode cX7_tellRow 54 = .ok (.istore_n 3, 1) := by decide +kernel
theorem dX7_tellRow_55 : decode cX7_tellRow 55 = .ok (.iload_n 3, 1) := by decide +kernel
theorem dX7_tellRow_56 : decode cX7_tellRow 56 = .ok (.bipush (-4), 2) := by decide +kernel
theorem dX7_tellRow_58 : decode cX7_tellRow 58 = .ok (.if_icmp .ne 26, 3) := by decide +kernel
theorem dX7_tellRow_61 : decode cX7_tellRow 61 = .ok (.aload_n 0, 1) := by decide +kernel
theorem dX7_tellRow_62 : decode cX7_tellRow 62 = .ok (.getfield 39, 3) := by decide +kernel
theorem dX7_tellRow_65 : decode cX7_tellRow 65 = .ok (.bipush 61, 2) := by decide +kernel
theorem dX7_tellRow_67 : decode cX7_tellRow 67 = .ok (.invokevirtual 188, 3) := by decide +kernel
theorem dX7_tellRow_70 : decode cX7_tellRow 70 = .ok (.aload_n 0, 1) := by decide +kernel
theorem dX7_tellRow_71 : decode cX7_tellRow 71 = .ok (.getfield 39, 3) := by decide +kernel
theorem dX7_tellRow_74 : decode cX7_tellRow 74 = .ok (.aload_n 2, 1) := by decide +kernel
theorem dX7_tellRow_75 : decode cX7_tellRow 75 = .ok (.invokevirtual 112, 3) := by decide +kernel
theorem dX7_tellRow_78 : decode cX7_tellRow 78 = .ok (.invokevirtual 184, 3) := by decide +kernel
theorem dX7_tellRow_81 : decode cX7_tellRow 81 = .ok (.goto 20, 3) := by decide +kernel
theorem dX7_tellRow_84 : decode cX7_tellRow 84 = .ok (.aload_n 0, 1) := by decide +kernel
theorem dX7_tellRow_85 : decode cX7_tellRow 85 = .ok (.getfield 39, 3) := by decide +kernel
theorem dX7_tellRow_88 : decode cX7_tellRow 88 = .ok (.bipush 33, 2) := by decide +kernel
theorem dX7_tellRow_90 : decode cX7_tellRow 90 = .ok (.invokevirtual 188, 3) := by decide +kernel
theorem dX7_tellRow_93 : decode cX7_tellRow 93 = .ok (.aload_n 0, 1) := by decide +kernel
theorem dX7_tellRow_94 : decode cX7_tellRow 94 = .ok (.getfield 39, 3) := by decide +kernel
theorem dX7_tellRow_97 : decode cX7_tellRow 97 = .ok (.iload_n 3, 1) := by decide +kernel
theorem dX7_tellRow_98 : decode cX7_tellRow 98 = .ok (.invokevirtual 184, 3) := by decide +kernel
theorem dX7_tellRow_101 : decode cX7_tellRow 101 = .ok (.aload_n 0, 1) := by decide +kernel
theorem dX7_tellRow_102 : decode cX7_tellRow 102 = .ok (.getfield 39, 3) := by decide +kernel
theorem dX7_tellRow_105 : decode cX7_tellRow 105 = .ok (.getfield 192, 3) := by decide +kernel
theorem dX7_tellRow_108 : decode cX7_tellRow 108 = .ok (.ireturn, 1) := by decide +kernel
theorem dX7_tellState_0 : decode cX7_tellState 0 = .ok (.aload_n 0, 1) := by decide +kernel
theorem dX7_tellState_1 : decode cX7_tellState 1 = .ok (.getfield 39, 3) := by decide +kernel
theorem dX7_tellState_4 : decode cX7_tellState 4 = .ok (.invokevirtual 181, 3) := by decide +kernel
theorem dX7_tellState_7 : decode cX7_tellState 7 = .ok (.aload_n 0, 1) := by decide +kernel
theorem dX7_tellState_8 : decode cX7_tellState 8 = .ok (.getfield 10, 3) := by decide +kernel
theorem dX7_tellState_11 : decode cX7_tellState 11 = .ok (.getfield 144, 3) := by decide +kernel
theorem dX7_tellState_14 : decode cX7_tellState 14 = .ok (.istore_n 1, 1) := by decide +kernel
theorem dX7_tellState_15 : decode cX7_tellState 15 = .ok (.iconst 0, 1) := by decide +kernel
theorem dX7_tellState_16 : decode cX7_tellState 16 = .ok (.istore_n 2, 1) := by decide +kernel
theorem dX7_tellState_17 : decode cX7_tellState 17 = .ok (.iload_n 2, 1) := by decide +kernel
theorem dX7_tellState_18 : decode cX7_tellState 18 = .ok (.bipush 9, 2) := by decide +kernel
theorem dX7_tellState_20 : decode cX7_tellState 20 = .ok (.if_icmp .ge 41, 3) := by decide +kernel
theorem dX7_tellState_23 : decode cX7_tellState 23 = .ok (.iload_n 2, 1) := by decide +kernel
theorem dX7_tellState_24 : decode cX7_tellState 24 = .ok (.ifCond .eq 7, 3) := by decide +kernel
theorem dX7_tellState_27 : decode cX7_tellState 27 = .ok (.iload_n 1, 1) := by decide +kernel
theorem dX7_tellState_28 : decode cX7_tellState 28 = .ok (.ifCond .eq 33, 3) := by decide +kernel
theorem dX7_tellState_31 : decode cX7_tellState 31 = .ok (.aload_n 0, 1) := by decide +kernel
theorem dX7_tellState_32 : decode cX7_tellState 32 = .ok (.getfield 39, 3) := by decide +kernel
theorem dX7_tellState_35 : decode cX7_tellState 35 = .ok (.iload_n 1, 1) := by decide +kernel
theorem dX7_tellState_36 : decode cX7_tellState 36 = .ok (.iconst 1, 1) := by decide +kernel
theorem dX7_tellState_37 : decode cX7_tellState 37 = .ok (.iand, 1) := by decide +kernel
theorem dX7_tellState_38 : decode cX7_tellState 38 = .ok (.ifCond .eq 8, 3) := by decide +kernel
theorem dX7_tellState_41 : decode cX7_tellState 41 = .ok (.bipush 120, 2) := by decide +kernel
theorem dX7_tellState_43 : decode cX7_tellState 43 = .ok (.goto 5, 3) := by decide +kernel
theorem dX7_tellState_46 : decode cX7_tellState 46 = .ok (.bipush 45, 2) := by decide +kernel
theorem dX7_tellState_48 : decode cX7_tellState 48 = .ok (.invokevirtual 188, 3) := by decide +kernel
theorem dX7_tellState_51 : decode cX7_tellState 51 = .ok (.iload_n 1, 1) := by decide +kernel
theorem dX7_tellState_52 : decode cX7_tellState 52 = .ok (.iconst 1, 1) := by decide +kernel
theorem dX7_tellState_53 : decode cX7_tellState 53 = .ok (.ishr, 1) := by decide +kernel
theorem dX7_tellState_54 : decode cX7_tellState 54 = .ok (.istore_n 1, 1) := by decide +kernel
theorem dX7_tellState_55 : decode cX7_tellState 55 = .ok (.iinc 2 1, 3) := by decide +kernel
theorem dX7_tellState_58 : decode cX7_tellState 58 = .ok (.goto (-41), 3) := by decide +kernel
theorem dX7_tellState_61 : decode cX7_tellState 61 = .ok (.aload_n 0, 1) := by decide +kernel
theorem dX7_tellState_62 : decode cX7_tellState 62 = .ok (.getfield 39, 3) := by decide +kernel
theorem dX7_tellState_65 : decode cX7_tellState 65 = .ok (.getfield 192, 3) := by decide +kernel
theorem dX7_tellState_68 : decode cX7_tellState 68 = .ok (.ireturn, 1) := by decide +kernel
theorem dX7_tellJoin_0 : decode cX7_tellJoin 0 = .ok (.aload_n 0, 1) := by decide +kernel
theorem dX7_tellJoin_1 : decode cX7_tellJoin 1 = .ok (.getfield 10, 3) := by decide +kernel
theorem dX7_tellJoin_4 : decode cX7_tellJoin 4 = .ok (.iload_n 1, 1) := by decide +kernel
theorem dX7_tellJoin_5 : decode cX7_tellJoin 5 = .ok (.invokevirtual 98, 3) := by decide +kernel
theorem dX7_tellJoin_8 : decode cX7_tellJoin 8 = .ok (.astore_n 2, 1) := by decide +kernel
theorem dX7_tellJoin_9 : decode cX7_tellJoin 9 = .ok (.aload_n 2, 1) := by decide +kernel
theorem dX7_tellJoin_10 : decode cX7_tellJoin 10 = .ok (.ifnonnull 5, 3) := by decide +kernel
theorem dX7_tellJoin_13 : decode cX7_tellJoin 13 = .ok (.iconst (-1), 1) := by decide +kernel
theorem dX7_tellJoin_14 : decode cX7_tellJoin 14 = .ok (.ireturn, 1) := by decide +kernel
theorem dX7_tellJoin_15 : decode cX7_tellJoin 15 = .ok (.aload_n 0, 1) := by decide +kernel
theorem dX7_tellJoin_16 : decode cX7_tellJoin 16 = .ok (.aload_n 2, 1) := by decide +kernel
theorem dX7_tellJoin_17 : decode cX7_tellJoin 17 = .ok (.invokevirtual 158, 3) := by decide +kernel
theorem dX7_tellJoin_20 : decode cX7_tellJoin 20 = .ok (.ifCond .ne 6, 3) := by decide +kernel
theorem dX7_tellJoin_23 : decode cX7_tellJoin 23 = .ok (.bipush (-4), 2) := by decide +kernel
theorem dX7_tellJoin_25 : decode cX7_tellJoin 25 = .ok (.ireturn, 1) := by decide +kernel
theorem dX7_tellJoin_26 : decode cX7_tellJoin 26 = .ok (.aload_n 0, 1) := by decide +kernel
theorem dX7_tellJoin_27 : decode cX7_tellJoin 27 = .ok (.getfield 32, 3) := by decide +kernel
theorem dX7_tellJoin_30 : decode cX7_tellJoin 30 = .ok (.aload_n 0, 1) := by decide +kernel
theorem dX7_tellJoin_31 : decode cX7_tellJoin 31 = .ok (.getfield 10, 3) := by decide +kernel
theorem dX7_tellJoin_34 : decode cX7_tellJoin 34 = .ok (.getfield 144, 3) := by decide +kernel
theorem dX7_tellJoin_37 : decode cX7_tellJoin 37 = .ok (.aload_n 2, 1) := by decide +kernel
theorem dX7_tellJoin_38 : decode cX7_tellJoin 38 = .ok (.iconst 0, 1) := by decide +kernel
theorem dX7_tellJoin_39 : decode cX7_tellJoin 39 = .ok (.invokevirtual 141, 3) := by decide +kernel
theorem dX7_tellJoin_42 : decode cX7_tellJoin 42 = .ok (.invokevirtual 168, 3) := by decide +kernel
theorem dX7_tellJoin_45 : decode cX7_tellJoin 45 = .ok (.istore_n 3, 1) := by decide +kernel
theorem dX7_tellJoin_46 : decode cX7_tellJoin 46 = .ok (.aload_n 0, 1) := by decide +kernel
theorem dX7_tellJoin_47 : decode cX7_tellJoin 47 = .ok (.getfield 39, 3) := by decide +kernel
theorem dX7_tellJoin_50 : decode cX7_tellJoin 50 = .ok (.invokevirtual 181, 3) := by decide +kernel
theorem dX7_tellJoin_53 : decode cX7_tellJoin 53 = .ok (.iconst 0, 1) := by decide +kernel
theorem dX7_tellJoin_54 : decode cX7_tellJoin 54 = .ok (.istore 4, 2) := by decide +kernel
theorem dX7_tellJoin_56 : decode cX7_tellJoin 56 = .ok (.iload 4, 2) := by decide +kernel
theorem dX7_tellJoin_58 : decode cX7_tellJoin 58 = .ok (.iload_n 3, 1) := by decide +kernel
theorem dX7_tellJoin_59 : decode cX7_tellJoin 59 = .ok (.if_icmp .ge 25, 3) := by decide +kernel
theorem dX7_tellJoin_62 : decode cX7_tellJoin 62 = .ok (.aload_n 0, 1) := by decide +kernel
theorem dX7_tellJoin_63 : decode cX7_tellJoin 63 = .ok (.getfield 39, 3) := by decide +kernel
theorem dX7_tellJoin_66 : decode cX7_tellJoin 66 = .ok (.aload_n 0, 1) := by decide +kernel
theorem dX7_tellJoin_67 : decode cX7_tellJoin 67 = .ok (.getfield 32, 3) := by decide +kernel
theorem dX7_tellJoin_70 : decode cX7_tellJoin 70 = .ok (.iload 4, 2) := by decide +kernel
theorem dX7_tellJoin_72 : decode cX7_tellJoin 72 = .ok (.invokevirtual 171, 3) := by decide +kernel
theorem dX7_tellJoin_75 : decode cX7_tellJoin 75 = .ok (.invokevirtual 184, 3) := by decide +kernel
theorem dX7_tellJoin_78 : decode cX7_tellJoin 78 = .ok (.iinc 4 1, 3) := by decide +kernel
theorem dX7_tellJoin_81 : decode cX7_tellJoin 81 = .ok (.goto (-25), 3) := by decide +kernel
theorem dX7_tellJoin_84 : decode cX7_tellJoin 84 = .ok (.aload_n 0, 1) := by decide +kernel
theorem dX7_tellJoin_85 : decode cX7_tellJoin 85 = .ok (.getfield 39, 3) := by decide +kernel
theorem dX7_tellJoin_88 : decode cX7_tellJoin 88 = .ok (.getfield 192, 3) := by decide +kernel
theorem dX7_tellJoin_91 : decode cX7_tellJoin 91 = .ok (.ireturn, 1) := by decide +kernel
theorem dX7_append_0 : decode cX7_append 0 = .ok (.aload_n 0, 1) := by decide +kernel
theorem dX7_append_1 : decode cX7_append 1 = .ok (.getfield 46, 3) := by decide +kernel
theorem dX7_append_4 : decode cX7_append 4 = .ok (.iload_n 1, 1) := by decide +kernel
theorem dX7_append_5 : decode cX7_append 5 = .ok (.invokevirtual 196, 3) := by decide +kernel
theorem dX7_append_8 : decode cX7_append 8 = .ok (.ifCond .eq 13, 3) := by decide +kernel
theorem dX7_append_11 : decode cX7_append 11 = .ok (.aload_n 0, 1) := by decide +kernel
theorem dX7_append_12 : decode cX7_append 12 = .ok (.getfield 46, 3) := by decide +kernel
theorem dX7_append_15 : decode cX7_append 15 = .ok (.getfield 198, 3) := by decide +kernel
theorem dX7_append_18 : decode cX7_append 18 = .ok (.goto 5, 3) := by decide +kernel
theorem dX7_append_21 : decode cX7_append 21 = .ok (.bipush (-2), 2) := by decide +kernel
theorem dX7_append_23 : decode cX7_append 23 = .ok (.ireturn, 1) := by decide +kernel
theorem dX7_read_0 : decode cX7_read 0 = .ok (.aload_n 0, 1) := by decide +kernel
theorem dX7_read_1 : decode cX7_read 1 = .ok (.getfield 46, 3) := by decide +kernel
theorem dX7_read_4 : decode cX7_read 4 = .ok (.invokevirtual 199, 3) := by decide +kernel
theorem dX7_read_7 : decode cX7_read 7 = .ok (.istore_n 1, 1) := by decide +kernel
theorem dX7_read_8 : decode cX7_read 8 = .ok (.iload_n 1, 1) := by decide +kernel
theorem dX7_read_9 : decode cX7_read 9 = .ok (.iconst (-1), 1) := by decide +kernel
theorem dX7_read_10 : decode cX7_read 10 = .ok (.if_icmp .ne 10, 3) := by decide +kernel
theorem dX7_read_13 : decode cX7_read 13 = .ok (.aload_n 0, 1) := by decide +kernel
theorem dX7_read_14 : decode cX7_read 14 = .ok (.invokevirtual 202, 3) := by decide +kernel
theorem dX7_read_17 : decode cX7_read 17 = .ok (.goto 7, 3) := by decide +kernel
theorem dX7_read_20 : decode cX7_read 20 = .ok (.bipush (-100), 2) := by decide +kernel
theorem dX7_read_22 : decode cX7_read 22 = .ok (.iload_n 1, 1) := by decide +kernel
theorem dX7_read_23 : decode cX7_read 23 = .ok (.isub, 1) := by decide +kernel
theorem dX7_read_24 : decode cX7_read 24 = .ok (.istore_n 2, 1) := by decide +kernel
theorem dX7_read_25 : decode cX7_read 25 = .ok (.aload_n 0, 1) := by decide +kernel
theorem dX7_read_26 : decode cX7_read 26 = .ok (.getfield 53, 3) := by decide +kernel
theorem dX7_read_29 : decode cX7_read 29 = .ok (.bipush (-4), 2) := by decide +kernel
theorem dX7_read_31 : decode cX7_read 31 = .ok (.putfield 205, 3) := by decide +kernel
theorem dX7_read_34 : decode cX7_read 34 = .ok (.aload_n 0, 1) := by decide +kernel
theorem dX7_read_35 : decode cX7_read 35 = .ok (.getfield 46, 3) := by decide +kernel
theorem dX7_read_38 : decode cX7_read 38 = .ok (.invokevirtual 208, 3) := by decide +kernel
theorem dX7_read_41 : decode cX7_read 41 = .ok (.iload_n 2, 1) := by decide +kernel
theorem dX7_read_42 : decode cX7_read 42 = .ok (.ireturn, 1) := by decide +kernel
theorem dX7_account_0 : decode cX7_account 0 = .ok (.iload_n 1, 1) := by decide +kernel
theorem dX7_account_1 : decode cX7_account 1 = .ok (.tableswitch 147 0 10 #[59, 67, 75, 83, 91, 99, 107, 115, 123, 131, 139], 59) := by decide +kernel
theorem dX7_account_60 : decode cX7_account 60 = .ok (.aload_n 0, 1) := by decide +kernel
theorem dX7_account_61 : decode cX7_account 61 = .ok (.getfield 10, 3) := by decide +kernel
theorem dX7_account_64 : decode cX7_account 64 = .ok (.getfield 172, 3) := by decide +kernel
theorem dX7_account_67 : decode cX7_account 67 = .ok (.ireturn, 1) := by decide +kernel
theorem dX7_account_68 : decode cX7_account 68 = .ok (.aload_n 0, 1) := by decide +kernel
theorem dX7_account_69 : decode cX7_account 69 = .ok (.getfield 10, 3) := by decide +kernel
theorem dX7_account_72 : decode cX7_account 72 = .ok (.invokevirtual 218, 3) := by decide +kernel
theorem dX7_account_75 : decode cX7_account 75 = .ok (.ireturn, 1) := by decide +kernel
theorem dX7_account_76 : decode cX7_account 76 = .ok (.aload_n 0, 1) := by decide +kernel
theorem dX7_account_77 : decode cX7_account 77 = .ok (.getfield 10, 3) := by decide +kernel
theorem dX7_account_80 : decode cX7_account 80 = .ok (.invokevirtual 221, 3) := by decide +kernel
theorem dX7_account_83 : decode cX7_account 83 = .ok (.ireturn, 1) := by decide +kernel
theorem dX7_account_84 : decode cX7_account 84 = .ok (.aload_n 0, 1) := by decide +kernel
theorem dX7_account_85 : decode cX7_account 85 = .ok (.getfield 10, 3) := by decide +kernel
theorem dX7_account_88 : decode cX7_account 88 = .ok (.invokevirtual 224, 3) := by decide +kernel
theorem dX7_account_91 : decode cX7_account 91 = .ok (.ireturn, 1) := by decide +kernel
theorem dX7_account_92 : decode cX7_account 92 = .ok (.aload_n 0, 1) := by decide +kernel
theorem dX7_account_93 : decode cX7_account 93 = .ok (.getfield 10, 3) := by decide +kernel
theorem dX7_account_96 : decode cX7_account 96 = .ok (.getfield 227, 3) := by decide +kernel
theorem dX7_account_99 : decode cX7_account 99 = .ok (.ireturn, 1) := by decide +kernel
theorem dX7_account_100 : decode cX7_account 100 = .ok (.aload_n 0, 1) := by decide +kernel
theorem dX7_account_101 : decode cX7_account 101 = .ok (.getfield 10, 3) := by decide +kernel
theorem dX7_account_104 : decode cX7_account 104 = .ok (.getfield 230, 3) := by decide +kernel
theorem dX7_account_107 : decode cX7_account 107 = .ok (.ireturn, 1) := by decide +kernel
theorem dX7_account_108 : decode cX7_account 108 = .ok (.aload_n 0, 1) := by decide +kernel
theorem dX7_account_109 : decode cX7_account 109 = .ok (.getfield 10, 3) := by decide +kernel
theorem dX7_account_112 : decode cX7_account 112 = .ok (.getfield 233, 3) := by decide +kernel
theorem dX7_account_115 : decode cX7_account 115 = .ok (.ireturn, 1) := by decide +kernel
theorem dX7_account_116 : decode cX7_account 116 = .ok (.aload_n 0, 1) := by decide +kernel
theorem dX7_account_117 : decode cX7_account 117 = .ok (.getfield 10, 3) := by decide +kernel
theorem dX7_account_120 : decode cX7_account 120 = .ok (.getfield 236, 3) := by decide +kernel
theorem dX7_account_123 : decode cX7_account 123 = .ok (.ireturn, 1) := by decide +kernel
theorem dX7_account_124 : decode cX7_account 124 = .ok (.aload_n 0, 1) := by decide +kernel
theorem dX7_account_125 : decode cX7_account 125 = .ok (.getfield 10, 3) := by decide +kernel
theorem dX7_account_128 : decode cX7_account 128 = .ok (.getfield 239, 3) := by decide +kernel
theorem dX7_account_131 : decode cX7_account 131 = .ok (.ireturn, 1) := by decide +kernel
theorem dX7_account_132 : decode cX7_account 132 = .ok (.aload_n 0, 1) := by decide +kernel
theorem dX7_account_133 : decode cX7_account 133 = .ok (.getfield 46, 3) := by decide +kernel
theorem dX7_account_136 : decode cX7_account 136 = .ok (.getfield 198, 3) := by decide +kernel
theorem dX7_account_139 : decode cX7_account 139 = .ok (.ireturn, 1) := by decide +kernel
theorem dX7_account_140 : decode cX7_account 140 = .ok (.aload_n 0, 1) := by decide +kernel
theorem dX7_account_141 : decode cX7_account 141 = .ok (.getfield 25, 3) := by decide +kernel
theorem dX7_account_144 : decode cX7_account 144 = .ok (.getfield 242, 3) := by decide +kernel
theorem dX7_account_147 : decode cX7_account 147 = .ok (.ireturn, 1) := by decide +kernel
theorem dX7_account_148 : decode cX7_account 148 = .ok (.bipush (-2), 2) := by decide +kernel
theorem dX7_account_150 : decode cX7_account 150 = .ok (.ireturn, 1) := by decide +kernel
theorem dX7_isWell_0 : decode cX7_isWell 0 = .ok (.iconst 0, 1) := by decide +kernel
theorem dX7_isWell_1 : decode cX7_isWell 1 = .ok (.istore_n 1, 1) := by decide +kernel
theorem dX7_isWell_2 : decode cX7_isWell 2 = .ok (.iload_n 1, 1) := by decide +kernel
theorem dX7_isWell_3 : decode cX7_isWell 3 = .ok (.aload_n 0, 1) := by decide +kernel
theorem dX7_isWell_4 : decode cX7_isWell 4 = .ok (.getfield 10, 3) := by decide +kernel
theorem dX7_isWell_7 : decode cX7_isWell 7 = .ok (.getfield 172, 3) := by decide +kernel
theorem dX7_isWell_10 : decode cX7_isWell 10 = .ok (.if_icmp .ge 32, 3) := by decide +kernel
theorem dX7_isWell_13 : decode cX7_isWell 13 = .ok (.aload_n 0, 1) := by decide +kernel
theorem dX7_isWell_14 : decode cX7_isWell 14 = .ok (.getfield 10, 3) := by decide +kernel
theorem dX7_isWell_17 : decode cX7_isWell 17 = .ok (.iload_n 1, 1) := by decide +kernel
theorem dX7_isWell_18 : decode cX7_isWell 18 = .ok (.invokevirtual 98, 3) := by decide +kernel
theorem dX7_isWell_21 : decode cX7_isWell 21 = .ok (.astore_n 2, 1) := by decide +kernel
theorem dX7_isWell_22 : decode cX7_isWell 22 = .ok (.aload_n 2, 1) := by decide +kernel
theorem dX7_isWell_23 : decode cX7_isWell 23 = .ok (.ifnull 13, 3) := by decide +kernel
theorem dX7_isWell_26 : decode cX7_isWell 26 = .ok (.aload_n 0, 1) := by decide +kernel
theorem dX7_isWell_27 : decode cX7_isWell 27 = .ok (.aload_n 2, 1) := by decide +kernel
theorem dX7_isWell_28 : decode cX7_isWell 28 = .ok (.invokevirtual 245, 3) := by decide +kernel
theorem dX7_isWell_31 : decode cX7_isWell 31 = .ok (.ifCond .ne 5, 3) := by decide +kernel
theorem dX7_isWell_34 : decode cX7_isWell 34 = .ok (.iconst 0, 1) := by decide +kernel
theorem dX7_isWell_35 : decode cX7_isWell 35 = .ok (.ireturn, 1) := by decide +kernel
theorem dX7_isWell_36 : decode cX7_isWell 36 = .ok (.iinc 1 1, 3) := by decide +kernel
theorem dX7_isWell_39 : decode cX7_isWell 39 = .ok (.goto (-37), 3) := by decide +kernel
theorem dX7_isWell_42 : decode cX7_isWell 42 = .ok (.iconst 1, 1) := by decide +kernel
theorem dX7_isWell_43 : decode cX7_isWell 43 = .ok (.ireturn, 1) := by decide +kernel
theorem dX7_mean_0 : decode cX7_mean 0 = .ok (.aload_n 0, 1) := by decide +kernel
theorem dX7_mean_1 : decode cX7_mean 1 = .ok (.getfield 10, 3) := by decide +kernel
theorem dX7_mean_4 : decode cX7_mean 4 = .ok (.invokevirtual 221, 3) := by decide +kernel
theorem dX7_mean_7 : decode cX7_mean 7 = .ok (.istore_n 1, 1) := by decide +kernel
theorem dX7_mean_8 : decode cX7_mean 8 = .ok (.iload_n 1, 1) := by decide +kernel
theorem dX7_mean_9 : decode cX7_mean 9 = .ok (.ifCond .gt 6, 3) := by decide +kernel
theorem dX7_mean_12 : decode cX7_mean 12 = .ok (.bipush (-4), 2) := by decide +kernel
theorem dX7_mean_14 : decode cX7_mean 14 = .ok (.ireturn, 1) := by decide +kernel
theorem dX7_mean_15 : decode cX7_mean 15 = .ok (.aload_n 0, 1) := by decide +kernel
theorem dX7_mean_16 : decode cX7_mean 16 = .ok (.getfield 10, 3) := by decide +kernel
theorem dX7_mean_19 : decode cX7_mean 19 = .ok (.invokevirtual 248, 3) := by decide +kernel
theorem dX7_mean_22 : decode cX7_mean 22 = .ok (.i2f, 1) := by decide +kernel
theorem dX7_mean_23 : decode cX7_mean 23 = .ok (.iload_n 1, 1) := by decide +kernel
theorem dX7_mean_24 : decode cX7_mean 24 = .ok (.i2f, 1) := by decide +kernel
theorem dX7_mean_25 : decode cX7_mean 25 = .ok (.fdiv, 1) := by decide +kernel
theorem dX7_mean_26 : decode cX7_mean 26 = .ok (.invokestatic 251, 3) := by decide +kernel
theorem dX7_mean_29 : decode cX7_mean 29 = .ok (.ireturn, 1) := by decide +kernel
theorem dX7_undo_0 : decode cX7_undo 0 = .ok (.aload_n 0, 1) := by decide +kernel
theorem dX7_undo_1 : decode cX7_undo 1 = .ok (.getfield 25, 3) := by decide +kernel
theorem dX7_undo_4 : decode cX7_undo 4 = .ok (.aload_n 0, 1) := by decide +kernel
theorem dX7_undo_5 : decode cX7_undo 5 = .ok (.getfield 10, 3) := by decide +kernel
theorem dX7_undo_8 : decode cX7_undo 8 = .ok (.invokevirtual 255, 3) := by decide +kernel
theorem dX7_undo_11 : decode cX7_undo 11 = .ok (.ifCond .eq 13, 3) := by decide +kernel
theorem dX7_undo_14 : decode cX7_undo 14 = .ok (.aload_n 0, 1) := by decide +kernel
theorem dX7_undo_15 : decode cX7_undo 15 = .ok (.getfield 25, 3) := by decide +kernel
theorem dX7_undo_18 : decode cX7_undo 18 = .ok (.getfield 242, 3) := by decide +kernel
theorem dX7_undo_21 : decode cX7_undo 21 = .ok (.goto 5, 3) := by decide +kernel
theorem dX7_undo_24 : decode cX7_undo 24 = .ok (.bipush (-4), 2) := by decide +kernel
theorem dX7_undo_26 : decode cX7_undo 26 = .ok (.ireturn, 1) := by decide +kernel
theorem dX7_save_0 : decode cX7_save 0 = .ok (.aload_n 0, 1) := by decide +kernel
theorem dX7_save_1 : decode cX7_save 1 = .ok (.getfield 19, 3) := by decide +kernel
theorem dX7_save_4 : decode cX7_save 4 = .ok (.aload_n 0, 1) := by decide +kernel
theorem dX7_save_5 : decode cX7_save 5 = .ok (.getfield 10, 3) := by decide +kernel
theorem dX7_save_8 : decode cX7_save 8 = .ok (.invokevirtual 61, 3) := by decide +kernel
theorem dX7_save_11 : decode cX7_save 11 = .ok (.aload_n 0, 1) := by decide +kernel
theorem dX7_save_12 : decode cX7_save 12 = .ok (.iconst 1, 1) := by decide +kernel
theorem dX7_save_13 : decode cX7_save 13 = .ok (.putfield 259, 3) := by decide +kernel
theorem dX7_save_16 : decode cX7_save 16 = .ok (.aload_n 0, 1) := by decide +kernel
theorem dX7_save_17 : decode cX7_save 17 = .ok (.getfield 10, 3) := by decide +kernel
theorem dX7_save_20 : decode cX7_save 20 = .ok (.getfield 172, 3) := by decide +kernel
theorem dX7_save_23 : decode cX7_save 23 = .ok (.ireturn, 1) := by decide +kernel
theorem dX7_restore_0 : decode cX7_restore 0 = .ok (.aload_n 0, 1) := by decide +kernel
theorem dX7_restore_1 : decode cX7_restore 1 = .ok (.getfield 259, 3) := by decide +kernel
theorem dX7_restore_4 : decode cX7_restore 4 = .ok (.ifCond .ne 6, 3) := by decide +kernel
theorem dX7_restore_7 : decode cX7_restore 7 = .ok (.bipush (-4), 2) := by decide +kernel
theorem dX7_restore_9 : decode cX7_restore 9 = .ok (.ireturn, 1) := by decide +kernel
theorem dX7_restore_10 : decode cX7_restore 10 = .ok (.aload_n 0, 1) := by decide +kernel
theorem dX7_restore_11 : decode cX7_restore 11 = .ok (.getfield 10, 3) := by decide +kernel
theorem dX7_restore_14 : decode cX7_restore 14 = .ok (.aload_n 0, 1) := by decide +kernel
theorem dX7_restore_15 : decode cX7_restore 15 = .ok (.getfield 19, 3) := by decide +kernel
theorem dX7_restore_18 : decode cX7_restore 18 = .ok (.invokevirtual 61, 3) := by decide +kernel
theorem dX7_restore_21 : decode cX7_restore 21 = .ok (.aload_n 0, 1) := by decide +kernel
theorem dX7_restore_22 : decode cX7_restore 22 = .ok (.getfield 25, 3) := by decide +kernel
theorem dX7_restore_25 : decode cX7_restore 25 = .ok (.invokevirtual 263, 3) := by decide +kernel
theorem dX7_restore_28 : decode cX7_restore 28 = .ok (.aload_n 0, 1) := by decide +kernel
theorem dX7_restore_29 : decode cX7_restore 29 = .ok (.getfield 10, 3) := by decide +kernel
theorem dX7_restore_32 : decode cX7_restore 32 = .ok (.getfield 172, 3) := by decide +kernel
theorem dX7_restore_35 : decode cX7_restore 35 = .ok (.ireturn, 1) := by decide +kernel
theorem dX7_addRow_0 : decode cX7_addRow 0 = .ok (.iload_n 2, 1) := by decide +kernel
theorem dX7_addRow_1 : decode cX7_addRow 1 = .ok (.iconst 1, 1) := by decide +kernel
theorem dX7_addRow_2 : decode cX7_addRow 2 = .ok (.if_icmp .lt 21, 3) := by decide +kernel
theorem dX7_addRow_5 : decode cX7_addRow 5 = .ok (.iload_n 2, 1) := by decide +kernel
theorem dX7_addRow_6 : decode cX7_addRow 6 = .ok (.bipush 8, 2) := by decide +kernel
theorem dX7_addRow_8 : decode cX7_addRow 8 = .ok (.if_icmp .gt 15, 3) := by decide +kernel
theorem dX7_addRow_11 : decode cX7_addRow 11 = .ok (.iload_n 1, 1) := by decide +kernel
theorem dX7_addRow_12 : decode cX7_addRow 12 = .ok (.ifCond .lt 11, 3) := by decide +kernel
theorem dX7_addRow_15 : decode cX7_addRow 15 = .ok (.iload_n 1, 1) := by decide +kernel
theorem dX7_addRow_16 : decode cX7_addRow 16 = .ok (.iload_n 2, 1) := by decide +kernel
theorem dX7_addRow_17 : decode cX7_addRow 17 = .ok (.invokestatic 266, 3) := by decide +kernel
theorem dX7_addRow_20 : decode cX7_addRow 20 = .ok (.if_icmp .lt 6, 3) := by decide +kernel
theorem dX7_addRow_23 : decode cX7_addRow 23 = .ok (.bipush (-2), 2) := by decide +kernel
theorem dX7_addRow_25 : decode cX7_addRow 25 = .ok (.ireturn, 1) := by decide +kernel
theorem dX7_addRow_26 : decode cX7_addRow 26 = .ok (.aload_n 0, 1) := by decide +kernel
theorem dX7_addRow_27 : decode cX7_addRow 27 = .ok (.getfield 10, 3) := by decide +kernel
theorem dX7_addRow_30 : decode cX7_addRow 30 = .ok (.getfield 172, 3) := by decide +kernel
theorem dX7_addRow_33 : decode cX7_addRow 33 = .ok (.bipush 6, 2) := by decide +kernel
theorem dX7_addRow_35 : decode cX7_addRow 35 = .ok (.if_icmp .lt 14, 3) := by decide +kernel
theorem dX7_addRow_38 : decode cX7_addRow 38 = .ok (.aload_n 0, 1) := by decide +kernel
theorem dX7_addRow_39 : decode cX7_addRow 39 = .ok (.getfield 53, 3) := by decide +kernel
theorem dX7_addRow_42 : decode cX7_addRow 42 = .ok (.iconst 1, 1) := by decide +kernel
theorem dX7_addRow_43 : decode cX7_addRow 43 = .ok (.bipush 6, 2) := by decide +kernel
theorem dX7_addRow_45 : decode cX7_addRow 45 = .ok (.invokevirtual 269, 3) := by decide +kernel
theorem dX7_addRow_48 : decode cX7_addRow 48 = .ok (.ireturn, 1) := by decide +kernel
theorem dX7_addRow_49 : decode cX7_addRow 49 = .ok (.aload_n 0, 1) := by decide +kernel
theorem dX7_addRow_50 : decode cX7_addRow 50 = .ok (.getfield 10, 3) := by decide +kernel
theorem dX7_addRow_53 : decode cX7_addRow 53 = .ok (.iload_n 1, 1) := by decide +kernel
theorem dX7_addRow_54 : decode cX7_addRow 54 = .ok (.iload_n 2, 1) := by decide +kernel
theorem dX7_addRow_55 : decode cX7_addRow 55 = .ok (.invokevirtual 272, 3) := by decide +kernel
theorem dX7_addRow_58 : decode cX7_addRow 58 = .ok (.ireturn, 1) := by decide +kernel
theorem dX7_dropRow_0 : decode cX7_dropRow 0 = .ok (.aload_n 0, 1) := by decide +kernel
theorem dX7_dropRow_1 : decode cX7_dropRow 1 = .ok (.getfield 10, 3) := by decide +kernel
theorem dX7_dropRow_4 : decode cX7_dropRow 4 = .ok (.iload_n 1, 1) := by decide +kernel
theorem dX7_dropRow_5 : decode cX7_dropRow 5 = .ok (.invokevirtual 275, 3) := by decide +kernel
theorem dX7_dropRow_8 : decode cX7_dropRow 8 = .ok (.ifCond .eq 13, 3) := by decide +kernel
theorem dX7_dropRow_11 : decode cX7_dropRow 11 = .ok (.aload_n 0, 1) := by decide +kernel
theorem dX7_dropRow_12 : decode cX7_dropRow 12 = .ok (.getfield 10, 3) := by decide +kernel
theorem dX7_dropRow_15 : decode cX7_dropRow 15 = .ok (.getfield 172, 3) := by decide +kernel
theorem dX7_dropRow_18 : decode cX7_dropRow 18 = .ok (.goto 4, 3) := by decide +kernel
theorem dX7_dropRow_21 : decode cX7_dropRow 21 = .ok (.iconst (-1), 1) := by decide +kernel
theorem dX7_dropRow_22 : decode cX7_dropRow 22 = .ok (.ireturn, 1) := by decide +kernel
theorem dX7_turnRow_0 : decode cX7_turnRow 0 = .ok (.aload_n 0, 1) := by decide +kernel
theorem dX7_turnRow_1 : decode cX7_turnRow 1 = .ok (.getfield 10, 3) := by decide +kernel
theorem dX7_turnRow_4 : decode cX7_turnRow 4 = .ok (.iload_n 1, 1) := by decide +kernel
theorem dX7_turnRow_5 : decode cX7_turnRow 5 = .ok (.invokevirtual 98, 3) := by decide +kernel
theorem dX7_turnRow_8 : decode cX7_turnRow 8 = .ok (.astore_n 2, 1) := by decide +kernel
theorem dX7_turnRow_9 : decode cX7_turnRow 9 = .ok (.aload_n 2, 1) := by decide +kernel
theorem dX7_turnRow_10 : decode cX7_turnRow 10 = .ok (.ifnonnull 5, 3) := by decide +kernel
theorem dX7_turnRow_13 : decode cX7_turnRow 13 = .ok (.iconst (-1), 1) := by decide +kernel
theorem dX7_turnRow_14 : decode cX7_turnRow 14 = .ok (.ireturn, 1) := by decide +kernel
theorem dX7_turnRow_15 : decode cX7_turnRow 15 = .ok (.aload_n 2, 1) := by decide +kernel
theorem dX7_turnRow_16 : decode cX7_turnRow 16 = .ok (.invokevirtual 278, 3) := by decide +kernel
theorem dX7_turnRow_19 : decode cX7_turnRow 19 = .ok (.aload_n 2, 1) := by decide +kernel
theorem dX7_turnRow_20 : decode cX7_turnRow 20 = .ok (.iconst 0, 1) := by decide +kernel
theorem dX7_turnRow_21 : decode cX7_turnRow 21 = .ok (.invokevirtual 134, 3) := by decide +kernel
theorem dX7_turnRow_24 : decode cX7_turnRow 24 = .ok (.ireturn, 1) := by decide +kernel
theorem dX7_swapBeats_0 : decode cX7_swapBeats 0 = .ok (.aload_n 0, 1) := by decide +kernel
theorem dX7_swapBeats_1 : decode cX7_swapBeats 1 = .ok (.getfield 10, 3) := by decide +kernel
theorem dX7_swapBeats_4 : decode cX7_swapBeats 4 = .ok (.iload_n 1, 1) := by decide +kernel
theorem dX7_swapBeats_5 : decode cX7_swapBeats 5 = .ok (.invokevirtual 98, 3) := by decide +kernel
theorem dX7_swapBeats_8 : decode cX7_swapBeats 8 = .ok (.astore 4, 2) := by decide +kernel
theorem dX7_swapBeats_10 : decode cX7_swapBeats 10 = .ok (.aload 4, 2) := by decide +kernel
theorem dX7_swapBeats_12 : decode cX7_swapBeats 12 = .ok (.ifnull 21, 3) := by decide +kernel
theorem dX7_swapBeats_15 : decode cX7_swapBeats 15 = .ok (.aload 4, 2) := by decide +kernel
theorem dX7_swapBeats_17 : decode cX7_swapBeats 17 = .ok (.iload_n 2, 1) := by decide +kernel
theorem dX7_swapBeats_18 : decode cX7_swapBeats 18 = .ok (.invokevirtual 130, 3) := by decide +kernel
theorem dX7_swapBeats_21 : decode cX7_swapBeats 21 = .ok (.ifCond .eq 12, 3) := by decide +kernel
theorem dX7_swapBeats_24 : decode cX7_swapBeats 24 = .ok (.aload 4, 2) := by decide +kernel
theorem dX7_swapBeats_26 : decode cX7_swapBeats 26 = .ok (.iload_n 3, 1) := by decide +kernel
theorem dX7_swapBeats_27 : decode cX7_swapBeats 27 = .ok (.invokevirtual 130, 3) := by decide +kernel
theorem dX7_swapBeats_30 : decode cX7_swapBeats 30 = .ok (.ifCond .ne 5, 3) := by decide +kernel
theorem dX7_swapBeats_33 : decode cX7_swapBeats 33 = .ok (.iconst (-1), 1) := by decide +kernel
theorem dX7_swapBeats_34 : decode cX7_swapBeats 34 = .ok (.ireturn, 1) := by decide +kernel
theorem dX7_swapBeats_35 : decode cX7_swapBeats 35 = .ok (.iload_n 2, 1) := by decide +kernel
theorem dX7_swapBeats_36 : decode cX7_swapBeats 36 = .ok (.iload_n 3, 1) := by decide +kernel
theorem dX7_swapBeats_37 : decode cX7_swapBeats 37 = .ok (.if_icmp .lt 14, 3) := by decide +kernel
theorem dX7_swapBeats_40 : decode cX7_swapBeats 40 = .ok (.aload_n 0, 1) := by decide +kernel
theorem dX7_swapBeats_41 : decode cX7_swapBeats 41 = .ok (.getfield 53, 3) := by decide +kernel
theorem dX7_swapBeats_44 : decode cX7_swapBeats 44 = .ok (.bipush 7, 2) := by decide +kernel
theorem dX7_swapBeats_46 : decode cX7_swapBeats 46 = .ok (.iload_n 2, 1) := by decide +kernel
theorem dX7_swapBeats_47 : decode cX7_swapBeats 47 = .ok (.invokevirtual 269, 3) := by decide +kernel
theorem dX7_swapBeats_50 : decode cX7_swapBeats 50 = .ok (.ireturn, 1) := by decide +kernel
theorem dX7_swapBeats_51 : decode cX7_swapBeats 51 = .ok (.aload 4, 2) := by decide +kernel
theorem dX7_swapBeats_53 : decode cX7_swapBeats 53 = .ok (.iload_n 3, 1) := by decide +kernel
theorem dX7_swapBeats_54 : decode cX7_swapBeats 54 = .ok (.invokevirtual 134, 3) := by decide +kernel
theorem dX7_swapBeats_57 : decode cX7_swapBeats 57 = .ok (.iload_n 3, 1) := by decide +kernel
theorem dX7_swapBeats_58 : decode cX7_swapBeats 58 = .ok (.iload_n 2, 1) := by decide +kernel
theorem dX7_swapBeats_59 : decode cX7_swapBeats 59 = .ok (.isub, 1) := by decide +kernel
theorem dX7_swapBeats_60 : decode cX7_swapBeats 60 = .ok (.iadd, 1) := by decide +kernel
theorem dX7_swapBeats_61 : decode cX7_swapBeats 61 = .ok (.istore 5, 2) := by decide +kernel
theorem dX7_swapBeats_63 : decode cX7_swapBeats 63 = .ok (.aload 4, 2) := by decide +kernel
theorem dX7_swapBeats_65 : decode cX7_swapBeats 65 = .ok (.iload_n 2, 1) := by decide +kernel
theorem dX7_swapBeats_66 : decode cX7_swapBeats 66 = .ok (.invokevirtual 134, 3) := by decide +kernel
theorem dX7_swapBeats_69 : decode cX7_swapBeats 69 = .ok (.iload_n 3, 1) := by decide +kernel
theorem dX7_swapBeats_70 : decode cX7_swapBeats 70 = .ok (.iload_n 2, 1) := by decide +kernel
theorem dX7_swapBeats_71 : decode cX7_swapBeats 71 = .ok (.isub, 1) := by decide +kernel
theorem dX7_swapBeats_72 : decode cX7_swapBeats 72 = .ok (.isub, 1) := by decide +kernel
theorem dX7_swapBeats_73 : decode cX7_swapBeats 73 = .ok (.istore 6, 2) := by decide +kernel
theorem dX7_swapBeats_75 : decode cX7_swapBeats 75 = .ok (.iload 5, 2) := by decide +kernel
theorem dX7_swapBeats_77 : decode cX7_swapBeats 77 = .ok (.bipush 9, 2) := by decide +kernel
theorem dX7_swapBeats_79 : decode cX7_swapBeats 79 = .ok (.if_icmp .le 13, 3) := by decide +kernel
theorem dX7_swapBeats_82 : decode cX7_swapBeats 82 = .ok (.aload_n 0, 1) := by decide +kernel
theorem dX7_swapBeats_83 : decode cX7_swapBeats 83 = .ok (.getfield 53, 3) := by decide +kernel
theorem dX7_swapBeats_86 : decode cX7_swapBeats 86 = .ok (.iconst 2, 1) := by decide +kernel
theorem dX7_swapBeats_87 : decode cX7_swapBeats 87 = .ok (.iload_n 2, 1) := by decide +kernel
theorem dX7_swapBeats_88 : decode cX7_swapBeats 88 = .ok (.invokevirtual 269, 3) := by decide +kernel
theorem dX7_swapBeats_91 : decode cX7_swapBeats 91 = .ok (.ireturn, 1) := by decide +kernel
theorem dX7_swapBeats_92 : decode cX7_swapBeats 92 = .ok (.iload 6, 2) := by decide +kernel
theorem dX7_swapBeats_94 : decode cX7_swapBeats 94 = .ok (.ifCond .ge 13, 3) := by decide +kernel
theorem dX7_swapBeats_97 : decode cX7_swapBeats 97 = .ok (.aload_n 0, 1) := by decide +kernel
theorem dX7_swapBeats_98 : decode cX7_swapBeats 98 = .ok (.getfield 53, 3) := by decide +kernel
theorem dX7_swapBeats_101 : decode cX7_swapBeats 101 = .ok (.iconst 2, 1) := by decide +kernel
theorem dX7_swapBeats_102 : decode cX7_swapBeats 102 = .ok (.iload_n 3, 1) := by decide +kernel
theorem dX7_swapBeats_103 : decode cX7_swapBeats 103 = .ok (.invokevirtual 269, 3) := by decide +kernel
theorem dX7_swapBeats_106 : decode cX7_swapBeats 106 = .ok (.ireturn, 1) := by decide +kernel
theorem dX7_swapBeats_107 : decode cX7_swapBeats 107 = .ok (.aload 4, 2) := by decide +kernel
theorem dX7_swapBeats_109 : decode cX7_swapBeats 109 = .ok (.iload_n 2, 1) := by decide +kernel
theorem dX7_swapBeats_110 : decode cX7_swapBeats 110 = .ok (.iload 5, 2) := by decide +kernel
theorem dX7_swapBeats_112 : decode cX7_swapBeats 112 = .ok (.invokevirtual 281, 3) := by decide +kernel
theorem dX7_swapBeats_115 : decode cX7_swapBeats 115 = .ok (.aload 4, 2) := by decide +kernel
theorem dX7_swapBeats_117 : decode cX7_swapBeats 117 = .ok (.iload_n 3, 1) := by decide +kernel
theorem dX7_swapBeats_118 : decode cX7_swapBeats 118 = .ok (.iload 6, 2) := by decide +kernel
theorem dX7_swapBeats_120 : decode cX7_swapBeats 120 = .ok (.invokevirtual 281, 3) := by decide +kernel
theorem dX7_swapBeats_123 : decode cX7_swapBeats 123 = .ok (.iload 5, 2) := by decide +kernel
theorem dX7_swapBeats_125 : decode cX7_swapBeats 125 = .ok (.ireturn, 1) := by decide +kernel
theorem dX7_liftRow_0 : decode cX7_liftRow 0 = .ok (.aload_n 0, 1) := by decide +kernel
theorem dX7_liftRow_1 : decode cX7_liftRow 1 = .ok (.getfield 10, 3) := by decide +kernel
theorem dX7_liftRow_4 : decode cX7_liftRow 4 = .ok (.iload_n 1, 1) := by decide +kernel
theorem dX7_liftRow_5 : decode cX7_liftRow 5 = .ok (.invokevirtual 98, 3) := by decide +kernel
theorem dX7_liftRow_8 : decode cX7_liftRow 8 = .ok (.astore_n 2, 1) := by decide +kernel
theorem dX7_liftRow_9 : decode cX7_liftRow 9 = .ok (.aload_n 2, 1) := by decide +kernel
theorem dX7_liftRow_10 : decode cX7_liftRow 10 = .ok (.ifnonnull 5, 3) := by decide +kernel
theorem dX7_liftRow_13 : decode cX7_liftRow 13 = .ok (.iconst (-1), 1) := by decide +kernel
theorem dX7_liftRow_14 : decode cX7_liftRow 14 = .ok (.ireturn, 1) := by decide +kernel
theorem dX7_liftRow_15 : decode cX7_liftRow 15 = .ok (.iconst 0, 1) := by decide +kernel
theorem dX7_liftRow_16 : decode cX7_liftRow 16 = .ok (.istore_n 3, 1) := by decide +kernel
theorem dX7_liftRow_17 : decode cX7_liftRow 17 = .ok (.iload_n 3, 1) := by decide +kernel
theorem dX7_liftRow_18 : decode cX7_liftRow 18 = .ok (.aload_n 2, 1) := by decide +kernel
theorem dX7_liftRow_19 : decode cX7_liftRow 19 = .ok (.getfield 102, 3) := by decide +kernel
theorem dX7_liftRow_22 : decode cX7_liftRow 22 = .ok (.if_icmp .ge 29, 3) := by decide +kernel
theorem dX7_liftRow_25 : decode cX7_liftRow 25 = .ok (.aload_n 2, 1) := by decide +kernel
theorem dX7_liftRow_26 : decode cX7_liftRow 26 = .ok (.iload_n 3, 1) := by decide +kernel
theorem dX7_liftRow_27 : decode cX7_liftRow 27 = .ok (.invokevirtual 134, 3) := by decide +kernel
theorem dX7_liftRow_30 : decode cX7_liftRow 30 = .ok (.bipush 9, 2) := by decide +kernel
theorem dX7_liftRow_32 : decode cX7_liftRow 32 = .ok (.if_icmp .lt 13, 3) := by decide +kernel
theorem dX7_liftRow_35 : decode cX7_liftRow 35 = .ok (.aload_n 0, 1) := by decide +kernel
theorem dX7_liftRow_36 : decode cX7_liftRow 36 = .ok (.getfield 53, 3) := by decide +kernel
theorem dX7_liftRow_39 : decode cX7_liftRow 39 = .ok (.iconst 2, 1) := by decide +kernel
theorem dX7_liftRow_40 : decode cX7_liftRow 40 = .ok (.iload_n 3, 1) := by decide +kernel
theorem dX7_liftRow_41 : decode cX7_liftRow 41 = .ok (.invokevirtual 269, 3) := by decide +kernel
theorem dX7_liftRow_44 : decode cX7_liftRow 44 = .ok (.ireturn, 1) := by decide +kernel
theorem dX7_liftRow_45 : decode cX7_liftRow 45 = .ok (.iinc 3 1, 3) := by decide +kernel
theorem dX7_liftRow_48 : decode cX7_liftRow 48 = .ok (.goto (-31), 3) := by decide +kernel
theorem dX7_liftRow_51 : decode cX7_liftRow 51 = .ok (.iconst 0, 1) := by decide +kernel
theorem dX7_liftRow_52 : decode cX7_liftRow 52 = .ok (.istore_n 3, 1) := by decide +kernel
theorem dX7_liftRow_53 : decode cX7_liftRow 53 = .ok (.iload_n 3, 1) := by decide +kernel
theorem dX7_liftRow_54 : decode cX7_liftRow 54 = .ok (.aload_n 2, 1) := by decide +kernel
theorem dX7_liftRow_55 : decode cX7_liftRow 55 = .ok (.getfield 102, 3) := by decide +kernel
theorem dX7_liftRow_58 : decode cX7_liftRow 58 = .ok (.if_icmp .ge 21, 3) := by decide +kernel
theorem dX7_liftRow_61 : decode cX7_liftRow 61 = .ok (.aload_n 2, 1) := by decide +kernel
theorem dX7_liftRow_62 : decode cX7_liftRow 62 = .ok (.iload_n 3, 1) := by decide +kernel
theorem dX7_liftRow_63 : decode cX7_liftRow 63 = .ok (.aload_n 2, 1) := by decide +kernel
theorem dX7_liftRow_64 : decode cX7_liftRow 64 = .ok (.iload_n 3, 1) := by decide +kernel
theorem dX7_liftRow_65 : decode cX7_liftRow 65 = .ok (.invokevirtual 134, 3) := by decide +kernel
theorem dX7_liftRow_68 : decode cX7_liftRow 68 = .ok (.iconst 1, 1) := by decide +kernel
theorem dX7_liftRow_69 : decode cX7_liftRow 69 = .ok (.iadd, 1) := by decide +kernel
theorem dX7_liftRow_70 : decode cX7_liftRow 70 = .ok (.invokevirtual 281, 3) := by decide +kernel
theorem dX7_liftRow_73 : decode cX7_liftRow 73 = .ok (.iinc 3 1, 3) := by decide +kernel
theorem dX7_liftRow_76 : decode cX7_liftRow 76 = .ok (.goto (-23), 3) := by decide +kernel
theorem dX7_liftRow_79 : decode cX7_liftRow 79 = .ok (.aload_n 2, 1) := by decide +kernel
theorem dX7_liftRow_80 : decode cX7_liftRow 80 = .ok (.invokevirtual 112, 3) := by decide +kernel
theorem dX7_liftRow_83 : decode cX7_liftRow 83 = .ok (.ireturn, 1) := by decide +kernel
theorem dX7_beginWith_0 : decode cX7_beginWith 0 = .ok (.iload_n 1, 1) := by decide +kernel
theorem dX7_beginWith_1 : decode cX7_beginWith 1 = .ok (.iconst 1, 1) := by decide +kernel
theorem dX7_beginWith_2 : decode cX7_beginWith 2 = .ok (.if_icmp .lt 9, 3) := by decide +kernel
theorem dX7_beginWith_5 : decode cX7_beginWith 5 = .ok (.iload_n 1, 1) := by decide +kernel
theorem dX7_beginWith_6 : decode cX7_beginWith 6 = .ok (.bipush 8, 2) := by decide +kernel
theorem dX7_beginWith_8 : decode cX7_beginWith 8 = .ok (.if_icmp .le 6, 3) := by decide +kernel
theorem dX7_beginWith_11 : decode cX7_beginWith 11 = .ok (.bipush (-2), 2) := by decide +kernel
theorem dX7_beginWith_13 : decode cX7_beginWith 13 = .ok (.ireturn, 1) := by decide +kernel
theorem dX7_beginWith_14 : decode cX7_beginWith 14 = .ok (.aload_n 0, 1) := by decide +kernel
theorem dX7_beginWith_15 : decode cX7_beginWith 15 = .ok (.getfield 10, 3) := by decide +kernel
theorem dX7_beginWith_18 : decode cX7_beginWith 18 = .ok (.iconst 1, 1) := by decide +kernel
theorem dX7_beginWith_19 : decode cX7_beginWith 19 = .ok (.iload_n 1, 1) := by decide +kernel
theorem dX7_beginWith_20 : decode cX7_beginWith 20 = .ok (.ishl, 1) := by decide +kernel
theorem dX7_beginWith_21 : decode cX7_beginWith 21 = .ok (.iconst 1, 1) := by decide +kernel
theorem dX7_beginWith_22 : decode cX7_beginWith 22 = .ok (.isub, 1) := by decide +kernel
theorem dX7_beginWith_23 : decode cX7_beginWith 23 = .ok (.putfield 144, 3) := by decide +kernel
theorem dX7_beginWith_26 : decode cX7_beginWith 26 = .ok (.aload_n 0, 1) := by decide +kernel
theorem dX7_beginWith_27 : decode cX7_beginWith 27 = .ok (.getfield 10, 3) := by decide +kernel
theorem dX7_beginWith_30 : decode cX7_beginWith 30 = .ok (.iconst 0, 1) := by decide +kernel
theorem dX7_beginWith_31 : decode cX7_beginWith 31 = .ok (.putfield 148, 3) := by decide +kernel
theorem dX7_beginWith_34 : decode cX7_beginWith 34 = .ok (.aload_n 0, 1) := by decide +kernel
theorem dX7_beginWith_35 : decode cX7_beginWith 35 = .ok (.getfield 10, 3) := by decide +kernel
theorem dX7_beginWith_38 : decode cX7_beginWith 38 = .ok (.dup, 1) := by decide +kernel
theorem dX7_beginWith_39 : decode cX7_beginWith 39 = .ok (.getfield 239, 3) := by decide +kernel
theorem dX7_beginWith_42 : decode cX7_beginWith 42 = .ok (.iconst 1, 1) := by decide +kernel
theorem dX7_beginWith_43 : decode cX7_beginWith 43 = .ok (.iadd, 1) := by decide +kernel
theorem dX7_beginWith_44 : decode cX7_beginWith 44 = .ok (.putfield 239, 3) := by decide +kernel
theorem dX7_beginWith_47 : decode cX7_beginWith 47 = .ok (.aload_n 0, 1) := by decide +kernel
theorem dX7_beginWith_48 : decode cX7_beginWith 48 = .ok (.getfield 10, 3) := by decide +kernel
theorem dX7_beginWith_51 : decode cX7_beginWith 51 = .ok (.getfield 144, 3) := by decide +kernel
theorem dX7_beginWith_54 : decode cX7_beginWith 54 = .ok (.ireturn, 1) := by decide +kernel
theorem dX7_makeThrow_0 : decode cX7_makeThrow 0 = .ok (.iload_n 1, 1) := by decide +kernel
theorem dX7_makeThrow_1 : decode cX7_makeThrow 1 = .ok (.ifCond .lt 9, 3) := by decide +kernel
theorem dX7_makeThrow_4 : decode cX7_makeThrow 4 = .ok (.iload_n 1, 1) := by decide +kernel
theorem dX7_makeThrow_5 : decode cX7_makeThrow 5 = .ok (.bipush 9, 2) := by decide +kernel
theorem dX7_makeThrow_7 : decode cX7_makeThrow 7 = .ok (.if_icmp .le 6, 3) := by decide +kernel
theorem dX7_makeThrow_10 : decode cX7_makeThrow 10 = .ok (.bipush (-2), 2) := by decide +kernel
theorem dX7_makeThrow_12 : decode cX7_makeThrow 12 = .ok (.ireturn, 1) := by decide +kernel
theorem dX7_makeThrow_13 : decode cX7_makeThrow 13 = .ok (.aload_n 0, 1) := by decide +kernel
theorem dX7_makeThrow_14 : decode cX7_makeThrow 14 = .ok (.getfield 10, 3) := by decide +kernel
theorem dX7_makeThrow_17 : decode cX7_makeThrow 17 = .ok (.invokevirtual 147, 3) := by decide +kernel
theorem dX7_makeThrow_20 : decode cX7_makeThrow 20 = .ok (.ifCond .ne 20, 3) := by decide +kernel
theorem dX7_makeThrow_23 : decode cX7_makeThrow 23 = .ok (.aload_n 0, 1) := by decide +kernel
theorem dX7_makeThrow_24 : decode cX7_makeThrow 24 = .ok (.getfield 53, 3) := by decide +kernel
theorem dX7_makeThrow_27 : decode cX7_makeThrow 27 = .ok (.bipush 6, 2) := by decide +kernel
theorem dX7_makeThrow_29 : decode cX7_makeThrow 29 = .ok (.aload_n 0, 1) := by decide +kernel
theorem dX7_makeThrow_30 : decode cX7_makeThrow 30 = .ok (.getfield 10, 3) := by decide +kernel
theorem dX7_makeThrow_33 : decode cX7_makeThrow 33 = .ok (.getfield 148, 3) := by decide +kernel
theorem dX7_makeThrow_36 : decode cX7_makeThrow 36 = .ok (.invokevirtual 269, 3) := by decide +kernel
theorem dX7_makeThrow_39 : decode cX7_makeThrow 39 = .ok (.ireturn, 1) := by decide +kernel
theorem dX7_makeThrow_40 : decode cX7_makeThrow 40 = .ok (.aload_n 0, 1) := by decide +kernel
theorem dX7_makeThrow_41 : decode cX7_makeThrow 41 = .ok (.getfield 10, 3) := by decide +kernel
theorem dX7_makeThrow_44 : decode cX7_makeThrow 44 = .ok (.getfield 144, 3) := by decide +kernel
theorem dX7_makeThrow_47 : decode cX7_makeThrow 47 = .ok (.iload_n 1, 1) := by decide +kernel
theorem dX7_makeThrow_48 : decode cX7_makeThrow 48 = .ok (.invokestatic 154, 3) := by decide +kernel
theorem dX7_makeThrow_51 : decode cX7_makeThrow 51 = .ok (.ifCond .ne 19, 3) := by decide +kernel
theorem dX7_makeThrow_54 : decode cX7_makeThrow 54 = .ok (.aload_n 0, 1) := by decide +kernel
theorem dX7_makeThrow_55 : decode cX7_makeThrow 55 = .ok (.getfield 53, 3) := by decide +kernel
theorem dX7_makeThrow_58 : decode cX7_makeThrow 58 = .ok (.iconst 4, 1) := by decide +kernel
theorem dX7_makeThrow_59 : decode cX7_makeThrow 59 = .ok (.aload_n 0, 1) := by decide +kernel
theorem dX7_makeThrow_60 : decode cX7_makeThrow 60 = .ok (.getfield 10, 3) := by decide +kernel
theorem dX7_makeThrow_63 : decode cX7_makeThrow 63 = .ok (.getfield 144, 3) := by decide +kernel
theorem dX7_makeThrow_66 : decode cX7_makeThrow 66 = .ok (.invokevirtual 269, 3) := by decide +kernel
theorem dX7_makeThrow_69 : decode cX7_makeThrow 69 = .ok (.ireturn, 1) := by decide +kernel
theorem dX7_makeThrow_70 : decode cX7_makeThrow 70 = .ok (.aload_n 0, 1) := by decide +kernel
theorem dX7_makeThrow_71 : decode cX7_makeThrow 71 = .ok (.getfield 10, 3) := by decide +kernel
theorem dX7_makeThrow_74 : decode cX7_makeThrow 74 = .ok (.getfield 148, 3) := by decide +kernel
theorem dX7_makeThrow_77 : decode cX7_makeThrow 77 = .ok (.iconst 1, 1) := by decide +kernel
theorem dX7_makeThrow_78 : decode cX7_makeThrow 78 = .ok (.iand, 1) := by decide +kernel
theorem dX7_makeThrow_79 : decode cX7_makeThrow 79 = .ok (.istore_n 2, 1) := by decide +kernel
theorem dX7_makeThrow_80 : decode cX7_makeThrow 80 = .ok (.aload_n 0, 1) := by decide +kernel
theorem dX7_makeThrow_81 : decode cX7_makeThrow 81 = .ok (.getfield 10, 3) := by decide +kernel
theorem dX7_makeThrow_84 : decode cX7_makeThrow 84 = .ok (.iload_n 1, 1) := by decide +kernel
theorem dX7_makeThrow_85 : decode cX7_makeThrow 85 = .ok (.invokevirtual 285, 3) := by decide +kernel
theorem dX7_makeThrow_88 : decode cX7_makeThrow 88 = .ok (.iload_n 2, 1) := by decide +kernel
theorem dX7_makeThrow_89 : decode cX7_makeThrow 89 = .ok (.ireturn, 1) := by decide +kernel
theorem dX7_makeJoin_0 : decode cX7_makeJoin 0 = .ok (.aload_n 0, 1) := by decide +kernel
theorem dX7_makeJoin_1 : decode cX7_makeJoin 1 = .ok (.getfield 10, 3) := by decide +kernel
theorem dX7_makeJoin_4 : decode cX7_makeJoin 4 = .ok (.iload_n 1, 1) := by decide +kernel
theorem dX7_makeJoin_5 : decode cX7_makeJoin 5 = .ok (.invokevirtual 98, 3) := by decide +kernel
theorem dX7_makeJoin_8 : decode cX7_makeJoin 8 = .ok (.astore_n 2, 1) := by decide +kernel
theorem dX7_makeJoin_9 : decode cX7_makeJoin 9 = .ok (.aload_n 2, 1) := by decide +kernel
theorem dX7_makeJoin_10 : decode cX7_makeJoin 10 = .ok (.ifnonnull 5, 3) := by decide +kernel
theorem dX7_makeJoin_13 : decode cX7_makeJoin 13 = .ok (.iconst (-1), 1) := by decide +kernel
theorem dX7_makeJoin_14 : decode cX7_makeJoin 14 = .ok (.ireturn, 1) := by decide +kernel
theorem dX7_makeJoin_15 : decode cX7_makeJoin 15 = .ok (.aload_n 0, 1) := by decide +kernel
theorem dX7_makeJoin_16 : decode cX7_makeJoin 16 = .ok (.aload_n 2, 1) := by decide +kernel
theorem dX7_makeJoin_17 : decode cX7_makeJoin 17 = .ok (.invokevirtual 288, 3) := by decide +kernel
theorem dX7_makeJoin_20 : decode cX7_makeJoin 20 = .ok (.ifCond .eq 6, 3) := by decide +kernel
theorem dX7_makeJoin_23 : decode cX7_makeJoin 23 = .ok (.bipush (-3), 2) := by decide +kernel
theorem dX7_makeJoin_25 : decode cX7_makeJoin 25 = .ok (.ireturn, 1) := by decide +kernel
theorem dX7_makeJoin_26 : decode cX7_makeJoin 26 = .ok (.aload_n 0, 1) := by decide +kernel
theorem dX7_makeJoin_27 : decode cX7_makeJoin 27 = .ok (.getfield 32, 3) := by decide +kernel
theorem dX7_makeJoin_30 : decode cX7_makeJoin 30 = .ok (.aload_n 0, 1) := by decide +kernel
theorem dX7_makeJoin_31 : decode cX7_makeJoin 31 = .ok (.getfield 10, 3) := by decide +kernel
theorem dX7_makeJoin_34 : decode cX7_makeJoin 34 = .ok (.getfield 144, 3) := by decide +kernel
theorem dX7_makeJoin_37 : decode cX7_makeJoin 37 = .ok (.aload_n 2, 1) := by decide +kernel
theorem dX7_makeJoin_38 : decode cX7_makeJoin 38 = .ok (.iconst 0, 1) := by decide +kernel
theorem dX7_makeJoin_39 : decode cX7_makeJoin 39 = .ok (.invokevirtual 141, 3) := by decide +kernel
theorem dX7_makeJoin_42 : decode cX7_makeJoin 42 = .ok (.invokevirtual 168, 3) := by decide +kernel
theorem dX7_makeJoin_45 : decode cX7_makeJoin 45 = .ok (.istore_n 3, 1) := by decide +kernel
theorem dX7_makeJoin_46 : decode cX7_makeJoin 46 = .ok (.iconst 0, 1) := by decide +kernel
theorem dX7_makeJoin_47 : decode cX7_makeJoin 47 = .ok (.istore 4, 2) := by decide +kernel
theorem dX7_makeJoin_49 : decode cX7_makeJoin 49 = .ok (.iload 4, 2) := by decide +kernel
theorem dX7_makeJoin_51 : decode cX7_makeJoin 51 = .ok (.iload_n 3, 1) := by decide +kernel
theorem dX7_makeJoin_52 : decode cX7_makeJoin 52 = .ok (.if_icmp .ge 25, 3) := by decide +kernel
theorem dX7_makeJoin_55 : decode cX7_makeJoin 55 = .ok (.aload_n 0, 1) := by decide +kernel
theorem dX7_makeJoin_56 : decode cX7_makeJoin 56 = .ok (.getfield 10, 3) := by decide +kernel
theorem dX7_makeJoin_59 : decode cX7_makeJoin 59 = .ok (.aload_n 0, 1) := by decide +kernel
theorem dX7_makeJoin_60 : decode cX7_makeJoin 60 = .ok (.getfield 32, 3) := by decide +kernel
theorem dX7_makeJoin_63 : decode cX7_makeJoin 63 = .ok (.iload 4, 2) := by decide +kernel
theorem dX7_makeJoin_65 : decode cX7_makeJoin 65 = .ok (.invokevirtual 171, 3) := by decide +kernel
theorem dX7_makeJoin_68 : decode cX7_makeJoin 68 = .ok (.invokevirtual 285, 3) := by decide +kernel
theorem dX7_makeJoin_71 : decode cX7_makeJoin 71 = .ok (.iinc 4 1, 3) := by decide +kernel
theorem dX7_makeJoin_74 : decode cX7_makeJoin 74 = .ok (.goto (-25), 3) := by decide +kernel
theorem dX7_makeJoin_77 : decode cX7_makeJoin 77 = .ok (.aload_n 0, 1) := by decide +kernel
theorem dX7_makeJoin_78 : decode cX7_makeJoin 78 = .ok (.getfield 10, 3) := by decide +kernel
theorem dX7_makeJoin_81 : decode cX7_makeJoin 81 = .ok (.dup, 1) := by decide +kernel
theorem dX7_makeJoin_82 : decode cX7_makeJoin 82 = .ok (.getfield 236, 3) := by decide +kernel
theorem dX7_makeJoin_85 : decode cX7_makeJoin 85 = .ok (.iconst 1, 1) := by decide +kernel
theorem dX7_makeJoin_86 : decode cX7_makeJoin 86 = .ok (.iadd, 1) := by decide +kernel
theorem dX7_makeJoin_87 : decode cX7_makeJoin 87 = .ok (.putfield 236, 3) := by decide +kernel
theorem dX7_makeJoin_90 : decode cX7_makeJoin 90 = .ok (.iload_n 3, 1) := by decide +kernel
theorem dX7_makeJoin_91 : decode cX7_makeJoin 91 = .ok (.ireturn, 1) := by decide +kernel
theorem dX7_makeRowOnce_0 : decode cX7_makeRowOnce 0 = .ok (.aload_n 0, 1) := by decide +kernel
theorem dX7_makeRowOnce_1 : decode cX7_makeRowOnce 1 = .ok (.getfield 10, 3) := by decide +kernel
theorem dX7_makeRowOnce_4 : decode cX7_makeRowOnce 4 = .ok (.iload_n 1, 1) := by decide +kernel
theorem dX7_makeRowOnce_5 : decode cX7_makeRowOnce 5 = .ok (.invokevirtual 98, 3) := by decide +kernel
theorem dX7_makeRowOnce_8 : decode cX7_makeRowOnce 8 = .ok (.astore_n 2, 1) := by decide +kernel
theorem dX7_makeRowOnce_9 : decode cX7_makeRowOnce 9 = .ok (.aload_n 2, 1) := by decide +kernel
theorem dX7_makeRowOnce_10 : decode cX7_makeRowOnce 10 = .ok (.ifnonnull 5, 3) := by decide +kernel
theorem dX7_makeRowOnce_13 : decode cX7_makeRowOnce 13 = .ok (.iconst (-1), 1) := by decide +kernel
theorem dX7_makeRowOnce_14 : decode cX7_makeRowOnce 14 = .ok (.ireturn, 1) := by decide +kernel
theorem dX7_makeRowOnce_15 : decode cX7_makeRowOnce 15 = .ok (.aload_n 0, 1) := by decide +kernel
theorem dX7_makeRowOnce_16 : decode cX7_makeRowOnce 16 = .ok (.aload_n 2, 1) := by decide +kernel
theorem dX7_makeRowOnce_17 : decode cX7_makeRowOnce 17 = .ok (.invokevirtual 288, 3) := by decide +kernel
theorem dX7_makeRowOnce_20 : decode cX7_makeRowOnce 20 = .ok (.ifCond .eq 6, 3) := by decide +kernel
theorem dX7_makeRowOnce_23 : decode cX7_makeRowOnce 23 = .ok (.bipush (-3), 2) := by decide +kernel
theorem dX7_makeRowOnce_25 : decode cX7_makeRowOnce 25 = .ok (.ireturn, 1) := by decide +kernel
theorem dX7_makeRowOnce_26 : decode cX7_makeRowOnce 26 = .ok (.aload_n 0, 1) := by decide +kernel
theorem dX7_makeRowOnce_27 : decode cX7_makeRowOnce 27 = .ok (.getfield 10, 3) := by decide +kernel
theorem dX7_makeRowOnce_30 : decode cX7_makeRowOnce 30 = .ok (.getfield 144, 3) := by decide +kernel
theorem dX7_makeRowOnce_33 : decode cX7_makeRowOnce 33 = .ok (.aload_n 2, 1) := by decide +kernel
theorem dX7_makeRowOnce_34 : decode cX7_makeRowOnce 34 = .ok (.iconst 0, 1) := by decide +kernel
theorem dX7_makeRowOnce_35 : decode cX7_makeRowOnce 35 = .ok (.invokevirtual 141, 3) := by decide +kernel
theorem dX7_makeRowOnce_38 : decode cX7_makeRowOnce 38 = .ok (.if_icmp .eq 19, 3) := by decide +kernel
theorem dX7_makeRowOnce_41 : decode cX7_makeRowOnce 41 = .ok (.aload_n 0, 1) := by decide +kernel
theorem dX7_makeRowOnce_42 : decode cX7_makeRowOnce 42 = .ok (.getfield 53, 3) := by decide +kernel
theorem dX7_makeRowOnce_45 : decode cX7_makeRowOnce 45 = .ok (.iconst 4, 1) := by decide +kernel
theorem dX7_makeRowOnce_46 : decode cX7_makeRowOnce 46 = .ok (.aload_n 0, 1) := by decide +kernel
theorem dX7_makeRowOnce_47 : decode cX7_makeRowOnce 47 = .ok (.getfield 10, 3) := by decide +kernel
theorem dX7_makeRowOnce_50 : decode cX7_makeRowOnce 50 = .ok (.getfield 144, 3) := by decide +kernel
theorem dX7_makeRowOnce_53 : decode cX7_makeRowOnce 53 = .ok (.invokevirtual 269, 3) := by decide +kernel
theorem dX7_makeRowOnce_56 : decode cX7_makeRowOnce 56 = .ok (.ireturn, 1) := by decide +kernel
theorem dX7_makeRowOnce_57 : decode cX7_makeRowOnce 57 = .ok (.iconst 0, 1) := by decide +kernel
theorem dX7_makeRowOnce_58 : decode cX7_makeRowOnce 58 = .ok (.istore_n 3, 1) := by decide +kernel
theorem dX7_makeRowOnce_59 : decode cX7_makeRowOnce 59 = .ok (.iload_n 3, 1) := by decide +kernel
theorem dX7_makeRowOnce_60 : decode cX7_makeRowOnce 60 = .ok (.aload_n 2, 1) := by decide +kernel
theorem dX7_makeRowOnce_61 : decode cX7_makeRowOnce 61 = .ok (.getfield 102, 3) := by decide +kernel
theorem dX7_makeRowOnce_64 : decode cX7_makeRowOnce 64 = .ok (.if_icmp .ge 21, 3) := by decide +kernel
theorem dX7_makeRowOnce_67 : decode cX7_makeRowOnce 67 = .ok (.aload_n 0, 1) := by decide +kernel
theorem dX7_makeRowOnce_68 : decode cX7_makeRowOnce 68 = .ok (.getfield 10, 3) := by decide +kernel
theorem dX7_makeRowOnce_71 : decode cX7_makeRowOnce 71 = .ok (.aload_n 2, 1) := by decide +kernel
theorem dX7_makeRowOnce_72 : decode cX7_makeRowOnce 72 = .ok (.iload_n 3, 1) := by decide +kernel
theorem dX7_makeRowOnce_73 : decode cX7_makeRowOnce 73 = .ok (.invokevirtual 134, 3) := by decide +kernel
theorem dX7_makeRowOnce_76 : decode cX7_makeRowOnce 76 = .ok (.invokevirtual 285, 3) := by decide +kernel
theorem dX7_makeRowOnce_79 : decode cX7_makeRowOnce 79 = .ok (.iinc 3 1, 3) := by decide +kernel
theorem dX7_makeRowOnce_82 : decode cX7_makeRowOnce 82 = .ok (.goto (-23), 3) := by decide +kernel
theorem dX7_makeRowOnce_85 : decode cX7_makeRowOnce 85 = .ok (.aload_n 2, 1) := by decide +kernel
theorem dX7_makeRowOnce_86 : decode cX7_makeRowOnce 86 = .ok (.getfield 102, 3) := by decide +kernel
theorem dX7_makeRowOnce_89 : decode cX7_makeRowOnce 89 = .ok (.ireturn, 1) := by decide +kernel
theorem dX7_isOutOfReach_0 : decode cX7_isOutOfReach 0 = .ok (.aload_n 0, 1) := by decide +kernel
theorem dX7_isOutOfReach_1 : decode cX7_isOutOfReach 1 = .ok (.getfield 10, 3) := by decide +kernel
theorem dX7_isOutOfReach_4 : decode cX7_isOutOfReach 4 = .ok (.invokevirtual 147, 3) := by decide +kernel
theorem dX7_isOutOfReach_7 : decode cX7_isOutOfReach 7 = .ok (.ifCond .ne 22, 3) := by decide +kernel
theorem dX7_isOutOfReach_10 : decode cX7_isOutOfReach 10 = .ok (.aload_n 0, 1) := by decide +kernel
theorem dX7_isOutOfReach_11 : decode cX7_isOutOfReach 11 = .ok (.getfield 53, 3) := by decide +kernel
theorem dX7_isOutOfReach_14 : decode cX7_isOutOfReach 14 = .ok (.bipush 6, 2) := by decide +kernel
theorem dX7_isOutOfReach_16 : decode cX7_isOutOfReach 16 = .ok (.aload_n 0, 1) := by decide +kernel
theorem dX7_isOutOfReach_17 : decode cX7_isOutOfReach 17 = .ok (.getfield 10, 3) := by decide +kernel
theorem dX7_isOutOfReach_20 : decode cX7_isOutOfReach 20 = .ok (.getfield 148, 3) := by decide +kernel
theorem dX7_isOutOfReach_23 : decode cX7_isOutOfReach 23 = .ok (.invokevirtual 269, 3) := by decide +kernel
theorem dX7_isOutOfReach_26 : decode cX7_isOutOfReach 26 = .ok (.pop, 1) := by decide +kernel
theorem dX7_isOutOfReach_27 : decode cX7_isOutOfReach 27 = .ok (.iconst 1, 1) := by decide +kernel
theorem dX7_isOutOfReach_28 : decode cX7_isOutOfReach 28 = .ok (.ireturn, 1) := by decide +kernel
theorem dX7_isOutOfReach_29 : decode cX7_isOutOfReach 29 = .ok (.aload_n 1, 1) := by decide +kernel
theorem dX7_isOutOfReach_30 : decode cX7_isOutOfReach 30 = .ok (.invokevirtual 115, 3) := by decide +kernel
theorem dX7_isOutOfReach_33 : decode cX7_isOutOfReach 33 = .ok (.istore_n 2, 1) := by decide +kernel
theorem dX7_isOutOfReach_34 : decode cX7_isOutOfReach 34 = .ok (.iload_n 2, 1) := by decide +kernel
theorem dX7_isOutOfReach_35 : decode cX7_isOutOfReach 35 = .ok (.bipush (-4), 2) := by decide +kernel
theorem dX7_isOutOfReach_37 : decode cX7_isOutOfReach 37 = .ok (.if_icmp .eq 15, 3) := by decide +kernel
theorem dX7_isOutOfReach_40 : decode cX7_isOutOfReach 40 = .ok (.aload_n 0, 1) := by decide +kernel
theorem dX7_isOutOfReach_41 : decode cX7_isOutOfReach 41 = .ok (.getfield 53, 3) := by decide +kernel
theorem dX7_isOutOfReach_44 : decode cX7_isOutOfReach 44 = .ok (.iconst 3, 1) := by decide +kernel
theorem dX7_isOutOfReach_45 : decode cX7_isOutOfReach 45 = .ok (.iload_n 2, 1) := by decide +kernel
theorem dX7_isOutOfReach_46 : decode cX7_isOutOfReach 46 = .ok (.invokevirtual 269, 3) := by decide +kernel
theorem dX7_isOutOfReach_49 : decode cX7_isOutOfReach 49 = .ok (.pop, 1) := by decide +kernel
theorem dX7_isOutOfReach_50 : decode cX7_isOutOfReach 50 = .ok (.iconst 1, 1) := by decide +kernel
theorem dX7_isOutOfReach_51 : decode cX7_isOutOfReach 51 = .ok (.ireturn, 1) := by decide +kernel
theorem dX7_isOutOfReach_52 : decode cX7_isOutOfReach 52 = .ok (.aload_n 1, 1) := by decide +kernel
theorem dX7_isOutOfReach_53 : decode cX7_isOutOfReach 53 = .ok (.invokevirtual 112, 3) := by decide +kernel
theorem dX7_isOutOfReach_56 : decode cX7_isOutOfReach 56 = .ok (.istore_n 3, 1) := by decide +kernel
theorem dX7_isOutOfReach_57 : decode cX7_isOutOfReach 57 = .ok (.iload_n 3, 1) := by decide +kernel
theorem dX7_isOutOfReach_58 : decode cX7_isOutOfReach 58 = .ok (.aload_n 0, 1) := by decide +kernel
theorem dX7_isOutOfReach_59 : decode cX7_isOutOfReach 59 = .ok (.getfield 10, 3) := by decide +kernel
theorem dX7_isOutOfReach_62 : decode cX7_isOutOfReach 62 = .ok (.invokevirtual 147, 3) := by decide +kernel
theorem dX7_isOutOfReach_65 : decode cX7_isOutOfReach 65 = .ok (.if_icmp .eq 15, 3) := by decide +kernel
theorem dX7_isOutOfReach_68 : decode cX7_isOutOfReach 68 = .ok (.aload_n 0, 1) := by decide +kernel
theorem dX7_isOutOfReach_69 : decode cX7_isOutOfReach 69 = .ok (.getfield 53, 3) := by decide +kernel
theorem dX7_isOutOfReach_72 : decode cX7_isOutOfReach 72 = .ok (.iconst 5, 1) := by decide +kernel
theorem dX7_isOutOfReach_73 : decode cX7_isOutOfReach 73 = .ok (.iload_n 3, 1) := by decide +kernel
theorem dX7_isOutOfReach_74 : decode cX7_isOutOfReach 74 = .ok (.invokevirtual 269, 3) := by decide +kernel
theorem dX7_isOutOfReach_77 : decode cX7_isOutOfReach 77 = .ok (.pop, 1) := by decide +kernel
theorem dX7_isOutOfReach_78 : decode cX7_isOutOfReach 78 = .ok (.iconst 1, 1) := by decide +kernel
theorem dX7_isOutOfReach_79 : decode cX7_isOutOfReach 79 = .ok (.ireturn, 1) := by decide +kernel
theorem dX7_isOutOfReach_80 : decode cX7_isOutOfReach 80 = .ok (.iconst 0, 1) := by decide +kernel
theorem dX7_isOutOfReach_81 : decode cX7_isOutOfReach 81 = .ok (.ireturn, 1) := by decide +kernel
theorem dX7_keepChange_0 : decode cX7_keepChange 0 = .ok (.iload_n 1, 1) := by decide +kernel
theorem dX7_keepChange_1 : decode cX7_keepChange 1 = .ok (.invokestatic 291, 3) := by decide +kernel
theorem dX7_keepChange_4 : decode cX7_keepChange 4 = .ok (.ifCond .ne 14, 3) := by decide +kernel
theorem dX7_keepChange_7 : decode cX7_keepChange 7 = .ok (.aload_n 0, 1) := by decide +kernel
theorem dX7_keepChange_8 : decode cX7_keepChange 8 = .ok (.getfield 25, 3) := by decide +kernel
theorem dX7_keepChange_11 : decode cX7_keepChange 11 = .ok (.aload_n 0, 1) := by decide +kernel
theorem dX7_keepChange_12 : decode cX7_keepChange 12 = .ok (.getfield 16, 3) := by decide +kernel
theorem dX7_keepChange_15 : decode cX7_keepChange 15 = .ok (.invokevirtual 294, 3) := by decide +kernel
theorem dX7_keepChange_18 : decode cX7_keepChange 18 = .ok (.iload_n 1, 1) := by decide +kernel
theorem dX7_keepChange_19 : decode cX7_keepChange 19 = .ok (.ireturn, 1) := by decide +kernel
theorem dX7_isError_0 : decode cX7_isError 0 = .ok (.iload_n 0, 1) := by decide +kernel
theorem dX7_isError_1 : decode cX7_isError 1 = .ok (.iconst (-1), 1) := by decide +kernel
theorem dX7_isError_2 : decode cX7_isError 2 = .ok (.if_icmp .eq 15, 3) := by decide +kernel
theorem dX7_isError_5 : decode cX7_isError 5 = .ok (.iload_n 0, 1) := by decide +kernel
theorem dX7_isError_6 : decode cX7_isError 6 = .ok (.bipush (-2), 2) := by decide +kernel
theorem dX7_isError_8 : decode cX7_isError 8 = .ok (.if_icmp .eq 9, 3) := by decide +kernel
theorem dX7_isError_11 : decode cX7_isError 11 = .ok (.iload_n 0, 1) := by decide +kernel
theorem dX7_isError_12 : decode cX7_isError 12 = .ok (.bipush (-3), 2) := by decide +kernel
theorem dX7_isError_14 : decode cX7_isError 14 = .ok (.if_icmp .ne 7, 3) := by decide +kernel
theorem dX7_isError_17 : decode cX7_isError 17 = .ok (.iconst 1, 1) := by decide +kernel
theorem dX7_isError_18 : decode cX7_isError 18 = .ok (.goto 4, 3) := by decide +kernel
theorem dX7_isError_21 : decode cX7_isError 21 = .ok (.iconst 0, 1) := by decide +kernel
theorem dX7_isError_22 : decode cX7_isError 22 = .ok (.ireturn, 1) := by decide +kernel
theorem dX7_carryOutAll_0 : decode cX7_carryOutAll 0 = .ok (.aload_n 0, 1) := by decide +kernel
theorem dX7_carryOutAll_1 : decode cX7_carryOutAll 1 = .ok (.getfield 16, 3) := by decide +kernel
theorem dX7_carryOutAll_4 : decode cX7_carryOutAll 4 = .ok (.aload_n 0, 1) := by decide +kernel
theorem dX7_carryOutAll_5 : decode cX7_carryOutAll 5 = .ok (.getfield 10, 3) := by decide +kernel
theorem dX7_carryOutAll_8 : decode cX7_carryOutAll 8 = .ok (.invokevirtual 61, 3) := by decide +kernel
theorem dX7_carryOutAll_11 : decode cX7_carryOutAll 11 = .ok (.iconst 0, 1) := by decide +kernel
theorem dX7_carryOutAll_12 : decode cX7_carryOutAll 12 = .ok (.istore_n 1, 1) := by decide +kernel
theorem dX7_carryOutAll_13 : decode cX7_carryOutAll 13 = .ok (.iconst 0, 1) := by decide +kernel
theorem dX7_carryOutAll_14 : decode cX7_carryOutAll 14 = .ok (.istore_n 2, 1) := by decide +kernel
theorem dX7_carryOutAll_15 : decode cX7_carryOutAll 15 = .ok (.iconst 0, 1) := by decide +kernel
theorem dX7_carryOutAll_16 : decode cX7_carryOutAll 16 = .ok (.istore_n 3, 1) := by decide +kernel
theorem dX7_carryOutAll_17 : decode cX7_carryOutAll 17 = .ok (.iload_n 3, 1) := by decide +kernel
theorem dX7_carryOutAll_18 : decode cX7_carryOutAll 18 = .ok (.bipush 70, 2) := by decide +kernel
theorem dX7_carryOutAll_20 : decode cX7_carryOutAll 20 = .ok (.if_icmp .ge 83, 3) := by decide +kernel
theorem dX7_carryOutAll_23 : decode cX7_carryOutAll 23 = .ok (.iload_n 2, 1) := by decide +kernel
theorem dX7_carryOutAll_24 : decode cX7_carryOutAll 24 = .ok (.aload_n 0, 1) := by decide +kernel
theorem dX7_carryOutAll_25 : decode cX7_carryOutAll 25 = .ok (.getfield 46, 3) := by decide +kernel
theorem dX7_carryOutAll_28 : decode cX7_carryOutAll 28 = .ok (.getfield 198, 3) := by decide +kernel
theorem dX7_carryOutAll_31 : decode cX7_carryOutAll 31 = .ok (.if_icmp .ge 72, 3) := by decide +kernel
theorem dX7_carryOutAll_34 : decode cX7_carryOutAll 34 = .ok (.aload_n 0, 1) := by decide +kernel
theorem dX7_carryOutAll_35 : decode cX7_carryOutAll 35 = .ok (.getfield 53, 3) := by decide +kernel
theorem dX7_carryOutAll_38 : decode cX7_carryOutAll 38 = .ok (.iload_n 3, 1) := by decide +kernel
theorem dX7_carryOutAll_39 : decode cX7_carryOutAll 39 = .ok (.putfield 205, 3) := by decide +kernel
theorem dX7_carryOutAll_42 : decode cX7_carryOutAll 42 = .ok (.aload_n 0, 1) := by decide +kernel
theorem dX7_carryOutAll_43 : decode cX7_carryOutAll 43 = .ok (.iload_n 2, 1) := by decide +kernel
theorem dX7_carryOutAll_44 : decode cX7_carryOutAll 44 = .ok (.invokevirtual 297, 3) := by decide +kernel
theorem dX7_carryOutAll_47 : decode cX7_carryOutAll 47 = .ok (.istore 4, 2) := by decide +kernel
theorem dX7_carryOutAll_49 : decode cX7_carryOutAll 49 = .ok (.iload 4, 2) := by decide +kernel
theorem dX7_carryOutAll_51 : decode cX7_carryOutAll 51 = .ok (.invokestatic 291, 3) := by decide +kernel
theorem dX7_carryOutAll_54 : decode cX7_carryOutAll 54 = .ok (.ifCond .eq 29, 3) := by decide +kernel
theorem dX7_carryOutAll_57 : decode cX7_carryOutAll 57 = .ok (.aload_n 0, 1) := by decide +kernel
theorem dX7_carryOutAll_58 : decode cX7_carryOutAll 58 = .ok (.getfield 10, 3) := by decide +kernel
theorem dX7_carryOutAll_61 : decode cX7_carryOutAll 61 = .ok (.aload_n 0, 1) := by decide +kernel
theorem dX7_carryOutAll_62 : decode cX7_carryOutAll 62 = .ok (.getfield 16, 3) := by decide +kernel
theorem dX7_carryOutAll_65 : decode cX7_carryOutAll 65 = .ok (.invokevirtual 61, 3) := by decide +kernel
theorem dX7_carryOutAll_68 : decode cX7_carryOutAll 68 = .ok (.iload 4, 2) := by decide +kernel
theorem dX7_carryOutAll_70 : decode cX7_carryOutAll 70 = .ok (.bipush (-3), 2) := by decide +kernel
theorem dX7_carryOutAll_72 : decode cX7_carryOutAll 72 = .ok (.if_icmp .ne 8, 3) := by decide +kernel
theorem dX7_carryOutAll_75 : decode cX7_carryOutAll 75 = .ok (.bipush (-3), 2) := by decide +kernel
theorem dX7_carryOutAll_77 : decode cX7_carryOutAll 77 = .ok (.goto 5, 3) := by decide +kernel
theorem dX7_carryOutAll_80 : decode cX7_carryOutAll 80 = .ok (.bipush (-2), 2) := by decide +kernel
theorem dX7_carryOutAll_82 : decode cX7_carryOutAll 82 = .ok (.ireturn, 1) := by decide +kernel
theorem dX7_carryOutAll_83 : decode cX7_carryOutAll 83 = .ok (.aload_n 0, 1) := by decide +kernel
theorem dX7_carryOutAll_84 : decode cX7_carryOutAll 84 = .ok (.getfield 46, 3) := by decide +kernel
theorem dX7_carryOutAll_87 : decode cX7_carryOutAll 87 = .ok (.iload_n 2, 1) := by decide +kernel
theorem dX7_carryOutAll_88 : decode cX7_carryOutAll 88 = .ok (.invokevirtual 300, 3) := by decide +kernel
theorem dX7_carryOutAll_91 : decode cX7_carryOutAll 91 = .ok (.iconst 1, 1) := by decide +kernel
theorem dX7_carryOutAll_92 : decode cX7_carryOutAll 92 = .ok (.iadd, 1) := by decide +kernel
theorem dX7_carryOutAll_93 : decode cX7_carryOutAll 93 = .ok (.istore_n 2, 1) := by decide +kernel
theorem dX7_carryOutAll_94 : decode cX7_carryOutAll 94 = .ok (.iinc 1 1, 3) := by decide +kernel
theorem dX7_carryOutAll_97 : decode cX7_carryOutAll 97 = .ok (.iinc 3 1, 3) := by decide +kernel
theorem dX7_carryOutAll_100 : decode cX7_carryOutAll 100 = .ok (.goto (-83), 3) := by decide +kernel
theorem dX7_carryOutAll_103 : decode cX7_carryOutAll 103 = .ok (.aload_n 0, 1) := by decide +kernel
theorem dX7_carryOutAll_104 : decode cX7_carryOutAll 104 = .ok (.getfield 25, 3) := by decide +kernel
theorem dX7_carryOutAll_107 : decode cX7_carryOutAll 107 = .ok (.aload_n 0, 1) := by decide +kernel
theorem dX7_carryOutAll_108 : decode cX7_carryOutAll 108 = .ok (.getfield 16, 3) := by decide +kernel
theorem dX7_carryOutAll_111 : decode cX7_carryOutAll 111 = .ok (.invokevirtual 294, 3) := by decide +kernel
theorem dX7_carryOutAll_114 : decode cX7_carryOutAll 114 = .ok (.iload_n 1, 1) := by decide +kernel
theorem dX7_carryOutAll_115 : decode cX7_carryOutAll 115 = .ok (.ireturn, 1) := by decide +kernel
theorem dX7_carryOut_0 : decode cX7_carryOut 0 = .ok (.aload_n 0, 1) := by decide +kernel
theorem dX7_carryOut_1 : decode cX7_carryOut 1 = .ok (.getfield 46, 3) := by decide +kernel
theorem dX7_carryOut_4 : decode cX7_carryOut 4 = .ok (.iload_n 1, 1) := by decide +kernel
theorem dX7_carryOut_5 : decode cX7_carryOut 5 = .ok (.iconst 1, 1) := by decide +kernel
theorem dX7_carryOut_6 : decode cX7_carryOut 6 = .ok (.iadd, 1) := by decide +kernel
theorem dX7_carryOut_7 : decode cX7_carryOut 7 = .ok (.invokevirtual 303, 3) := by decide +kernel
theorem dX7_carryOut_10 : decode cX7_carryOut 10 = .ok (.istore_n 2, 1) := by decide +kernel
theorem dX7_carryOut_11 : decode cX7_carryOut 11 = .ok (.aload_n 0, 1) := by decide +kernel
theorem dX7_carryOut_12 : decode cX7_carryOut 12 = .ok (.getfield 46, 3) := by decide +kernel
theorem dX7_carryOut_15 : decode cX7_carryOut 15 = .ok (.iload_n 1, 1) := by decide +kernel
theorem dX7_carryOut_16 : decode cX7_carryOut 16 = .ok (.invokevirtual 306, 3) := by decide +kernel
theorem dX7_carryOut_19 : decode cX7_carryOut 19 = .ok (.tableswitch 173 98 120 #[149, 161, 173, 173, 173, 173, 173, 173, 155, 173, 143, 173, 173, 173, 173, 173, 167, 117, 111, 173, 173, 173, 105], 105) := by decide +kernel
theorem dX7_carryOut_124 : decode cX7_carryOut 124 = .ok (.aload_n 0, 1) := by decide +kernel
theorem dX7_carryOut_125 : decode cX7_carryOut 125 = .ok (.iload_n 2, 1) := by decide +kernel
theorem dX7_carryOut_126 : decode cX7_carryOut 126 = .ok (.invokevirtual 73, 3) := by decide +kernel
theorem dX7_carryOut_129 : decode cX7_carryOut 129 = .ok (.ireturn, 1) := by decide +kernel
theorem dX7_carryOut_130 : decode cX7_carryOut 130 = .ok (.aload_n 0, 1) := by decide +kernel
theorem dX7_carryOut_131 : decode cX7_carryOut 131 = .ok (.iload_n 2, 1) := by decide +kernel
theorem dX7_carryOut_132 : decode cX7_carryOut 132 = .ok (.invokevirtual 76, 3) := by decide +kernel
theorem dX7_carryOut_135 : decode cX7_carryOut 135 = .ok (.ireturn, 1) := by decide +kernel
theorem dX7_carryOut_136 : decode cX7_carryOut 136 = .ok (.aload_n 0, 1) := by decide +kernel
theorem dX7_carryOut_137 : decode cX7_carryOut 137 = .ok (.iload_n 2, 1) := by decide +kernel
theorem dX7_carryOut_138 : decode cX7_carryOut 138 = .ok (.aload_n 0, 1) := by decide +kernel
theorem dX7_carryOut_139 : decode cX7_carryOut 139 = .ok (.getfield 46, 3) := by decide +kernel
theorem dX7_carryOut_142 : decode cX7_carryOut 142 = .ok (.iload_n 1, 1) := by decide +kernel
theorem dX7_carryOut_143 : decode cX7_carryOut 143 = .ok (.iconst 2, 1) := by decide +kernel
theorem dX7_carryOut_144 : decode cX7_carryOut 144 = .ok (.iadd, 1) := by decide +kernel
theorem dX7_carryOut_145 : decode cX7_carryOut 145 = .ok (.invokevirtual 303, 3) := by decide +kernel
theorem dX7_carryOut_148 : decode cX7_carryOut 148 = .ok (.aload_n 0, 1) := by decide +kernel
theorem dX7_carryOut_149 : decode cX7_carryOut 149 = .ok (.getfield 46, 3) := by decide +kernel
theorem dX7_carryOut_152 : decode cX7_carryOut 152 = .ok (.iload_n 1, 1) := by decide +kernel
theorem dX7_carryOut_153 : decode cX7_carryOut 153 = .ok (.iconst 3, 1) := by decide +kernel
theorem dX7_carryOut_154 : decode cX7_carryOut 154 = .ok (.iadd, 1) := by decide +kernel
theorem dX7_carryOut_155 : decode cX7_carryOut 155 = .ok (.invokevirtual 303, 3) := by decide +kernel
theorem dX7_carryOut_158 : decode cX7_carryOut 158 = .ok (.invokevirtual 79, 3) := by decide +kernel
theorem dX7_carryOut_161 : decode cX7_carryOut 161 = .ok (.ireturn, 1) := by decide +kernel
theorem dX7_carryOut_162 : decode cX7_carryOut 162 = .ok (.aload_n 0, 1) := by decide +kernel
theorem dX7_carryOut_163 : decode cX7_carryOut 163 = .ok (.iload_n 2, 1) := by decide +kernel
theorem dX7_carryOut_164 : decode cX7_carryOut 164 = .ok (.invokevirtual 83, 3) := by decide +kernel
theorem dX7_carryOut_167 : decode cX7_carryOut 167 = .ok (.ireturn, 1) := by decide +kernel
theorem dX7_carryOut_168 : decode cX7_carryOut 168 = .ok (.aload_n 0, 1) := by decide +kernel
theorem dX7_carryOut_169 : decode cX7_carryOut 169 = .ok (.iload_n 2, 1) := by decide +kernel
theorem dX7_carryOut_170 : decode cX7_carryOut 170 = .ok (.invokevirtual 86, 3) := by decide +kernel
theorem dX7_carryOut_173 : decode cX7_carryOut 173 = .ok (.ireturn, 1) := by decide +kernel
theorem dX7_carryOut_174 : decode cX7_carryOut 174 = .ok (.aload_n 0, 1) := by decide +kernel
theorem dX7_carryOut_175 : decode cX7_carryOut 175 = .ok (.iload_n 2, 1) := by decide +kernel
theorem dX7_carryOut_176 : decode cX7_carryOut 176 = .ok (.invokevirtual 89, 3) := by decide +kernel
theorem dX7_carryOut_179 : decode cX7_carryOut 179 = .ok (.ireturn, 1) := by decide +kernel
theorem dX7_carryOut_180 : decode cX7_carryOut 180 = .ok (.aload_n 0, 1) := by decide +kernel
theorem dX7_carryOut_181 : decode cX7_carryOut 181 = .ok (.iload_n 2, 1) := by decide +kernel
theorem dX7_carryOut_182 : decode cX7_carryOut 182 = .ok (.invokevirtual 92, 3) := by decide +kernel
theorem dX7_carryOut_185 : decode cX7_carryOut 185 = .ok (.ireturn, 1) := by decide +kernel
theorem dX7_carryOut_186 : decode cX7_carryOut 186 = .ok (.aload_n 0, 1) := by decide +kernel
theorem dX7_carryOut_187 : decode cX7_carryOut 187 = .ok (.iload_n 2, 1) := by decide +kernel
theorem dX7_carryOut_188 : decode cX7_carryOut 188 = .ok (.invokevirtual 95, 3) := by decide +kernel
theorem dX7_carryOut_191 : decode cX7_carryOut 191 = .ok (.ireturn, 1) := by decide +kernel
theorem dX7_carryOut_192 : decode cX7_carryOut 192 = .ok (.aload_n 0, 1) := by decide +kernel
theorem dX7_carryOut_193 : decode cX7_carryOut 193 = .ok (.aload_n 0, 1) := by decide +kernel
theorem dX7_carryOut_194 : decode cX7_carryOut 194 = .ok (.getfield 46, 3) := by decide +kernel
theorem dX7_carryOut_197 : decode cX7_carryOut 197 = .ok (.iload_n 1, 1) := by decide +kernel
theorem dX7_carryOut_198 : decode cX7_carryOut 198 = .ok (.invokevirtual 307, 3) := by decide +kernel
theorem dX7_carryOut_201 : decode cX7_carryOut 201 = .ok (.aload_n 0, 1) := by decide +kernel
theorem dX7_carryOut_202 : decode cX7_carryOut 202 = .ok (.getfield 46, 3) := by decide +kernel
theorem dX7_carryOut_205 : decode cX7_carryOut 205 = .ok (.iload_n 1, 1) := by decide +kernel
theorem dX7_carryOut_206 : decode cX7_carryOut 206 = .ok (.invokevirtual 300, 3) := by decide +kernel
theorem dX7_carryOut_209 : decode cX7_carryOut 209 = .ok (.iload_n 1, 1) := by decide +kernel
theorem dX7_carryOut_210 : decode cX7_carryOut 210 = .ok (.isub, 1) := by decide +kernel
theorem dX7_carryOut_211 : decode cX7_carryOut 211 = .ok (.invokevirtual 65, 3) := by decide +kernel
theorem dX7_carryOut_214 : decode cX7_carryOut 214 = .ok (.ireturn, 1) := by decide +kernel
theorem dX7_canMake_0 : decode cX7_canMake 0 = .ok (.iload_n 0, 1) := by decide +kernel
theorem dX7_canMake_1 : decode cX7_canMake 1 = .ok (.iconst 1, 1) := by decide +kernel
theorem dX7_canMake_2 : decode cX7_canMake 2 = .ok (.iand, 1) := by decide +kernel
theorem dX7_canMake_3 : decode cX7_canMake 3 = .ok (.ifCond .eq 7, 3) := by decide +kernel
theorem dX7_canMake_6 : decode cX7_canMake 6 = .ok (.iconst 1, 1) := by decide +kernel
theorem dX7_canMake_7 : decode cX7_canMake 7 = .ok (.goto 4, 3) := by decide +kernel
theorem dX7_canMake_10 : decode cX7_canMake 10 = .ok (.iconst 0, 1) := by decide +kernel
theorem dX7_canMake_11 : decode cX7_canMake 11 = .ok (.istore_n 2, 1) := by decide +kernel
theorem dX7_canMake_12 : decode cX7_canMake 12 = .ok (.iload_n 1, 1) := by decide +kernel
theorem dX7_canMake_13 : decode cX7_canMake 13 = .ok (.ifCond .ne 13, 3) := by decide +kernel
theorem dX7_canMake_16 : decode cX7_canMake 16 = .ok (.iload_n 2, 1) := by decide +kernel
theorem dX7_canMake_17 : decode cX7_canMake 17 = .ok (.ifCond .ne 7, 3) := by decide +kernel
theorem dX7_canMake_20 : decode cX7_canMake 20 = .ok (.iconst 1, 1) := by decide +kernel
theorem dX7_canMake_21 : decode cX7_canMake 21 = .ok (.goto 4, 3) := by decide +kernel
theorem dX7_canMake_24 : decode cX7_canMake 24 = .ok (.iconst 0, 1) := by decide +kernel
theorem dX7_canMake_25 : decode cX7_canMake 25 = .ok (.ireturn, 1) := by decide +kernel
theorem dX7_canMake_26 : decode cX7_canMake 26 = .ok (.iload_n 2, 1) := by decide +kernel
theorem dX7_canMake_27 : decode cX7_canMake 27 = .ok (.ifCond .eq 15, 3) := by decide +kernel
theorem dX7_canMake_30 : decode cX7_canMake 30 = .ok (.iload_n 0, 1) := by decide +kernel
theorem dX7_canMake_31 : decode cX7_canMake 31 = .ok (.iconst 1, 1) := by decide +kernel
theorem dX7_canMake_32 : decode cX7_canMake 32 = .ok (.iload_n 1, 1) := by decide +kernel
theorem dX7_canMake_33 : decode cX7_canMake 33 = .ok (.ishl, 1) := by decide +kernel
theorem dX7_canMake_34 : decode cX7_canMake 34 = .ok (.iand, 1) := by decide +kernel
theorem dX7_canMake_35 : decode cX7_canMake 35 = .ok (.ifCond .ne 7, 3) := by decide +kernel
theorem dX7_canMake_38 : decode cX7_canMake 38 = .ok (.iconst 1, 1) := by decide +kernel
theorem dX7_canMake_39 : decode cX7_canMake 39 = .ok (.goto 4, 3) := by decide +kernel
theorem dX7_canMake_42 : decode cX7_canMake 42 = .ok (.iconst 0, 1) := by decide +kernel
theorem dX7_canMake_43 : decode cX7_canMake 43 = .ok (.ireturn, 1) := by decide +kernel
theorem dX7_stateBehind_0 : decode cX7_stateBehind 0 = .ok (.iload_n 0, 1) := by decide +kernel
theorem dX7_stateBehind_1 : decode cX7_stateBehind 1 = .ok (.iconst 1, 1) := by decide +kernel
theorem dX7_stateBehind_2 : decode cX7_stateBehind 2 = .ok (.ishr, 1) := by decide +kernel
theorem dX7_stateBehind_3 : decode cX7_stateBehind 3 = .ok (.istore_n 2, 1) := by decide +kernel
theorem dX7_stateBehind_4 : decode cX7_stateBehind 4 = .ok (.iload_n 1, 1) := by decide +kernel
theorem dX7_stateBehind_5 : decode cX7_stateBehind 5 = .ok (.ifCond .ne 7, 3) := by decide +kernel
theorem dX7_stateBehind_8 : decode cX7_stateBehind 8 = .ok (.iload_n 2, 1) := by decide +kernel
theorem dX7_stateBehind_9 : decode cX7_stateBehind 9 = .ok (.goto 10, 3) := by decide +kernel
theorem dX7_stateBehind_12 : decode cX7_stateBehind 12 = .ok (.iload_n 2, 1) := by decide +kernel
theorem dX7_stateBehind_13 : decode cX7_stateBehind 13 = .ok (.iconst 1, 1) := by decide +kernel
theorem dX7_stateBehind_14 : decode cX7_stateBehind 14 = .ok (.iload_n 1, 1) := by decide +kernel
theorem dX7_stateBehind_15 : decode cX7_stateBehind 15 = .ok (.iconst 1, 1) := by decide +kernel
theorem dX7_stateBehind_16 : decode cX7_stateBehind 16 = .ok (.isub, 1) := by decide +kernel
theorem dX7_stateBehind_17 : decode cX7_stateBehind 17 = .ok (.ishl, 1) := by decide +kernel
theorem dX7_stateBehind_18 : decode cX7_stateBehind 18 = .ok (.ior, 1) := by decide +kernel
theorem dX7_stateBehind_19 : decode cX7_stateBehind 19 = .ok (.ireturn, 1) := by decide +kernel
theorem dX7_countPossible_0 : decode cX7_countPossible 0 = .ok (.iconst 0, 1) := by decide +kernel
theorem dX7_countPossible_1 : decode cX7_countPossible 1 = .ok (.istore_n 1, 1) := by decide +kernel
theorem dX7_countPossible_2 : decode cX7_countPossible 2 = .ok (.iconst 0, 1) := by decide +kernel
theorem dX7_countPossible_3 : decode cX7_countPossible 3 = .ok (.istore_n 2, 1) := by decide +kernel
theorem dX7_countPossible_4 : decode cX7_countPossible 4 = .ok (.iload_n 2, 1) := by decide +kernel
theorem dX7_countPossible_5 : decode cX7_countPossible 5 = .ok (.bipush 9, 2) := by decide +kernel
theorem dX7_countPossible_7 : decode cX7_countPossible 7 = .ok (.if_icmp .gt 20, 3) := by decide +kernel
theorem dX7_countPossible_10 : decode cX7_countPossible 10 = .ok (.iload_n 0, 1) := by decide +kernel
theorem dX7_countPossible_11 : decode cX7_countPossible 11 = .ok (.iload_n 2, 1) := by decide +kernel
theorem dX7_countPossible_12 : decode cX7_countPossible 12 = .ok (.invokestatic 154, 3) := by decide +kernel
theorem dX7_countPossible_15 : decode cX7_countPossible 15 = .ok (.ifCond .eq 6, 3) := by decide +kernel
theorem dX7_countPossible_18 : decode cX7_countPossible 18 = .ok (.iinc 1 1, 3) := by decide +kernel
theorem dX7_countPossible_21 : decode cX7_countPossible 21 = .ok (.iinc 2 1, 3) := by decide +kernel
theorem dX7_countPossible_24 : decode cX7_countPossible 24 = .ok (.goto (-20), 3) := by decide +kernel
theorem dX7_countPossible_27 : decode cX7_countPossible 27 = .ok (.iload_n 1, 1) := by decide +kernel
theorem dX7_countPossible_28 : decode cX7_countPossible 28 = .ok (.ireturn, 1) := by decide +kernel
theorem dX7_hasJoin_0 : decode cX7_hasJoin 0 = .ok (.aload_n 1, 1) := by decide +kernel
theorem dX7_hasJoin_1 : decode cX7_hasJoin 1 = .ok (.invokevirtual 112, 3) := by decide +kernel
theorem dX7_hasJoin_4 : decode cX7_hasJoin 4 = .ok (.aload_n 0, 1) := by decide +kernel
theorem dX7_hasJoin_5 : decode cX7_hasJoin 5 = .ok (.getfield 10, 3) := by decide +kernel
theorem dX7_hasJoin_8 : decode cX7_hasJoin 8 = .ok (.invokevirtual 147, 3) := by decide +kernel
theorem dX7_hasJoin_11 : decode cX7_hasJoin 11 = .ok (.if_icmp .ne 7, 3) := by decide +kernel
theorem dX7_hasJoin_14 : decode cX7_hasJoin 14 = .ok (.iconst 1, 1) := by decide +kernel
theorem dX7_hasJoin_15 : decode cX7_hasJoin 15 = .ok (.goto 4, 3) := by decide +kernel
theorem dX7_hasJoin_18 : decode cX7_hasJoin 18 = .ok (.iconst 0, 1) := by decide +kernel
theorem dX7_hasJoin_19 : decode cX7_hasJoin 19 = .ok (.ireturn, 1) := by decide +kernel
theorem dX7_rankKey_0 : decode cX7_rankKey 0 = .ok (.aload_n 0, 1) := by decide +kernel
theorem dX7_rankKey_1 : decode cX7_rankKey 1 = .ok (.getfield 10, 3) := by decide +kernel
theorem dX7_rankKey_4 : decode cX7_rankKey 4 = .ok (.iload_n 2, 1) := by decide +kernel
theorem dX7_rankKey_5 : decode cX7_rankKey 5 = .ok (.invokevirtual 98, 3) := by decide +kernel
theorem dX7_rankKey_8 : decode cX7_rankKey 8 = .ok (.astore_n 3, 1) := by decide +kernel
theorem dX7_rankKey_9 : decode cX7_rankKey 9 = .ok (.aload_n 3, 1) := by decide +kernel
theorem dX7_rankKey_10 : decode cX7_rankKey 10 = .ok (.ifnonnull 5, 3) := by decide +kernel
theorem dX7_rankKey_13 : decode cX7_rankKey 13 = .ok (.iconst 0, 1) := by decide +kernel
theorem dX7_rankKey_14 : decode cX7_rankKey 14 = .ok (.ireturn, 1) := by decide +kernel
theorem dX7_rankKey_15 : decode cX7_rankKey 15 = .ok (.iload_n 1, 1) := by decide +kernel
theorem dX7_rankKey_16 : decode cX7_rankKey 16 = .ok (.ifCond .ne 8, 3) := by decide +kernel
theorem dX7_rankKey_19 : decode cX7_rankKey 19 = .ok (.aload_n 3, 1) := by decide +kernel
theorem dX7_rankKey_20 : decode cX7_rankKey 20 = .ok (.getfield 102, 3) := by decide +kernel
theorem dX7_rankKey_23 : decode cX7_rankKey 23 = .ok (.ireturn, 1) := by decide +kernel
theorem dX7_rankKey_24 : decode cX7_rankKey 24 = .ok (.iload_n 1, 1) := by decide +kernel
theorem dX7_rankKey_25 : decode cX7_rankKey 25 = .ok (.iconst 2, 1) := by decide +kernel
theorem dX7_rankKey_26 : decode cX7_rankKey 26 = .ok (.if_icmp .ne 8, 3) := by decide +kernel
theorem dX7_rankKey_29 : decode cX7_rankKey 29 = .ok (.aload_n 3, 1) := by decide +kernel
theorem dX7_rankKey_30 : decode cX7_rankKey 30 = .ok (.invokevirtual 121, 3) := by decide +kernel
theorem dX7_rankKey_33 : decode cX7_rankKey 33 = .ok (.ireturn, 1) := by decide +kernel
theorem dX7_rankKey_34 : decode cX7_rankKey 34 = .ok (.aload_n 3, 1) := by decide +kernel
theorem dX7_rankKey_35 : decode cX7_rankKey 35 = .ok (.invokevirtual 112, 3) := by decide +kernel
theorem dX7_rankKey_38 : decode cX7_rankKey 38 = .ok (.istore 4, 2) := by decide +kernel
theorem dX7_rankKey_40 : decode cX7_rankKey 40 = .ok (.iload 4, 2) := by decide +kernel
theorem dX7_rankKey_42 : decode cX7_rankKey 42 = .ok (.bipush (-4), 2) := by decide +kernel
theorem dX7_rankKey_44 : decode cX7_rankKey 44 = .ok (.if_icmp .ne 7, 3) := by decide +kernel
theorem dX7_rankKey_47 : decode cX7_rankKey 47 = .ok (.iconst 1, 1) := by decide +kernel
theorem dX7_rankKey_48 : decode cX7_rankKey 48 = .ok (.goto 6, 3) := by decide +kernel
theorem dX7_rankKey_51 : decode cX7_rankKey 51 = .ok (.iload 4, 2) := by decide +kernel
theorem dX7_rankKey_53 : decode cX7_rankKey 53 = .ok (.ineg, 1) := by decide +kernel
theorem dX7_rankKey_54 : decode cX7_rankKey 54 = .ok (.ireturn, 1) := by decide +kernel
theorem dX7_countAhead_0 : decode cX7_countAhead 0 = .ok (.iconst 0, 1) := by decide +kernel
theorem dX7_countAhead_1 : decode cX7_countAhead 1 = .ok (.istore_n 2, 1) := by decide +kernel
theorem dX7_countAhead_2 : decode cX7_countAhead 2 = .ok (.iconst 0, 1) := by decide +kernel
theorem dX7_countAhead_3 : decode cX7_countAhead 3 = .ok (.istore_n 3, 1) := by decide +kernel
theorem dX7_countAhead_4 : decode cX7_countAhead 4 = .ok (.iload_n 3, 1) := by decide +kernel
theorem dX7_countAhead_5 : decode cX7_countAhead 5 = .ok (.aload_n 0, 1) := by decide +kernel
theorem dX7_countAhead_6 : decode cX7_countAhead 6 = .ok (.getfield 10, 3) := by decide +kernel
theorem dX7_countAhead_9 : decode cX7_countAhead 9 = .ok (.getfield 172, 3) := by decide +kernel
theorem dX7_countAhead_12 : decode cX7_countAhead 12 = .ok (.if_icmp .ge 21, 3) := by decide +kernel
theorem dX7_countAhead_15 : decode cX7_countAhead 15 = .ok (.aload_n 0, 1) := by decide +kernel
theorem dX7_countAhead_16 : decode cX7_countAhead 16 = .ok (.iload_n 3, 1) := by decide +kernel
theorem dX7_countAhead_17 : decode cX7_countAhead 17 = .ok (.iload_n 1, 1) := by decide +kernel
theorem dX7_countAhead_18 : decode cX7_countAhead 18 = .ok (.invokevirtual 310, 3) := by decide +kernel
theorem dX7_countAhead_21 : decode cX7_countAhead 21 = .ok (.ifCond .eq 6, 3) := by decide +kernel
theorem dX7_countAhead_24 : decode cX7_countAhead 24 = .ok (.iinc 2 1, 3) := by decide +kernel
theorem dX7_countAhead_27 : decode cX7_countAhead 27 = .ok (.iinc 3 1, 3) := by decide +kernel
theorem dX7_countAhead_30 : decode cX7_countAhead 30 = .ok (.goto (-26), 3) := by decide +kernel
theorem dX7_countAhead_33 : decode cX7_countAhead 33 = .ok (.iload_n 2, 1) := by decide +kernel
theorem dX7_countAhead_34 : decode cX7_countAhead 34 = .ok (.ireturn, 1) := by decide +kernel
theorem dX7_isAhead_0 : decode cX7_isAhead 0 = .ok (.iload_n 1, 1) := by decide +kernel
theorem dX7_isAhead_1 : decode cX7_isAhead 1 = .ok (.ifCond .lt 25, 3) := by decide +kernel
theorem dX7_isAhead_4 : decode cX7_isAhead 4 = .ok (.iload_n 1, 1) := by decide +kernel
theorem dX7_isAhead_5 : decode cX7_isAhead 5 = .ok (.aload_n 0, 1) := by decide +kernel
theorem dX7_isAhead_6 : decode cX7_isAhead 6 = .ok (.getfield 57, 3) := by decide +kernel
theorem dX7_isAhead_9 : decode cX7_isAhead 9 = .ok (.arraylength, 1) := by decide +kernel
theorem dX7_isAhead_10 : decode cX7_isAhead 10 = .ok (.if_icmp .ge 16, 3) := by decide +kernel
theorem dX7_isAhead_13 : decode cX7_isAhead 13 = .ok (.iload_n 2, 1) := by decide +kernel
theorem dX7_isAhead_14 : decode cX7_isAhead 14 = .ok (.ifCond .lt 12, 3) := by decide +kernel
theorem dX7_isAhead_17 : decode cX7_isAhead 17 = .ok (.iload_n 2, 1) := by decide +kernel
theorem dX7_isAhead_18 : decode cX7_isAhead 18 = .ok (.aload_n 0, 1) := by decide +kernel
theorem dX7_isAhead_19 : decode cX7_isAhead 19 = .ok (.getfield 57, 3) := by decide +kernel
theorem dX7_isAhead_22 : decode cX7_isAhead 22 = .ok (.arraylength, 1) := by decide +kernel
theorem dX7_isAhead_23 : decode cX7_isAhead 23 = .ok (.if_icmp .lt 5, 3) := by decide +kernel
theorem dX7_isAhead_26 : decode cX7_isAhead 26 = .ok (.iconst 0, 1) := by decide +kernel
theorem dX7_isAhead_27 : decode cX7_isAhead 27 = .ok (.ireturn, 1) := by decide +kernel
theorem dX7_isAhead_28 : decode cX7_isAhead 28 = .ok (.aload_n 0, 1) := by decide +kernel
theorem dX7_isAhead_29 : decode cX7_isAhead 29 = .ok (.getfield 57, 3) := by decide +kernel
theorem dX7_isAhead_32 : decode cX7_isAhead 32 = .ok (.iload_n 1, 1) := by decide +kernel
theorem dX7_isAhead_33 : decode cX7_isAhead 33 = .ok (.iaload, 1) := by decide +kernel
theorem dX7_isAhead_34 : decode cX7_isAhead 34 = .ok (.aload_n 0, 1) := by decide +kernel
theorem dX7_isAhead_35 : decode cX7_isAhead 35 = .ok (.getfield 57, 3) := by decide +kernel
theorem dX7_isAhead_38 : decode cX7_isAhead 38 = .ok (.iload_n 2, 1) := by decide +kernel
theorem dX7_isAhead_39 : decode cX7_isAhead 39 = .ok (.iaload, 1) := by decide +kernel
theorem dX7_isAhead_40 : decode cX7_isAhead 40 = .ok (.if_icmp .lt 23, 3) := by decide +kernel
theorem dX7_isAhead_43 : decode cX7_isAhead 43 = .ok (.aload_n 0, 1) := by decide +kernel
theorem dX7_isAhead_44 : decode cX7_isAhead 44 = .ok (.getfield 57, 3) := by decide +kernel
theorem dX7_isAhead_47 : decode cX7_isAhead 47 = .ok (.iload_n 1, 1) := by decide +kernel
theorem dX7_isAhead_48 : decode cX7_isAhead 48 = .ok (.iaload, 1) := by decide +kernel
theorem dX7_isAhead_49 : decode cX7_isAhead 49 = .ok (.aload_n 0, 1) := by decide +kernel
theorem dX7_isAhead_50 : decode cX7_isAhead 50 = .ok (.getfield 57, 3) := by decide +kernel
theorem dX7_isAhead_53 : decode cX7_isAhead 53 = .ok (.iload_n 2, 1) := by decide +kernel
theorem dX7_isAhead_54 : decode cX7_isAhead 54 = .ok (.iaload, 1) := by decide +kernel
theorem dX7_isAhead_55 : decode cX7_isAhead 55 = .ok (.if_icmp .ne 12, 3) := by decide +kernel
theorem dX7_isAhead_58 : decode cX7_isAhead 58 = .ok (.iload_n 1, 1) := by decide +kernel
theorem dX7_isAhead_59 : decode cX7_isAhead 59 = .ok (.iload_n 2, 1) := by decide +kernel
theorem dX7_isAhead_60 : decode cX7_isAhead 60 = .ok (.if_icmp .ge 7, 3) := by decide +kernel
theorem dX7_isAhead_63 : decode cX7_isAhead 63 = .ok (.iconst 1, 1) := by decide +kernel
theorem dX7_isAhead_64 : decode cX7_isAhead 64 = .ok (.goto 4, 3) := by decide +kernel
theorem dX7_isAhead_67 : decode cX7_isAhead 67 = .ok (.iconst 0, 1) := by decide +kernel
theorem dX7_isAhead_68 : decode cX7_isAhead 68 = .ok (.ireturn, 1) := by decide +kernel
theorem dX7_isRowWell_0 : decode cX7_isRowWell 0 = .ok (.aload_n 1, 1) := by decide +kernel
theorem dX7_isRowWell_1 : decode cX7_isRowWell 1 = .ok (.invokevirtual 137, 3) := by decide +kernel
theorem dX7_isRowWell_4 : decode cX7_isRowWell 4 = .ok (.istore_n 2, 1) := by decide +kernel
theorem dX7_isRowWell_5 : decode cX7_isRowWell 5 = .ok (.iload_n 2, 1) := by decide +kernel
theorem dX7_isRowWell_6 : decode cX7_isRowWell 6 = .ok (.aload_n 1, 1) := by decide +kernel
theorem dX7_isRowWell_7 : decode cX7_isRowWell 7 = .ok (.invokevirtual 115, 3) := by decide +kernel
theorem dX7_isRowWell_10 : decode cX7_isRowWell 10 = .ok (.bipush (-4), 2) := by decide +kernel
theorem dX7_isRowWell_12 : decode cX7_isRowWell 12 = .ok (.if_icmp .ne 7, 3) := by decide +kernel
theorem dX7_isRowWell_15 : decode cX7_isRowWell 15 = .ok (.iconst 1, 1) := by decide +kernel
theorem dX7_isRowWell_16 : decode cX7_isRowWell 16 = .ok (.goto 4, 3) := by decide +kernel
theorem dX7_isRowWell_19 : decode cX7_isRowWell 19 = .ok (.iconst 0, 1) := by decide +kernel
theorem dX7_isRowWell_20 : decode cX7_isRowWell 20 = .ok (.if_icmp .eq 5, 3) := by decide +kernel
theorem dX7_isRowWell_23 : decode cX7_isRowWell 23 = .ok (.iconst 0, 1) := by decide +kernel
theorem dX7_isRowWell_24 : decode cX7_isRowWell 24 = .ok (.ireturn, 1) := by decide +kernel
theorem dX7_isRowWell_25 : decode cX7_isRowWell 25 = .ok (.iload_n 2, 1) := by decide +kernel
theorem dX7_isRowWell_26 : decode cX7_isRowWell 26 = .ok (.ifCond .ne 5, 3) := by decide +kernel
theorem dX7_isRowWell_29 : decode cX7_isRowWell 29 = .ok (.iconst 1, 1) := by decide +kernel
theorem dX7_isRowWell_30 : decode cX7_isRowWell 30 = .ok (.ireturn, 1) := by decide +kernel
theorem dX7_isRowWell_31 : decode cX7_isRowWell 31 = .ok (.aload_n 1, 1) := by decide +kernel
theorem dX7_isRowWell_32 : decode cX7_isRowWell 32 = .ok (.invokevirtual 313, 3) := by decide +kernel
theorem dX7_isRowWell_35 : decode cX7_isRowWell 35 = .ok (.ifCond .ne 5, 3) := by decide +kernel
theorem dX7_isRowWell_38 : decode cX7_isRowWell 38 = .ok (.iconst 0, 1) := by decide +kernel
theorem dX7_isRowWell_39 : decode cX7_isRowWell 39 = .ok (.ireturn, 1) := by decide +kernel
theorem dX7_isRowWell_40 : decode cX7_isRowWell 40 = .ok (.aload_n 0, 1) := by decide +kernel
theorem dX7_isRowWell_41 : decode cX7_isRowWell 41 = .ok (.aload_n 1, 1) := by decide +kernel
theorem dX7_isRowWell_42 : decode cX7_isRowWell 42 = .ok (.invokevirtual 158, 3) := by decide +kernel
theorem dX7_isRowWell_45 : decode cX7_isRowWell 45 = .ok (.ifCond .ne 5, 3) := by decide +kernel
theorem dX7_isRowWell_48 : decode cX7_isRowWell 48 = .ok (.iconst 1, 1) := by decide +kernel
theorem dX7_isRowWell_49 : decode cX7_isRowWell 49 = .ok (.ireturn, 1) := by decide +kernel
theorem dX7_isRowWell_50 : decode cX7_isRowWell 50 = .ok (.aload_n 1, 1) := by decide +kernel
theorem dX7_isRowWell_51 : decode cX7_isRowWell 51 = .ok (.iconst 0, 1) := by decide +kernel
theorem dX7_isRowWell_52 : decode cX7_isRowWell 52 = .ok (.invokevirtual 141, 3) := by decide +kernel
theorem dX7_isRowWell_55 : decode cX7_isRowWell 55 = .ok (.istore_n 3, 1) := by decide +kernel
theorem dX7_isRowWell_56 : decode cX7_isRowWell 56 = .ok (.aload_n 0, 1) := by decide +kernel
theorem dX7_isRowWell_57 : decode cX7_isRowWell 57 = .ok (.getfield 32, 3) := by decide +kernel
theorem dX7_isRowWell_60 : decode cX7_isRowWell 60 = .ok (.aload_n 0, 1) := by decide +kernel
theorem dX7_isRowWell_61 : decode cX7_isRowWell 61 = .ok (.getfield 10, 3) := by decide +kernel
theorem dX7_isRowWell_64 : decode cX7_isRowWell 64 = .ok (.getfield 144, 3) := by decide +kernel
theorem dX7_isRowWell_67 : decode cX7_isRowWell 67 = .ok (.iload_n 3, 1) := by decide +kernel
theorem dX7_isRowWell_68 : decode cX7_isRowWell 68 = .ok (.invokevirtual 162, 3) := by decide +kernel
theorem dX7_isRowWell_71 : decode cX7_isRowWell 71 = .ok (.aload_n 0, 1) := by decide +kernel
theorem dX7_isRowWell_72 : decode cX7_isRowWell 72 = .ok (.getfield 32, 3) := by decide +kernel
theorem dX7_isRowWell_75 : decode cX7_isRowWell 75 = .ok (.aload_n 0, 1) := by decide +kernel
theorem dX7_isRowWell_76 : decode cX7_isRowWell 76 = .ok (.getfield 10, 3) := by decide +kernel
theorem dX7_isRowWell_79 : decode cX7_isRowWell 79 = .ok (.getfield 144, 3) := by decide +kernel
theorem dX7_isRowWell_82 : decode cX7_isRowWell 82 = .ok (.iload_n 3, 1) := by decide +kernel
theorem dX7_isRowWell_83 : decode cX7_isRowWell 83 = .ok (.invokevirtual 165, 3) := by decide +kernel
theorem dX7_isRowWell_86 : decode cX7_isRowWell 86 = .ok (.if_icmp .ne 7, 3) := by decide +kernel
theorem dX7_isRowWell_89 : decode cX7_isRowWell 89 = .ok (.iconst 1, 1) := by decide +kernel
theorem dX7_isRowWell_90 : decode cX7_isRowWell 90 = .ok (.goto 4, 3) := by decide +kernel
theorem dX7_isRowWell_93 : decode cX7_isRowWell 93 = .ok (.iconst 0, 1) := by decide +kernel
theorem dX7_isRowWell_94 : decode cX7_isRowWell 94 = .ok (.ireturn, 1) := by decide +kernel
theorem dX7_powerOfTen_0 : decode cX7_powerOfTen 0 = .ok (.iconst 1, 1) := by decide +kernel
theorem dX7_powerOfTen_1 : decode cX7_powerOfTen 1 = .ok (.istore_n 1, 1) := by decide +kernel
theorem dX7_powerOfTen_2 : decode cX7_powerOfTen 2 = .ok (.iconst 0, 1) := by decide +kernel
theorem dX7_powerOfTen_3 : decode cX7_powerOfTen 3 = .ok (.istore_n 2, 1) := by decide +kernel
theorem dX7_powerOfTen_4 : decode cX7_powerOfTen 4 = .ok (.iload_n 2, 1) := by decide +kernel
theorem dX7_powerOfTen_5 : decode cX7_powerOfTen 5 = .ok (.iload_n 0, 1) := by decide +kernel
theorem dX7_powerOfTen_6 : decode cX7_powerOfTen 6 = .ok (.if_icmp .ge 20, 3) := by decide +kernel
theorem dX7_powerOfTen_9 : decode cX7_powerOfTen 9 = .ok (.iload_n 2, 1) := by decide +kernel
theorem dX7_powerOfTen_10 : decode cX7_powerOfTen 10 = .ok (.bipush 8, 2) := by decide +kernel
theorem dX7_powerOfTen_12 : decode cX7_powerOfTen 12 = .ok (.if_icmp .ge 14, 3) := by decide +kernel
theorem dX7_powerOfTen_15 : decode cX7_powerOfTen 15 = .ok (.iload_n 1, 1) := by decide +kernel
theorem dX7_powerOfTen_16 : decode cX7_powerOfTen 16 = .ok (.bipush 10, 2) := by decide +kernel
theorem dX7_powerOfTen_18 : decode cX7_powerOfTen 18 = .ok (.imul, 1) := by decide +kernel
theorem dX7_powerOfTen_19 : decode cX7_powerOfTen 19 = .ok (.istore_n 1, 1) := by decide +kernel
theorem dX7_powerOfTen_20 : decode cX7_powerOfTen 20 = .ok (.iinc 2 1, 3) := by decide +kernel
theorem dX7_powerOfTen_23 : decode cX7_powerOfTen 23 = .ok (.goto (-19), 3) := by decide +kernel
theorem dX7_powerOfTen_26 : decode cX7_powerOfTen 26 = .ok (.iload_n 1, 1) := by decide +kernel
theorem dX7_powerOfTen_27 : decode cX7_powerOfTen 27 = .ok (.ireturn, 1) := by decide +kernel
theorem dX7_bitsOf_0 : decode cX7_bitsOf 0 = .ok (.fload_n 0, 1) := by decide +kernel
theorem dX7_bitsOf_1 : decode cX7_bitsOf 1 = .ok (.fconst 0, 1) := by decide +kernel
theorem dX7_bitsOf_2 : decode cX7_bitsOf 2 = .ok (.fcmp .l, 1) := by decide +kernel
theorem dX7_bitsOf_3 : decode cX7_bitsOf 3 = .ok (.ifCond .gt 5, 3) := by decide +kernel
theorem dX7_bitsOf_6 : decode cX7_bitsOf 6 = .ok (.iconst 0, 1) := by decide +kernel
theorem dX7_bitsOf_7 : decode cX7_bitsOf 7 = .ok (.ireturn, 1) := by decide +kernel
theorem dX7_bitsOf_8 : decode cX7_bitsOf 8 = .ok (.fload_n 0, 1) := by decide +kernel
theorem dX7_bitsOf_9 : decode cX7_bitsOf 9 = .ok (.fstore_n 1, 1) := by decide +kernel
theorem dX7_bitsOf_10 : decode cX7_bitsOf 10 = .ok (.bipush 127, 2) := by decide +kernel
theorem dX7_bitsOf_12 : decode cX7_bitsOf 12 = .ok (.istore_n 2, 1) := by decide +kernel
theorem dX7_bitsOf_13 : decode cX7_bitsOf 13 = .ok (.iconst 0, 1) := by decide +kernel
theorem dX7_bitsOf_14 : decode cX7_bitsOf 14 = .ok (.istore_n 3, 1) := by decide +kernel
theorem dX7_bitsOf_15 : decode cX7_bitsOf 15 = .ok (.iload_n 3, 1) := by decide +kernel
theorem dX7_bitsOf_16 : decode cX7_bitsOf 16 = .ok (.bipush 127, 2) := by decide +kernel
theorem dX7_bitsOf_18 : decode cX7_bitsOf 18 = .ok (.if_icmp .ge 22, 3) := by decide +kernel
theorem dX7_bitsOf_21 : decode cX7_bitsOf 21 = .ok (.fload_n 1, 1) := by decide +kernel
theorem dX7_bitsOf_22 : decode cX7_bitsOf 22 = .ok (.fconst 2, 1) := by decide +kernel
theorem dX7_bitsOf_23 : decode cX7_bitsOf 23 = .ok (.fcmp .l, 1) := by decide +kernel
theorem dX7_bitsOf_24 : decode cX7_bitsOf 24 = .ok (.ifCond .lt 16, 3) := by decide +kernel
theorem dX7_bitsOf_27 : decode cX7_bitsOf 27 = .ok (.fload_n 1, 1) := by decide +kernel
theorem dX7_bitsOf_28 : decode cX7_bitsOf 28 = .ok (.fconst 2, 1) := by decide +kernel
theorem dX7_bitsOf_29 : decode cX7_bitsOf 29 = .ok (.fdiv, 1) := by decide +kernel
theorem dX7_bitsOf_30 : decode cX7_bitsOf 30 = .ok (.fstore_n 1, 1) := by decide +kernel
theorem dX7_bitsOf_31 : decode cX7_bitsOf 31 = .ok (.iinc 2 1, 3) := by decide +kernel
theorem dX7_bitsOf_34 : decode cX7_bitsOf 34 = .ok (.iinc 3 1, 3) := by decide +kernel
theorem dX7_bitsOf_37 : decode cX7_bitsOf 37 = .ok (.goto (-22), 3) := by decide +kernel
theorem dX7_bitsOf_40 : decode cX7_bitsOf 40 = .ok (.iconst 0, 1) := by decide +kernel
theorem dX7_bitsOf_41 : decode cX7_bitsOf 41 = .ok (.istore_n 3, 1) := by decide +kernel
theorem dX7_bitsOf_42 : decode cX7_bitsOf 42 = .ok (.iload_n 3, 1) := by decide +kernel
theorem dX7_bitsOf_43 : decode cX7_bitsOf 43 = .ok (.bipush 126, 2) := by decide +kernel
theorem dX7_bitsOf_45 : decode cX7_bitsOf 45 = .ok (.if_icmp .ge 22, 3) := by decide +kernel
theorem dX7_bitsOf_48 : decode cX7_bitsOf 48 = .ok (.fload_n 1, 1) := by decide +kernel
theorem dX7_bitsOf_49 : decode cX7_bitsOf 49 = .ok (.fconst 1, 1) := by decide +kernel
theorem dX7_bitsOf_50 : decode cX7_bitsOf 50 = .ok (.fcmp .g, 1) := by decide +kernel
theorem dX7_bitsOf_51 : decode cX7_bitsOf 51 = .ok (.ifCond .ge 16, 3) := by decide +kernel
theorem dX7_bitsOf_54 : decode cX7_bitsOf 54 = .ok (.fload_n 1, 1) := by decide +kernel
theorem dX7_bitsOf_55 : decode cX7_bitsOf 55 = .ok (.fconst 2, 1) := by decide +kernel
theorem dX7_bitsOf_56 : decode cX7_bitsOf 56 = .ok (.fmul, 1) := by decide +kernel
theorem dX7_bitsOf_57 : decode cX7_bitsOf 57 = .ok (.fstore_n 1, 1) := by decide +kernel
theorem dX7_bitsOf_58 : decode cX7_bitsOf 58 = .ok (.iinc 2 (-1), 3) := by decide +kernel
theorem dX7_bitsOf_61 : decode cX7_bitsOf 61 = .ok (.iinc 3 1, 3) := by decide +kernel
theorem dX7_bitsOf_64 : decode cX7_bitsOf 64 = .ok (.goto (-22), 3) := by decide +kernel
theorem dX7_bitsOf_67 : decode cX7_bitsOf 67 = .ok (.iload_n 2, 1) := by decide +kernel
theorem dX7_bitsOf_68 : decode cX7_bitsOf 68 = .ok (.bipush 23, 2) := by decide +kernel
theorem dX7_bitsOf_70 : decode cX7_bitsOf 70 = .ok (.ishl, 1) := by decide +kernel
theorem dX7_bitsOf_71 : decode cX7_bitsOf 71 = .ok (.fload_n 1, 1) := by decide +kernel
theorem dX7_bitsOf_72 : decode cX7_bitsOf 72 = .ok (.fconst 1, 1) := by decide +kernel
theorem dX7_bitsOf_73 : decode cX7_bitsOf 73 = .ok (.fsub, 1) := by decide +kernel
theorem dX7_bitsOf_74 : decode cX7_bitsOf 74 = .ok (.ldc_w 316, 3) := by decide +kernel
theorem dX7_bitsOf_77 : decode cX7_bitsOf 77 = .ok (.fmul, 1) := by decide +kernel
theorem dX7_bitsOf_78 : decode cX7_bitsOf 78 = .ok (.f2i, 1) := by decide +kernel
theorem dX7_bitsOf_79 : decode cX7_bitsOf 79 = .ok (.ior, 1) := by decide +kernel
theorem dX7_bitsOf_80 : decode cX7_bitsOf 80 = .ok (.ireturn, 1) := by decide +kernel
