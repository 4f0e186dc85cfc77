theorem dX8_init_0 : decode cX8_init 0 = .ok (.aload_n 0, 1) := by decide +kernel
theorem dX8_init_1 : decode cX8_init 1 = .ok (.invokespecial 3, 3) := by decide +kernel
theorem dX8_init_4 : decode cX8_init 4 = .ok (.aload_n 0, 1) := by decide +kernel
theorem dX8_init_5 : decode cX8_init 5 = .ok (.bipush 63, 2) := by decide +kernel
theorem dX8_init_7 : decode cX8_init 7 = .ok (.newarray .int, 2) := by decide +kernel
theorem dX8_init_9 : decode cX8_init 9 = .ok (.putfield 9, 3) := by decide +kernel
theorem dX8_init_12 : decode cX8_init 12 = .ok (.aload_n 0, 1) := by decide +kernel
theorem dX8_init_13 : decode cX8_init 13 = .ok (.bipush 63, 2) := by decide +kernel
theorem dX8_init_15 : decode cX8_init 15 = .ok (.newarray .int, 2) := by decide +kernel
theorem dX8_init_17 : decode cX8_init 17 = .ok (.putfield 13, 3) := by decide +kernel
theorem dX8_init_20 : decode cX8_init 20 = .ok (.aload_n 0, 1) := by decide +kernel
theorem dX8_init_21 : decode cX8_init 21 = .ok (.bipush 63, 2) := by decide +kernel
theorem dX8_init_23 : decode cX8_init 23 = .ok (.newarray .int, 2) := by decide +kernel
theorem dX8_init_25 : decode cX8_init 25 = .ok (.putfield 16, 3) := by decide +kernel
theorem dX8_init_28 : decode cX8_init 28 = .ok (.aload_n 0, 1) := by decide +kernel
theorem dX8_init_29 : decode cX8_init 29 = .ok (.bipush 8, 2) := by decide +kernel
theorem dX8_init_31 : decode cX8_init 31 = .ok (.bipush 63, 2) := by decide +kernel
theorem dX8_init_33 : decode cX8_init 33 = .ok (.multianewarray 19 2, 4) := by decide +kernel
theorem dX8_init_37 : decode cX8_init 37 = .ok (.putfield 21, 3) := by decide +kernel
theorem dX8_init_40 : decode cX8_init 40 = .ok (.aload_n 0, 1) := by decide +kernel
theorem dX8_init_41 : decode cX8_init 41 = .ok (.iconst (-1), 1) := by decide +kernel
theorem dX8_init_42 : decode cX8_init 42 = .ok (.putfield 24, 3) := by decide +kernel
theorem dX8_init_45 : decode cX8_init 45 = .ok (.aload_n 0, 1) := by decide +kernel
theorem dX8_init_46 : decode cX8_init 46 = .ok (.sipush 512, 3) := by decide +kernel
theorem dX8_init_49 : decode cX8_init 49 = .ok (.newarray .int, 2) := by decide +kernel
theorem dX8_init_51 : decode cX8_init 51 = .ok (.putfield 28, 3) := by decide +kernel
theorem dX8_init_54 : decode cX8_init 54 = .ok (.aload_n 0, 1) := by decide +kernel
theorem dX8_init_55 : decode cX8_init 55 = .ok (.sipush 512, 3) := by decide +kernel
theorem dX8_init_58 : decode cX8_init 58 = .ok (.newarray .int, 2) := by decide +kernel
theorem dX8_init_60 : decode cX8_init 60 = .ok (.putfield 31, 3) := by decide +kernel
theorem dX8_init_63 : decode cX8_init 63 = .ok (.aload_n 0, 1) := by decide +kernel
theorem dX8_init_64 : decode cX8_init 64 = .ok (.sipush 512, 3) := by decide +kernel
theorem dX8_init_67 : decode cX8_init 67 = .ok (.newarray .int, 2) := by decide +kernel
theorem dX8_init_69 : decode cX8_init 69 = .ok (.putfield 34, 3) := by decide +kernel
theorem dX8_init_72 : decode cX8_init 72 = .ok (.aload_n 0, 1) := by decide +kernel
theorem dX8_init_73 : decode cX8_init 73 = .ok (.sipush 512, 3) := by decide +kernel
theorem dX8_init_76 : decode cX8_init 76 = .ok (.newarray .int, 2) := by decide +kernel
theorem dX8_init_78 : decode cX8_init 78 = .ok (.putfield 37, 3) := by decide +kernel
theorem dX8_init_81 : decode cX8_init 81 = .ok (.aload_n 0, 1) := by decide +kernel
theorem dX8_init_82 : decode cX8_init 82 = .ok (.sipush 600, 3) := by decide +kernel
theorem dX8_init_85 : decode cX8_init 85 = .ok (.newarray .char, 2) := by decide +kernel
theorem dX8_init_87 : decode cX8_init 87 = .ok (.putfield 40, 3) := by decide +kernel
theorem dX8_init_90 : decode cX8_init 90 = .ok (.aload_n 0, 1) := by decide +kernel
theorem dX8_init_91 : decode cX8_init 91 = .ok (.bipush 70, 2) := by decide +kernel
theorem dX8_init_93 : decode cX8_init 93 = .ok (.newarray .int, 2) := by decide +kernel
theorem dX8_init_95 : decode cX8_init 95 = .ok (.putfield 44, 3) := by decide +kernel
theorem dX8_init_98 : decode cX8_init 98 = .ok (.return_, 1) := by decide +kernel
theorem dX8_isBetween_0 : decode cX8_isBetween 0 = .ok (.iload_n 0, 1) := by decide +kernel
theorem dX8_isBetween_1 : decode cX8_isBetween 1 = .ok (.iload_n 1, 1) := by decide +kernel
theorem dX8_isBetween_2 : decode cX8_isBetween 2 = .ok (.if_icmp .lt 12, 3) := by decide +kernel
theorem dX8_isBetween_5 : decode cX8_isBetween 5 = .ok (.iload_n 0, 1) := by decide +kernel
theorem dX8_isBetween_6 : decode cX8_isBetween 6 = .ok (.iload_n 2, 1) := by decide +kernel
theorem dX8_isBetween_7 : decode cX8_isBetween 7 = .ok (.if_icmp .gt 7, 3) := by decide +kernel
theorem dX8_isBetween_10 : decode cX8_isBetween 10 = .ok (.iconst 1, 1) := by decide +kernel
theorem dX8_isBetween_11 : decode cX8_isBetween 11 = .ok (.goto 4, 3) := by decide +kernel
theorem dX8_isBetween_14 : decode cX8_isBetween 14 = .ok (.iconst 0, 1) := by decide +kernel
theorem dX8_isBetween_15 : decode cX8_isBetween 15 = .ok (.ireturn, 1) := by decide +kernel
theorem dX8_copyRow_0 : decode cX8_copyRow 0 = .ok (.iconst 0, 1) := by decide +kernel
theorem dX8_copyRow_1 : decode cX8_copyRow 1 = .ok (.istore_n 2, 1) := by decide +kernel
theorem dX8_copyRow_2 : decode cX8_copyRow 2 = .ok (.iload_n 2, 1) := by decide +kernel
theorem dX8_copyRow_3 : decode cX8_copyRow 3 = .ok (.bipush 63, 2) := by decide +kernel
theorem dX8_copyRow_5 : decode cX8_copyRow 5 = .ok (.if_icmp .ge 15, 3) := by decide +kernel
theorem dX8_copyRow_8 : decode cX8_copyRow 8 = .ok (.aload_n 1, 1) := by decide +kernel
theorem dX8_copyRow_9 : decode cX8_copyRow 9 = .ok (.iload_n 2, 1) := by decide +kernel
theorem dX8_copyRow_10 : decode cX8_copyRow 10 = .ok (.aload_n 0, 1) := by decide +kernel
theorem dX8_copyRow_11 : decode cX8_copyRow 11 = .ok (.iload_n 2, 1) := by decide +kernel
theorem dX8_copyRow_12 : decode cX8_copyRow 12 = .ok (.iaload, 1) := by decide +kernel
theorem dX8_copyRow_13 : decode cX8_copyRow 13 = .ok (.iastore, 1) := by decide +kernel
theorem dX8_copyRow_14 : decode cX8_copyRow 14 = .ok (.iinc 2 1, 3) := by decide +kernel
theorem dX8_copyRow_17 : decode cX8_copyRow 17 = .ok (.goto (-15), 3) := by decide +kernel
theorem dX8_copyRow_20 : decode cX8_copyRow 20 = .ok (.return_, 1) := by decide +kernel
theorem dX8_refuse_0 : decode cX8_refuse 0 = .ok (.iload_n 1, 1) := by decide +kernel
theorem dX8_refuse_1 : decode cX8_refuse 1 = .ok (.ifCond .eq 32, 3) := by decide +kernel
theorem dX8_refuse_4 : decode cX8_refuse 4 = .ok (.aload_n 0, 1) := by decide +kernel
theorem dX8_refuse_5 : decode cX8_refuse 5 = .ok (.iload_n 2, 1) := by decide +kernel
theorem dX8_refuse_6 : decode cX8_refuse 6 = .ok (.putfield 47, 3) := by decide +kernel
theorem dX8_refuse_9 : decode cX8_refuse 9 = .ok (.aload_n 0, 1) := by decide +kernel
theorem dX8_refuse_10 : decode cX8_refuse 10 = .ok (.iload_n 3, 1) := by decide +kernel
theorem dX8_refuse_11 : decode cX8_refuse 11 = .ok (.putfield 50, 3) := by decide +kernel
theorem dX8_refuse_14 : decode cX8_refuse 14 = .ok (.aload_n 0, 1) := by decide +kernel
theorem dX8_refuse_15 : decode cX8_refuse 15 = .ok (.aload_n 0, 1) := by decide +kernel
theorem dX8_refuse_16 : decode cX8_refuse 16 = .ok (.getfield 53, 3) := by decide +kernel
theorem dX8_refuse_19 : decode cX8_refuse 19 = .ok (.ifCond .eq 10, 3) := by decide +kernel
theorem dX8_refuse_22 : decode cX8_refuse 22 = .ok (.aload_n 0, 1) := by decide +kernel
theorem dX8_refuse_23 : decode cX8_refuse 23 = .ok (.getfield 57, 3) := by decide +kernel
theorem dX8_refuse_26 : decode cX8_refuse 26 = .ok (.goto 4, 3) := by decide +kernel
theorem dX8_refuse_29 : decode cX8_refuse 29 = .ok (.iconst (-1), 1) := by decide +kernel
theorem dX8_refuse_30 : decode cX8_refuse 30 = .ok (.putfield 24, 3) := by decide +kernel
theorem dX8_refuse_33 : decode cX8_refuse 33 = .ok (.iload_n 1, 1) := by decide +kernel
theorem dX8_refuse_34 : decode cX8_refuse 34 = .ok (.ireturn, 1) := by decide +kernel
theorem dX8_remember_0 : decode cX8_remember 0 = .ok (.aload_n 0, 1) := by decide +kernel
theorem dX8_remember_1 : decode cX8_remember 1 = .ok (.getfield 60, 3) := by decide +kernel
theorem dX8_remember_4 : decode cX8_remember 4 = .ok (.bipush 8, 2) := by decide +kernel
theorem dX8_remember_6 : decode cX8_remember 6 = .ok (.if_icmp .ne 46, 3) := by decide +kernel
theorem dX8_remember_9 : decode cX8_remember 9 = .ok (.aload_n 0, 1) := by decide +kernel
theorem dX8_remember_10 : decode cX8_remember 10 = .ok (.dup, 1) := by decide +kernel
theorem dX8_remember_11 : decode cX8_remember 11 = .ok (.getfield 60, 3) := by decide +kernel
theorem dX8_remember_14 : decode cX8_remember 14 = .ok (.iconst 1, 1) := by decide +kernel
theorem dX8_remember_15 : decode cX8_remember 15 = .ok (.isub, 1) := by decide +kernel
theorem dX8_remember_16 : decode cX8_remember 16 = .ok (.putfield 60, 3) := by decide +kernel
theorem dX8_remember_19 : decode cX8_remember 19 = .ok (.iconst 0, 1) := by decide +kernel
theorem dX8_remember_20 : decode cX8_remember 20 = .ok (.istore_n 2, 1) := by decide +kernel
theorem dX8_remember_21 : decode cX8_remember 21 = .ok (.iload_n 2, 1) := by decide +kernel
theorem dX8_remember_22 : decode cX8_remember 22 = .ok (.aload_n 0, 1) := by decide +kernel
theorem dX8_remember_23 : decode cX8_remember 23 = .ok (.getfield 60, 3) := by decide +kernel
theorem dX8_remember_26 : decode cX8_remember 26 = .ok (.if_icmp .ge 26, 3) := by decide +kernel
theorem dX8_remember_29 : decode cX8_remember 29 = .ok (.aload_n 0, 1) := by decide +kernel
theorem dX8_remember_30 : decode cX8_remember 30 = .ok (.getfield 21, 3) := by decide +kernel
theorem dX8_remember_33 : decode cX8_remember 33 = .ok (.iload_n 2, 1) := by decide +kernel
theorem dX8_remember_34 : decode cX8_remember 34 = .ok (.iconst 1, 1) := by decide +kernel
theorem dX8_remember_35 : decode cX8_remember 35 = .ok (.iadd, 1) := by decide +kernel
theorem dX8_remember_36 : decode cX8_remember 36 = .ok (.aaload, 1) := by decide +kernel
theorem dX8_remember_37 : decode cX8_remember 37 = .ok (.aload_n 0, 1) := by decide +kernel
theorem dX8_remember_38 : decode cX8_remember 38 = .ok (.getfield 21, 3) := by decide +kernel
theorem dX8_remember_41 : decode cX8_remember 41 = .ok (.iload_n 2, 1) := by decide +kernel
theorem dX8_remember_42 : decode cX8_remember 42 = .ok (.aaload, 1) := by decide +kernel
theorem dX8_remember_43 : decode cX8_remember 43 = .ok (.invokestatic 63, 3) := by decide +kernel
theorem dX8_remember_46 : decode cX8_remember 46 = .ok (.iinc 2 1, 3) := by decide +kernel
theorem dX8_remember_49 : decode cX8_remember 49 = .ok (.goto (-28), 3) := by decide +kernel
theorem dX8_remember_52 : decode cX8_remember 52 = .ok (.aload_n 1, 1) := by decide +kernel
theorem dX8_remember_53 : decode cX8_remember 53 = .ok (.aload_n 0, 1) := by decide +kernel
theorem dX8_remember_54 : decode cX8_remember 54 = .ok (.getfield 21, 3) := by decide +kernel
theorem dX8_remember_57 : decode cX8_remember 57 = .ok (.aload_n 0, 1) := by decide +kernel
theorem dX8_remember_58 : decode cX8_remember 58 = .ok (.getfield 60, 3) := by decide +kernel
theorem dX8_remember_61 : decode cX8_remember 61 = .ok (.aaload, 1) := by decide +kernel
theorem dX8_remember_62 : decode cX8_remember 62 = .ok (.invokestatic 63, 3) := by decide +kernel
theorem dX8_remember_65 : decode cX8_remember 65 = .ok (.aload_n 0, 1) := by decide +kernel
theorem dX8_remember_66 : decode cX8_remember 66 = .ok (.dup, 1) := by decide +kernel
theorem dX8_remember_67 : decode cX8_remember 67 = .ok (.getfield 60, 3) := by decide +kernel
theorem dX8_remember_70 : decode cX8_remember 70 = .ok (.iconst 1, 1) := by decide +kernel
theorem dX8_remember_71 : decode cX8_remember 71 = .ok (.iadd, 1) := by decide +kernel
theorem dX8_remember_72 : decode cX8_remember 72 = .ok (.putfield 60, 3) := by decide +kernel
theorem dX8_remember_75 : decode cX8_remember 75 = .ok (.return_, 1) := by decide +kernel
theorem dX8_change_0 : decode cX8_change 0 = .ok (.aload_n 0, 1) := by decide +kernel
theorem dX8_change_1 : decode cX8_change 1 = .ok (.getfield 53, 3) := by decide +kernel
theorem dX8_change_4 : decode cX8_change 4 = .ok (.ifCond .ne 11, 3) := by decide +kernel
theorem dX8_change_7 : decode cX8_change 7 = .ok (.aload_n 0, 1) := by decide +kernel
theorem dX8_change_8 : decode cX8_change 8 = .ok (.aload_n 0, 1) := by decide +kernel
theorem dX8_change_9 : decode cX8_change 9 = .ok (.getfield 9, 3) := by decide +kernel
theorem dX8_change_12 : decode cX8_change 12 = .ok (.invokevirtual 67, 3) := by decide +kernel
theorem dX8_change_15 : decode cX8_change 15 = .ok (.return_, 1) := by decide +kernel
theorem dX8_isRow_0 : decode cX8_isRow 0 = .ok (.iload_n 1, 1) := by decide +kernel
theorem dX8_isRow_1 : decode cX8_isRow 1 = .ok (.iconst 0, 1) := by decide +kernel
theorem dX8_isRow_2 : decode cX8_isRow 2 = .ok (.aload_n 0, 1) := by decide +kernel
theorem dX8_isRow_3 : decode cX8_isRow 3 = .ok (.getfield 9, 3) := by decide +kernel
theorem dX8_isRow_6 : decode cX8_isRow 6 = .ok (.iconst 0, 1) := by decide +kernel
theorem dX8_isRow_7 : decode cX8_isRow 7 = .ok (.iaload, 1) := by decide +kernel
theorem dX8_isRow_8 : decode cX8_isRow 8 = .ok (.iconst 1, 1) := by decide +kernel
theorem dX8_isRow_9 : decode cX8_isRow 9 = .ok (.isub, 1) := by decide +kernel
theorem dX8_isRow_10 : decode cX8_isRow 10 = .ok (.invokestatic 71, 3) := by decide +kernel
theorem dX8_isRow_13 : decode cX8_isRow 13 = .ok (.ireturn, 1) := by decide +kernel
theorem dX8_lengthOf_0 : decode cX8_lengthOf 0 = .ok (.aload_n 0, 1) := by decide +kernel
theorem dX8_lengthOf_1 : decode cX8_lengthOf 1 = .ok (.getfield 9, 3) := by decide +kernel
theorem dX8_lengthOf_4 : decode cX8_lengthOf 4 = .ok (.bipush 9, 2) := by decide +kernel
theorem dX8_lengthOf_6 : decode cX8_lengthOf 6 = .ok (.bipush 9, 2) := by decide +kernel
theorem dX8_lengthOf_8 : decode cX8_lengthOf 8 = .ok (.iload_n 1, 1) := by decide +kernel
theorem dX8_lengthOf_9 : decode cX8_lengthOf 9 = .ok (.imul, 1) := by decide +kernel
theorem dX8_lengthOf_10 : decode cX8_lengthOf 10 = .ok (.iadd, 1) := by decide +kernel
theorem dX8_lengthOf_11 : decode cX8_lengthOf 11 = .ok (.iaload, 1) := by decide +kernel
theorem dX8_lengthOf_12 : decode cX8_lengthOf 12 = .ok (.ireturn, 1) := by decide +kernel
theorem dX8_isBeat_0 : decode cX8_isBeat 0 = .ok (.iload_n 2, 1) := by decide +kernel
theorem dX8_isBeat_1 : decode cX8_isBeat 1 = .ok (.iconst 0, 1) := by decide +kernel
theorem dX8_isBeat_2 : decode cX8_isBeat 2 = .ok (.aload_n 0, 1) := by decide +kernel
theorem dX8_isBeat_3 : decode cX8_isBeat 3 = .ok (.iload_n 1, 1) := by decide +kernel
theorem dX8_isBeat_4 : decode cX8_isBeat 4 = .ok (.invokevirtual 75, 3) := by decide +kernel
theorem dX8_isBeat_7 : decode cX8_isBeat 7 = .ok (.iconst 1, 1) := by decide +kernel
theorem dX8_isBeat_8 : decode cX8_isBeat 8 = .ok (.isub, 1) := by decide +kernel
theorem dX8_isBeat_9 : decode cX8_isBeat 9 = .ok (.invokestatic 71, 3) := by decide +kernel
theorem dX8_isBeat_12 : decode cX8_isBeat 12 = .ok (.ireturn, 1) := by decide +kernel
theorem dX8_thrown_0 : decode cX8_thrown 0 = .ok (.aload_n 0, 1) := by decide +kernel
theorem dX8_thrown_1 : decode cX8_thrown 1 = .ok (.getfield 9, 3) := by decide +kernel
theorem dX8_thrown_4 : decode cX8_thrown 4 = .ok (.bipush 9, 2) := by decide +kernel
theorem dX8_thrown_6 : decode cX8_thrown 6 = .ok (.bipush 9, 2) := by decide +kernel
theorem dX8_thrown_8 : decode cX8_thrown 8 = .ok (.iload_n 1, 1) := by decide +kernel
theorem dX8_thrown_9 : decode cX8_thrown 9 = .ok (.imul, 1) := by decide +kernel
theorem dX8_thrown_10 : decode cX8_thrown 10 = .ok (.iadd, 1) := by decide +kernel
theorem dX8_thrown_11 : decode cX8_thrown 11 = .ok (.iconst 1, 1) := by decide +kernel
theorem dX8_thrown_12 : decode cX8_thrown 12 = .ok (.iadd, 1) := by decide +kernel
theorem dX8_thrown_13 : decode cX8_thrown 13 = .ok (.iload_n 2, 1) := by decide +kernel
theorem dX8_thrown_14 : decode cX8_thrown 14 = .ok (.iadd, 1) := by decide +kernel
theorem dX8_thrown_15 : decode cX8_thrown 15 = .ok (.iaload, 1) := by decide +kernel
theorem dX8_thrown_16 : decode cX8_thrown 16 = .ok (.ireturn, 1) := by decide +kernel
theorem dX8_putThrow_0 : decode cX8_putThrow 0 = .ok (.aload_n 0, 1) := by decide +kernel
theorem dX8_putThrow_1 : decode cX8_putThrow 1 = .ok (.getfield 9, 3) := by decide +kernel
theorem dX8_putThrow_4 : decode cX8_putThrow 4 = .ok (.bipush 9, 2) := by decide +kernel
theorem dX8_putThrow_6 : decode cX8_putThrow 6 = .ok (.bipush 9, 2) := by decide +kernel
theorem dX8_putThrow_8 : decode cX8_putThrow 8 = .ok (.iload_n 1, 1) := by decide +kernel
theorem dX8_putThrow_9 : decode cX8_putThrow 9 = .ok (.imul, 1) := by decide +kernel
theorem dX8_putThrow_10 : decode cX8_putThrow 10 = .ok (.iadd, 1) := by decide +kernel
theorem dX8_putThrow_11 : decode cX8_putThrow 11 = .ok (.iconst 1, 1) := by decide +kernel
theorem dX8_putThrow_12 : decode cX8_putThrow 12 = .ok (.iadd, 1) := by decide +kernel
theorem dX8_putThrow_13 : decode cX8_putThrow 13 = .ok (.iload_n 2, 1) := by decide +kernel
theorem dX8_putThrow_14 : decode cX8_putThrow 14 = .ok (.iadd, 1) := by decide +kernel
theorem dX8_putThrow_15 : decode cX8_putThrow 15 = .ok (.iload_n 3, 1) := by decide +kernel
theorem dX8_putThrow_16 : decode cX8_putThrow 16 = .ok (.iastore, 1) := by decide +kernel
theorem dX8_putThrow_17 : decode cX8_putThrow 17 = .ok (.return_, 1) := by decide +kernel
theorem dX8_sumOf_0 : decode cX8_sumOf 0 = .ok (.iconst 0, 1) := by decide +kernel
theorem dX8_sumOf_1 : decode cX8_sumOf 1 = .ok (.istore_n 2, 1) := by decide +kernel
theorem dX8_sumOf_2 : decode cX8_sumOf 2 = .ok (.iconst 0, 1) := by decide +kernel
theorem dX8_sumOf_3 : decode cX8_sumOf 3 = .ok (.istore_n 3, 1) := by decide +kernel
theorem dX8_sumOf_4 : decode cX8_sumOf 4 = .ok (.iload_n 3, 1) := by decide +kernel
theorem dX8_sumOf_5 : decode cX8_sumOf 5 = .ok (.aload_n 0, 1) := by decide +kernel
theorem dX8_sumOf_6 : decode cX8_sumOf 6 = .ok (.iload_n 1, 1) := by decide +kernel
theorem dX8_sumOf_7 : decode cX8_sumOf 7 = .ok (.invokevirtual 75, 3) := by decide +kernel
theorem dX8_sumOf_10 : decode cX8_sumOf 10 = .ok (.if_icmp .ge 18, 3) := by decide +kernel
theorem dX8_sumOf_13 : decode cX8_sumOf 13 = .ok (.iload_n 2, 1) := by decide +kernel
theorem dX8_sumOf_14 : decode cX8_sumOf 14 = .ok (.aload_n 0, 1) := by decide +kernel
theorem dX8_sumOf_15 : decode cX8_sumOf 15 = .ok (.iload_n 1, 1) := by decide +kernel
theorem dX8_sumOf_16 : decode cX8_sumOf 16 = .ok (.iload_n 3, 1) := by decide +kernel
theorem dX8_sumOf_17 : decode cX8_sumOf 17 = .ok (.invokevirtual 79, 3) := by decide +kernel
theorem dX8_sumOf_20 : decode cX8_sumOf 20 = .ok (.iadd, 1) := by decide +kernel
theorem dX8_sumOf_21 : decode cX8_sumOf 21 = .ok (.istore_n 2, 1) := by decide +kernel
theorem dX8_sumOf_22 : decode cX8_sumOf 22 = .ok (.iinc 3 1, 3) := by decide +kernel
theorem dX8_sumOf_25 : decode cX8_sumOf 25 = .ok (.goto (-21), 3) := by decide +kernel
theorem dX8_sumOf_28 : decode cX8_sumOf 28 = .ok (.iload_n 2, 1) := by decide +kernel
theorem dX8_sumOf_29 : decode cX8_sumOf 29 = .ok (.ireturn, 1) := by decide +kernel
theorem dX8_clashOf_0 : decode cX8_clashOf 0 = .ok (.aload_n 0, 1) := by decide +kernel
theorem dX8_clashOf_1 : decode cX8_clashOf 1 = .ok (.iload_n 1, 1) := by decide +kernel
theorem dX8_clashOf_2 : decode cX8_clashOf 2 = .ok (.invokevirtual 75, 3) := by decide +kernel
theorem dX8_clashOf_5 : decode cX8_clashOf 5 = .ok (.istore_n 2, 1) := by decide +kernel
theorem dX8_clashOf_6 : decode cX8_clashOf 6 = .ok (.iconst 0, 1) := by decide +kernel
theorem dX8_clashOf_7 : decode cX8_clashOf 7 = .ok (.istore_n 3, 1) := by decide +kernel
theorem dX8_clashOf_8 : decode cX8_clashOf 8 = .ok (.iload_n 3, 1) := by decide +kernel
theorem dX8_clashOf_9 : decode cX8_clashOf 9 = .ok (.iload_n 2, 1) := by decide +kernel
theorem dX8_clashOf_10 : decode cX8_clashOf 10 = .ok (.if_icmp .ge 53, 3) := by decide +kernel
theorem dX8_clashOf_13 : decode cX8_clashOf 13 = .ok (.iload_n 3, 1) := by decide +kernel
theorem dX8_clashOf_14 : decode cX8_clashOf 14 = .ok (.iconst 1, 1) := by decide +kernel
theorem dX8_clashOf_15 : decode cX8_clashOf 15 = .ok (.iadd, 1) := by decide +kernel
theorem dX8_clashOf_16 : decode cX8_clashOf 16 = .ok (.istore 4, 2) := by decide +kernel
theorem dX8_clashOf_18 : decode cX8_clashOf 18 = .ok (.iload 4, 2) := by decide +kernel
theorem dX8_clashOf_20 : decode cX8_clashOf 20 = .ok (.iload_n 2, 1) := by decide +kernel
theorem dX8_clashOf_21 : decode cX8_clashOf 21 = .ok (.if_icmp .ge 36, 3) := by decide +kernel
theorem dX8_clashOf_24 : decode cX8_clashOf 24 = .ok (.iload_n 3, 1) := by decide +kernel
theorem dX8_clashOf_25 : decode cX8_clashOf 25 = .ok (.aload_n 0, 1) := by decide +kernel
theorem dX8_clashOf_26 : decode cX8_clashOf 26 = .ok (.iload_n 1, 1) := by decide +kernel
theorem dX8_clashOf_27 : decode cX8_clashOf 27 = .ok (.iload_n 3, 1) := by decide +kernel
theorem dX8_clashOf_28 : decode cX8_clashOf 28 = .ok (.invokevirtual 79, 3) := by decide +kernel
theorem dX8_clashOf_31 : decode cX8_clashOf 31 = .ok (.iadd, 1) := by decide +kernel
theorem dX8_clashOf_32 : decode cX8_clashOf 32 = .ok (.iload_n 2, 1) := by decide +kernel
theorem dX8_clashOf_33 : decode cX8_clashOf 33 = .ok (.irem, 1) := by decide +kernel
theorem dX8_clashOf_34 : decode cX8_clashOf 34 = .ok (.iload 4, 2) := by decide +kernel
theorem dX8_clashOf_36 : decode cX8_clashOf 36 = .ok (.aload_n 0, 1) := by decide +kernel
theorem dX8_clashOf_37 : decode cX8_clashOf 37 = .ok (.iload_n 1, 1) := by decide +kernel
theorem dX8_clashOf_38 : decode cX8_clashOf 38 = .ok (.iload 4, 2) := by decide +kernel
theorem dX8_clashOf_40 : decode cX8_clashOf 40 = .ok (.invokevirtual 79, 3) := by decide +kernel
theorem dX8_clashOf_43 : decode cX8_clashOf 43 = .ok (.iadd, 1) := by decide +kernel
theorem dX8_clashOf_44 : decode cX8_clashOf 44 = .ok (.iload_n 2, 1) := by decide +kernel
theorem dX8_clashOf_45 : decode cX8_clashOf 45 = .ok (.irem, 1) := by decide +kernel
theorem dX8_clashOf_46 : decode cX8_clashOf 46 = .ok (.if_icmp .ne 5, 3) := by decide +kernel
theorem dX8_clashOf_49 : decode cX8_clashOf 49 = .ok (.iload_n 3, 1) := by decide +kernel
theorem dX8_clashOf_50 : decode cX8_clashOf 50 = .ok (.ireturn, 1) := by decide +kernel
theorem dX8_clashOf_51 : decode cX8_clashOf 51 = .ok (.iinc 4 1, 3) := by decide +kernel
theorem dX8_clashOf_54 : decode cX8_clashOf 54 = .ok (.goto (-36), 3) := by decide +kernel
theorem dX8_clashOf_57 : decode cX8_clashOf 57 = .ok (.iinc 3 1, 3) := by decide +kernel
theorem dX8_clashOf_60 : decode cX8_clashOf 60 = .ok (.goto (-52), 3) := by decide +kernel
theorem dX8_clashOf_63 : decode cX8_clashOf 63 = .ok (.iconst (-1), 1) := by decide +kernel
theorem dX8_clashOf_64 : decode cX8_clashOf 64 = .ok (.ireturn, 1) := by decide +kernel
theorem dX8_ballsOf_0 : decode cX8_ballsOf 0 = .ok (.aload_n 0, 1) := by decide +kernel
theorem dX8_ballsOf_1 : decode cX8_ballsOf 1 = .ok (.iload_n 1, 1) := by decide +kernel
theorem dX8_ballsOf_2 : decode cX8_ballsOf 2 = .ok (.invokevirtual 83, 3) := by decide +kernel
theorem dX8_ballsOf_5 : decode cX8_ballsOf 5 = .ok (.ifCond .lt 7, 3) := by decide +kernel
theorem dX8_ballsOf_8 : decode cX8_ballsOf 8 = .ok (.iconst (-1), 1) := by decide +kernel
theorem dX8_ballsOf_9 : decode cX8_ballsOf 9 = .ok (.goto 14, 3) := by decide +kernel
theorem dX8_ballsOf_12 : decode cX8_ballsOf 12 = .ok (.aload_n 0, 1) := by decide +kernel
theorem dX8_ballsOf_13 : decode cX8_ballsOf 13 = .ok (.iload_n 1, 1) := by decide +kernel
theorem dX8_ballsOf_14 : decode cX8_ballsOf 14 = .ok (.invokevirtual 86, 3) := by decide +kernel
theorem dX8_ballsOf_17 : decode cX8_ballsOf 17 = .ok (.aload_n 0, 1) := by decide +kernel
theorem dX8_ballsOf_18 : decode cX8_ballsOf 18 = .ok (.iload_n 1, 1) := by decide +kernel
theorem dX8_ballsOf_19 : decode cX8_ballsOf 19 = .ok (.invokevirtual 75, 3) := by decide +kernel
theorem dX8_ballsOf_22 : decode cX8_ballsOf 22 = .ok (.idiv, 1) := by decide +kernel
theorem dX8_ballsOf_23 : decode cX8_ballsOf 23 = .ok (.ireturn, 1) := by decide +kernel
theorem dX8_stateAt_0 : decode cX8_stateAt 0 = .ok (.aload_n 0, 1) := by decide +kernel
theorem dX8_stateAt_1 : decode cX8_stateAt 1 = .ok (.iload_n 1, 1) := by decide +kernel
theorem dX8_stateAt_2 : decode cX8_stateAt 2 = .ok (.invokevirtual 75, 3) := by decide +kernel
theorem dX8_stateAt_5 : decode cX8_stateAt 5 = .ok (.istore_n 3, 1) := by decide +kernel
theorem dX8_stateAt_6 : decode cX8_stateAt 6 = .ok (.iconst 0, 1) := by decide +kernel
theorem dX8_stateAt_7 : decode cX8_stateAt 7 = .ok (.istore 4, 2) := by decide +kernel
theorem dX8_stateAt_9 : decode cX8_stateAt 9 = .ok (.iconst 1, 1) := by decide +kernel
theorem dX8_stateAt_10 : decode cX8_stateAt 10 = .ok (.istore 5, 2) := by decide +kernel
theorem dX8_stateAt_12 : decode cX8_stateAt 12 = .ok (.iload 5, 2) := by decide +kernel
theorem dX8_stateAt_14 : decode cX8_stateAt 14 = .ok (.bipush 9, 2) := by decide +kernel
theorem dX8_stateAt_16 : decode cX8_stateAt 16 = .ok (.if_icmp .gt 48, 3) := by decide +kernel
theorem dX8_stateAt_19 : decode cX8_stateAt 19 = .ok (.aload_n 0, 1) := by decide +kernel
theorem dX8_stateAt_20 : decode cX8_stateAt 20 = .ok (.iload_n 1, 1) := by decide +kernel
theorem dX8_stateAt_21 : decode cX8_stateAt 21 = .ok (.iload_n 2, 1) := by decide +kernel
theorem dX8_stateAt_22 : decode cX8_stateAt 22 = .ok (.bipush 16, 2) := by decide +kernel
theorem dX8_stateAt_24 : decode cX8_stateAt 24 = .ok (.iload_n 3, 1) := by decide +kernel
theorem dX8_stateAt_25 : decode cX8_stateAt 25 = .ok (.imul, 1) := by decide +kernel
theorem dX8_stateAt_26 : decode cX8_stateAt 26 = .ok (.iadd, 1) := by decide +kernel
theorem dX8_stateAt_27 : decode cX8_stateAt 27 = .ok (.iload 5, 2) := by decide +kernel
theorem dX8_stateAt_29 : decode cX8_stateAt 29 = .ok (.isub, 1) := by decide +kernel
theorem dX8_stateAt_30 : decode cX8_stateAt 30 = .ok (.iload_n 3, 1) := by decide +kernel
theorem dX8_stateAt_31 : decode cX8_stateAt 31 = .ok (.irem, 1) := by decide +kernel
theorem dX8_stateAt_32 : decode cX8_stateAt 32 = .ok (.invokevirtual 79, 3) := by decide +kernel
theorem dX8_stateAt_35 : decode cX8_stateAt 35 = .ok (.iload 5, 2) := by decide +kernel
theorem dX8_stateAt_37 : decode cX8_stateAt 37 = .ok (.isub, 1) := by decide +kernel
theorem dX8_stateAt_38 : decode cX8_stateAt 38 = .ok (.istore 6, 2) := by decide +kernel
theorem dX8_stateAt_40 : decode cX8_stateAt 40 = .ok (.iload 4, 2) := by decide +kernel
theorem dX8_stateAt_42 : decode cX8_stateAt 42 = .ok (.iload 6, 2) := by decide +kernel
theorem dX8_stateAt_44 : decode cX8_stateAt 44 = .ok (.ifCond .lt 10, 3) := by decide +kernel
theorem dX8_stateAt_47 : decode cX8_stateAt 47 = .ok (.iconst 1, 1) := by decide +kernel
theorem dX8_stateAt_48 : decode cX8_stateAt 48 = .ok (.iload 6, 2) := by decide +kernel
theorem dX8_stateAt_50 : decode cX8_stateAt 50 = .ok (.ishl, 1) := by decide +kernel
theorem dX8_stateAt_51 : decode cX8_stateAt 51 = .ok (.goto 4, 3) := by decide +kernel
theorem dX8_stateAt_54 : decode cX8_stateAt 54 = .ok (.iconst 0, 1) := by decide +kernel
theorem dX8_stateAt_55 : decode cX8_stateAt 55 = .ok (.ior, 1) := by decide +kernel
theorem dX8_stateAt_56 : decode cX8_stateAt 56 = .ok (.istore 4, 2) := by decide +kernel
theorem dX8_stateAt_58 : decode cX8_stateAt 58 = .ok (.iinc 5 1, 3) := by decide +kernel
theorem dX8_stateAt_61 : decode cX8_stateAt 61 = .ok (.goto (-49), 3) := by decide +kernel
theorem dX8_stateAt_64 : decode cX8_stateAt 64 = .ok (.iload 4, 2) := by decide +kernel
theorem dX8_stateAt_66 : decode cX8_stateAt 66 = .ok (.ireturn, 1) := by decide +kernel
theorem dX8_can_0 : decode cX8_can 0 = .ok (.iload_n 1, 1) := by decide +kernel
theorem dX8_can_1 : decode cX8_can 1 = .ok (.ifCond .ne 15, 3) := by decide +kernel
theorem dX8_can_4 : decode cX8_can 4 = .ok (.iload_n 0, 1) := by decide +kernel
theorem dX8_can_5 : decode cX8_can 5 = .ok (.iconst 1, 1) := by decide +kernel
theorem dX8_can_6 : decode cX8_can 6 = .ok (.iand, 1) := by decide +kernel
theorem dX8_can_7 : decode cX8_can 7 = .ok (.ifCond .ne 7, 3) := by decide +kernel
theorem dX8_can_10 : decode cX8_can 10 = .ok (.iconst 1, 1) := by decide +kernel
theorem dX8_can_11 : decode cX8_can 11 = .ok (.goto 4, 3) := by decide +kernel
theorem dX8_can_14 : decode cX8_can 14 = .ok (.iconst 0, 1) := by decide +kernel
theorem dX8_can_15 : decode cX8_can 15 = .ok (.ireturn, 1) := by decide +kernel
theorem dX8_can_16 : decode cX8_can 16 = .ok (.iload_n 0, 1) := by decide +kernel
theorem dX8_can_17 : decode cX8_can 17 = .ok (.iconst 1, 1) := by decide +kernel
theorem dX8_can_18 : decode cX8_can 18 = .ok (.iand, 1) := by decide +kernel
theorem dX8_can_19 : decode cX8_can 19 = .ok (.iconst 1, 1) := by decide +kernel
theorem dX8_can_20 : decode cX8_can 20 = .ok (.if_icmp .ne 15, 3) := by decide +kernel
theorem dX8_can_23 : decode cX8_can 23 = .ok (.iload_n 0, 1) := by decide +kernel
theorem dX8_can_24 : decode cX8_can 24 = .ok (.iload_n 1, 1) := by decide +kernel
theorem dX8_can_25 : decode cX8_can 25 = .ok (.ishr, 1) := by decide +kernel
theorem dX8_can_26 : decode cX8_can 26 = .ok (.iconst 1, 1) := by decide +kernel
theorem dX8_can_27 : decode cX8_can 27 = .ok (.iand, 1) := by decide +kernel
theorem dX8_can_28 : decode cX8_can 28 = .ok (.ifCond .ne 7, 3) := by decide +kernel
theorem dX8_can_31 : decode cX8_can 31 = .ok (.iconst 1, 1) := by decide +kernel
theorem dX8_can_32 : decode cX8_can 32 = .ok (.goto 4, 3) := by decide +kernel
theorem dX8_can_35 : decode cX8_can 35 = .ok (.iconst 0, 1) := by decide +kernel
theorem dX8_can_36 : decode cX8_can 36 = .ok (.ireturn, 1) := by decide +kernel
theorem dX8_behind_0 : decode cX8_behind 0 = .ok (.iload_n 0, 1) := by decide +kernel
theorem dX8_behind_1 : decode cX8_behind 1 = .ok (.iconst 1, 1) := by decide +kernel
theorem dX8_behind_2 : decode cX8_behind 2 = .ok (.ishr, 1) := by decide +kernel
theorem dX8_behind_3 : decode cX8_behind 3 = .ok (.iload_n 1, 1) := by decide +kernel
theorem dX8_behind_4 : decode cX8_behind 4 = .ok (.ifCond .ne 7, 3) := by decide +kernel
theorem dX8_behind_7 : decode cX8_behind 7 = .ok (.iconst 0, 1) := by decide +kernel
theorem dX8_behind_8 : decode cX8_behind 8 = .ok (.goto 8, 3) := by decide +kernel
theorem dX8_behind_11 : decode cX8_behind 11 = .ok (.iconst 1, 1) := by decide +kernel
theorem dX8_behind_12 : decode cX8_behind 12 = .ok (.iload_n 1, 1) := by decide +kernel
theorem dX8_behind_13 : decode cX8_behind 13 = .ok (.iconst 1, 1) := by decide +kernel
theorem dX8_behind_14 : decode cX8_behind 14 = .ok (.isub, 1) := by decide +kernel
theorem dX8_behind_15 : decode cX8_behind 15 = .ok (.ishl, 1) := by decide +kernel
theorem dX8_behind_16 : decode cX8_behind 16 = .ok (.ior, 1) := by decide +kernel
theorem dX8_behind_17 : decode cX8_behind 17 = .ok (.ireturn, 1) := by decide +kernel
theorem dX8_findJoin_0 : decode cX8_findJoin 0 = .ok (.iconst 0, 1) := by decide +kernel
theorem dX8_findJoin_1 : decode cX8_findJoin 1 = .ok (.istore_n 3, 1) := by decide +kernel
theorem dX8_findJoin_2 : decode cX8_findJoin 2 = .ok (.iload_n 3, 1) := by decide +kernel
theorem dX8_findJoin_3 : decode cX8_findJoin 3 = .ok (.sipush 512, 3) := by decide +kernel
theorem dX8_findJoin_6 : decode cX8_findJoin 6 = .ok (.if_icmp .ge 16, 3) := by decide +kernel
theorem dX8_findJoin_9 : decode cX8_findJoin 9 = .ok (.aload_n 0, 1) := by decide +kernel
theorem dX8_findJoin_10 : decode cX8_findJoin 10 = .ok (.getfield 34, 3) := by decide +kernel
theorem dX8_findJoin_13 : decode cX8_findJoin 13 = .ok (.iload_n 3, 1) := by decide +kernel
theorem dX8_findJoin_14 : decode cX8_findJoin 14 = .ok (.iconst (-1), 1) := by decide +kernel
theorem dX8_findJoin_15 : decode cX8_findJoin 15 = .ok (.iastore, 1) := by decide +kernel
theorem dX8_findJoin_16 : decode cX8_findJoin 16 = .ok (.iinc 3 1, 3) := by decide +kernel
theorem dX8_findJoin_19 : decode cX8_findJoin 19 = .ok (.goto (-17), 3) := by decide +kernel
theorem dX8_findJoin_22 : decode cX8_findJoin 22 = .ok (.aload_n 0, 1) := by decide +kernel
theorem dX8_findJoin_23 : decode cX8_findJoin 23 = .ok (.getfield 28, 3) := by decide +kernel
theorem dX8_findJoin_26 : decode cX8_findJoin 26 = .ok (.iconst 0, 1) := by decide +kernel
theorem dX8_findJoin_27 : decode cX8_findJoin 27 = .ok (.iload_n 1, 1) := by decide +kernel
theorem dX8_findJoin_28 : decode cX8_findJoin 28 = .ok (.iastore, 1) := by decide +kernel
theorem dX8_findJoin_29 : decode cX8_findJoin 29 = .ok (.aload_n 0, 1) := by decide +kernel
theorem dX8_findJoin_30 : decode cX8_findJoin 30 = .ok (.getfield 34, 3) := by decide +kernel
theorem dX8_findJoin_33 : decode cX8_findJoin 33 = .ok (.iload_n 1, 1) := by decide +kernel
theorem dX8_findJoin_34 : decode cX8_findJoin 34 = .ok (.bipush 10, 2) := by decide +kernel
theorem dX8_findJoin_36 : decode cX8_findJoin 36 = .ok (.iastore, 1) := by decide +kernel
theorem dX8_findJoin_37 : decode cX8_findJoin 37 = .ok (.iconst 1, 1) := by decide +kernel
theorem dX8_findJoin_38 : decode cX8_findJoin 38 = .ok (.istore_n 3, 1) := by decide +kernel
theorem dX8_findJoin_39 : decode cX8_findJoin 39 = .ok (.iconst 0, 1) := by decide +kernel
theorem dX8_findJoin_40 : decode cX8_findJoin 40 = .ok (.istore 4, 2) := by decide +kernel
theorem dX8_findJoin_42 : decode cX8_findJoin 42 = .ok (.iload 4, 2) := by decide +kernel
theorem dX8_findJoin_44 : decode cX8_findJoin 44 = .ok (.iload_n 3, 1) := by decide +kernel
theorem dX8_findJoin_45 : decode cX8_findJoin 45 = .ok (.if_icmp .ge 107, 3) := by decide +kernel
theorem dX8_findJoin_48 : decode cX8_findJoin 48 = .ok (.aload_n 0, 1) := by decide +kernel
theorem dX8_findJoin_49 : decode cX8_findJoin 49 = .ok (.getfield 34, 3) := by decide +kernel
theorem dX8_findJoin_52 : decode cX8_findJoin 52 = .ok (.iload_n 2, 1) := by decide +kernel
theorem dX8_findJoin_53 : decode cX8_findJoin 53 = .ok (.iaload, 1) := by decide +kernel
theorem dX8_findJoin_54 : decode cX8_findJoin 54 = .ok (.ifCond .ge 98, 3) := by decide +kernel
theorem dX8_findJoin_57 : decode cX8_findJoin 57 = .ok (.iconst 0, 1) := by decide +kernel
theorem dX8_findJoin_58 : decode cX8_findJoin 58 = .ok (.istore 5, 2) := by decide +kernel
theorem dX8_findJoin_60 : decode cX8_findJoin 60 = .ok (.iload 5, 2) := by decide +kernel
theorem dX8_findJoin_62 : decode cX8_findJoin 62 = .ok (.bipush 9, 2) := by decide +kernel
theorem dX8_findJoin_64 : decode cX8_findJoin 64 = .ok (.if_icmp .gt 82, 3) := by decide +kernel
theorem dX8_findJoin_67 : decode cX8_findJoin 67 = .ok (.aload_n 0, 1) := by decide +kernel
theorem dX8_findJoin_68 : decode cX8_findJoin 68 = .ok (.getfield 28, 3) := by decide +kernel
theorem dX8_findJoin_71 : decode cX8_findJoin 71 = .ok (.iload 4, 2) := by decide +kernel
theorem dX8_findJoin_73 : decode cX8_findJoin 73 = .ok (.iaload, 1) := by decide +kernel
theorem dX8_findJoin_74 : decode cX8_findJoin 74 = .ok (.iload 5, 2) := by decide +kernel
theorem dX8_findJoin_76 : decode cX8_findJoin 76 = .ok (.invokestatic 89, 3) := by decide +kernel
theorem dX8_findJoin_79 : decode cX8_findJoin 79 = .ok (.istore 6, 2) := by decide +kernel
theorem dX8_findJoin_81 : decode cX8_findJoin 81 = .ok (.aload_n 0, 1) := by decide +kernel
theorem dX8_findJoin_82 : decode cX8_findJoin 82 = .ok (.getfield 28, 3) := by decide +kernel
theorem dX8_findJoin_85 : decode cX8_findJoin 85 = .ok (.iload 4, 2) := by decide +kernel
theorem dX8_findJoin_87 : decode cX8_findJoin 87 = .ok (.iaload, 1) := by decide +kernel
theorem dX8_findJoin_88 : decode cX8_findJoin 88 = .ok (.iload 5, 2) := by decide +kernel
theorem dX8_findJoin_90 : decode cX8_findJoin 90 = .ok (.invokestatic 92, 3) := by decide +kernel
theorem dX8_findJoin_93 : decode cX8_findJoin 93 = .ok (.ifCond .eq 47, 3) := by decide +kernel
theorem dX8_findJoin_96 : decode cX8_findJoin 96 = .ok (.aload_n 0, 1) := by decide +kernel
theorem dX8_findJoin_97 : decode cX8_findJoin 97 = .ok (.getfield 34, 3) := by decide +kernel
theorem dX8_findJoin_100 : decode cX8_findJoin 100 = .ok (.iload 6, 2) := by decide +kernel
theorem dX8_findJoin_102 : decode cX8_findJoin 102 = .ok (.iaload, 1) := by decide +kernel
theorem dX8_findJoin_103 : decode cX8_findJoin 103 = .ok (.ifCond .ge 37, 3) := by decide +kernel
theorem dX8_findJoin_106 : decode cX8_findJoin 106 = .ok (.aload_n 0, 1) := by decide +kernel
theorem dX8_findJoin_107 : decode cX8_findJoin 107 = .ok (.getfield 34, 3) := by decide +kernel
theorem dX8_findJoin_110 : decode cX8_findJoin 110 = .ok (.iload 6, 2) := by decide +kernel
theorem dX8_findJoin_112 : decode cX8_findJoin 112 = .ok (.iload 5, 2) := by decide +kernel
theorem dX8_findJoin_114 : decode cX8_findJoin 114 = .ok (.iastore, 1) := by decide +kernel
theorem dX8_findJoin_115 : decode cX8_findJoin 115 = .ok (.aload_n 0, 1) := by decide +kernel
theorem dX8_findJoin_116 : decode cX8_findJoin 116 = .ok (.getfield 31, 3) := by decide +kernel
theorem dX8_findJoin_119 : decode cX8_findJoin 119 = .ok (.iload 6, 2) := by decide +kernel
theorem dX8_findJoin_121 : decode cX8_findJoin 121 = .ok (.aload_n 0, 1) := by decide +kernel
theorem dX8_findJoin_122 : decode cX8_findJoin 122 = .ok (.getfield 28, 3) := by decide +kernel
theorem dX8_findJoin_125 : decode cX8_findJoin 125 = .ok (.iload 4, 2) := by decide +kernel
theorem dX8_findJoin_127 : decode cX8_findJoin 127 = .ok (.iaload, 1) := by decide +kernel
theorem dX8_findJoin_128 : decode cX8_findJoin 128 = .ok (.iastore, 1) := by decide +kernel
theorem dX8_findJoin_129 : decode cX8_findJoin 129 = .ok (.aload_n 0, 1) := by decide +kernel
theorem dX8_findJoin_130 : decode cX8_findJoin 130 = .ok (.getfield 28, 3) := by decide +kernel
theorem dX8_findJoin_133 : decode cX8_findJoin 133 = .ok (.iload_n 3, 1) := by decide +kernel
theorem dX8_findJoin_134 : decode cX8_findJoin 134 = .ok (.iload 6, 2) := by decide +kernel
theorem dX8_findJoin_136 : decode cX8_findJoin 136 = .ok (.iastore, 1) := by decide +kernel
theorem dX8_findJoin_137 : decode cX8_findJoin 137 = .ok (.iinc 3 1, 3) := by decide +kernel
theorem dX8_findJoin_140 : decode cX8_findJoin 140 = .ok (.iinc 5 1, 3) := by decide +kernel
theorem dX8_findJoin_143 : decode cX8_findJoin 143 = .ok (.goto (-83), 3) := by decide +kernel
theorem dX8_findJoin_146 : decode cX8_findJoin 146 = .ok (.iinc 4 1, 3) := by decide +kernel
theorem dX8_findJoin_149 : decode cX8_findJoin 149 = .ok (.goto (-107), 3) := by decide +kernel
theorem dX8_findJoin_152 : decode cX8_findJoin 152 = .ok (.aload_n 0, 1) := by decide +kernel
theorem dX8_findJoin_153 : decode cX8_findJoin 153 = .ok (.getfield 34, 3) := by decide +kernel
theorem dX8_findJoin_156 : decode cX8_findJoin 156 = .ok (.iload_n 2, 1) := by decide +kernel
theorem dX8_findJoin_157 : decode cX8_findJoin 157 = .ok (.iaload, 1) := by decide +kernel
theorem dX8_findJoin_158 : decode cX8_findJoin 158 = .ok (.ifCond .ge 5, 3) := by decide +kernel
theorem dX8_findJoin_161 : decode cX8_findJoin 161 = .ok (.iconst 0, 1) := by decide +kernel
theorem dX8_findJoin_162 : decode cX8_findJoin 162 = .ok (.ireturn, 1) := by decide +kernel
theorem dX8_findJoin_163 : decode cX8_findJoin 163 = .ok (.aload_n 0, 1) := by decide +kernel
theorem dX8_findJoin_164 : decode cX8_findJoin 164 = .ok (.iload_n 2, 1) := by decide +kernel
theorem dX8_findJoin_165 : decode cX8_findJoin 165 = .ok (.invokevirtual 96, 3) := by decide +kernel
theorem dX8_findJoin_168 : decode cX8_findJoin 168 = .ok (.iconst 1, 1) := by decide +kernel
theorem dX8_findJoin_169 : decode cX8_findJoin 169 = .ok (.ireturn, 1) := by decide +kernel
theorem dX8_takeJoin_0 : decode cX8_takeJoin 0 = .ok (.aload_n 0, 1) := by decide +kernel
theorem dX8_takeJoin_1 : decode cX8_takeJoin 1 = .ok (.iconst 0, 1) := by decide +kernel
theorem dX8_takeJoin_2 : decode cX8_takeJoin 2 = .ok (.putfield 100, 3) := by decide +kernel
theorem dX8_takeJoin_5 : decode cX8_takeJoin 5 = .ok (.iload_n 1, 1) := by decide +kernel
theorem dX8_takeJoin_6 : decode cX8_takeJoin 6 = .ok (.istore_n 2, 1) := by decide +kernel
theorem dX8_takeJoin_7 : decode cX8_takeJoin 7 = .ok (.aload_n 0, 1) := by decide +kernel
theorem dX8_takeJoin_8 : decode cX8_takeJoin 8 = .ok (.getfield 34, 3) := by decide +kernel
theorem dX8_takeJoin_11 : decode cX8_takeJoin 11 = .ok (.iload_n 2, 1) := by decide +kernel
theorem dX8_takeJoin_12 : decode cX8_takeJoin 12 = .ok (.iaload, 1) := by decide +kernel
theorem dX8_takeJoin_13 : decode cX8_takeJoin 13 = .ok (.bipush 9, 2) := by decide +kernel
theorem dX8_takeJoin_15 : decode cX8_takeJoin 15 = .ok (.if_icmp .gt 23, 3) := by decide +kernel
theorem dX8_takeJoin_18 : decode cX8_takeJoin 18 = .ok (.aload_n 0, 1) := by decide +kernel
theorem dX8_takeJoin_19 : decode cX8_takeJoin 19 = .ok (.dup, 1) := by decide +kernel
theorem dX8_takeJoin_20 : decode cX8_takeJoin 20 = .ok (.getfield 100, 3) := by decide +kernel
theorem dX8_takeJoin_23 : decode cX8_takeJoin 23 = .ok (.iconst 1, 1) := by decide +kernel
theorem dX8_takeJoin_24 : decode cX8_takeJoin 24 = .ok (.iadd, 1) := by decide +kernel
theorem dX8_takeJoin_25 : decode cX8_takeJoin 25 = .ok (.putfield 100, 3) := by decide +kernel
theorem dX8_takeJoin_28 : decode cX8_takeJoin 28 = .ok (.aload_n 0, 1) := by decide +kernel
theorem dX8_takeJoin_29 : decode cX8_takeJoin 29 = .ok (.getfield 31, 3) := by decide +kernel
theorem dX8_takeJoin_32 : decode cX8_takeJoin 32 = .ok (.iload_n 2, 1) := by decide +kernel
theorem dX8_takeJoin_33 : decode cX8_takeJoin 33 = .ok (.iaload, 1) := by decide +kernel
theorem dX8_takeJoin_34 : decode cX8_takeJoin 34 = .ok (.istore_n 2, 1) := by decide +kernel
theorem dX8_takeJoin_35 : decode cX8_takeJoin 35 = .ok (.goto (-28), 3) := by decide +kernel
theorem dX8_takeJoin_38 : decode cX8_takeJoin 38 = .ok (.aload_n 0, 1) := by decide +kernel
theorem dX8_takeJoin_39 : decode cX8_takeJoin 39 = .ok (.getfield 100, 3) := by decide +kernel
theorem dX8_takeJoin_42 : decode cX8_takeJoin 42 = .ok (.istore_n 2, 1) := by decide +kernel
theorem dX8_takeJoin_43 : decode cX8_takeJoin 43 = .ok (.iload_n 1, 1) := by decide +kernel
theorem dX8_takeJoin_44 : decode cX8_takeJoin 44 = .ok (.istore_n 3, 1) := by decide +kernel
theorem dX8_takeJoin_45 : decode cX8_takeJoin 45 = .ok (.aload_n 0, 1) := by decide +kernel
theorem dX8_takeJoin_46 : decode cX8_takeJoin 46 = .ok (.getfield 34, 3) := by decide +kernel
theorem dX8_takeJoin_49 : decode cX8_takeJoin 49 = .ok (.iload_n 3, 1) := by decide +kernel
theorem dX8_takeJoin_50 : decode cX8_takeJoin 50 = .ok (.iaload, 1) := by decide +kernel
theorem dX8_takeJoin_51 : decode cX8_takeJoin 51 = .ok (.bipush 9, 2) := by decide +kernel
theorem dX8_takeJoin_53 : decode cX8_takeJoin 53 = .ok (.if_icmp .gt 28, 3) := by decide +kernel
theorem dX8_takeJoin_56 : decode cX8_takeJoin 56 = .ok (.iinc 2 (-1), 3) := by decide +kernel
theorem dX8_takeJoin_59 : decode cX8_takeJoin 59 = .ok (.aload_n 0, 1) := by decide +kernel
theorem dX8_takeJoin_60 : decode cX8_takeJoin 60 = .ok (.getfield 37, 3) := by decide +kernel
theorem dX8_takeJoin_63 : decode cX8_takeJoin 63 = .ok (.iload_n 2, 1) := by decide +kernel
theorem dX8_takeJoin_64 : decode cX8_takeJoin 64 = .ok (.aload_n 0, 1) := by decide +kernel
theorem dX8_takeJoin_65 : decode cX8_takeJoin 65 = .ok (.getfield 34, 3) := by decide +kernel
theorem dX8_takeJoin_68 : decode cX8_takeJoin 68 = .ok (.iload_n 3, 1) := by decide +kernel
theorem dX8_takeJoin_69 : decode cX8_takeJoin 69 = .ok (.iaload, 1) := by decide +kernel
theorem dX8_takeJoin_70 : decode cX8_takeJoin 70 = .ok (.iastore, 1) := by decide +kernel
theorem dX8_takeJoin_71 : decode cX8_takeJoin 71 = .ok (.aload_n 0, 1) := by decide +kernel
theorem dX8_takeJoin_72 : decode cX8_takeJoin 72 = .ok (.getfield 31, 3) := by decide +kernel
theorem dX8_takeJoin_75 : decode cX8_takeJoin 75 = .ok (.iload_n 3, 1) := by decide +kernel
theorem dX8_takeJoin_76 : decode cX8_takeJoin 76 = .ok (.iaload, 1) := by decide +kernel
theorem dX8_takeJoin_77 : decode cX8_takeJoin 77 = .ok (.istore_n 3, 1) := by decide +kernel
theorem dX8_takeJoin_78 : decode cX8_takeJoin 78 = .ok (.goto (-33), 3) := by decide +kernel
theorem dX8_takeJoin_81 : decode cX8_takeJoin 81 = .ok (.return_, 1) := by decide +kernel
theorem dX8_findJoinTo_0 : decode cX8_findJoinTo 0 = .ok (.aload_n 0, 1) := by decide +kernel
theorem dX8_findJoinTo_1 : decode cX8_findJoinTo 1 = .ok (.iload_n 1, 1) := by decide +kernel
theorem dX8_findJoinTo_2 : decode cX8_findJoinTo 2 = .ok (.invokevirtual 103, 3) := by decide +kernel
theorem dX8_findJoinTo_5 : decode cX8_findJoinTo 5 = .ok (.aload_n 0, 1) := by decide +kernel
theorem dX8_findJoinTo_6 : decode cX8_findJoinTo 6 = .ok (.getfield 9, 3) := by decide +kernel
theorem dX8_findJoinTo_9 : decode cX8_findJoinTo 9 = .ok (.iconst 2, 1) := by decide +kernel
theorem dX8_findJoinTo_10 : decode cX8_findJoinTo 10 = .ok (.iaload, 1) := by decide +kernel
theorem dX8_findJoinTo_11 : decode cX8_findJoinTo 11 = .ok (.if_icmp .ne 26, 3) := by decide +kernel
theorem dX8_findJoinTo_14 : decode cX8_findJoinTo 14 = .ok (.aload_n 0, 1) := by decide +kernel
theorem dX8_findJoinTo_15 : decode cX8_findJoinTo 15 = .ok (.aload_n 0, 1) := by decide +kernel
theorem dX8_findJoinTo_16 : decode cX8_findJoinTo 16 = .ok (.getfield 9, 3) := by decide +kernel
theorem dX8_findJoinTo_19 : decode cX8_findJoinTo 19 = .ok (.iconst 1, 1) := by decide +kernel
theorem dX8_findJoinTo_20 : decode cX8_findJoinTo 20 = .ok (.iaload, 1) := by decide +kernel
theorem dX8_findJoinTo_21 : decode cX8_findJoinTo 21 = .ok (.aload_n 0, 1) := by decide +kernel
theorem dX8_findJoinTo_22 : decode cX8_findJoinTo 22 = .ok (.iload_n 1, 1) := by decide +kernel
theorem dX8_findJoinTo_23 : decode cX8_findJoinTo 23 = .ok (.iconst 0, 1) := by decide +kernel
theorem dX8_findJoinTo_24 : decode cX8_findJoinTo 24 = .ok (.invokevirtual 106, 3) := by decide +kernel
theorem dX8_findJoinTo_27 : decode cX8_findJoinTo 27 = .ok (.invokevirtual 109, 3) := by decide +kernel
theorem dX8_findJoinTo_30 : decode cX8_findJoinTo 30 = .ok (.ifCond .eq 7, 3) := by decide +kernel
theorem dX8_findJoinTo_33 : decode cX8_findJoinTo 33 = .ok (.iconst 1, 1) := by decide +kernel
theorem dX8_findJoinTo_34 : decode cX8_findJoinTo 34 = .ok (.goto 4, 3) := by decide +kernel
theorem dX8_findJoinTo_37 : decode cX8_findJoinTo 37 = .ok (.iconst 0, 1) := by decide +kernel
theorem dX8_findJoinTo_38 : decode cX8_findJoinTo 38 = .ok (.ireturn, 1) := by decide +kernel
theorem dX8_row_0 : decode cX8_row 0 = .ok (.iload_n 2, 1) := by decide +kernel
theorem dX8_row_1 : decode cX8_row 1 = .ok (.iconst 1, 1) := by decide +kernel
theorem dX8_row_2 : decode cX8_row 2 = .ok (.bipush 8, 2) := by decide +kernel
theorem dX8_row_4 : decode cX8_row 4 = .ok (.invokestatic 71, 3) := by decide +kernel
theorem dX8_row_7 : decode cX8_row 7 = .ok (.ifCond .eq 7, 3) := by decide +kernel
theorem dX8_row_10 : decode cX8_row 10 = .ok (.iload_n 1, 1) := by decide +kernel
theorem dX8_row_11 : decode cX8_row 11 = .ok (.ifCond .ge 6, 3) := by decide +kernel
theorem dX8_row_14 : decode cX8_row 14 = .ok (.bipush (-2), 2) := by decide +kernel
theorem dX8_row_16 : decode cX8_row 16 = .ok (.ireturn, 1) := by decide +kernel
theorem dX8_row_17 : decode cX8_row 17 = .ok (.iload_n 1, 1) := by decide +kernel
theorem dX8_row_18 : decode cX8_row 18 = .ok (.istore_n 3, 1) := by decide +kernel
theorem dX8_row_19 : decode cX8_row 19 = .ok (.iconst 0, 1) := by decide +kernel
theorem dX8_row_20 : decode cX8_row 20 = .ok (.istore 4, 2) := by decide +kernel
theorem dX8_row_22 : decode cX8_row 22 = .ok (.iload 4, 2) := by decide +kernel
theorem dX8_row_24 : decode cX8_row 24 = .ok (.iload_n 2, 1) := by decide +kernel
theorem dX8_row_25 : decode cX8_row 25 = .ok (.if_icmp .ge 14, 3) := by decide +kernel
theorem dX8_row_28 : decode cX8_row 28 = .ok (.iload_n 3, 1) := by decide +kernel
theorem dX8_row_29 : decode cX8_row 29 = .ok (.bipush 10, 2) := by decide +kernel
theorem dX8_row_31 : decode cX8_row 31 = .ok (.idiv, 1) := by decide +kernel
theorem dX8_row_32 : decode cX8_row 32 = .ok (.istore_n 3, 1) := by decide +kernel
theorem dX8_row_33 : decode cX8_row 33 = .ok (.iinc 4 1, 3) := by decide +kernel
theorem dX8_row_36 : decode cX8_row 36 = .ok (.goto (-14), 3) := by decide +kernel
theorem dX8_row_39 : decode cX8_row 39 = .ok (.iload_n 3, 1) := by decide +kernel
theorem dX8_row_40 : decode cX8_row 40 = .ok (.ifCond .le 6, 3) := by decide +kernel
theorem dX8_row_43 : decode cX8_row 43 = .ok (.bipush (-2), 2) := by decide +kernel
theorem dX8_row_45 : decode cX8_row 45 = .ok (.ireturn, 1) := by decide +kernel
theorem dX8_row_46 : decode cX8_row 46 = .ok (.aload_n 0, 1) := by decide +kernel
theorem dX8_row_47 : decode cX8_row 47 = .ok (.aload_n 0, 1) := by decide +kernel
theorem dX8_row_48 : decode cX8_row 48 = .ok (.getfield 9, 3) := by decide +kernel
theorem dX8_row_51 : decode cX8_row 51 = .ok (.iconst 0, 1) := by decide +kernel
theorem dX8_row_52 : decode cX8_row 52 = .ok (.iaload, 1) := by decide +kernel
theorem dX8_row_53 : decode cX8_row 53 = .ok (.bipush 6, 2) := by decide +kernel
theorem dX8_row_55 : decode cX8_row 55 = .ok (.if_icmp .ne 7, 3) := by decide +kernel
theorem dX8_row_58 : decode cX8_row 58 = .ok (.iconst 1, 1) := by decide +kernel
theorem dX8_row_59 : decode cX8_row 59 = .ok (.goto 4, 3) := by decide +kernel
theorem dX8_row_62 : decode cX8_row 62 = .ok (.iconst 0, 1) := by decide +kernel
theorem dX8_row_63 : decode cX8_row 63 = .ok (.iconst 1, 1) := by decide +kernel
theorem dX8_row_64 : decode cX8_row 64 = .ok (.bipush 6, 2) := by decide +kernel
theorem dX8_row_66 : decode cX8_row 66 = .ok (.invokevirtual 112, 3) := by decide +kernel
theorem dX8_row_69 : decode cX8_row 69 = .ok (.ifCond .eq 6, 3) := by decide +kernel
theorem dX8_row_72 : decode cX8_row 72 = .ok (.bipush (-3), 2) := by decide +kernel
theorem dX8_row_74 : decode cX8_row 74 = .ok (.ireturn, 1) := by decide +kernel
theorem dX8_row_75 : decode cX8_row 75 = .ok (.aload_n 0, 1) := by decide +kernel
theorem dX8_row_76 : decode cX8_row 76 = .ok (.invokevirtual 116, 3) := by decide +kernel
theorem dX8_row_79 : decode cX8_row 79 = .ok (.aload_n 0, 1) := by decide +kernel
theorem dX8_row_80 : decode cX8_row 80 = .ok (.getfield 9, 3) := by decide +kernel
theorem dX8_row_83 : decode cX8_row 83 = .ok (.iconst 0, 1) := by decide +kernel
theorem dX8_row_84 : decode cX8_row 84 = .ok (.iaload, 1) := by decide +kernel
theorem dX8_row_85 : decode cX8_row 85 = .ok (.istore 4, 2) := by decide +kernel
theorem dX8_row_87 : decode cX8_row 87 = .ok (.aload_n 0, 1) := by decide +kernel
theorem dX8_row_88 : decode cX8_row 88 = .ok (.getfield 9, 3) := by decide +kernel
theorem dX8_row_91 : decode cX8_row 91 = .ok (.iconst 0, 1) := by decide +kernel
theorem dX8_row_92 : decode cX8_row 92 = .ok (.dup2, 1) := by decide +kernel
theorem dX8_row_93 : decode cX8_row 93 = .ok (.iaload, 1) := by decide +kernel
theorem dX8_row_94 : decode cX8_row 94 = .ok (.iconst 1, 1) := by decide +kernel
theorem dX8_row_95 : decode cX8_row 95 = .ok (.iadd, 1) := by decide +kernel
theorem dX8_row_96 : decode cX8_row 96 = .ok (.iastore, 1) := by decide +kernel
theorem dX8_row_97 : decode cX8_row 97 = .ok (.aload_n 0, 1) := by decide +kernel
theorem dX8_row_98 : decode cX8_row 98 = .ok (.getfield 9, 3) := by decide +kernel
theorem dX8_row_101 : decode cX8_row 101 = .ok (.bipush 9, 2) := by decide +kernel
theorem dX8_row_103 : decode cX8_row 103 = .ok (.bipush 9, 2) := by decide +kernel
theorem dX8_row_105 : decode cX8_row 105 = .ok (.iload 4, 2) := by decide +kernel
theorem dX8_row_107 : decode cX8_row 107 = .ok (.imul, 1) := by decide +kernel
theorem dX8_row_108 : decode cX8_row 108 = .ok (.iadd, 1) := by decide +kernel
theorem dX8_row_109 : decode cX8_row 109 = .ok (.iload_n 2, 1) := by decide +kernel
theorem dX8_row_110 : decode cX8_row 110 = .ok (.iastore, 1) := by decide +kernel
theorem dX8_row_111 : decode cX8_row 111 = .ok (.iload_n 1, 1) := by decide +kernel
theorem dX8_row_112 : decode cX8_row 112 = .ok (.istore_n 3, 1) := by decide +kernel
theorem dX8_row_113 : decode cX8_row 113 = .ok (.bipush 7, 2) := by decide +kernel
theorem dX8_row_115 : decode cX8_row 115 = .ok (.istore 5, 2) := by decide +kernel
theorem dX8_row_117 : decode cX8_row 117 = .ok (.iload 5, 2) := by decide +kernel
theorem dX8_row_119 : decode cX8_row 119 = .ok (.ifCond .lt 46, 3) := by decide +kernel
theorem dX8_row_122 : decode cX8_row 122 = .ok (.aload_n 0, 1) := by decide +kernel
theorem dX8_row_123 : decode cX8_row 123 = .ok (.iload 4, 2) := by decide +kernel
theorem dX8_row_125 : decode cX8_row 125 = .ok (.iload 5, 2) := by decide +kernel
theorem dX8_row_127 : decode cX8_row 127 = .ok (.iload 5, 2) := by decide +kernel
theorem dX8_row_129 : decode cX8_row 129 = .ok (.iload_n 2, 1) := by decide +kernel
theorem dX8_row_130 : decode cX8_row 130 = .ok (.if_icmp .ge 10, 3) := by decide +kernel
theorem dX8_row_133 : decode cX8_row 133 = .ok (.iload_n 3, 1) := by decide +kernel
theorem dX8_row_134 : decode cX8_row 134 = .ok (.bipush 10, 2) := by decide +kernel
theorem dX8_row_136 : decode cX8_row 136 = .ok (.irem, 1) := by decide +kernel
theorem dX8_row_137 : decode cX8_row 137 = .ok (.goto 4, 3) := by decide +kernel
theorem dX8_row_140 : decode cX8_row 140 = .ok (.iconst 0, 1) := by decide +kernel
theorem dX8_row_141 : decode cX8_row 141 = .ok (.invokevirtual 119, 3) := by decide +kernel
theorem dX8_row_144 : decode cX8_row 144 = .ok (.iload_n 3, 1) := by decide +kernel
theorem dX8_row_145 : decode cX8_row 145 = .ok (.iload 5, 2) := by decide +kernel
theorem dX8_row_147 : decode cX8_row 147 = .ok (.iload_n 2, 1) := by decide +kernel
theorem dX8_row_148 : decode cX8_row 148 = .ok (.if_icmp .ge 8, 3) := by decide +kernel
theorem dX8_row_151 : decode cX8_row 151 = .ok (.bipush 10, 2) := by decide +kernel
theorem dX8_row_153 : decode cX8_row 153 = .ok (.goto 4, 3) := by decide +kernel
theorem dX8_row_156 : decode cX8_row 156 = .ok (.iconst 1, 1) := by decide +kernel
theorem dX8_row_157 : decode cX8_row 157 = .ok (.idiv, 1) := by decide +kernel
theorem dX8_row_158 : decode cX8_row 158 = .ok (.istore_n 3, 1) := by decide +kernel
theorem dX8_row_159 : decode cX8_row 159 = .ok (.iinc 5 (-1), 3) := by decide +kernel
theorem dX8_row_162 : decode cX8_row 162 = .ok (.goto (-45), 3) := by decide +kernel
theorem dX8_row_165 : decode cX8_row 165 = .ok (.iload 4, 2) := by decide +kernel
theorem dX8_row_167 : decode cX8_row 167 = .ok (.ireturn, 1) := by decide +kernel
theorem dX8_drop_0 : decode cX8_drop 0 = .ok (.aload_n 0, 1) := by decide +kernel
theorem dX8_drop_1 : decode cX8_drop 1 = .ok (.iload_n 1, 1) := by decide +kernel
theorem dX8_drop_2 : decode cX8_drop 2 = .ok (.invokevirtual 123, 3) := by decide +kernel
theorem dX8_drop_5 : decode cX8_drop 5 = .ok (.ifCond .ne 5, 3) := by decide +kernel
theorem dX8_drop_8 : decode cX8_drop 8 = .ok (.iconst (-1), 1) := by decide +kernel
theorem dX8_drop_9 : decode cX8_drop 9 = .ok (.ireturn, 1) := by decide +kernel
theorem dX8_drop_10 : decode cX8_drop 10 = .ok (.aload_n 0, 1) := by decide +kernel
theorem dX8_drop_11 : decode cX8_drop 11 = .ok (.invokevirtual 116, 3) := by decide +kernel
theorem dX8_drop_14 : decode cX8_drop 14 = .ok (.aload_n 0, 1) := by decide +kernel
theorem dX8_drop_15 : decode cX8_drop 15 = .ok (.getfield 9, 3) := by decide +kernel
theorem dX8_drop_18 : decode cX8_drop 18 = .ok (.iconst 0, 1) := by decide +kernel
theorem dX8_drop_19 : decode cX8_drop 19 = .ok (.dup2, 1) := by decide +kernel
theorem dX8_drop_20 : decode cX8_drop 20 = .ok (.iaload, 1) := by decide +kernel
theorem dX8_drop_21 : decode cX8_drop 21 = .ok (.iconst 1, 1) := by decide +kernel
theorem dX8_drop_22 : decode cX8_drop 22 = .ok (.isub, 1) := by decide +kernel
theorem dX8_drop_23 : decode cX8_drop 23 = .ok (.iastore, 1) := by decide +kernel
theorem dX8_drop_24 : decode cX8_drop 24 = .ok (.bipush 9, 2) := by decide +kernel
theorem dX8_drop_26 : decode cX8_drop 26 = .ok (.bipush 9, 2) := by decide +kernel
theorem dX8_drop_28 : decode cX8_drop 28 = .ok (.iload_n 1, 1) := by decide +kernel
theorem dX8_drop_29 : decode cX8_drop 29 = .ok (.imul, 1) := by decide +kernel
theorem dX8_drop_30 : decode cX8_drop 30 = .ok (.iadd, 1) := by decide +kernel
theorem dX8_drop_31 : decode cX8_drop 31 = .ok (.istore_n 2, 1) := by decide +kernel
theorem dX8_drop_32 : decode cX8_drop 32 = .ok (.iload_n 2, 1) := by decide +kernel
theorem dX8_drop_33 : decode cX8_drop 33 = .ok (.bipush 9, 2) := by decide +kernel
theorem dX8_drop_35 : decode cX8_drop 35 = .ok (.bipush 9, 2) := by decide +kernel
theorem dX8_drop_37 : decode cX8_drop 37 = .ok (.aload_n 0, 1) := by decide +kernel
theorem dX8_drop_38 : decode cX8_drop 38 = .ok (.getfield 9, 3) := by decide +kernel
theorem dX8_drop_41 : decode cX8_drop 41 = .ok (.iconst 0, 1) := by decide +kernel
theorem dX8_drop_42 : decode cX8_drop 42 = .ok (.iaload, 1) := by decide +kernel
theorem dX8_drop_43 : decode cX8_drop 43 = .ok (.imul, 1) := by decide +kernel
theorem dX8_drop_44 : decode cX8_drop 44 = .ok (.iadd, 1) := by decide +kernel
theorem dX8_drop_45 : decode cX8_drop 45 = .ok (.if_icmp .ge 24, 3) := by decide +kernel
theorem dX8_drop_48 : decode cX8_drop 48 = .ok (.aload_n 0, 1) := by decide +kernel
theorem dX8_drop_49 : decode cX8_drop 49 = .ok (.getfield 9, 3) := by decide +kernel
theorem dX8_drop_52 : decode cX8_drop 52 = .ok (.iload_n 2, 1) := by decide +kernel
theorem dX8_drop_53 : decode cX8_drop 53 = .ok (.aload_n 0, 1) := by decide +kernel
theorem dX8_drop_54 : decode cX8_drop 54 = .ok (.getfield 9, 3) := by decide +kernel
theorem dX8_drop_57 : decode cX8_drop 57 = .ok (.iload_n 2, 1) := by decide +kernel
theorem dX8_drop_58 : decode cX8_drop 58 = .ok (.bipush 9, 2) := by decide +kernel
theorem dX8_drop_60 : decode cX8_drop 60 = .ok (.iadd, 1) := by decide +kernel
theorem dX8_drop_61 : decode cX8_drop 61 = .ok (.iaload, 1) := by decide +kernel
theorem dX8_drop_62 : decode cX8_drop 62 = .ok (.iastore, 1) := by decide +kernel
theorem dX8_drop_63 : decode cX8_drop 63 = .ok (.iinc 2 1, 3) := by decide +kernel
theorem dX8_drop_66 : decode cX8_drop 66 = .ok (.goto (-34), 3) := by decide +kernel
theorem dX8_drop_69 : decode cX8_drop 69 = .ok (.aload_n 0, 1) := by decide +kernel
theorem dX8_drop_70 : decode cX8_drop 70 = .ok (.getfield 9, 3) := by decide +kernel
theorem dX8_drop_73 : decode cX8_drop 73 = .ok (.iconst 0, 1) := by decide +kernel
theorem dX8_drop_74 : decode cX8_drop 74 = .ok (.iaload, 1) := by decide +kernel
theorem dX8_drop_75 : decode cX8_drop 75 = .ok (.ireturn, 1) := by decide +kernel
theorem dX8_turn_0 : decode cX8_turn 0 = .ok (.aload_n 0, 1) := by decide +kernel
theorem dX8_turn_1 : decode cX8_turn 1 = .ok (.iload_n 1, 1) := by decide +kernel
theorem dX8_turn_2 : decode cX8_turn 2 = .ok (.invokevirtual 123, 3) := by decide +kernel
theorem dX8_turn_5 : decode cX8_turn 5 = .ok (.ifCond .ne 5, 3) := by decide +kernel
theorem dX8_turn_8 : decode cX8_turn 8 = .ok (.iconst (-1), 1) := by decide +kernel
theorem dX8_turn_9 : decode cX8_turn 9 = .ok (.ireturn, 1) := by decide +kernel
theorem dX8_turn_10 : decode cX8_turn 10 = .ok (.aload_n 0, 1) := by decide +kernel
theorem dX8_turn_11 : decode cX8_turn 11 = .ok (.invokevirtual 116, 3) := by decide +kernel
theorem dX8_turn_14 : decode cX8_turn 14 = .ok (.aload_n 0, 1) := by decide +kernel
theorem dX8_turn_15 : decode cX8_turn 15 = .ok (.iload_n 1, 1) := by decide +kernel
theorem dX8_turn_16 : decode cX8_turn 16 = .ok (.iconst 0, 1) := by decide +kernel
theorem dX8_turn_17 : decode cX8_turn 17 = .ok (.invokevirtual 79, 3) := by decide +kernel
theorem dX8_turn_20 : decode cX8_turn 20 = .ok (.istore_n 2, 1) := by decide +kernel
theorem dX8_turn_21 : decode cX8_turn 21 = .ok (.aload_n 0, 1) := by decide +kernel
theorem dX8_turn_22 : decode cX8_turn 22 = .ok (.iload_n 1, 1) := by decide +kernel
theorem dX8_turn_23 : decode cX8_turn 23 = .ok (.invokevirtual 75, 3) := by decide +kernel
theorem dX8_turn_26 : decode cX8_turn 26 = .ok (.iconst 1, 1) := by decide +kernel
theorem dX8_turn_27 : decode cX8_turn 27 = .ok (.isub, 1) := by decide +kernel
theorem dX8_turn_28 : decode cX8_turn 28 = .ok (.istore_n 3, 1) := by decide +kernel
theorem dX8_turn_29 : decode cX8_turn 29 = .ok (.iconst 0, 1) := by decide +kernel
theorem dX8_turn_30 : decode cX8_turn 30 = .ok (.istore 4, 2) := by decide +kernel
theorem dX8_turn_32 : decode cX8_turn 32 = .ok (.iload 4, 2) := by decide +kernel
theorem dX8_turn_34 : decode cX8_turn 34 = .ok (.iload_n 3, 1) := by decide +kernel
theorem dX8_turn_35 : decode cX8_turn 35 = .ok (.if_icmp .ge 25, 3) := by decide +kernel
theorem dX8_turn_38 : decode cX8_turn 38 = .ok (.aload_n 0, 1) := by decide +kernel
theorem dX8_turn_39 : decode cX8_turn 39 = .ok (.iload_n 1, 1) := by decide +kernel
theorem dX8_turn_40 : decode cX8_turn 40 = .ok (.iload 4, 2) := by decide +kernel
theorem dX8_turn_42 : decode cX8_turn 42 = .ok (.aload_n 0, 1) := by decide +kernel
theorem dX8_turn_43 : decode cX8_turn 43 = .ok (.iload_n 1, 1) := by decide +kernel
theorem dX8_turn_44 : decode cX8_turn 44 = .ok (.iload 4, 2) := by decide +kernel
theorem dX8_turn_46 : decode cX8_turn 46 = .ok (.iconst 1, 1) := by decide +kernel
theorem dX8_turn_47 : decode cX8_turn 47 = .ok (.iadd, 1) := by decide +kernel
theorem dX8_turn_48 : decode cX8_turn 48 = .ok (.invokevirtual 79, 3) := by decide +kernel
theorem dX8_turn_51 : decode cX8_turn 51 = .ok (.invokevirtual 119, 3) := by decide +kernel
theorem dX8_turn_54 : decode cX8_turn 54 = .ok (.iinc 4 1, 3) := by decide +kernel
theorem dX8_turn_57 : decode cX8_turn 57 = .ok (.goto (-25), 3) := by decide +kernel
theorem dX8_turn_60 : decode cX8_turn 60 = .ok (.aload_n 0, 1) := by decide +kernel
theorem dX8_turn_61 : decode cX8_turn 61 = .ok (.iload_n 1, 1) := by decide +kernel
theorem dX8_turn_62 : decode cX8_turn 62 = .ok (.iload_n 3, 1) := by decide +kernel
theorem dX8_turn_63 : decode cX8_turn 63 = .ok (.iload_n 2, 1) := by decide +kernel
theorem dX8_turn_64 : decode cX8_turn 64 = .ok (.invokevirtual 119, 3) := by decide +kernel
theorem dX8_turn_67 : decode cX8_turn 67 = .ok (.aload_n 0, 1) := by decide +kernel
theorem dX8_turn_68 : decode cX8_turn 68 = .ok (.iload_n 1, 1) := by decide +kernel
theorem dX8_turn_69 : decode cX8_turn 69 = .ok (.iconst 0, 1) := by decide +kernel
theorem dX8_turn_70 : decode cX8_turn 70 = .ok (.invokevirtual 79, 3) := by decide +kernel
theorem dX8_turn_73 : decode cX8_turn 73 = .ok (.ireturn, 1) := by decide +kernel
theorem dX8_swap_0 : decode cX8_swap 0 = .ok (.aload_n 0, 1) := by decide +kernel
theorem dX8_swap_1 : decode cX8_swap 1 = .ok (.iload_n 1, 1) := by decide +kernel
theorem dX8_swap_2 : decode cX8_swap 2 = .ok (.invokevirtual 123, 3) := by decide +kernel
theorem dX8_swap_5 : decode cX8_swap 5 = .ok (.ifCond .eq 21, 3) := by decide +kernel
theorem dX8_swap_8 : decode cX8_swap 8 = .ok (.aload_n 0, 1) := by decide +kernel
theorem dX8_swap_9 : decode cX8_swap 9 = .ok (.iload_n 1, 1) := by decide +kernel
theorem dX8_swap_10 : decode cX8_swap 10 = .ok (.iload_n 2, 1) := by decide +kernel
theorem dX8_swap_11 : decode cX8_swap 11 = .ok (.invokevirtual 127, 3) := by decide +kernel
theorem dX8_swap_14 : decode cX8_swap 14 = .ok (.ifCond .eq 12, 3) := by decide +kernel
theorem dX8_swap_17 : decode cX8_swap 17 = .ok (.aload_n 0, 1) := by decide +kernel
theorem dX8_swap_18 : decode cX8_swap 18 = .ok (.iload_n 1, 1) := by decide +kernel
theorem dX8_swap_19 : decode cX8_swap 19 = .ok (.iload_n 3, 1) := by decide +kernel
theorem dX8_swap_20 : decode cX8_swap 20 = .ok (.invokevirtual 127, 3) := by decide +kernel
theorem dX8_swap_23 : decode cX8_swap 23 = .ok (.ifCond .ne 5, 3) := by decide +kernel
theorem dX8_swap_26 : decode cX8_swap 26 = .ok (.iconst (-1), 1) := by decide +kernel
theorem dX8_swap_27 : decode cX8_swap 27 = .ok (.ireturn, 1) := by decide +kernel
theorem dX8_swap_28 : decode cX8_swap 28 = .ok (.aload_n 0, 1) := by decide +kernel
theorem dX8_swap_29 : decode cX8_swap 29 = .ok (.iload_n 1, 1) := by decide +kernel
theorem dX8_swap_30 : decode cX8_swap 30 = .ok (.iload_n 3, 1) := by decide +kernel
theorem dX8_swap_31 : decode cX8_swap 31 = .ok (.invokevirtual 79, 3) := by decide +kernel
theorem dX8_swap_34 : decode cX8_swap 34 = .ok (.iload_n 3, 1) := by decide +kernel
theorem dX8_swap_35 : decode cX8_swap 35 = .ok (.iadd, 1) := by decide +kernel
theorem dX8_swap_36 : decode cX8_swap 36 = .ok (.iload_n 2, 1) := by decide +kernel
theorem dX8_swap_37 : decode cX8_swap 37 = .ok (.isub, 1) := by decide +kernel
theorem dX8_swap_38 : decode cX8_swap 38 = .ok (.istore 4, 2) := by decide +kernel
theorem dX8_swap_40 : decode cX8_swap 40 = .ok (.aload_n 0, 1) := by decide +kernel
theorem dX8_swap_41 : decode cX8_swap 41 = .ok (.iload_n 1, 1) := by decide +kernel
theorem dX8_swap_42 : decode cX8_swap 42 = .ok (.iload_n 2, 1) := by decide +kernel
theorem dX8_swap_43 : decode cX8_swap 43 = .ok (.invokevirtual 79, 3) := by decide +kernel
theorem dX8_swap_46 : decode cX8_swap 46 = .ok (.iload_n 3, 1) := by decide +kernel
theorem dX8_swap_47 : decode cX8_swap 47 = .ok (.isub, 1) := by decide +kernel
theorem dX8_swap_48 : decode cX8_swap 48 = .ok (.iload_n 2, 1) := by decide +kernel
theorem dX8_swap_49 : decode cX8_swap 49 = .ok (.iadd, 1) := by decide +kernel
theorem dX8_swap_50 : decode cX8_swap 50 = .ok (.istore 5, 2) := by decide +kernel
theorem dX8_swap_52 : decode cX8_swap 52 = .ok (.aload_n 0, 1) := by decide +kernel
theorem dX8_swap_53 : decode cX8_swap 53 = .ok (.iload_n 2, 1) := by decide +kernel
theorem dX8_swap_54 : decode cX8_swap 54 = .ok (.iload_n 3, 1) := by decide +kernel
theorem dX8_swap_55 : decode cX8_swap 55 = .ok (.if_icmp .lt 7, 3) := by decide +kernel
theorem dX8_swap_58 : decode cX8_swap 58 = .ok (.iconst 1, 1) := by decide +kernel
theorem dX8_swap_59 : decode cX8_swap 59 = .ok (.goto 4, 3) := by decide +kernel
theorem dX8_swap_62 : decode cX8_swap 62 = .ok (.iconst 0, 1) := by decide +kernel
theorem dX8_swap_63 : decode cX8_swap 63 = .ok (.bipush 7, 2) := by decide +kernel
theorem dX8_swap_65 : decode cX8_swap 65 = .ok (.iload_n 2, 1) := by decide +kernel
theorem dX8_swap_66 : decode cX8_swap 66 = .ok (.invokevirtual 112, 3) := by decide +kernel
theorem dX8_swap_69 : decode cX8_swap 69 = .ok (.ifCond .ne 40, 3) := by decide +kernel
theorem dX8_swap_72 : decode cX8_swap 72 = .ok (.aload_n 0, 1) := by decide +kernel
theorem dX8_swap_73 : decode cX8_swap 73 = .ok (.iload 4, 2) := by decide +kernel
theorem dX8_swap_75 : decode cX8_swap 75 = .ok (.bipush 9, 2) := by decide +kernel
theorem dX8_swap_77 : decode cX8_swap 77 = .ok (.if_icmp .gt 8, 3) := by decide +kernel
theorem dX8_swap_80 : decode cX8_swap 80 = .ok (.iload 5, 2) := by decide +kernel
theorem dX8_swap_82 : decode cX8_swap 82 = .ok (.ifCond .ge 7, 3) := by decide +kernel
theorem dX8_swap_85 : decode cX8_swap 85 = .ok (.iconst 1, 1) := by decide +kernel
theorem dX8_swap_86 : decode cX8_swap 86 = .ok (.goto 4, 3) := by decide +kernel
theorem dX8_swap_89 : decode cX8_swap 89 = .ok (.iconst 0, 1) := by decide +kernel
theorem dX8_swap_90 : decode cX8_swap 90 = .ok (.iconst 2, 1) := by decide +kernel
theorem dX8_swap_91 : decode cX8_swap 91 = .ok (.iload 4, 2) := by decide +kernel
theorem dX8_swap_93 : decode cX8_swap 93 = .ok (.bipush 9, 2) := by decide +kernel
theorem dX8_swap_95 : decode cX8_swap 95 = .ok (.if_icmp .le 7, 3) := by decide +kernel
theorem dX8_swap_98 : decode cX8_swap 98 = .ok (.iload_n 2, 1) := by decide +kernel
theorem dX8_swap_99 : decode cX8_swap 99 = .ok (.goto 4, 3) := by decide +kernel
theorem dX8_swap_102 : decode cX8_swap 102 = .ok (.iload_n 3, 1) := by decide +kernel
theorem dX8_swap_103 : decode cX8_swap 103 = .ok (.invokevirtual 112, 3) := by decide +kernel
theorem dX8_swap_106 : decode cX8_swap 106 = .ok (.ifCond .eq 6, 3) := by decide +kernel
theorem dX8_swap_109 : decode cX8_swap 109 = .ok (.bipush (-3), 2) := by decide +kernel
theorem dX8_swap_111 : decode cX8_swap 111 = .ok (.ireturn, 1) := by decide +kernel
theorem dX8_swap_112 : decode cX8_swap 112 = .ok (.aload_n 0, 1) := by decide +kernel
theorem dX8_swap_113 : decode cX8_swap 113 = .ok (.invokevirtual 116, 3) := by decide +kernel
theorem dX8_swap_116 : decode cX8_swap 116 = .ok (.aload_n 0, 1) := by decide +kernel
theorem dX8_swap_117 : decode cX8_swap 117 = .ok (.iload_n 1, 1) := by decide +kernel
theorem dX8_swap_118 : decode cX8_swap 118 = .ok (.iload_n 2, 1) := by decide +kernel
theorem dX8_swap_119 : decode cX8_swap 119 = .ok (.iload 4, 2) := by decide +kernel
theorem dX8_swap_121 : decode cX8_swap 121 = .ok (.invokevirtual 119, 3) := by decide +kernel
theorem dX8_swap_124 : decode cX8_swap 124 = .ok (.aload_n 0, 1) := by decide +kernel
theorem dX8_swap_125 : decode cX8_swap 125 = .ok (.iload_n 1, 1) := by decide +kernel
theorem dX8_swap_126 : decode cX8_swap 126 = .ok (.iload_n 3, 1) := by decide +kernel
theorem dX8_swap_127 : decode cX8_swap 127 = .ok (.iload 5, 2) := by decide +kernel
theorem dX8_swap_129 : decode cX8_swap 129 = .ok (.invokevirtual 119, 3) := by decide +kernel
theorem dX8_swap_132 : decode cX8_swap 132 = .ok (.iload 4, 2) := by decide +kernel
theorem dX8_swap_134 : decode cX8_swap 134 = .ok (.ireturn, 1) := by decide +kernel
theorem dX8_orNothing_0 : decode cX8_orNothing 0 = .ok (.iload_n 0, 1) := by decide +kernel
theorem dX8_orNothing_1 : decode cX8_orNothing 1 = .ok (.ifCond .ge 8, 3) := by decide +kernel
theorem dX8_orNothing_4 : decode cX8_orNothing 4 = .ok (.bipush (-4), 2) := by decide +kernel
theorem dX8_orNothing_6 : decode cX8_orNothing 6 = .ok (.goto 4, 3) := by decide +kernel
theorem dX8_orNothing_9 : decode cX8_orNothing 9 = .ok (.iload_n 0, 1) := by decide +kernel
theorem dX8_orNothing_10 : decode cX8_orNothing 10 = .ok (.ireturn, 1) := by decide +kernel
theorem dX8_lift_0 : decode cX8_lift 0 = .ok (.aload_n 0, 1) := by decide +kernel
theorem dX8_lift_1 : decode cX8_lift 1 = .ok (.iload_n 1, 1) := by decide +kernel
theorem dX8_lift_2 : decode cX8_lift 2 = .ok (.invokevirtual 123, 3) := by decide +kernel
theorem dX8_lift_5 : decode cX8_lift 5 = .ok (.ifCond .ne 5, 3) := by decide +kernel
theorem dX8_lift_8 : decode cX8_lift 8 = .ok (.iconst (-1), 1) := by decide +kernel
theorem dX8_lift_9 : decode cX8_lift 9 = .ok (.ireturn, 1) := by decide +kernel
theorem dX8_lift_10 : decode cX8_lift 10 = .ok (.iconst 0, 1) := by decide +kernel
theorem dX8_lift_11 : decode cX8_lift 11 = .ok (.istore_n 2, 1) := by decide +kernel
theorem dX8_lift_12 : decode cX8_lift 12 = .ok (.iload_n 2, 1) := by decide +kernel
theorem dX8_lift_13 : decode cX8_lift 13 = .ok (.aload_n 0, 1) := by decide +kernel
theorem dX8_lift_14 : decode cX8_lift 14 = .ok (.iload_n 1, 1) := by decide +kernel
theorem dX8_lift_15 : decode cX8_lift 15 = .ok (.invokevirtual 75, 3) := by decide +kernel
theorem dX8_lift_18 : decode cX8_lift 18 = .ok (.if_icmp .ge 37, 3) := by decide +kernel
theorem dX8_lift_21 : decode cX8_lift 21 = .ok (.aload_n 0, 1) := by decide +kernel
theorem dX8_lift_22 : decode cX8_lift 22 = .ok (.aload_n 0, 1) := by decide +kernel
theorem dX8_lift_23 : decode cX8_lift 23 = .ok (.iload_n 1, 1) := by decide +kernel
theorem dX8_lift_24 : decode cX8_lift 24 = .ok (.iload_n 2, 1) := by decide +kernel
theorem dX8_lift_25 : decode cX8_lift 25 = .ok (.invokevirtual 79, 3) := by decide +kernel
theorem dX8_lift_28 : decode cX8_lift 28 = .ok (.bipush 9, 2) := by decide +kernel
theorem dX8_lift_30 : decode cX8_lift 30 = .ok (.if_icmp .ne 7, 3) := by decide +kernel
theorem dX8_lift_33 : decode cX8_lift 33 = .ok (.iconst 1, 1) := by decide +kernel
theorem dX8_lift_34 : decode cX8_lift 34 = .ok (.goto 4, 3) := by decide +kernel
theorem dX8_lift_37 : decode cX8_lift 37 = .ok (.iconst 0, 1) := by decide +kernel
theorem dX8_lift_38 : decode cX8_lift 38 = .ok (.iconst 2, 1) := by decide +kernel
theorem dX8_lift_39 : decode cX8_lift 39 = .ok (.iload_n 2, 1) := by decide +kernel
theorem dX8_lift_40 : decode cX8_lift 40 = .ok (.invokevirtual 112, 3) := by decide +kernel
theorem dX8_lift_43 : decode cX8_lift 43 = .ok (.ifCond .eq 6, 3) := by decide +kernel
theorem dX8_lift_46 : decode cX8_lift 46 = .ok (.bipush (-3), 2) := by decide +kernel
theorem dX8_lift_48 : decode cX8_lift 48 = .ok (.ireturn, 1) := by decide +kernel
theorem dX8_lift_49 : decode cX8_lift 49 = .ok (.iinc 2 1, 3) := by decide +kernel
theorem dX8_lift_52 : decode cX8_lift 52 = .ok (.goto (-40), 3) := by decide +kernel
theorem dX8_lift_55 : decode cX8_lift 55 = .ok (.aload_n 0, 1) := by decide +kernel
theorem dX8_lift_56 : decode cX8_lift 56 = .ok (.invokevirtual 116, 3) := by decide +kernel
theorem dX8_lift_59 : decode cX8_lift 59 = .ok (.iconst 0, 1) := by decide +kernel
theorem dX8_lift_60 : decode cX8_lift 60 = .ok (.istore_n 2, 1) := by decide +kernel
theorem dX8_lift_61 : decode cX8_lift 61 = .ok (.iload_n 2, 1) := by decide +kernel
theorem dX8_lift_62 : decode cX8_lift 62 = .ok (.aload_n 0, 1) := by decide +kernel
theorem dX8_lift_63 : decode cX8_lift 63 = .ok (.iload_n 1, 1) := by decide +kernel
theorem dX8_lift_64 : decode cX8_lift 64 = .ok (.invokevirtual 75, 3) := by decide +kernel
theorem dX8_lift_67 : decode cX8_lift 67 = .ok (.if_icmp .ge 23, 3) := by decide +kernel
theorem dX8_lift_70 : decode cX8_lift 70 = .ok (.aload_n 0, 1) := by decide +kernel
theorem dX8_lift_71 : decode cX8_lift 71 = .ok (.iload_n 1, 1) := by decide +kernel
theorem dX8_lift_72 : decode cX8_lift 72 = .ok (.iload_n 2, 1) := by decide +kernel
theorem dX8_lift_73 : decode cX8_lift 73 = .ok (.aload_n 0, 1) := by decide +kernel
theorem dX8_lift_74 : decode cX8_lift 74 = .ok (.iload_n 1, 1) := by decide +kernel
theorem dX8_lift_75 : decode cX8_lift 75 = .ok (.iload_n 2, 1) := by decide +kernel
theorem dX8_lift_76 : decode cX8_lift 76 = .ok (.invokevirtual 79, 3) := by decide +kernel
theorem dX8_lift_79 : decode cX8_lift 79 = .ok (.iconst 1, 1) := by decide +kernel
theorem dX8_lift_80 : decode cX8_lift 80 = .ok (.iadd, 1) := by decide +kernel
theorem dX8_lift_81 : decode cX8_lift 81 = .ok (.invokevirtual 119, 3) := by decide +kernel
theorem dX8_lift_84 : decode cX8_lift 84 = .ok (.iinc 2 1, 3) := by decide +kernel
theorem dX8_lift_87 : decode cX8_lift 87 = .ok (.goto (-26), 3) := by decide +kernel
theorem dX8_lift_90 : decode cX8_lift 90 = .ok (.aload_n 0, 1) := by decide +kernel
theorem dX8_lift_91 : decode cX8_lift 91 = .ok (.iload_n 1, 1) := by decide +kernel
theorem dX8_lift_92 : decode cX8_lift 92 = .ok (.invokevirtual 103, 3) := by decide +kernel
theorem dX8_lift_95 : decode cX8_lift 95 = .ok (.invokestatic 130, 3) := by decide +kernel
theorem dX8_lift_98 : decode cX8_lift 98 = .ok (.ireturn, 1) := by decide +kernel
theorem dX8_begin_0 : decode cX8_begin 0 = .ok (.iload_n 1, 1) := by decide +kernel
theorem dX8_begin_1 : decode cX8_begin 1 = .ok (.iconst 1, 1) := by decide +kernel
theorem dX8_begin_2 : decode cX8_begin 2 = .ok (.bipush 8, 2) := by decide +kernel
theorem dX8_begin_4 : decode cX8_begin 4 = .ok (.invokestatic 71, 3) := by decide +kernel
theorem dX8_begin_7 : decode cX8_begin 7 = .ok (.ifCond .ne 6, 3) := by decide +kernel
theorem dX8_begin_10 : decode cX8_begin 10 = .ok (.bipush (-2), 2) := by decide +kernel
theorem dX8_begin_12 : decode cX8_begin 12 = .ok (.ireturn, 1) := by decide +kernel
theorem dX8_begin_13 : decode cX8_begin 13 = .ok (.aload_n 0, 1) := by decide +kernel
theorem dX8_begin_14 : decode cX8_begin 14 = .ok (.invokevirtual 116, 3) := by decide +kernel
theorem dX8_begin_17 : decode cX8_begin 17 = .ok (.aload_n 0, 1) := by decide +kernel
theorem dX8_begin_18 : decode cX8_begin 18 = .ok (.getfield 9, 3) := by decide +kernel
theorem dX8_begin_21 : decode cX8_begin 21 = .ok (.iconst 1, 1) := by decide +kernel
theorem dX8_begin_22 : decode cX8_begin 22 = .ok (.iconst 1, 1) := by decide +kernel
theorem dX8_begin_23 : decode cX8_begin 23 = .ok (.iload_n 1, 1) := by decide +kernel
theorem dX8_begin_24 : decode cX8_begin 24 = .ok (.ishl, 1) := by decide +kernel
theorem dX8_begin_25 : decode cX8_begin 25 = .ok (.iconst 1, 1) := by decide +kernel
theorem dX8_begin_26 : decode cX8_begin 26 = .ok (.isub, 1) := by decide +kernel
theorem dX8_begin_27 : decode cX8_begin 27 = .ok (.iastore, 1) := by decide +kernel
theorem dX8_begin_28 : decode cX8_begin 28 = .ok (.aload_n 0, 1) := by decide +kernel
theorem dX8_begin_29 : decode cX8_begin 29 = .ok (.getfield 9, 3) := by decide +kernel
theorem dX8_begin_32 : decode cX8_begin 32 = .ok (.iconst 2, 1) := by decide +kernel
theorem dX8_begin_33 : decode cX8_begin 33 = .ok (.iload_n 1, 1) := by decide +kernel
theorem dX8_begin_34 : decode cX8_begin 34 = .ok (.iastore, 1) := by decide +kernel
theorem dX8_begin_35 : decode cX8_begin 35 = .ok (.aload_n 0, 1) := by decide +kernel
theorem dX8_begin_36 : decode cX8_begin 36 = .ok (.getfield 9, 3) := by decide +kernel
theorem dX8_begin_39 : decode cX8_begin 39 = .ok (.iconst 3, 1) := by decide +kernel
theorem dX8_begin_40 : decode cX8_begin 40 = .ok (.iconst 0, 1) := by decide +kernel
theorem dX8_begin_41 : decode cX8_begin 41 = .ok (.iastore, 1) := by decide +kernel
theorem dX8_begin_42 : decode cX8_begin 42 = .ok (.aload_n 0, 1) := by decide +kernel
theorem dX8_begin_43 : decode cX8_begin 43 = .ok (.getfield 9, 3) := by decide +kernel
theorem dX8_begin_46 : decode cX8_begin 46 = .ok (.bipush 8, 2) := by decide +kernel
theorem dX8_begin_48 : decode cX8_begin 48 = .ok (.dup2, 1) := by decide +kernel
theorem dX8_begin_49 : decode cX8_begin 49 = .ok (.iaload, 1) := by decide +kernel
theorem dX8_begin_50 : decode cX8_begin 50 = .ok (.iconst 1, 1) := by decide +kernel
theorem dX8_begin_51 : decode cX8_begin 51 = .ok (.iadd, 1) := by decide +kernel
theorem dX8_begin_52 : decode cX8_begin 52 = .ok (.iastore, 1) := by decide +kernel
theorem dX8_begin_53 : decode cX8_begin 53 = .ok (.aload_n 0, 1) := by decide +kernel
theorem dX8_begin_54 : decode cX8_begin 54 = .ok (.getfield 9, 3) := by decide +kernel
theorem dX8_begin_57 : decode cX8_begin 57 = .ok (.iconst 1, 1) := by decide +kernel
theorem dX8_begin_58 : decode cX8_begin 58 = .ok (.iaload, 1) := by decide +kernel
theorem dX8_begin_59 : decode cX8_begin 59 = .ok (.ireturn, 1) := by decide +kernel
theorem dX8_makeThrow_0 : decode cX8_makeThrow 0 = .ok (.aload_n 0, 1) := by decide +kernel
theorem dX8_makeThrow_1 : decode cX8_makeThrow 1 = .ok (.getfield 9, 3) := by decide +kernel
theorem dX8_makeThrow_4 : decode cX8_makeThrow 4 = .ok (.iconst 1, 1) := by decide +kernel
theorem dX8_makeThrow_5 : decode cX8_makeThrow 5 = .ok (.aload_n 0, 1) := by decide +kernel
theorem dX8_makeThrow_6 : decode cX8_makeThrow 6 = .ok (.getfield 9, 3) := by decide +kernel
theorem dX8_makeThrow_9 : decode cX8_makeThrow 9 = .ok (.iconst 1, 1) := by decide +kernel
theorem dX8_makeThrow_10 : decode cX8_makeThrow 10 = .ok (.iaload, 1) := by decide +kernel
theorem dX8_makeThrow_11 : decode cX8_makeThrow 11 = .ok (.iload_n 1, 1) := by decide +kernel
theorem dX8_makeThrow_12 : decode cX8_makeThrow 12 = .ok (.invokestatic 89, 3) := by decide +kernel
theorem dX8_makeThrow_15 : decode cX8_makeThrow 15 = .ok (.iastore, 1) := by decide +kernel
theorem dX8_makeThrow_16 : decode cX8_makeThrow 16 = .ok (.aload_n 0, 1) := by decide +kernel
theorem dX8_makeThrow_17 : decode cX8_makeThrow 17 = .ok (.getfield 9, 3) := by decide +kernel
theorem dX8_makeThrow_20 : decode cX8_makeThrow 20 = .ok (.iconst 3, 1) := by decide +kernel
theorem dX8_makeThrow_21 : decode cX8_makeThrow 21 = .ok (.dup2, 1) := by decide +kernel
theorem dX8_makeThrow_22 : decode cX8_makeThrow 22 = .ok (.iaload, 1) := by decide +kernel
theorem dX8_makeThrow_23 : decode cX8_makeThrow 23 = .ok (.iconst 1, 1) := by decide +kernel
theorem dX8_makeThrow_24 : decode cX8_makeThrow 24 = .ok (.iadd, 1) := by decide +kernel
theorem dX8_makeThrow_25 : decode cX8_makeThrow 25 = .ok (.iastore, 1) := by decide +kernel
theorem dX8_makeThrow_26 : decode cX8_makeThrow 26 = .ok (.aload_n 0, 1) := by decide +kernel
theorem dX8_makeThrow_27 : decode cX8_makeThrow 27 = .ok (.getfield 9, 3) := by decide +kernel
theorem dX8_makeThrow_30 : decode cX8_makeThrow 30 = .ok (.iconst 4, 1) := by decide +kernel
theorem dX8_makeThrow_31 : decode cX8_makeThrow 31 = .ok (.dup2, 1) := by decide +kernel
theorem dX8_makeThrow_32 : decode cX8_makeThrow 32 = .ok (.iaload, 1) := by decide +kernel
theorem dX8_makeThrow_33 : decode cX8_makeThrow 33 = .ok (.iconst 1, 1) := by decide +kernel
theorem dX8_makeThrow_34 : decode cX8_makeThrow 34 = .ok (.iadd, 1) := by decide +kernel
theorem dX8_makeThrow_35 : decode cX8_makeThrow 35 = .ok (.iastore, 1) := by decide +kernel
theorem dX8_makeThrow_36 : decode cX8_makeThrow 36 = .ok (.aload_n 0, 1) := by decide +kernel
theorem dX8_makeThrow_37 : decode cX8_makeThrow 37 = .ok (.getfield 9, 3) := by decide +kernel
theorem dX8_makeThrow_40 : decode cX8_makeThrow 40 = .ok (.iconst 5, 1) := by decide +kernel
theorem dX8_makeThrow_41 : decode cX8_makeThrow 41 = .ok (.dup2, 1) := by decide +kernel
theorem dX8_makeThrow_42 : decode cX8_makeThrow 42 = .ok (.iaload, 1) := by decide +kernel
theorem dX8_makeThrow_43 : decode cX8_makeThrow 43 = .ok (.iload_n 1, 1) := by decide +kernel
theorem dX8_makeThrow_44 : decode cX8_makeThrow 44 = .ok (.ifCond .le 7, 3) := by decide +kernel
theorem dX8_makeThrow_47 : decode cX8_makeThrow 47 = .ok (.iconst 1, 1) := by decide +kernel
theorem dX8_makeThrow_48 : decode cX8_makeThrow 48 = .ok (.goto 4, 3) := by decide +kernel
theorem dX8_makeThrow_51 : decode cX8_makeThrow 51 = .ok (.iconst 0, 1) := by decide +kernel
theorem dX8_makeThrow_52 : decode cX8_makeThrow 52 = .ok (.iadd, 1) := by decide +kernel
theorem dX8_makeThrow_53 : decode cX8_makeThrow 53 = .ok (.iastore, 1) := by decide +kernel
theorem dX8_makeThrow_54 : decode cX8_makeThrow 54 = .ok (.aload_n 0, 1) := by decide +kernel
theorem dX8_makeThrow_55 : decode cX8_makeThrow 55 = .ok (.getfield 9, 3) := by decide +kernel
theorem dX8_makeThrow_58 : decode cX8_makeThrow 58 = .ok (.bipush 6, 2) := by decide +kernel
theorem dX8_makeThrow_60 : decode cX8_makeThrow 60 = .ok (.iload_n 1, 1) := by decide +kernel
theorem dX8_makeThrow_61 : decode cX8_makeThrow 61 = .ok (.aload_n 0, 1) := by decide +kernel
theorem dX8_makeThrow_62 : decode cX8_makeThrow 62 = .ok (.getfield 9, 3) := by decide +kernel
theorem dX8_makeThrow_65 : decode cX8_makeThrow 65 = .ok (.bipush 6, 2) := by decide +kernel
theorem dX8_makeThrow_67 : decode cX8_makeThrow 67 = .ok (.iaload, 1) := by decide +kernel
theorem dX8_makeThrow_68 : decode cX8_makeThrow 68 = .ok (.if_icmp .le 7, 3) := by decide +kernel
theorem dX8_makeThrow_71 : decode cX8_makeThrow 71 = .ok (.iload_n 1, 1) := by decide +kernel
theorem dX8_makeThrow_72 : decode cX8_makeThrow 72 = .ok (.goto 10, 3) := by decide +kernel
theorem dX8_makeThrow_75 : decode cX8_makeThrow 75 = .ok (.aload_n 0, 1) := by decide +kernel
theorem dX8_makeThrow_76 : decode cX8_makeThrow 76 = .ok (.getfield 9, 3) := by decide +kernel
theorem dX8_makeThrow_79 : decode cX8_makeThrow 79 = .ok (.bipush 6, 2) := by decide +kernel
theorem dX8_makeThrow_81 : decode cX8_makeThrow 81 = .ok (.iaload, 1) := by decide +kernel
theorem dX8_makeThrow_82 : decode cX8_makeThrow 82 = .ok (.iastore, 1) := by decide +kernel
theorem dX8_makeThrow_83 : decode cX8_makeThrow 83 = .ok (.return_, 1) := by decide +kernel
theorem dX8_toss_0 : decode cX8_toss 0 = .ok (.iload_n 1, 1) := by decide +kernel
theorem dX8_toss_1 : decode cX8_toss 1 = .ok (.iconst 0, 1) := by decide +kernel
theorem dX8_toss_2 : decode cX8_toss 2 = .ok (.bipush 9, 2) := by decide +kernel
theorem dX8_toss_4 : decode cX8_toss 4 = .ok (.invokestatic 71, 3) := by decide +kernel
theorem dX8_toss_7 : decode cX8_toss 7 = .ok (.ifCond .ne 6, 3) := by decide +kernel
theorem dX8_toss_10 : decode cX8_toss 10 = .ok (.bipush (-2), 2) := by decide +kernel
theorem dX8_toss_12 : decode cX8_toss 12 = .ok (.ireturn, 1) := by decide +kernel
theorem dX8_toss_13 : decode cX8_toss 13 = .ok (.aload_n 0, 1) := by decide +kernel
theorem dX8_toss_14 : decode cX8_toss 14 = .ok (.aload_n 0, 1) := by decide +kernel
theorem dX8_toss_15 : decode cX8_toss 15 = .ok (.getfield 9, 3) := by decide +kernel
theorem dX8_toss_18 : decode cX8_toss 18 = .ok (.iconst 2, 1) := by decide +kernel
theorem dX8_toss_19 : decode cX8_toss 19 = .ok (.iaload, 1) := by decide +kernel
theorem dX8_toss_20 : decode cX8_toss 20 = .ok (.ifCond .ne 7, 3) := by decide +kernel
theorem dX8_toss_23 : decode cX8_toss 23 = .ok (.iconst 1, 1) := by decide +kernel
theorem dX8_toss_24 : decode cX8_toss 24 = .ok (.goto 4, 3) := by decide +kernel
theorem dX8_toss_27 : decode cX8_toss 27 = .ok (.iconst 0, 1) := by decide +kernel
theorem dX8_toss_28 : decode cX8_toss 28 = .ok (.bipush 6, 2) := by decide +kernel
theorem dX8_toss_30 : decode cX8_toss 30 = .ok (.aload_n 0, 1) := by decide +kernel
theorem dX8_toss_31 : decode cX8_toss 31 = .ok (.getfield 9, 3) := by decide +kernel
theorem dX8_toss_34 : decode cX8_toss 34 = .ok (.iconst 3, 1) := by decide +kernel
theorem dX8_toss_35 : decode cX8_toss 35 = .ok (.iaload, 1) := by decide +kernel
theorem dX8_toss_36 : decode cX8_toss 36 = .ok (.invokevirtual 112, 3) := by decide +kernel
theorem dX8_toss_39 : decode cX8_toss 39 = .ok (.ifCond .ne 35, 3) := by decide +kernel
theorem dX8_toss_42 : decode cX8_toss 42 = .ok (.aload_n 0, 1) := by decide +kernel
theorem dX8_toss_43 : decode cX8_toss 43 = .ok (.aload_n 0, 1) := by decide +kernel
theorem dX8_toss_44 : decode cX8_toss 44 = .ok (.getfield 9, 3) := by decide +kernel
theorem dX8_toss_47 : decode cX8_toss 47 = .ok (.iconst 1, 1) := by decide +kernel
theorem dX8_toss_48 : decode cX8_toss 48 = .ok (.iaload, 1) := by decide +kernel
theorem dX8_toss_49 : decode cX8_toss 49 = .ok (.iload_n 1, 1) := by decide +kernel
theorem dX8_toss_50 : decode cX8_toss 50 = .ok (.invokestatic 92, 3) := by decide +kernel
theorem dX8_toss_53 : decode cX8_toss 53 = .ok (.ifCond .ne 7, 3) := by decide +kernel
theorem dX8_toss_56 : decode cX8_toss 56 = .ok (.iconst 1, 1) := by decide +kernel
theorem dX8_toss_57 : decode cX8_toss 57 = .ok (.goto 4, 3) := by decide +kernel
theorem dX8_toss_60 : decode cX8_toss 60 = .ok (.iconst 0, 1) := by decide +kernel
theorem dX8_toss_61 : decode cX8_toss 61 = .ok (.iconst 4, 1) := by decide +kernel
theorem dX8_toss_62 : decode cX8_toss 62 = .ok (.aload_n 0, 1) := by decide +kernel
theorem dX8_toss_63 : decode cX8_toss 63 = .ok (.getfield 9, 3) := by decide +kernel
theorem dX8_toss_66 : decode cX8_toss 66 = .ok (.iconst 1, 1) := by decide +kernel
theorem dX8_toss_67 : decode cX8_toss 67 = .ok (.iaload, 1) := by decide +kernel
theorem dX8_toss_68 : decode cX8_toss 68 = .ok (.invokevirtual 112, 3) := by decide +kernel
theorem dX8_toss_71 : decode cX8_toss 71 = .ok (.ifCond .eq 6, 3) := by decide +kernel
theorem dX8_toss_74 : decode cX8_toss 74 = .ok (.bipush (-3), 2) := by decide +kernel
theorem dX8_toss_76 : decode cX8_toss 76 = .ok (.ireturn, 1) := by decide +kernel
theorem dX8_toss_77 : decode cX8_toss 77 = .ok (.aload_n 0, 1) := by decide +kernel
theorem dX8_toss_78 : decode cX8_toss 78 = .ok (.invokevirtual 116, 3) := by decide +kernel
theorem dX8_toss_81 : decode cX8_toss 81 = .ok (.aload_n 0, 1) := by decide +kernel
theorem dX8_toss_82 : decode cX8_toss 82 = .ok (.iload_n 1, 1) := by decide +kernel
theorem dX8_toss_83 : decode cX8_toss 83 = .ok (.invokevirtual 133, 3) := by decide +kernel
theorem dX8_toss_86 : decode cX8_toss 86 = .ok (.aload_n 0, 1) := by decide +kernel
theorem dX8_toss_87 : decode cX8_toss 87 = .ok (.getfield 9, 3) := by decide +kernel
theorem dX8_toss_90 : decode cX8_toss 90 = .ok (.iconst 3, 1) := by decide +kernel
theorem dX8_toss_91 : decode cX8_toss 91 = .ok (.iaload, 1) := by decide +kernel
theorem dX8_toss_92 : decode cX8_toss 92 = .ok (.iconst 1, 1) := by decide +kernel
theorem dX8_toss_93 : decode cX8_toss 93 = .ok (.iadd, 1) := by decide +kernel
theorem dX8_toss_94 : decode cX8_toss 94 = .ok (.iconst 2, 1) := by decide +kernel
theorem dX8_toss_95 : decode cX8_toss 95 = .ok (.irem, 1) := by decide +kernel
theorem dX8_toss_96 : decode cX8_toss 96 = .ok (.ireturn, 1) := by decide +kernel
theorem dX8_isNotFor_0 : decode cX8_isNotFor 0 = .ok (.aload_n 0, 1) := by decide +kernel
theorem dX8_isNotFor_1 : decode cX8_isNotFor 1 = .ok (.aload_n 0, 1) := by decide +kernel
theorem dX8_isNotFor_2 : decode cX8_isNotFor 2 = .ok (.getfield 9, 3) := by decide +kernel
theorem dX8_isNotFor_5 : decode cX8_isNotFor 5 = .ok (.iconst 2, 1) := by decide +kernel
theorem dX8_isNotFor_6 : decode cX8_isNotFor 6 = .ok (.iaload, 1) := by decide +kernel
theorem dX8_isNotFor_7 : decode cX8_isNotFor 7 = .ok (.ifCond .ne 7, 3) := by decide +kernel
theorem dX8_isNotFor_10 : decode cX8_isNotFor 10 = .ok (.iconst 1, 1) := by decide +kernel
theorem dX8_isNotFor_11 : decode cX8_isNotFor 11 = .ok (.goto 4, 3) := by decide +kernel
theorem dX8_isNotFor_14 : decode cX8_isNotFor 14 = .ok (.iconst 0, 1) := by decide +kernel
theorem dX8_isNotFor_15 : decode cX8_isNotFor 15 = .ok (.bipush 6, 2) := by decide +kernel
theorem dX8_isNotFor_17 : decode cX8_isNotFor 17 = .ok (.aload_n 0, 1) := by decide +kernel
theorem dX8_isNotFor_18 : decode cX8_isNotFor 18 = .ok (.getfield 9, 3) := by decide +kernel
theorem dX8_isNotFor_21 : decode cX8_isNotFor 21 = .ok (.iconst 3, 1) := by decide +kernel
theorem dX8_isNotFor_22 : decode cX8_isNotFor 22 = .ok (.iaload, 1) := by decide +kernel
theorem dX8_isNotFor_23 : decode cX8_isNotFor 23 = .ok (.invokevirtual 112, 3) := by decide +kernel
theorem dX8_isNotFor_26 : decode cX8_isNotFor 26 = .ok (.ifCond .ne 61, 3) := by decide +kernel
theorem dX8_isNotFor_29 : decode cX8_isNotFor 29 = .ok (.aload_n 0, 1) := by decide +kernel
theorem dX8_isNotFor_30 : decode cX8_isNotFor 30 = .ok (.aload_n 0, 1) := by decide +kernel
theorem dX8_isNotFor_31 : decode cX8_isNotFor 31 = .ok (.iload_n 1, 1) := by decide +kernel
theorem dX8_isNotFor_32 : decode cX8_isNotFor 32 = .ok (.invokevirtual 83, 3) := by decide +kernel
theorem dX8_isNotFor_35 : decode cX8_isNotFor 35 = .ok (.ifCond .lt 7, 3) := by decide +kernel
theorem dX8_isNotFor_38 : decode cX8_isNotFor 38 = .ok (.iconst 1, 1) := by decide +kernel
theorem dX8_isNotFor_39 : decode cX8_isNotFor 39 = .ok (.goto 4, 3) := by decide +kernel
theorem dX8_isNotFor_42 : decode cX8_isNotFor 42 = .ok (.iconst 0, 1) := by decide +kernel
theorem dX8_isNotFor_43 : decode cX8_isNotFor 43 = .ok (.iconst 3, 1) := by decide +kernel
theorem dX8_isNotFor_44 : decode cX8_isNotFor 44 = .ok (.aload_n 0, 1) := by decide +kernel
theorem dX8_isNotFor_45 : decode cX8_isNotFor 45 = .ok (.iload_n 1, 1) := by decide +kernel
theorem dX8_isNotFor_46 : decode cX8_isNotFor 46 = .ok (.invokevirtual 83, 3) := by decide +kernel
theorem dX8_isNotFor_49 : decode cX8_isNotFor 49 = .ok (.invokevirtual 112, 3) := by decide +kernel
theorem dX8_isNotFor_52 : decode cX8_isNotFor 52 = .ok (.ifCond .ne 35, 3) := by decide +kernel
theorem dX8_isNotFor_55 : decode cX8_isNotFor 55 = .ok (.aload_n 0, 1) := by decide +kernel
theorem dX8_isNotFor_56 : decode cX8_isNotFor 56 = .ok (.aload_n 0, 1) := by decide +kernel
theorem dX8_isNotFor_57 : decode cX8_isNotFor 57 = .ok (.iload_n 1, 1) := by decide +kernel
theorem dX8_isNotFor_58 : decode cX8_isNotFor 58 = .ok (.invokevirtual 103, 3) := by decide +kernel
theorem dX8_isNotFor_61 : decode cX8_isNotFor 61 = .ok (.aload_n 0, 1) := by decide +kernel
theorem dX8_isNotFor_62 : decode cX8_isNotFor 62 = .ok (.getfield 9, 3) := by decide +kernel
theorem dX8_isNotFor_65 : decode cX8_isNotFor 65 = .ok (.iconst 2, 1) := by decide +kernel
theorem dX8_isNotFor_66 : decode cX8_isNotFor 66 = .ok (.iaload, 1) := by decide +kernel
theorem dX8_isNotFor_67 : decode cX8_isNotFor 67 = .ok (.if_icmp .eq 7, 3) := by decide +kernel
theorem dX8_isNotFor_70 : decode cX8_isNotFor 70 = .ok (.iconst 1, 1) := by decide +kernel
theorem dX8_isNotFor_71 : decode cX8_isNotFor 71 = .ok (.goto 4, 3) := by decide +kernel
theorem dX8_isNotFor_74 : decode cX8_isNotFor 74 = .ok (.iconst 0, 1) := by decide +kernel
theorem dX8_isNotFor_75 : decode cX8_isNotFor 75 = .ok (.iconst 5, 1) := by decide +kernel
theorem dX8_isNotFor_76 : decode cX8_isNotFor 76 = .ok (.aload_n 0, 1) := by decide +kernel
theorem dX8_isNotFor_77 : decode cX8_isNotFor 77 = .ok (.iload_n 1, 1) := by decide +kernel
theorem dX8_isNotFor_78 : decode cX8_isNotFor 78 = .ok (.invokevirtual 103, 3) := by decide +kernel
theorem dX8_isNotFor_81 : decode cX8_isNotFor 81 = .ok (.invokevirtual 112, 3) := by decide +kernel
theorem dX8_isNotFor_84 : decode cX8_isNotFor 84 = .ok (.ifCond .eq 7, 3) := by decide +kernel
theorem dX8_isNotFor_87 : decode cX8_isNotFor 87 = .ok (.iconst 1, 1) := by decide +kernel
theorem dX8_isNotFor_88 : decode cX8_isNotFor 88 = .ok (.goto 4, 3) := by decide +kernel
theorem dX8_isNotFor_91 : decode cX8_isNotFor 91 = .ok (.iconst 0, 1) := by decide +kernel
theorem dX8_isNotFor_92 : decode cX8_isNotFor 92 = .ok (.ireturn, 1) := by decide +kernel
theorem dX8_join_0 : decode cX8_join 0 = .ok (.aload_n 0, 1) := by decide +kernel
theorem dX8_join_1 : decode cX8_join 1 = .ok (.iload_n 1, 1) := by decide +kernel
theorem dX8_join_2 : decode cX8_join 2 = .ok (.invokevirtual 123, 3) := by decide +kernel
theorem dX8_join_5 : decode cX8_join 5 = .ok (.ifCond .ne 5, 3) := by decide +kernel
theorem dX8_join_8 : decode cX8_join 8 = .ok (.iconst (-1), 1) := by decide +kernel
theorem dX8_join_9 : decode cX8_join 9 = .ok (.ireturn, 1) := by decide +kernel
theorem dX8_join_10 : decode cX8_join 10 = .ok (.aload_n 0, 1) := by decide +kernel
theorem dX8_join_11 : decode cX8_join 11 = .ok (.iload_n 1, 1) := by decide +kernel
theorem dX8_join_12 : decode cX8_join 12 = .ok (.invokevirtual 136, 3) := by decide +kernel
theorem dX8_join_15 : decode cX8_join 15 = .ok (.ifCond .eq 6, 3) := by decide +kernel
theorem dX8_join_18 : decode cX8_join 18 = .ok (.bipush (-3), 2) := by decide +kernel
theorem dX8_join_20 : decode cX8_join 20 = .ok (.ireturn, 1) := by decide +kernel
theorem dX8_join_21 : decode cX8_join 21 = .ok (.aload_n 0, 1) := by decide +kernel
theorem dX8_join_22 : decode cX8_join 22 = .ok (.invokevirtual 116, 3) := by decide +kernel
theorem dX8_join_25 : decode cX8_join 25 = .ok (.aload_n 0, 1) := by decide +kernel
theorem dX8_join_26 : decode cX8_join 26 = .ok (.iload_n 1, 1) := by decide +kernel
theorem dX8_join_27 : decode cX8_join 27 = .ok (.invokevirtual 139, 3) := by decide +kernel
theorem dX8_join_30 : decode cX8_join 30 = .ok (.pop, 1) := by decide +kernel
theorem dX8_join_31 : decode cX8_join 31 = .ok (.iconst 0, 1) := by decide +kernel
theorem dX8_join_32 : decode cX8_join 32 = .ok (.istore_n 2, 1) := by decide +kernel
theorem dX8_join_33 : decode cX8_join 33 = .ok (.iload_n 2, 1) := by decide +kernel
theorem dX8_join_34 : decode cX8_join 34 = .ok (.aload_n 0, 1) := by decide +kernel
theorem dX8_join_35 : decode cX8_join 35 = .ok (.getfield 100, 3) := by decide +kernel
theorem dX8_join_38 : decode cX8_join 38 = .ok (.if_icmp .ge 19, 3) := by decide +kernel
theorem dX8_join_41 : decode cX8_join 41 = .ok (.aload_n 0, 1) := by decide +kernel
theorem dX8_join_42 : decode cX8_join 42 = .ok (.aload_n 0, 1) := by decide +kernel
theorem dX8_join_43 : decode cX8_join 43 = .ok (.getfield 37, 3) := by decide +kernel
theorem dX8_join_46 : decode cX8_join 46 = .ok (.iload_n 2, 1) := by decide +kernel
theorem dX8_join_47 : decode cX8_join 47 = .ok (.iaload, 1) := by decide +kernel
theorem dX8_join_48 : decode cX8_join 48 = .ok (.invokevirtual 133, 3) := by decide +kernel
theorem dX8_join_51 : decode cX8_join 51 = .ok (.iinc 2 1, 3) := by decide +kernel
theorem dX8_join_54 : decode cX8_join 54 = .ok (.goto (-21), 3) := by decide +kernel
theorem dX8_join_57 : decode cX8_join 57 = .ok (.aload_n 0, 1) := by decide +kernel
theorem dX8_join_58 : decode cX8_join 58 = .ok (.getfield 9, 3) := by decide +kernel
theorem dX8_join_61 : decode cX8_join 61 = .ok (.bipush 7, 2) := by decide +kernel
theorem dX8_join_63 : decode cX8_join 63 = .ok (.dup2, 1) := by decide +kernel
theorem dX8_join_64 : decode cX8_join 64 = .ok (.iaload, 1) := by decide +kernel
theorem dX8_join_65 : decode cX8_join 65 = .ok (.iconst 1, 1) := by decide +kernel
theorem dX8_join_66 : decode cX8_join 66 = .ok (.iadd, 1) := by decide +kernel
theorem dX8_join_67 : decode cX8_join 67 = .ok (.iastore, 1) := by decide +kernel
theorem dX8_join_68 : decode cX8_join 68 = .ok (.aload_n 0, 1) := by decide +kernel
theorem dX8_join_69 : decode cX8_join 69 = .ok (.getfield 100, 3) := by decide +kernel
theorem dX8_join_72 : decode cX8_join 72 = .ok (.ireturn, 1) := by decide +kernel
theorem dX8_once_0 : decode cX8_once 0 = .ok (.aload_n 0, 1) := by decide +kernel
theorem dX8_once_1 : decode cX8_once 1 = .ok (.iload_n 1, 1) := by decide +kernel
theorem dX8_once_2 : decode cX8_once 2 = .ok (.invokevirtual 123, 3) := by decide +kernel
theorem dX8_once_5 : decode cX8_once 5 = .ok (.ifCond .ne 5, 3) := by decide +kernel
theorem dX8_once_8 : decode cX8_once 8 = .ok (.iconst (-1), 1) := by decide +kernel
theorem dX8_once_9 : decode cX8_once 9 = .ok (.ireturn, 1) := by decide +kernel
theorem dX8_once_10 : decode cX8_once 10 = .ok (.aload_n 0, 1) := by decide +kernel
theorem dX8_once_11 : decode cX8_once 11 = .ok (.iload_n 1, 1) := by decide +kernel
theorem dX8_once_12 : decode cX8_once 12 = .ok (.invokevirtual 136, 3) := by decide +kernel
theorem dX8_once_15 : decode cX8_once 15 = .ok (.ifCond .ne 37, 3) := by decide +kernel
theorem dX8_once_18 : decode cX8_once 18 = .ok (.aload_n 0, 1) := by decide +kernel
theorem dX8_once_19 : decode cX8_once 19 = .ok (.aload_n 0, 1) := by decide +kernel
theorem dX8_once_20 : decode cX8_once 20 = .ok (.getfield 9, 3) := by decide +kernel
theorem dX8_once_23 : decode cX8_once 23 = .ok (.iconst 1, 1) := by decide +kernel
theorem dX8_once_24 : decode cX8_once 24 = .ok (.iaload, 1) := by decide +kernel
theorem dX8_once_25 : decode cX8_once 25 = .ok (.aload_n 0, 1) := by decide +kernel
theorem dX8_once_26 : decode cX8_once 26 = .ok (.iload_n 1, 1) := by decide +kernel
theorem dX8_once_27 : decode cX8_once 27 = .ok (.iconst 0, 1) := by decide +kernel
theorem dX8_once_28 : decode cX8_once 28 = .ok (.invokevirtual 106, 3) := by decide +kernel
theorem dX8_once_31 : decode cX8_once 31 = .ok (.if_icmp .eq 7, 3) := by decide +kernel
theorem dX8_once_34 : decode cX8_once 34 = .ok (.iconst 1, 1) := by decide +kernel
theorem dX8_once_35 : decode cX8_once 35 = .ok (.goto 4, 3) := by decide +kernel
theorem dX8_once_38 : decode cX8_once 38 = .ok (.iconst 0, 1) := by decide +kernel
theorem dX8_once_39 : decode cX8_once 39 = .ok (.iconst 4, 1) := by decide +kernel
theorem dX8_once_40 : decode cX8_once 40 = .ok (.aload_n 0, 1) := by decide +kernel
theorem dX8_once_41 : decode cX8_once 41 = .ok (.getfield 9, 3) := by decide +kernel
theorem dX8_once_44 : decode cX8_once 44 = .ok (.iconst 1, 1) := by decide +kernel
theorem dX8_once_45 : decode cX8_once 45 = .ok (.iaload, 1) := by decide +kernel
theorem dX8_once_46 : decode cX8_once 46 = .ok (.invokevirtual 112, 3) := by decide +kernel
theorem dX8_once_49 : decode cX8_once 49 = .ok (.ifCond .eq 6, 3) := by decide +kernel
theorem dX8_once_52 : decode cX8_once 52 = .ok (.bipush (-3), 2) := by decide +kernel
theorem dX8_once_54 : decode cX8_once 54 = .ok (.ireturn, 1) := by decide +kernel
theorem dX8_once_55 : decode cX8_once 55 = .ok (.aload_n 0, 1) := by decide +kernel
theorem dX8_once_56 : decode cX8_once 56 = .ok (.invokevirtual 116, 3) := by decide +kernel
theorem dX8_once_59 : decode cX8_once 59 = .ok (.iconst 0, 1) := by decide +kernel
theorem dX8_once_60 : decode cX8_once 60 = .ok (.istore_n 2, 1) := by decide +kernel
theorem dX8_once_61 : decode cX8_once 61 = .ok (.iload_n 2, 1) := by decide +kernel
theorem dX8_once_62 : decode cX8_once 62 = .ok (.aload_n 0, 1) := by decide +kernel
theorem dX8_once_63 : decode cX8_once 63 = .ok (.iload_n 1, 1) := by decide +kernel
theorem dX8_once_64 : decode cX8_once 64 = .ok (.invokevirtual 75, 3) := by decide +kernel
theorem dX8_once_67 : decode cX8_once 67 = .ok (.if_icmp .ge 19, 3) := by decide +kernel
theorem dX8_once_70 : decode cX8_once 70 = .ok (.aload_n 0, 1) := by decide +kernel
theorem dX8_once_71 : decode cX8_once 71 = .ok (.aload_n 0, 1) := by decide +kernel
theorem dX8_once_72 : decode cX8_once 72 = .ok (.iload_n 1, 1) := by decide +kernel
theorem dX8_once_73 : decode cX8_once 73 = .ok (.iload_n 2, 1) := by decide +kernel
theorem dX8_once_74 : decode cX8_once 74 = .ok (.invokevirtual 79, 3) := by decide +kernel
theorem dX8_once_77 : decode cX8_once 77 = .ok (.invokevirtual 133, 3) := by decide +kernel
theorem dX8_once_80 : decode cX8_once 80 = .ok (.iinc 2 1, 3) := by decide +kernel
theorem dX8_once_83 : decode cX8_once 83 = .ok (.goto (-22), 3) := by decide +kernel
theorem dX8_once_86 : decode cX8_once 86 = .ok (.aload_n 0, 1) := by decide +kernel
theorem dX8_once_87 : decode cX8_once 87 = .ok (.iload_n 1, 1) := by decide +kernel
theorem dX8_once_88 : decode cX8_once 88 = .ok (.invokevirtual 75, 3) := by decide +kernel
theorem dX8_once_91 : decode cX8_once 91 = .ok (.ireturn, 1) := by decide +kernel
theorem dX8_repeatsBy_0 : decode cX8_repeatsBy 0 = .ok (.aload_n 0, 1) := by decide +kernel
theorem dX8_repeatsBy_1 : decode cX8_repeatsBy 1 = .ok (.iload_n 1, 1) := by decide +kernel
theorem dX8_repeatsBy_2 : decode cX8_repeatsBy 2 = .ok (.invokevirtual 75, 3) := by decide +kernel
theorem dX8_repeatsBy_5 : decode cX8_repeatsBy 5 = .ok (.istore_n 3, 1) := by decide +kernel
theorem dX8_repeatsBy_6 : decode cX8_repeatsBy 6 = .ok (.iload_n 3, 1) := by decide +kernel
theorem dX8_repeatsBy_7 : decode cX8_repeatsBy 7 = .ok (.iload_n 2, 1) := by decide +kernel
theorem dX8_repeatsBy_8 : decode cX8_repeatsBy 8 = .ok (.irem, 1) := by decide +kernel
theorem dX8_repeatsBy_9 : decode cX8_repeatsBy 9 = .ok (.ifCond .ne 7, 3) := by decide +kernel
theorem dX8_repeatsBy_12 : decode cX8_repeatsBy 12 = .ok (.iconst 1, 1) := by decide +kernel
theorem dX8_repeatsBy_13 : decode cX8_repeatsBy 13 = .ok (.goto 4, 3) := by decide +kernel
theorem dX8_repeatsBy_16 : decode cX8_repeatsBy 16 = .ok (.iconst 0, 1) := by decide +kernel
theorem dX8_repeatsBy_17 : decode cX8_repeatsBy 17 = .ok (.istore 4, 2) := by decide +kernel
theorem dX8_repeatsBy_19 : decode cX8_repeatsBy 19 = .ok (.iconst 0, 1) := by decide +kernel
theorem dX8_repeatsBy_20 : decode cX8_repeatsBy 20 = .ok (.istore 5, 2) := by decide +kernel
theorem dX8_repeatsBy_22 : decode cX8_repeatsBy 22 = .ok (.iload 5, 2) := by decide +kernel
theorem dX8_repeatsBy_24 : decode cX8_repeatsBy 24 = .ok (.iload_n 3, 1) := by decide +kernel
theorem dX8_repeatsBy_25 : decode cX8_repeatsBy 25 = .ok (.if_icmp .ge 40, 3) := by decide +kernel
theorem dX8_repeatsBy_28 : decode cX8_repeatsBy 28 = .ok (.iload 4, 2) := by decide +kernel
theorem dX8_repeatsBy_30 : decode cX8_repeatsBy 30 = .ok (.aload_n 0, 1) := by decide +kernel
theorem dX8_repeatsBy_31 : decode cX8_repeatsBy 31 = .ok (.iload_n 1, 1) := by decide +kernel
theorem dX8_repeatsBy_32 : decode cX8_repeatsBy 32 = .ok (.iload 5, 2) := by decide +kernel
theorem dX8_repeatsBy_34 : decode cX8_repeatsBy 34 = .ok (.invokevirtual 79, 3) := by decide +kernel
theorem dX8_repeatsBy_37 : decode cX8_repeatsBy 37 = .ok (.aload_n 0, 1) := by decide +kernel
theorem dX8_repeatsBy_38 : decode cX8_repeatsBy 38 = .ok (.iload_n 1, 1) := by decide +kernel
theorem dX8_repeatsBy_39 : decode cX8_repeatsBy 39 = .ok (.iload 5, 2) := by decide +kernel
theorem dX8_repeatsBy_41 : decode cX8_repeatsBy 41 = .ok (.iload_n 2, 1) := by decide +kernel
theorem dX8_repeatsBy_42 : decode cX8_repeatsBy 42 = .ok (.iadd, 1) := by decide +kernel
theorem dX8_repeatsBy_43 : decode cX8_repeatsBy 43 = .ok (.iload_n 3, 1) := by decide +kernel
theorem dX8_repeatsBy_44 : decode cX8_repeatsBy 44 = .ok (.irem, 1) := by decide +kernel
theorem dX8_repeatsBy_45 : decode cX8_repeatsBy 45 = .ok (.invokevirtual 79, 3) := by decide +kernel
theorem dX8_repeatsBy_48 : decode cX8_repeatsBy 48 = .ok (.if_icmp .ne 7, 3) := by decide +kernel
theorem dX8_repeatsBy_51 : decode cX8_repeatsBy 51 = .ok (.iconst 1, 1) := by decide +kernel
theorem dX8_repeatsBy_52 : decode cX8_repeatsBy 52 = .ok (.goto 4, 3) := by decide +kernel
theorem dX8_repeatsBy_55 : decode cX8_repeatsBy 55 = .ok (.iconst 0, 1) := by decide +kernel
theorem dX8_repeatsBy_56 : decode cX8_repeatsBy 56 = .ok (.iand, 1) := by decide +kernel
theorem dX8_repeatsBy_57 : decode cX8_repeatsBy 57 = .ok (.istore 4, 2) := by decide +kernel
theorem dX8_repeatsBy_59 : decode cX8_repeatsBy 59 = .ok (.iinc 5 1, 3) := by decide +kernel
theorem dX8_repeatsBy_62 : decode cX8_repeatsBy 62 = .ok (.goto (-40), 3) := by decide +kernel
theorem dX8_repeatsBy_65 : decode cX8_repeatsBy 65 = .ok (.iload 4, 2) := by decide +kernel
theorem dX8_repeatsBy_67 : decode cX8_repeatsBy 67 = .ok (.ireturn, 1) := by decide +kernel
theorem dX8_periodOf_0 : decode cX8_periodOf 0 = .ok (.iconst 1, 1) := by decide +kernel
theorem dX8_periodOf_1 : decode cX8_periodOf 1 = .ok (.istore_n 2, 1) := by decide +kernel
theorem dX8_periodOf_2 : decode cX8_periodOf 2 = .ok (.aload_n 0, 1) := by decide +kernel
theorem dX8_periodOf_3 : decode cX8_periodOf 3 = .ok (.iload_n 1, 1) := by decide +kernel
theorem dX8_periodOf_4 : decode cX8_periodOf 4 = .ok (.iload_n 2, 1) := by decide +kernel
theorem dX8_periodOf_5 : decode cX8_periodOf 5 = .ok (.invokevirtual 142, 3) := by decide +kernel
theorem dX8_periodOf_8 : decode cX8_periodOf 8 = .ok (.ifCond .ne 9, 3) := by decide +kernel
theorem dX8_periodOf_11 : decode cX8_periodOf 11 = .ok (.iinc 2 1, 3) := by decide +kernel
theorem dX8_periodOf_14 : decode cX8_periodOf 14 = .ok (.goto (-12), 3) := by decide +kernel
theorem dX8_periodOf_17 : decode cX8_periodOf 17 = .ok (.iload_n 2, 1) := by decide +kernel
theorem dX8_periodOf_18 : decode cX8_periodOf 18 = .ok (.ireturn, 1) := by decide +kernel
theorem dX8_greatestOf_0 : decode cX8_greatestOf 0 = .ok (.iconst 0, 1) := by decide +kernel
theorem dX8_greatestOf_1 : decode cX8_greatestOf 1 = .ok (.istore_n 2, 1) := by decide +kernel
theorem dX8_greatestOf_2 : decode cX8_greatestOf 2 = .ok (.iconst 0, 1) := by decide +kernel
theorem dX8_greatestOf_3 : decode cX8_greatestOf 3 = .ok (.istore_n 3, 1) := by decide +kernel
theorem dX8_greatestOf_4 : decode cX8_greatestOf 4 = .ok (.iload_n 3, 1) := by decide +kernel
theorem dX8_greatestOf_5 : decode cX8_greatestOf 5 = .ok (.aload_n 0, 1) := by decide +kernel
theorem dX8_greatestOf_6 : decode cX8_greatestOf 6 = .ok (.iload_n 1, 1) := by decide +kernel
theorem dX8_greatestOf_7 : decode cX8_greatestOf 7 = .ok (.invokevirtual 75, 3) := by decide +kernel
theorem dX8_greatestOf_10 : decode cX8_greatestOf 10 = .ok (.if_icmp .ge 30, 3) := by decide +kernel
theorem dX8_greatestOf_13 : decode cX8_greatestOf 13 = .ok (.aload_n 0, 1) := by decide +kernel
theorem dX8_greatestOf_14 : decode cX8_greatestOf 14 = .ok (.iload_n 1, 1) := by decide +kernel
theorem dX8_greatestOf_15 : decode cX8_greatestOf 15 = .ok (.iload_n 3, 1) := by decide +kernel
theorem dX8_greatestOf_16 : decode cX8_greatestOf 16 = .ok (.invokevirtual 79, 3) := by decide +kernel
theorem dX8_greatestOf_19 : decode cX8_greatestOf 19 = .ok (.iload_n 2, 1) := by decide +kernel
theorem dX8_greatestOf_20 : decode cX8_greatestOf 20 = .ok (.if_icmp .le 12, 3) := by decide +kernel
theorem dX8_greatestOf_23 : decode cX8_greatestOf 23 = .ok (.aload_n 0, 1) := by decide +kernel
theorem dX8_greatestOf_24 : decode cX8_greatestOf 24 = .ok (.iload_n 1, 1) := by decide +kernel
theorem dX8_greatestOf_25 : decode cX8_greatestOf 25 = .ok (.iload_n 3, 1) := by decide +kernel
theorem dX8_greatestOf_26 : decode cX8_greatestOf 26 = .ok (.invokevirtual 79, 3) := by decide +kernel
theorem dX8_greatestOf_29 : decode cX8_greatestOf 29 = .ok (.goto 4, 3) := by decide +kernel
theorem dX8_greatestOf_32 : decode cX8_greatestOf 32 = .ok (.iload_n 2, 1) := by decide +kernel
theorem dX8_greatestOf_33 : decode cX8_greatestOf 33 = .ok (.istore_n 2, 1) := by decide +kernel
theorem dX8_greatestOf_34 : decode cX8_greatestOf 34 = .ok (.iinc 3 1, 3) := by decide +kernel
theorem dX8_greatestOf_37 : decode cX8_greatestOf 37 = .ok (.goto (-33), 3) := by decide +kernel
theorem dX8_greatestOf_40 : decode cX8_greatestOf 40 = .ok (.iload_n 2, 1) := by decide +kernel
theorem dX8_greatestOf_41 : decode cX8_greatestOf 41 = .ok (.ireturn, 1) := by decide +kernel
theorem dX8_oddOf_0 : decode cX8_oddOf 0 = .ok (.iconst 0, 1) := by decide +kernel
theorem dX8_oddOf_1 : decode cX8_oddOf 1 = .ok (.istore_n 2, 1) := by decide +kernel
theorem dX8_oddOf_2 : decode cX8_oddOf 2 = .ok (.iconst 0, 1) := by decide +kernel
theorem dX8_oddOf_3 : decode cX8_oddOf 3 = .ok (.istore_n 3, 1) := by decide +kernel
theorem dX8_oddOf_4 : decode cX8_oddOf 4 = .ok (.iload_n 3, 1) := by decide +kernel
theorem dX8_oddOf_5 : decode cX8_oddOf 5 = .ok (.aload_n 0, 1) := by decide +kernel
theorem dX8_oddOf_6 : decode cX8_oddOf 6 = .ok (.iload_n 1, 1) := by decide +kernel
theorem dX8_oddOf_7 : decode cX8_oddOf 7 = .ok (.invokevirtual 75, 3) := by decide +kernel
theorem dX8_oddOf_10 : decode cX8_oddOf 10 = .ok (.if_icmp .ge 20, 3) := by decide +kernel
theorem dX8_oddOf_13 : decode cX8_oddOf 13 = .ok (.iload_n 2, 1) := by decide +kernel
theorem dX8_oddOf_14 : decode cX8_oddOf 14 = .ok (.aload_n 0, 1) := by decide +kernel
theorem dX8_oddOf_15 : decode cX8_oddOf 15 = .ok (.iload_n 1, 1) := by decide +kernel
theorem dX8_oddOf_16 : decode cX8_oddOf 16 = .ok (.iload_n 3, 1) := by decide +kernel
theorem dX8_oddOf_17 : decode cX8_oddOf 17 = .ok (.invokevirtual 79, 3) := by decide +kernel
theorem dX8_oddOf_20 : decode cX8_oddOf 20 = .ok (.iconst 2, 1) := by decide +kernel
theorem dX8_oddOf_21 : decode cX8_oddOf 21 = .ok (.irem, 1) := by decide +kernel
theorem dX8_oddOf_22 : decode cX8_oddOf 22 = .ok (.iadd, 1) := by decide +kernel
theorem dX8_oddOf_23 : decode cX8_oddOf 23 = .ok (.istore_n 2, 1) := by decide +kernel
theorem dX8_oddOf_24 : decode cX8_oddOf 24 = .ok (.iinc 3 1, 3) := by decide +kernel
theorem dX8_oddOf_27 : decode cX8_oddOf 27 = .ok (.goto (-23), 3) := by decide +kernel
theorem dX8_oddOf_30 : decode cX8_oddOf 30 = .ok (.iload_n 2, 1) := by decide +kernel
theorem dX8_oddOf_31 : decode cX8_oddOf 31 = .ok (.ireturn, 1) := by decide +kernel
theorem dX8_isPrime_0 : decode cX8_isPrime 0 = .ok (.aload_n 0, 1) := by decide +kernel
theorem dX8_isPrime_1 : decode cX8_isPrime 1 = .ok (.iload_n 1, 1) := by decide +kernel
theorem dX8_isPrime_2 : decode cX8_isPrime 2 = .ok (.invokevirtual 83, 3) := by decide +kernel
theorem dX8_isPrime_5 : decode cX8_isPrime 5 = .ok (.ifCond .lt 6, 3) := by decide +kernel
theorem dX8_isPrime_8 : decode cX8_isPrime 8 = .ok (.bipush (-4), 2) := by decide +kernel
theorem dX8_isPrime_10 : decode cX8_isPrime 10 = .ok (.ireturn, 1) := by decide +kernel
theorem dX8_isPrime_11 : decode cX8_isPrime 11 = .ok (.aload_n 0, 1) := by decide +kernel
theorem dX8_isPrime_12 : decode cX8_isPrime 12 = .ok (.iload_n 1, 1) := by decide +kernel
theorem dX8_isPrime_13 : decode cX8_isPrime 13 = .ok (.invokevirtual 145, 3) := by decide +kernel
theorem dX8_isPrime_16 : decode cX8_isPrime 16 = .ok (.istore_n 2, 1) := by decide +kernel
theorem dX8_isPrime_17 : decode cX8_isPrime 17 = .ok (.iconst 0, 1) := by decide +kernel
theorem dX8_isPrime_18 : decode cX8_isPrime 18 = .ok (.istore_n 3, 1) := by decide +kernel
theorem dX8_isPrime_19 : decode cX8_isPrime 19 = .ok (.iload_n 3, 1) := by decide +kernel
theorem dX8_isPrime_20 : decode cX8_isPrime 20 = .ok (.iload_n 2, 1) := by decide +kernel
theorem dX8_isPrime_21 : decode cX8_isPrime 21 = .ok (.if_icmp .ge 44, 3) := by decide +kernel
theorem dX8_isPrime_24 : decode cX8_isPrime 24 = .ok (.iload_n 3, 1) := by decide +kernel
theorem dX8_isPrime_25 : decode cX8_isPrime 25 = .ok (.iconst 1, 1) := by decide +kernel
theorem dX8_isPrime_26 : decode cX8_isPrime 26 = .ok (.iadd, 1) := by decide +kernel
theorem dX8_isPrime_27 : decode cX8_isPrime 27 = .ok (.istore 4, 2) := by decide +kernel
theorem dX8_isPrime_29 : decode cX8_isPrime 29 = .ok (.iload 4, 2) := by decide +kernel
theorem dX8_isPrime_31 : decode cX8_isPrime 31 = .ok (.iload_n 2, 1) := by decide +kernel
theorem dX8_isPrime_32 : decode cX8_isPrime 32 = .ok (.if_icmp .ge 27, 3) := by decide +kernel
theorem dX8_isPrime_35 : decode cX8_isPrime 35 = .ok (.aload_n 0, 1) := by decide +kernel
theorem dX8_isPrime_36 : decode cX8_isPrime 36 = .ok (.iload_n 1, 1) := by decide +kernel
theorem dX8_isPrime_37 : decode cX8_isPrime 37 = .ok (.iload_n 3, 1) := by decide +kernel
theorem dX8_isPrime_38 : decode cX8_isPrime 38 = .ok (.invokevirtual 106, 3) := by decide +kernel
theorem dX8_isPrime_41 : decode cX8_isPrime 41 = .ok (.aload_n 0, 1) := by decide +kernel
theorem dX8_isPrime_42 : decode cX8_isPrime 42 = .ok (.iload_n 1, 1) := by decide +kernel
theorem dX8_isPrime_43 : decode cX8_isPrime 43 = .ok (.iload 4, 2) := by decide +kernel
theorem dX8_isPrime_45 : decode cX8_isPrime 45 = .ok (.invokevirtual 106, 3) := by decide +kernel
theorem dX8_isPrime_48 : decode cX8_isPrime 48 = .ok (.if_icmp .ne 5, 3) := by decide +kernel
theorem dX8_isPrime_51 : decode cX8_isPrime 51 = .ok (.iconst 0, 1) := by decide +kernel
theorem dX8_isPrime_52 : decode cX8_isPrime 52 = .ok (.ireturn, 1) := by decide +kernel
theorem dX8_isPrime_53 : decode cX8_isPrime 53 = .ok (.iinc 4 1, 3) := by decide +kernel
theorem dX8_isPrime_56 : decode cX8_isPrime 56 = .ok (.goto (-27), 3) := by decide +kernel
theorem dX8_isPrime_59 : decode cX8_isPrime 59 = .ok (.iinc 3 1, 3) := by decide +kernel
theorem dX8_isPrime_62 : decode cX8_isPrime 62 = .ok (.goto (-43), 3) := by decide +kernel
theorem dX8_isPrime_65 : decode cX8_isPrime 65 = .ok (.iconst 1, 1) := by decide +kernel
theorem dX8_isPrime_66 : decode cX8_isPrime 66 = .ok (.ireturn, 1) := by decide +kernel
theorem dX8_rowOf_0 : decode cX8_rowOf 0 = .ok (.aload_n 0, 1) := by decide +kernel
theorem dX8_rowOf_1 : decode cX8_rowOf 1 = .ok (.iload_n 1, 1) := by decide +kernel
theorem dX8_rowOf_2 : decode cX8_rowOf 2 = .ok (.invokevirtual 123, 3) := by decide +kernel
theorem dX8_rowOf_5 : decode cX8_rowOf 5 = .ok (.ifCond .ne 5, 3) := by decide +kernel
theorem dX8_rowOf_8 : decode cX8_rowOf 8 = .ok (.iconst (-1), 1) := by decide +kernel
theorem dX8_rowOf_9 : decode cX8_rowOf 9 = .ok (.ireturn, 1) := by decide +kernel
theorem dX8_rowOf_10 : decode cX8_rowOf 10 = .ok (.iload_n 2, 1) := by decide +kernel
theorem dX8_rowOf_11 : decode cX8_rowOf 11 = .ok (.tableswitch 99 0 7 #[45, 51, 57, 66, 75, 81, 87, 93], 45) := by decide +kernel
theorem dX8_rowOf_56 : decode cX8_rowOf 56 = .ok (.aload_n 0, 1) := by decide +kernel
theorem dX8_rowOf_57 : decode cX8_rowOf 57 = .ok (.iload_n 1, 1) := by decide +kernel
theorem dX8_rowOf_58 : decode cX8_rowOf 58 = .ok (.invokevirtual 75, 3) := by decide +kernel
theorem dX8_rowOf_61 : decode cX8_rowOf 61 = .ok (.ireturn, 1) := by decide +kernel
theorem dX8_rowOf_62 : decode cX8_rowOf 62 = .ok (.aload_n 0, 1) := by decide +kernel
theorem dX8_rowOf_63 : decode cX8_rowOf 63 = .ok (.iload_n 1, 1) := by decide +kernel
theorem dX8_rowOf_64 : decode cX8_rowOf 64 = .ok (.invokevirtual 86, 3) := by decide +kernel
theorem dX8_rowOf_67 : decode cX8_rowOf 67 = .ok (.ireturn, 1) := by decide +kernel
theorem dX8_rowOf_68 : decode cX8_rowOf 68 = .ok (.aload_n 0, 1) := by decide +kernel
theorem dX8_rowOf_69 : decode cX8_rowOf 69 = .ok (.iload_n 1, 1) := by decide +kernel
theorem dX8_rowOf_70 : decode cX8_rowOf 70 = .ok (.invokevirtual 103, 3) := by decide +kernel
theorem dX8_rowOf_73 : decode cX8_rowOf 73 = .ok (.invokestatic 130, 3) := by decide +kernel
theorem dX8_rowOf_76 : decode cX8_rowOf 76 = .ok (.ireturn, 1) := by decide +kernel
theorem dX8_rowOf_77 : decode cX8_rowOf 77 = .ok (.aload_n 0, 1) := by decide +kernel
theorem dX8_rowOf_78 : decode cX8_rowOf 78 = .ok (.iload_n 1, 1) := by decide +kernel
theorem dX8_rowOf_79 : decode cX8_rowOf 79 = .ok (.invokevirtual 83, 3) := by decide +kernel
theorem dX8_rowOf_82 : decode cX8_rowOf 82 = .ok (.invokestatic 130, 3) := by decide +kernel
theorem dX8_rowOf_85 : decode cX8_rowOf 85 = .ok (.ireturn, 1) := by decide +kernel
theorem dX8_rowOf_86 : decode cX8_rowOf 86 = .ok (.aload_n 0, 1) := by decide +kernel
theorem dX8_rowOf_87 : decode cX8_rowOf 87 = .ok (.iload_n 1, 1) := by decide +kernel
theorem dX8_rowOf_88 : decode cX8_rowOf 88 = .ok (.invokevirtual 145, 3) := by decide +kernel
theorem dX8_rowOf_91 : decode cX8_rowOf 91 = .ok (.ireturn, 1) := by decide +kernel
theorem dX8_rowOf_92 : decode cX8_rowOf 92 = .ok (.aload_n 0, 1) := by decide +kernel
theorem dX8_rowOf_93 : decode cX8_rowOf 93 = .ok (.iload_n 1, 1) := by decide +kernel
theorem dX8_rowOf_94 : decode cX8_rowOf 94 = .ok (.invokevirtual 148, 3) := by decide +kernel
theorem dX8_rowOf_97 : decode cX8_rowOf 97 = .ok (.ireturn, 1) := by decide +kernel
theorem dX8_rowOf_98 : decode cX8_rowOf 98 = .ok (.aload_n 0, 1) := by decide +kernel
theorem dX8_rowOf_99 : decode cX8_rowOf 99 = .ok (.iload_n 1, 1) := by decide +kernel
theorem dX8_rowOf_100 : decode cX8_rowOf 100 = .ok (.invokevirtual 151, 3) := by decide +kernel
theorem dX8_rowOf_103 : decode cX8_rowOf 103 = .ok (.ireturn, 1) := by decide +kernel
theorem dX8_rowOf_104 : decode cX8_rowOf 104 = .ok (.aload_n 0, 1) := by decide +kernel
theorem dX8_rowOf_105 : decode cX8_rowOf 105 = .ok (.iload_n 1, 1) := by decide +kernel
theorem dX8_rowOf_106 : decode cX8_rowOf 106 = .ok (.invokevirtual 154, 3) := by decide +kernel
theorem dX8_rowOf_109 : decode cX8_rowOf 109 = .ok (.ireturn, 1) := by decide +kernel
theorem dX8_rowOf_110 : decode cX8_rowOf 110 = .ok (.bipush (-2), 2) := by decide +kernel
theorem dX8_rowOf_112 : decode cX8_rowOf 112 = .ok (.ireturn, 1) := by decide +kernel
theorem dX8_throwAt_0 : decode cX8_throwAt 0 = .ok (.aload_n 0, 1) := by decide +kernel
theorem dX8_throwAt_1 : decode cX8_throwAt 1 = .ok (.iload_n 1, 1) := by decide +kernel
theorem dX8_throwAt_2 : decode cX8_throwAt 2 = .ok (.invokevirtual 123, 3) := by decide +kernel
theorem dX8_throwAt_5 : decode cX8_throwAt 5 = .ok (.ifCond .eq 21, 3) := by decide +kernel
theorem dX8_throwAt_8 : decode cX8_throwAt 8 = .ok (.aload_n 0, 1) := by decide +kernel
theorem dX8_throwAt_9 : decode cX8_throwAt 9 = .ok (.iload_n 1, 1) := by decide +kernel
theorem dX8_throwAt_10 : decode cX8_throwAt 10 = .ok (.iload_n 2, 1) := by decide +kernel
theorem dX8_throwAt_11 : decode cX8_throwAt 11 = .ok (.invokevirtual 127, 3) := by decide +kernel
theorem dX8_throwAt_14 : decode cX8_throwAt 14 = .ok (.ifCond .eq 12, 3) := by decide +kernel
theorem dX8_throwAt_17 : decode cX8_throwAt 17 = .ok (.aload_n 0, 1) := by decide +kernel
theorem dX8_throwAt_18 : decode cX8_throwAt 18 = .ok (.iload_n 1, 1) := by decide +kernel
theorem dX8_throwAt_19 : decode cX8_throwAt 19 = .ok (.iload_n 2, 1) := by decide +kernel
theorem dX8_throwAt_20 : decode cX8_throwAt 20 = .ok (.invokevirtual 79, 3) := by decide +kernel
theorem dX8_throwAt_23 : decode cX8_throwAt 23 = .ok (.goto 4, 3) := by decide +kernel
theorem dX8_throwAt_26 : decode cX8_throwAt 26 = .ok (.iconst (-1), 1) := by decide +kernel
theorem dX8_throwAt_27 : decode cX8_throwAt 27 = .ok (.ireturn, 1) := by decide +kernel
theorem dX8_isClean_0 : decode cX8_isClean 0 = .ok (.aload_n 0, 1) := by decide +kernel
theorem dX8_isClean_1 : decode cX8_isClean 1 = .ok (.iload_n 1, 1) := by decide +kernel
theorem dX8_isClean_2 : decode cX8_isClean 2 = .ok (.invokevirtual 123, 3) := by decide +kernel
theorem dX8_isClean_5 : decode cX8_isClean 5 = .ok (.ifCond .ne 7, 3) := by decide +kernel
theorem dX8_isClean_8 : decode cX8_isClean 8 = .ok (.iconst (-1), 1) := by decide +kernel
theorem dX8_isClean_9 : decode cX8_isClean 9 = .ok (.goto 16, 3) := by decide +kernel
theorem dX8_isClean_12 : decode cX8_isClean 12 = .ok (.aload_n 0, 1) := by decide +kernel
theorem dX8_isClean_13 : decode cX8_isClean 13 = .ok (.iload_n 1, 1) := by decide +kernel
theorem dX8_isClean_14 : decode cX8_isClean 14 = .ok (.invokevirtual 83, 3) := by decide +kernel
theorem dX8_isClean_17 : decode cX8_isClean 17 = .ok (.ifCond .ge 7, 3) := by decide +kernel
theorem dX8_isClean_20 : decode cX8_isClean 20 = .ok (.iconst 1, 1) := by decide +kernel
theorem dX8_isClean_21 : decode cX8_isClean 21 = .ok (.goto 4, 3) := by decide +kernel
theorem dX8_isClean_24 : decode cX8_isClean 24 = .ok (.iconst 0, 1) := by decide +kernel
theorem dX8_isClean_25 : decode cX8_isClean 25 = .ok (.ireturn, 1) := by decide +kernel
theorem dX8_isCleanAgain_0 : decode cX8_isCleanAgain 0 = .ok (.aload_n 0, 1) := by decide +kernel
theorem dX8_isCleanAgain_1 : decode cX8_isCleanAgain 1 = .ok (.iload_n 1, 1) := by decide +kernel
theorem dX8_isCleanAgain_2 : decode cX8_isCleanAgain 2 = .ok (.invokevirtual 157, 3) := by decide +kernel
theorem dX8_isCleanAgain_5 : decode cX8_isCleanAgain 5 = .ok (.ireturn, 1) := by decide +kernel
theorem dX8_stateOf_0 : decode cX8_stateOf 0 = .ok (.aload_n 0, 1) := by decide +kernel
theorem dX8_stateOf_1 : decode cX8_stateOf 1 = .ok (.iload_n 1, 1) := by decide +kernel
theorem dX8_stateOf_2 : decode cX8_stateOf 2 = .ok (.invokevirtual 123, 3) := by decide +kernel
theorem dX8_stateOf_5 : decode cX8_stateOf 5 = .ok (.ifCond .eq 12, 3) := by decide +kernel
theorem dX8_stateOf_8 : decode cX8_stateOf 8 = .ok (.aload_n 0, 1) := by decide +kernel
theorem dX8_stateOf_9 : decode cX8_stateOf 9 = .ok (.iload_n 1, 1) := by decide +kernel
theorem dX8_stateOf_10 : decode cX8_stateOf 10 = .ok (.iload_n 2, 1) := by decide +kernel
theorem dX8_stateOf_11 : decode cX8_stateOf 11 = .ok (.invokevirtual 127, 3) := by decide +kernel
theorem dX8_stateOf_14 : decode cX8_stateOf 14 = .ok (.ifCond .ne 7, 3) := by decide +kernel
theorem dX8_stateOf_17 : decode cX8_stateOf 17 = .ok (.iconst (-1), 1) := by decide +kernel
theorem dX8_stateOf_18 : decode cX8_stateOf 18 = .ok (.goto 22, 3) := by decide +kernel
theorem dX8_stateOf_21 : decode cX8_stateOf 21 = .ok (.aload_n 0, 1) := by decide +kernel
theorem dX8_stateOf_22 : decode cX8_stateOf 22 = .ok (.iload_n 1, 1) := by decide +kernel
theorem dX8_stateOf_23 : decode cX8_stateOf 23 = .ok (.invokevirtual 83, 3) := by decide +kernel
theorem dX8_stateOf_26 : decode cX8_stateOf 26 = .ok (.ifCond .lt 8, 3) := by decide +kernel
theorem dX8_stateOf_29 : decode cX8_stateOf 29 = .ok (.bipush (-4), 2) := by decide +kernel
theorem dX8_stateOf_31 : decode cX8_stateOf 31 = .ok (.goto 9, 3) := by decide +kernel
theorem dX8_stateOf_34 : decode cX8_stateOf 34 = .ok (.aload_n 0, 1) := by decide +kernel
theorem dX8_stateOf_35 : decode cX8_stateOf 35 = .ok (.iload_n 1, 1) := by decide +kernel
theorem dX8_stateOf_36 : decode cX8_stateOf 36 = .ok (.iload_n 2, 1) := by decide +kernel
theorem dX8_stateOf_37 : decode cX8_stateOf 37 = .ok (.invokevirtual 106, 3) := by decide +kernel
theorem dX8_stateOf_40 : decode cX8_stateOf 40 = .ok (.ireturn, 1) := by decide +kernel
theorem dX8_throwsNow_0 : decode cX8_throwsNow 0 = .ok (.iconst 0, 1) := by decide +kernel
theorem dX8_throwsNow_1 : decode cX8_throwsNow 1 = .ok (.istore_n 1, 1) := by decide +kernel
theorem dX8_throwsNow_2 : decode cX8_throwsNow 2 = .ok (.iconst 0, 1) := by decide +kernel
theorem dX8_throwsNow_3 : decode cX8_throwsNow 3 = .ok (.istore_n 2, 1) := by decide +kernel
theorem dX8_throwsNow_4 : decode cX8_throwsNow 4 = .ok (.iload_n 2, 1) := by decide +kernel
theorem dX8_throwsNow_5 : decode cX8_throwsNow 5 = .ok (.bipush 9, 2) := by decide +kernel
theorem dX8_throwsNow_7 : decode cX8_throwsNow 7 = .ok (.if_icmp .gt 30, 3) := by decide +kernel
theorem dX8_throwsNow_10 : decode cX8_throwsNow 10 = .ok (.iload_n 1, 1) := by decide +kernel
theorem dX8_throwsNow_11 : decode cX8_throwsNow 11 = .ok (.aload_n 0, 1) := by decide +kernel
theorem dX8_throwsNow_12 : decode cX8_throwsNow 12 = .ok (.getfield 9, 3) := by decide +kernel
theorem dX8_throwsNow_15 : decode cX8_throwsNow 15 = .ok (.iconst 1, 1) := by decide +kernel
theorem dX8_throwsNow_16 : decode cX8_throwsNow 16 = .ok (.iaload, 1) := by decide +kernel
theorem dX8_throwsNow_17 : decode cX8_throwsNow 17 = .ok (.iload_n 2, 1) := by decide +kernel
theorem dX8_throwsNow_18 : decode cX8_throwsNow 18 = .ok (.invokestatic 92, 3) := by decide +kernel
theorem dX8_throwsNow_21 : decode cX8_throwsNow 21 = .ok (.ifCond .eq 7, 3) := by decide +kernel
theorem dX8_throwsNow_24 : decode cX8_throwsNow 24 = .ok (.iconst 1, 1) := by decide +kernel
theorem dX8_throwsNow_25 : decode cX8_throwsNow 25 = .ok (.goto 4, 3) := by decide +kernel
theorem dX8_throwsNow_28 : decode cX8_throwsNow 28 = .ok (.iconst 0, 1) := by decide +kernel
theorem dX8_throwsNow_29 : decode cX8_throwsNow 29 = .ok (.iadd, 1) := by decide +kernel
theorem dX8_throwsNow_30 : decode cX8_throwsNow 30 = .ok (.istore_n 1, 1) := by decide +kernel
theorem dX8_throwsNow_31 : decode cX8_throwsNow 31 = .ok (.iinc 2 1, 3) := by decide +kernel
theorem dX8_throwsNow_34 : decode cX8_throwsNow 34 = .ok (.goto (-30), 3) := by decide +kernel
theorem dX8_throwsNow_37 : decode cX8_throwsNow 37 = .ok (.iload_n 1, 1) := by decide +kernel
theorem dX8_throwsNow_38 : decode cX8_throwsNow 38 = .ok (.ireturn, 1) := by decide +kernel
theorem dX8_juggler_0 : decode cX8_juggler 0 = .ok (.iload_n 1, 1) := by decide +kernel
theorem dX8_juggler_1 : decode cX8_juggler 1 = .ok (.tableswitch 71 0 5 #[39, 39, 39, 48, 57, 66], 39) := by decide +kernel
theorem dX8_juggler_40 : decode cX8_juggler 40 = .ok (.aload_n 0, 1) := by decide +kernel
theorem dX8_juggler_41 : decode cX8_juggler 41 = .ok (.getfield 9, 3) := by decide +kernel
theorem dX8_juggler_44 : decode cX8_juggler 44 = .ok (.iconst 1, 1) := by decide +kernel
theorem dX8_juggler_45 : decode cX8_juggler 45 = .ok (.iload_n 1, 1) := by decide +kernel
theorem dX8_juggler_46 : decode cX8_juggler 46 = .ok (.iadd, 1) := by decide +kernel
theorem dX8_juggler_47 : decode cX8_juggler 47 = .ok (.iaload, 1) := by decide +kernel
theorem dX8_juggler_48 : decode cX8_juggler 48 = .ok (.ireturn, 1) := by decide +kernel
theorem dX8_juggler_49 : decode cX8_juggler 49 = .ok (.aload_n 0, 1) := by decide +kernel
theorem dX8_juggler_50 : decode cX8_juggler 50 = .ok (.getfield 9, 3) := by decide +kernel
theorem dX8_juggler_53 : decode cX8_juggler 53 = .ok (.iconst 3, 1) := by decide +kernel
theorem dX8_juggler_54 : decode cX8_juggler 54 = .ok (.iaload, 1) := by decide +kernel
theorem dX8_juggler_55 : decode cX8_juggler 55 = .ok (.iconst 2, 1) := by decide +kernel
theorem dX8_juggler_56 : decode cX8_juggler 56 = .ok (.irem, 1) := by decide +kernel
theorem dX8_juggler_57 : decode cX8_juggler 57 = .ok (.ireturn, 1) := by decide +kernel
theorem dX8_juggler_58 : decode cX8_juggler 58 = .ok (.aload_n 0, 1) := by decide +kernel
theorem dX8_juggler_59 : decode cX8_juggler 59 = .ok (.getfield 9, 3) := by decide +kernel
theorem dX8_juggler_62 : decode cX8_juggler 62 = .ok (.iconst 1, 1) := by decide +kernel
theorem dX8_juggler_63 : decode cX8_juggler 63 = .ok (.iaload, 1) := by decide +kernel
theorem dX8_juggler_64 : decode cX8_juggler 64 = .ok (.iconst 1, 1) := by decide +kernel
theorem dX8_juggler_65 : decode cX8_juggler 65 = .ok (.iand, 1) := by decide +kernel
theorem dX8_juggler_66 : decode cX8_juggler 66 = .ok (.ireturn, 1) := by decide +kernel
theorem dX8_juggler_67 : decode cX8_juggler 67 = .ok (.aload_n 0, 1) := by decide +kernel
theorem dX8_juggler_68 : decode cX8_juggler 68 = .ok (.invokevirtual 160, 3) := by decide +kernel
theorem dX8_juggler_71 : decode cX8_juggler 71 = .ok (.ireturn, 1) := by decide +kernel
theorem dX8_juggler_72 : decode cX8_juggler 72 = .ok (.bipush (-2), 2) := by decide +kernel
theorem dX8_juggler_74 : decode cX8_juggler 74 = .ok (.ireturn, 1) := by decide +kernel
theorem dX8_could_0 : decode cX8_could 0 = .ok (.iload_n 1, 1) := by decide +kernel
theorem dX8_could_1 : decode cX8_could 1 = .ok (.istore_n 2, 1) := by decide +kernel
theorem dX8_could_2 : decode cX8_could 2 = .ok (.iconst 0, 1) := by decide +kernel
theorem dX8_could_3 : decode cX8_could 3 = .ok (.istore_n 3, 1) := by decide +kernel
theorem dX8_could_4 : decode cX8_could 4 = .ok (.iload_n 3, 1) := by decide +kernel
theorem dX8_could_5 : decode cX8_could 5 = .ok (.bipush 9, 2) := by decide +kernel
theorem dX8_could_7 : decode cX8_could 7 = .ok (.if_icmp .gt 45, 3) := by decide +kernel
theorem dX8_could_10 : decode cX8_could 10 = .ok (.aload_n 0, 1) := by decide +kernel
theorem dX8_could_11 : decode cX8_could 11 = .ok (.getfield 9, 3) := by decide +kernel
theorem dX8_could_14 : decode cX8_could 14 = .ok (.iconst 1, 1) := by decide +kernel
theorem dX8_could_15 : decode cX8_could 15 = .ok (.iaload, 1) := by decide +kernel
theorem dX8_could_16 : decode cX8_could 16 = .ok (.iload_n 3, 1) := by decide +kernel
theorem dX8_could_17 : decode cX8_could 17 = .ok (.invokestatic 92, 3) := by decide +kernel
theorem dX8_could_20 : decode cX8_could 20 = .ok (.istore 4, 2) := by decide +kernel
theorem dX8_could_22 : decode cX8_could 22 = .ok (.iload 4, 2) := by decide +kernel
theorem dX8_could_24 : decode cX8_could 24 = .ok (.ifCond .eq 9, 3) := by decide +kernel
theorem dX8_could_27 : decode cX8_could 27 = .ok (.iload_n 2, 1) := by decide +kernel
theorem dX8_could_28 : decode cX8_could 28 = .ok (.ifCond .ne 5, 3) := by decide +kernel
theorem dX8_could_31 : decode cX8_could 31 = .ok (.iload_n 3, 1) := by decide +kernel
theorem dX8_could_32 : decode cX8_could 32 = .ok (.ireturn, 1) := by decide +kernel
theorem dX8_could_33 : decode cX8_could 33 = .ok (.iload_n 2, 1) := by decide +kernel
theorem dX8_could_34 : decode cX8_could 34 = .ok (.iload 4, 2) := by decide +kernel
theorem dX8_could_36 : decode cX8_could 36 = .ok (.ifCond .eq 7, 3) := by decide +kernel
theorem dX8_could_39 : decode cX8_could 39 = .ok (.iconst 1, 1) := by decide +kernel
theorem dX8_could_40 : decode cX8_could 40 = .ok (.goto 4, 3) := by decide +kernel
theorem dX8_could_43 : decode cX8_could 43 = .ok (.iconst 0, 1) := by decide +kernel
theorem dX8_could_44 : decode cX8_could 44 = .ok (.isub, 1) := by decide +kernel
theorem dX8_could_45 : decode cX8_could 45 = .ok (.istore_n 2, 1) := by decide +kernel
theorem dX8_could_46 : decode cX8_could 46 = .ok (.iinc 3 1, 3) := by decide +kernel
theorem dX8_could_49 : decode cX8_could 49 = .ok (.goto (-45), 3) := by decide +kernel
theorem dX8_could_52 : decode cX8_could 52 = .ok (.iconst (-1), 1) := by decide +kernel
theorem dX8_could_53 : decode cX8_could 53 = .ok (.ireturn, 1) := by decide +kernel
theorem dX8_joinTo_0 : decode cX8_joinTo 0 = .ok (.aload_n 0, 1) := by decide +kernel
theorem dX8_joinTo_1 : decode cX8_joinTo 1 = .ok (.iload_n 1, 1) := by decide +kernel
theorem dX8_joinTo_2 : decode cX8_joinTo 2 = .ok (.invokevirtual 123, 3) := by decide +kernel
theorem dX8_joinTo_5 : decode cX8_joinTo 5 = .ok (.ifCond .ne 7, 3) := by decide +kernel
theorem dX8_joinTo_8 : decode cX8_joinTo 8 = .ok (.iconst (-1), 1) := by decide +kernel
theorem dX8_joinTo_9 : decode cX8_joinTo 9 = .ok (.goto 20, 3) := by decide +kernel
theorem dX8_joinTo_12 : decode cX8_joinTo 12 = .ok (.aload_n 0, 1) := by decide +kernel
theorem dX8_joinTo_13 : decode cX8_joinTo 13 = .ok (.iload_n 1, 1) := by decide +kernel
theorem dX8_joinTo_14 : decode cX8_joinTo 14 = .ok (.invokevirtual 139, 3) := by decide +kernel
theorem dX8_joinTo_17 : decode cX8_joinTo 17 = .ok (.ifCond .eq 10, 3) := by decide +kernel
theorem dX8_joinTo_20 : decode cX8_joinTo 20 = .ok (.aload_n 0, 1) := by decide +kernel
theorem dX8_joinTo_21 : decode cX8_joinTo 21 = .ok (.getfield 100, 3) := by decide +kernel
theorem dX8_joinTo_24 : decode cX8_joinTo 24 = .ok (.goto 5, 3) := by decide +kernel
theorem dX8_joinTo_27 : decode cX8_joinTo 27 = .ok (.bipush (-4), 2) := by decide +kernel
theorem dX8_joinTo_29 : decode cX8_joinTo 29 = .ok (.ireturn, 1) := by decide +kernel
theorem dX8_joinAgain_0 : decode cX8_joinAgain 0 = .ok (.aload_n 0, 1) := by decide +kernel
theorem dX8_joinAgain_1 : decode cX8_joinAgain 1 = .ok (.iload_n 1, 1) := by decide +kernel
theorem dX8_joinAgain_2 : decode cX8_joinAgain 2 = .ok (.invokevirtual 164, 3) := by decide +kernel
theorem dX8_joinAgain_5 : decode cX8_joinAgain 5 = .ok (.ireturn, 1) := by decide +kernel
theorem dX8_joinThrow_0 : decode cX8_joinThrow 0 = .ok (.aload_n 0, 1) := by decide +kernel
theorem dX8_joinThrow_1 : decode cX8_joinThrow 1 = .ok (.iload_n 1, 1) := by decide +kernel
theorem dX8_joinThrow_2 : decode cX8_joinThrow 2 = .ok (.invokevirtual 123, 3) := by decide +kernel
theorem dX8_joinThrow_5 : decode cX8_joinThrow 5 = .ok (.ifCond .ne 5, 3) := by decide +kernel
theorem dX8_joinThrow_8 : decode cX8_joinThrow 8 = .ok (.iconst (-1), 1) := by decide +kernel
theorem dX8_joinThrow_9 : decode cX8_joinThrow 9 = .ok (.ireturn, 1) := by decide +kernel
theorem dX8_joinThrow_10 : decode cX8_joinThrow 10 = .ok (.aload_n 0, 1) := by decide +kernel
theorem dX8_joinThrow_11 : decode cX8_joinThrow 11 = .ok (.iload_n 1, 1) := by decide +kernel
theorem dX8_joinThrow_12 : decode cX8_joinThrow 12 = .ok (.invokevirtual 139, 3) := by decide +kernel
theorem dX8_joinThrow_15 : decode cX8_joinThrow 15 = .ok (.ifCond .ne 8, 3) := by decide +kernel
theorem dX8_joinThrow_18 : decode cX8_joinThrow 18 = .ok (.bipush (-4), 2) := by decide +kernel
theorem dX8_joinThrow_20 : decode cX8_joinThrow 20 = .ok (.goto 27, 3) := by decide +kernel
theorem dX8_joinThrow_23 : decode cX8_joinThrow 23 = .ok (.iload_n 2, 1) := by decide +kernel
theorem dX8_joinThrow_24 : decode cX8_joinThrow 24 = .ok (.iconst 0, 1) := by decide +kernel
theorem dX8_joinThrow_25 : decode cX8_joinThrow 25 = .ok (.aload_n 0, 1) := by decide +kernel
theorem dX8_joinThrow_26 : decode cX8_joinThrow 26 = .ok (.getfield 100, 3) := by decide +kernel
theorem dX8_joinThrow_29 : decode cX8_joinThrow 29 = .ok (.iconst 1, 1) := by decide +kernel
theorem dX8_joinThrow_30 : decode cX8_joinThrow 30 = .ok (.isub, 1) := by decide +kernel
theorem dX8_joinThrow_31 : decode cX8_joinThrow 31 = .ok (.invokestatic 71, 3) := by decide +kernel
theorem dX8_joinThrow_34 : decode cX8_joinThrow 34 = .ok (.ifCond .eq 12, 3) := by decide +kernel
theorem dX8_joinThrow_37 : decode cX8_joinThrow 37 = .ok (.aload_n 0, 1) := by decide +kernel
theorem dX8_joinThrow_38 : decode cX8_joinThrow 38 = .ok (.getfield 37, 3) := by decide +kernel
theorem dX8_joinThrow_41 : decode cX8_joinThrow 41 = .ok (.iload_n 2, 1) := by decide +kernel
theorem dX8_joinThrow_42 : decode cX8_joinThrow 42 = .ok (.iaload, 1) := by decide +kernel
theorem dX8_joinThrow_43 : decode cX8_joinThrow 43 = .ok (.goto 4, 3) := by decide +kernel
theorem dX8_joinThrow_46 : decode cX8_joinThrow 46 = .ok (.iconst (-1), 1) := by decide +kernel
theorem dX8_joinThrow_47 : decode cX8_joinThrow 47 = .ok (.ireturn, 1) := by decide +kernel
theorem dX8_between_0 : decode cX8_between 0 = .ok (.aload_n 0, 1) := by decide +kernel
theorem dX8_between_1 : decode cX8_between 1 = .ok (.iload_n 1, 1) := by decide +kernel
theorem dX8_between_2 : decode cX8_between 2 = .ok (.invokevirtual 123, 3) := by decide +kernel
theorem dX8_between_5 : decode cX8_between 5 = .ok (.ifCond .eq 11, 3) := by decide +kernel
theorem dX8_between_8 : decode cX8_between 8 = .ok (.aload_n 0, 1) := by decide +kernel
theorem dX8_between_9 : decode cX8_between 9 = .ok (.iload_n 2, 1) := by decide +kernel
theorem dX8_between_10 : decode cX8_between 10 = .ok (.invokevirtual 123, 3) := by decide +kernel
theorem dX8_between_13 : decode cX8_between 13 = .ok (.ifCond .ne 5, 3) := by decide +kernel
theorem dX8_between_16 : decode cX8_between 16 = .ok (.iconst (-1), 1) := by decide +kernel
theorem dX8_between_17 : decode cX8_between 17 = .ok (.ireturn, 1) := by decide +kernel
theorem dX8_between_18 : decode cX8_between 18 = .ok (.aload_n 0, 1) := by decide +kernel
theorem dX8_between_19 : decode cX8_between 19 = .ok (.iload_n 1, 1) := by decide +kernel
theorem dX8_between_20 : decode cX8_between 20 = .ok (.invokevirtual 103, 3) := by decide +kernel
theorem dX8_between_23 : decode cX8_between 23 = .ok (.ifCond .lt 39, 3) := by decide +kernel
theorem dX8_between_26 : decode cX8_between 26 = .ok (.aload_n 0, 1) := by decide +kernel
theorem dX8_between_27 : decode cX8_between 27 = .ok (.iload_n 1, 1) := by decide +kernel
theorem dX8_between_28 : decode cX8_between 28 = .ok (.invokevirtual 103, 3) := by decide +kernel
theorem dX8_between_31 : decode cX8_between 31 = .ok (.aload_n 0, 1) := by decide +kernel
theorem dX8_between_32 : decode cX8_between 32 = .ok (.iload_n 2, 1) := by decide +kernel
theorem dX8_between_33 : decode cX8_between 33 = .ok (.invokevirtual 103, 3) := by decide +kernel
theorem dX8_between_36 : decode cX8_between 36 = .ok (.if_icmp .ne 26, 3) := by decide +kernel
theorem dX8_between_39 : decode cX8_between 39 = .ok (.aload_n 0, 1) := by decide +kernel
theorem dX8_between_40 : decode cX8_between 40 = .ok (.aload_n 0, 1) := by decide +kernel
theorem dX8_between_41 : decode cX8_between 41 = .ok (.iload_n 1, 1) := by decide +kernel
theorem dX8_between_42 : decode cX8_between 42 = .ok (.iconst 0, 1) := by decide +kernel
theorem dX8_between_43 : decode cX8_between 43 = .ok (.invokevirtual 106, 3) := by decide +kernel
theorem dX8_between_46 : decode cX8_between 46 = .ok (.aload_n 0, 1) := by decide +kernel
theorem dX8_between_47 : decode cX8_between 47 = .ok (.iload_n 2, 1) := by decide +kernel
theorem dX8_between_48 : decode cX8_between 48 = .ok (.iconst 0, 1) := by decide +kernel
theorem dX8_between_49 : decode cX8_between 49 = .ok (.invokevirtual 106, 3) := by decide +kernel
theorem dX8_between_52 : decode cX8_between 52 = .ok (.invokevirtual 109, 3) := by decide +kernel
theorem dX8_between_55 : decode cX8_between 55 = .ok (.ifCond .eq 7, 3) := by decide +kernel
theorem dX8_between_58 : decode cX8_between 58 = .ok (.iconst 1, 1) := by decide +kernel
theorem dX8_between_59 : decode cX8_between 59 = .ok (.goto 4, 3) := by decide +kernel
theorem dX8_between_62 : decode cX8_between 62 = .ok (.iconst 0, 1) := by decide +kernel
theorem dX8_between_63 : decode cX8_between 63 = .ok (.istore_n 3, 1) := by decide +kernel
theorem dX8_between_64 : decode cX8_between 64 = .ok (.iload_n 3, 1) := by decide +kernel
theorem dX8_between_65 : decode cX8_between 65 = .ok (.ifCond .eq 10, 3) := by decide +kernel
theorem dX8_between_68 : decode cX8_between 68 = .ok (.aload_n 0, 1) := by decide +kernel
theorem dX8_between_69 : decode cX8_between 69 = .ok (.getfield 100, 3) := by decide +kernel
theorem dX8_between_72 : decode cX8_between 72 = .ok (.goto 5, 3) := by decide +kernel
theorem dX8_between_75 : decode cX8_between 75 = .ok (.bipush (-4), 2) := by decide +kernel
theorem dX8_between_77 : decode cX8_between 77 = .ok (.ireturn, 1) := by decide +kernel
theorem dX8_worth_0 : decode cX8_worth 0 = .ok (.iload_n 1, 1) := by decide +kernel
theorem dX8_worth_1 : decode cX8_worth 1 = .ok (.ifCond .ne 12, 3) := by decide +kernel
theorem dX8_worth_4 : decode cX8_worth 4 = .ok (.aload_n 0, 1) := by decide +kernel
theorem dX8_worth_5 : decode cX8_worth 5 = .ok (.iload_n 2, 1) := by decide +kernel
theorem dX8_worth_6 : decode cX8_worth 6 = .ok (.invokevirtual 75, 3) := by decide +kernel
theorem dX8_worth_9 : decode cX8_worth 9 = .ok (.ineg, 1) := by decide +kernel
theorem dX8_worth_10 : decode cX8_worth 10 = .ok (.goto 22, 3) := by decide +kernel
theorem dX8_worth_13 : decode cX8_worth 13 = .ok (.iload_n 1, 1) := by decide +kernel
theorem dX8_worth_14 : decode cX8_worth 14 = .ok (.iconst 1, 1) := by decide +kernel
theorem dX8_worth_15 : decode cX8_worth 15 = .ok (.if_icmp .ne 11, 3) := by decide +kernel
theorem dX8_worth_18 : decode cX8_worth 18 = .ok (.aload_n 0, 1) := by decide +kernel
theorem dX8_worth_19 : decode cX8_worth 19 = .ok (.iload_n 2, 1) := by decide +kernel
theorem dX8_worth_20 : decode cX8_worth 20 = .ok (.invokevirtual 103, 3) := by decide +kernel
theorem dX8_worth_23 : decode cX8_worth 23 = .ok (.goto 9, 3) := by decide +kernel
theorem dX8_worth_26 : decode cX8_worth 26 = .ok (.aload_n 0, 1) := by decide +kernel
theorem dX8_worth_27 : decode cX8_worth 27 = .ok (.iload_n 2, 1) := by decide +kernel
theorem dX8_worth_28 : decode cX8_worth 28 = .ok (.invokevirtual 148, 3) := by decide +kernel
theorem dX8_worth_31 : decode cX8_worth 31 = .ok (.ineg, 1) := by decide +kernel
theorem dX8_worth_32 : decode cX8_worth 32 = .ok (.ireturn, 1) := by decide +kernel
theorem dX8_ranked_0 : decode cX8_ranked 0 = .ok (.iload_n 1, 1) := by decide +kernel
theorem dX8_ranked_1 : decode cX8_ranked 1 = .ok (.iconst 0, 1) := by decide +kernel
theorem dX8_ranked_2 : decode cX8_ranked 2 = .ok (.iconst 2, 1) := by decide +kernel
theorem dX8_ranked_3 : decode cX8_ranked 3 = .ok (.invokestatic 71, 3) := by decide +kernel
theorem dX8_ranked_6 : decode cX8_ranked 6 = .ok (.ifCond .ne 6, 3) := by decide +kernel
theorem dX8_ranked_9 : decode cX8_ranked 9 = .ok (.bipush (-2), 2) := by decide +kernel
theorem dX8_ranked_11 : decode cX8_ranked 11 = .ok (.ireturn, 1) := by decide +kernel
theorem dX8_ranked_12 : decode cX8_ranked 12 = .ok (.iconst 0, 1) := by decide +kernel
theorem dX8_ranked_13 : decode cX8_ranked 13 = .ok (.istore_n 3, 1) := by decide +kernel
theorem dX8_ranked_14 : decode cX8_ranked 14 = .ok (.iload_n 3, 1) := by decide +kernel
theorem dX8_ranked_15 : decode cX8_ranked 15 = .ok (.aload_n 0, 1) := by decide +kernel
theorem dX8_ranked_16 : decode cX8_ranked 16 = .ok (.getfield 9, 3) := by decide +kernel
theorem dX8_ranked_19 : decode cX8_ranked 19 = .ok (.iconst 0, 1) := by decide +kernel
theorem dX8_ranked_20 : decode cX8_ranked 20 = .ok (.iaload, 1) := by decide +kernel
theorem dX8_ranked_21 : decode cX8_ranked 21 = .ok (.if_icmp .ge 82, 3) := by decide +kernel
theorem dX8_ranked_24 : decode cX8_ranked 24 = .ok (.iconst 0, 1) := by decide +kernel
theorem dX8_ranked_25 : decode cX8_ranked 25 = .ok (.istore 4, 2) := by decide +kernel
theorem dX8_ranked_27 : decode cX8_ranked 27 = .ok (.iconst 0, 1) := by decide +kernel
theorem dX8_ranked_28 : decode cX8_ranked 28 = .ok (.istore 5, 2) := by decide +kernel
theorem dX8_ranked_30 : decode cX8_ranked 30 = .ok (.iload 5, 2) := by decide +kernel
theorem dX8_ranked_32 : decode cX8_ranked 32 = .ok (.aload_n 0, 1) := by decide +kernel
theorem dX8_ranked_33 : decode cX8_ranked 33 = .ok (.getfield 9, 3) := by decide +kernel
theorem dX8_ranked_36 : decode cX8_ranked 36 = .ok (.iconst 0, 1) := by decide +kernel
theorem dX8_ranked_37 : decode cX8_ranked 37 = .ok (.iaload, 1) := by decide +kernel
theorem dX8_ranked_38 : decode cX8_ranked 38 = .ok (.if_icmp .ge 51, 3) := by decide +kernel
theorem dX8_ranked_41 : decode cX8_ranked 41 = .ok (.aload_n 0, 1) := by decide +kernel
theorem dX8_ranked_42 : decode cX8_ranked 42 = .ok (.iload_n 1, 1) := by decide +kernel
theorem dX8_ranked_43 : decode cX8_ranked 43 = .ok (.iload 5, 2) := by decide +kernel
theorem dX8_ranked_45 : decode cX8_ranked 45 = .ok (.invokevirtual 167, 3) := by decide +kernel
theorem dX8_ranked_48 : decode cX8_ranked 48 = .ok (.aload_n 0, 1) := by decide +kernel
theorem dX8_ranked_49 : decode cX8_ranked 49 = .ok (.iload_n 1, 1) := by decide +kernel
theorem dX8_ranked_50 : decode cX8_ranked 50 = .ok (.iload_n 3, 1) := by decide +kernel
theorem dX8_ranked_51 : decode cX8_ranked 51 = .ok (.invokevirtual 167, 3) := by decide +kernel
theorem dX8_ranked_54 : decode cX8_ranked 54 = .ok (.isub, 1) := by decide +kernel
theorem dX8_ranked_55 : decode cX8_ranked 55 = .ok (.istore 6, 2) := by decide +kernel
theorem dX8_ranked_57 : decode cX8_ranked 57 = .ok (.iload 4, 2) := by decide +kernel
theorem dX8_ranked_59 : decode cX8_ranked 59 = .ok (.iload 6, 2) := by decide +kernel
theorem dX8_ranked_61 : decode cX8_ranked 61 = .ok (.ifCond .gt 14, 3) := by decide +kernel
theorem dX8_ranked_64 : decode cX8_ranked 64 = .ok (.iload 6, 2) := by decide +kernel
theorem dX8_ranked_66 : decode cX8_ranked 66 = .ok (.ifCond .ne 13, 3) := by decide +kernel
theorem dX8_ranked_69 : decode cX8_ranked 69 = .ok (.iload 5, 2) := by decide +kernel
theorem dX8_ranked_71 : decode cX8_ranked 71 = .ok (.iload_n 3, 1) := by decide +kernel
theorem dX8_ranked_72 : decode cX8_ranked 72 = .ok (.if_icmp .ge 7, 3) := by decide +kernel
theorem dX8_ranked_75 : decode cX8_ranked 75 = .ok (.iconst 1, 1) := by decide +kernel
theorem dX8_ranked_76 : decode cX8_ranked 76 = .ok (.goto 4, 3) := by decide +kernel
theorem dX8_ranked_79 : decode cX8_ranked 79 = .ok (.iconst 0, 1) := by decide +kernel
theorem dX8_ranked_80 : decode cX8_ranked 80 = .ok (.iadd, 1) := by decide +kernel
theorem dX8_ranked_81 : decode cX8_ranked 81 = .ok (.istore 4, 2) := by decide +kernel
theorem dX8_ranked_83 : decode cX8_ranked 83 = .ok (.iinc 5 1, 3) := by decide +kernel
theorem dX8_ranked_86 : decode cX8_ranked 86 = .ok (.goto (-56), 3) := by decide +kernel
theorem dX8_ranked_89 : decode cX8_ranked 89 = .ok (.iload 4, 2) := by decide +kernel
theorem dX8_ranked_91 : decode cX8_ranked 91 = .ok (.iload_n 2, 1) := by decide +kernel
theorem dX8_ranked_92 : decode cX8_ranked 92 = .ok (.if_icmp .ne 5, 3) := by decide +kernel
theorem dX8_ranked_95 : decode cX8_ranked 95 = .ok (.iload_n 3, 1) := by decide +kernel
theorem dX8_ranked_96 : decode cX8_ranked 96 = .ok (.ireturn, 1) := by decide +kernel
theorem dX8_ranked_97 : decode cX8_ranked 97 = .ok (.iinc 3 1, 3) := by decide +kernel
theorem dX8_ranked_100 : decode cX8_ranked 100 = .ok (.goto (-86), 3) := by decide +kernel
theorem dX8_ranked_103 : decode cX8_ranked 103 = .ok (.iconst (-1), 1) := by decide +kernel
theorem dX8_ranked_104 : decode cX8_ranked 104 = .ok (.ireturn, 1) := by decide +kernel
theorem dX8_write_0 : decode cX8_write 0 = .ok (.aload_n 0, 1) := by decide +kernel
theorem dX8_write_1 : decode cX8_write 1 = .ok (.getfield 40, 3) := by decide +kernel
theorem dX8_write_4 : decode cX8_write 4 = .ok (.aload_n 0, 1) := by decide +kernel
theorem dX8_write_5 : decode cX8_write 5 = .ok (.getfield 170, 3) := by decide +kernel
theorem dX8_write_8 : decode cX8_write 8 = .ok (.iload_n 1, 1) := by decide +kernel
theorem dX8_write_9 : decode cX8_write 9 = .ok (.i2c, 1) := by decide +kernel
theorem dX8_write_10 : decode cX8_write 10 = .ok (.castore, 1) := by decide +kernel
theorem dX8_write_11 : decode cX8_write 11 = .ok (.aload_n 0, 1) := by decide +kernel
theorem dX8_write_12 : decode cX8_write 12 = .ok (.dup, 1) := by decide +kernel
theorem dX8_write_13 : decode cX8_write 13 = .ok (.getfield 170, 3) := by decide +kernel
theorem dX8_write_16 : decode cX8_write 16 = .ok (.iconst 1, 1) := by decide +kernel
theorem dX8_write_17 : decode cX8_write 17 = .ok (.iadd, 1) := by decide +kernel
theorem dX8_write_18 : decode cX8_write 18 = .ok (.putfield 170, 3) := by decide +kernel
theorem dX8_write_21 : decode cX8_write 21 = .ok (.return_, 1) := by decide +kernel
theorem dX8_tellRow_0 : decode cX8_tellRow 0 = .ok (.aload_n 0, 1) := by decide +kernel
theorem dX8_tellRow_1 : decode cX8_tellRow 1 = .ok (.iload_n 1, 1) := by decide +kernel
theorem dX8_tellRow_2 : decode cX8_tellRow 2 = .ok (.invokevirtual 123, 3) := by decide +kernel
theorem dX8_tellRow_5 : decode cX8_tellRow 5 = .ok (.ifCond .ne 5, 3) := by decide +kernel
theorem dX8_tellRow_8 : decode cX8_tellRow 8 = .ok (.iconst (-1), 1) := by decide +kernel
theorem dX8_tellRow_9 : decode cX8_tellRow 9 = .ok (.ireturn, 1) := by decide +kernel
theorem dX8_tellRow_10 : decode cX8_tellRow 10 = .ok (.aload_n 0, 1) := by decide +kernel
theorem dX8_tellRow_11 : decode cX8_tellRow 11 = .ok (.iconst 0, 1) := by decide +kernel
theorem dX8_tellRow_12 : decode cX8_tellRow 12 = .ok (.putfield 170, 3) := by decide +kernel
theorem dX8_tellRow_15 : decode cX8_tellRow 15 = .ok (.iconst 0, 1) := by decide +kernel
theorem dX8_tellRow_16 : decode cX8_tellRow 16 = .ok (.istore_n 2, 1) := by decide +kernel
theorem dX8_tellRow_17 : decode cX8_tellRow 17 = .ok (.iload_n 2, 1) := by decide +kernel
theorem dX8_tellRow_18 : decode cX8_tellRow 18 = .ok (.aload_n 0, 1) := by decide +kernel
theorem dX8_tellRow_19 : decode cX8_tellRow 19 = .ok (.iload_n 1, 1) := by decide +kernel
theorem dX8_tellRow_20 : decode cX8_tellRow 20 = .ok (.invokevirtual 75, 3) := by decide +kernel
theorem dX8_tellRow_23 : decode cX8_tellRow 23 = .ok (.if_icmp .ge 22, 3) := by decide +kernel
theorem dX8_tellRow_26 : decode cX8_tellRow 26 = .ok (.aload_n 0, 1) := by decide +kernel
theorem dX8_tellRow_27 : decode cX8_tellRow 27 = .ok (.bipush 48, 2) := by decide +kernel
theorem dX8_tellRow_29 : decode cX8_tellRow 29 = .ok (.aload_n 0, 1) := by decide +kernel
theorem dX8_tellRow_30 : decode cX8_tellRow 30 = .ok (.iload_n 1, 1) := by decide +kernel
theorem dX8_tellRow_31 : decode cX8_tellRow 31 = .ok (.iload_n 2, 1) := by decide +kernel
theorem dX8_tellRow_32 : decode cX8_tellRow 32 = .ok (.invokevirtual 79, 3) := by decide +kernel
theorem dX8_tellRow_35 : decode cX8_tellRow 35 = .ok (.iadd, 1) := by decide +kernel
theorem dX8_tellRow_36 : decode cX8_tellRow 36 = .ok (.invokevirtual 173, 3) := by decide +kernel
theorem dX8_tellRow_39 : decode cX8_tellRow 39 = .ok (.iinc 2 1, 3) := by decide +kernel
theorem dX8_tellRow_42 : decode cX8_tellRow 42 = .ok (.goto (-25), 3) := by decide +kernel
theorem dX8_tellRow_45 : decode cX8_tellRow 45 = .ok (.aload_n 0, 1) := by decide +kernel
theorem dX8_tellRow_46 : decode cX8_tellRow 46 = .ok (.iload_n 1, 1) := by decide +kernel
theorem dX8_tellRow_47 : decode cX8_tellRow 47 = .ok (.invokevirtual 83, 3) := by decide +kernel
theorem dX8_tellRow_50 : decode cX8_tellRow 50 = .ok (.ifCond .ge 7, 3) := by decide +kernel
theorem dX8_tellRow_53 : decode cX8_tellRow 53 = .ok (.iconst 1, 1) := by decide +kernel
theorem dX8_tellRow_54 : decode cX8_tellRow 54 = .ok (.goto 4, 3) := by decide +kernel
theorem dX8_tellRow_57 : decode cX8_tellRow 57 = .ok (.iconst 0, 1) := by decide +kernel
theorem dX8_tellRow_58 : decode cX8_tellRow 58 = .ok (.istore_n 2, 1) := by decide +kernel
theorem dX8_tellRow_59 : decode cX8_tellRow 59 = .ok (.aload_n 0, 1) := by decide +kernel
theorem dX8_tellRow_60 : decode cX8_tellRow 60 = .ok (.iload_n 2, 1) := by decide +kernel
theorem dX8_tellRow_61 : decode cX8_tellRow 61 = .ok (.ifCond .eq 8, 3) := by decide +kernel
theorem dX8_tellRow_64 : decode cX8_tellRow 64 = .ok (.bipush 61, 2) := by decide +kernel
theorem dX8_tellRow_66 : decode cX8_tellRow 66 = .ok (.goto 5, 3) := by decide +kernel
theorem dX8_tellRow_69 : decode cX8_tellRow 69 = .ok (.bipush 33, 2) := by decide +kernel
theorem dX8_tellRow_71 : decode cX8_tellRow 71 = .ok (.invokevirtual 173, 3) := by decide +kernel
theorem dX8_tellRow_74 : decode cX8_tellRow 74 = .ok (.aload_n 0, 1) := by decide +kernel
theorem dX8_tellRow_75 : decode cX8_tellRow 75 = .ok (.bipush 48, 2) := by decide +kernel
theorem dX8_tellRow_77 : decode cX8_tellRow 77 = .ok (.iload_n 2, 1) := by decide +kernel
theorem dX8_tellRow_78 : decode cX8_tellRow 78 = .ok (.ifCond .eq 11, 3) := by decide +kernel
theorem dX8_tellRow_81 : decode cX8_tellRow 81 = .ok (.aload_n 0, 1) := by decide +kernel
theorem dX8_tellRow_82 : decode cX8_tellRow 82 = .ok (.iload_n 1, 1) := by decide +kernel
theorem dX8_tellRow_83 : decode cX8_tellRow 83 = .ok (.invokevirtual 103, 3) := by decide +kernel
theorem dX8_tellRow_86 : decode cX8_tellRow 86 = .ok (.goto 8, 3) := by decide +kernel
theorem dX8_tellRow_89 : decode cX8_tellRow 89 = .ok (.aload_n 0, 1) := by decide +kernel
theorem dX8_tellRow_90 : decode cX8_tellRow 90 = .ok (.iload_n 1, 1) := by decide +kernel
theorem dX8_tellRow_91 : decode cX8_tellRow 91 = .ok (.invokevirtual 83, 3) := by decide +kernel
theorem dX8_tellRow_94 : decode cX8_tellRow 94 = .ok (.iadd, 1) := by decide +kernel
theorem dX8_tellRow_95 : decode cX8_tellRow 95 = .ok (.invokevirtual 173, 3) := by decide +kernel
theorem dX8_tellRow_98 : decode cX8_tellRow 98 = .ok (.aload_n 0, 1) := by decide +kernel
theorem dX8_tellRow_99 : decode cX8_tellRow 99 = .ok (.getfield 170, 3) := by decide +kernel
theorem dX8_tellRow_102 : decode cX8_tellRow 102 = .ok (.ireturn, 1) := by decide +kernel
theorem dX8_tellState_0 : decode cX8_tellState 0 = .ok (.aload_n 0, 1) := by decide +kernel
theorem dX8_tellState_1 : decode cX8_tellState 1 = .ok (.iconst 0, 1) := by decide +kernel
theorem dX8_tellState_2 : decode cX8_tellState 2 = .ok (.putfield 170, 3) := by decide +kernel
theorem dX8_tellState_5 : decode cX8_tellState 5 = .ok (.aload_n 0, 1) := by decide +kernel
theorem dX8_tellState_6 : decode cX8_tellState 6 = .ok (.getfield 9, 3) := by decide +kernel
theorem dX8_tellState_9 : decode cX8_tellState 9 = .ok (.iconst 1, 1) := by decide +kernel
theorem dX8_tellState_10 : decode cX8_tellState 10 = .ok (.iaload, 1) := by decide +kernel
theorem dX8_tellState_11 : decode cX8_tellState 11 = .ok (.istore_n 1, 1) := by decide +kernel
theorem dX8_tellState_12 : decode cX8_tellState 12 = .ok (.iload_n 1, 1) := by decide +kernel
theorem dX8_tellState_13 : decode cX8_tellState 13 = .ok (.ifCond .gt 10, 3) := by decide +kernel
theorem dX8_tellState_16 : decode cX8_tellState 16 = .ok (.aload_n 0, 1) := by decide +kernel
theorem dX8_tellState_17 : decode cX8_tellState 17 = .ok (.getfield 170, 3) := by decide +kernel
theorem dX8_tellState_20 : decode cX8_tellState 20 = .ok (.ifCond .ne 28, 3) := by decide +kernel
theorem dX8_tellState_23 : decode cX8_tellState 23 = .ok (.aload_n 0, 1) := by decide +kernel
theorem dX8_tellState_24 : decode cX8_tellState 24 = .ok (.iload_n 1, 1) := by decide +kernel
theorem dX8_tellState_25 : decode cX8_tellState 25 = .ok (.iconst 1, 1) := by decide +kernel
theorem dX8_tellState_26 : decode cX8_tellState 26 = .ok (.iand, 1) := by decide +kernel
theorem dX8_tellState_27 : decode cX8_tellState 27 = .ok (.iconst 1, 1) := by decide +kernel
theorem dX8_tellState_28 : decode cX8_tellState 28 = .ok (.if_icmp .ne 8, 3) := by decide +kernel
theorem dX8_tellState_31 : decode cX8_tellState 31 = .ok (.bipush 120, 2) := by decide +kernel
theorem dX8_tellState_33 : decode cX8_tellState 33 = .ok (.goto 5, 3) := by decide +kernel
theorem dX8_tellState_36 : decode cX8_tellState 36 = .ok (.bipush 45, 2) := by decide +kernel
theorem dX8_tellState_38 : decode cX8_tellState 38 = .ok (.invokevirtual 173, 3) := by decide +kernel
theorem dX8_tellState_41 : decode cX8_tellState 41 = .ok (.iload_n 1, 1) := by decide +kernel
theorem dX8_tellState_42 : decode cX8_tellState 42 = .ok (.iconst 1, 1) := by decide +kernel
theorem dX8_tellState_43 : decode cX8_tellState 43 = .ok (.ishr, 1) := by decide +kernel
theorem dX8_tellState_44 : decode cX8_tellState 44 = .ok (.istore_n 1, 1) := by decide +kernel
theorem dX8_tellState_45 : decode cX8_tellState 45 = .ok (.goto (-33), 3) := by decide +kernel
theorem dX8_tellState_48 : decode cX8_tellState 48 = .ok (.aload_n 0, 1) := by decide +kernel
theorem dX8_tellState_49 : decode cX8_tellState 49 = .ok (.getfield 170, 3) := by decide +kernel
theorem dX8_tellState_52 : decode cX8_tellState 52 = .ok (.ireturn, 1) := by decide +kernel
theorem dX8_tellJoin_0 : decode cX8_tellJoin 0 = .ok (.aload_n 0, 1) := by decide +kernel
theorem dX8_tellJoin_1 : decode cX8_tellJoin 1 = .ok (.iload_n 1, 1) := by decide +kernel
theorem dX8_tellJoin_2 : decode cX8_tellJoin 2 = .ok (.invokevirtual 123, 3) := by decide +kernel
theorem dX8_tellJoin_5 : decode cX8_tellJoin 5 = .ok (.ifCond .ne 5, 3) := by decide +kernel
theorem dX8_tellJoin_8 : decode cX8_tellJoin 8 = .ok (.iconst (-1), 1) := by decide +kernel
theorem dX8_tellJoin_9 : decode cX8_tellJoin 9 = .ok (.ireturn, 1) := by decide +kernel
theorem dX8_tellJoin_10 : decode cX8_tellJoin 10 = .ok (.aload_n 0, 1) := by decide +kernel
theorem dX8_tellJoin_11 : decode cX8_tellJoin 11 = .ok (.iload_n 1, 1) := by decide +kernel
theorem dX8_tellJoin_12 : decode cX8_tellJoin 12 = .ok (.invokevirtual 139, 3) := by decide +kernel
theorem dX8_tellJoin_15 : decode cX8_tellJoin 15 = .ok (.ifCond .ne 6, 3) := by decide +kernel
theorem dX8_tellJoin_18 : decode cX8_tellJoin 18 = .ok (.bipush (-4), 2) := by decide +kernel
theorem dX8_tellJoin_20 : decode cX8_tellJoin 20 = .ok (.ireturn, 1) := by decide +kernel
theorem dX8_tellJoin_21 : decode cX8_tellJoin 21 = .ok (.aload_n 0, 1) := by decide +kernel
theorem dX8_tellJoin_22 : decode cX8_tellJoin 22 = .ok (.iconst 0, 1) := by decide +kernel
theorem dX8_tellJoin_23 : decode cX8_tellJoin 23 = .ok (.putfield 170, 3) := by decide +kernel
theorem dX8_tellJoin_26 : decode cX8_tellJoin 26 = .ok (.iconst 0, 1) := by decide +kernel
theorem dX8_tellJoin_27 : decode cX8_tellJoin 27 = .ok (.istore_n 2, 1) := by decide +kernel
theorem dX8_tellJoin_28 : decode cX8_tellJoin 28 = .ok (.iload_n 2, 1) := by decide +kernel
theorem dX8_tellJoin_29 : decode cX8_tellJoin 29 = .ok (.aload_n 0, 1) := by decide +kernel
theorem dX8_tellJoin_30 : decode cX8_tellJoin 30 = .ok (.getfield 100, 3) := by decide +kernel
theorem dX8_tellJoin_33 : decode cX8_tellJoin 33 = .ok (.if_icmp .ge 22, 3) := by decide +kernel
theorem dX8_tellJoin_36 : decode cX8_tellJoin 36 = .ok (.aload_n 0, 1) := by decide +kernel
theorem dX8_tellJoin_37 : decode cX8_tellJoin 37 = .ok (.bipush 48, 2) := by decide +kernel
theorem dX8_tellJoin_39 : decode cX8_tellJoin 39 = .ok (.aload_n 0, 1) := by decide +kernel
theorem dX8_tellJoin_40 : decode cX8_tellJoin 40 = .ok (.getfield 37, 3) := by decide +kernel
theorem dX8_tellJoin_43 : decode cX8_tellJoin 43 = .ok (.iload_n 2, 1) := by decide +kernel
theorem dX8_tellJoin_44 : decode cX8_tellJoin 44 = .ok (.iaload, 1) := by decide +kernel
theorem dX8_tellJoin_45 : decode cX8_tellJoin 45 = .ok (.iadd, 1) := by decide +kernel
theorem dX8_tellJoin_46 : decode cX8_tellJoin 46 = .ok (.invokevirtual 173, 3) := by decide +kernel
theorem dX8_tellJoin_49 : decode cX8_tellJoin 49 = .ok (.iinc 2 1, 3) := by decide +kernel
theorem dX8_tellJoin_52 : decode cX8_tellJoin 52 = .ok (.goto (-24), 3) := by decide +kernel
theorem dX8_tellJoin_55 : decode cX8_tellJoin 55 = .ok (.aload_n 0, 1) := by decide +kernel
theorem dX8_tellJoin_56 : decode cX8_tellJoin 56 = .ok (.getfield 170, 3) := by decide +kernel
theorem dX8_tellJoin_59 : decode cX8_tellJoin 59 = .ok (.ireturn, 1) := by decide +kernel
theorem dX8_sign_0 : decode cX8_sign 0 = .ok (.iload_n 1, 1) := by decide +kernel
theorem dX8_sign_1 : decode cX8_sign 1 = .ok (.iconst 0, 1) := by decide +kernel
theorem dX8_sign_2 : decode cX8_sign 2 = .ok (.aload_n 0, 1) := by decide +kernel
theorem dX8_sign_3 : decode cX8_sign 3 = .ok (.getfield 170, 3) := by decide +kernel
theorem dX8_sign_6 : decode cX8_sign 6 = .ok (.iconst 1, 1) := by decide +kernel
theorem dX8_sign_7 : decode cX8_sign 7 = .ok (.isub, 1) := by decide +kernel
theorem dX8_sign_8 : decode cX8_sign 8 = .ok (.invokestatic 71, 3) := by decide +kernel
theorem dX8_sign_11 : decode cX8_sign 11 = .ok (.ifCond .eq 12, 3) := by decide +kernel
theorem dX8_sign_14 : decode cX8_sign 14 = .ok (.aload_n 0, 1) := by decide +kernel
theorem dX8_sign_15 : decode cX8_sign 15 = .ok (.getfield 40, 3) := by decide +kernel
theorem dX8_sign_18 : decode cX8_sign 18 = .ok (.iload_n 1, 1) := by decide +kernel
theorem dX8_sign_19 : decode cX8_sign 19 = .ok (.caload, 1) := by decide +kernel
theorem dX8_sign_20 : decode cX8_sign 20 = .ok (.goto 4, 3) := by decide +kernel
theorem dX8_sign_23 : decode cX8_sign 23 = .ok (.iconst (-1), 1) := by decide +kernel
theorem dX8_sign_24 : decode cX8_sign 24 = .ok (.ireturn, 1) := by decide +kernel
theorem dX8_append_0 : decode cX8_append 0 = .ok (.iload_n 1, 1) := by decide +kernel
theorem dX8_append_1 : decode cX8_append 1 = .ok (.bipush 32, 2) := by decide +kernel
theorem dX8_append_3 : decode cX8_append 3 = .ok (.bipush 126, 2) := by decide +kernel
theorem dX8_append_5 : decode cX8_append 5 = .ok (.invokestatic 71, 3) := by decide +kernel
theorem dX8_append_8 : decode cX8_append 8 = .ok (.ifCond .eq 12, 3) := by decide +kernel
theorem dX8_append_11 : decode cX8_append 11 = .ok (.aload_n 0, 1) := by decide +kernel
theorem dX8_append_12 : decode cX8_append 12 = .ok (.getfield 176, 3) := by decide +kernel
theorem dX8_append_15 : decode cX8_append 15 = .ok (.bipush 70, 2) := by decide +kernel
theorem dX8_append_17 : decode cX8_append 17 = .ok (.if_icmp .ne 6, 3) := by decide +kernel
theorem dX8_append_20 : decode cX8_append 20 = .ok (.bipush (-2), 2) := by decide +kernel
theorem dX8_append_22 : decode cX8_append 22 = .ok (.ireturn, 1) := by decide +kernel
theorem dX8_append_23 : decode cX8_append 23 = .ok (.aload_n 0, 1) := by decide +kernel
theorem dX8_append_24 : decode cX8_append 24 = .ok (.getfield 44, 3) := by decide +kernel
theorem dX8_append_27 : decode cX8_append 27 = .ok (.aload_n 0, 1) := by decide +kernel
theorem dX8_append_28 : decode cX8_append 28 = .ok (.getfield 176, 3) := by decide +kernel
theorem dX8_append_31 : decode cX8_append 31 = .ok (.iload_n 1, 1) := by decide +kernel
theorem dX8_append_32 : decode cX8_append 32 = .ok (.iastore, 1) := by decide +kernel
theorem dX8_append_33 : decode cX8_append 33 = .ok (.aload_n 0, 1) := by decide +kernel
theorem dX8_append_34 : decode cX8_append 34 = .ok (.dup, 1) := by decide +kernel
theorem dX8_append_35 : decode cX8_append 35 = .ok (.getfield 176, 3) := by decide +kernel
theorem dX8_append_38 : decode cX8_append 38 = .ok (.iconst 1, 1) := by decide +kernel
theorem dX8_append_39 : decode cX8_append 39 = .ok (.iadd, 1) := by decide +kernel
theorem dX8_append_40 : decode cX8_append 40 = .ok (.putfield 176, 3) := by decide +kernel
theorem dX8_append_43 : decode cX8_append 43 = .ok (.aload_n 0, 1) := by decide +kernel
theorem dX8_append_44 : decode cX8_append 44 = .ok (.getfield 176, 3) := by decide +kernel
theorem dX8_append_47 : decode cX8_append 47 = .ok (.ireturn, 1) := by decide +kernel
theorem dX8_sees_0 : decode cX8_sees 0 = .ok (.aload_n 0, 1) := by decide +kernel
theorem dX8_sees_1 : decode cX8_sees 1 = .ok (.getfield 179, 3) := by decide +kernel
theorem dX8_sees_4 : decode cX8_sees 4 = .ok (.ifCond .ne 35, 3) := by decide +kernel
theorem dX8_sees_7 : decode cX8_sees 7 = .ok (.aload_n 0, 1) := by decide +kernel
theorem dX8_sees_8 : decode cX8_sees 8 = .ok (.getfield 182, 3) := by decide +kernel
theorem dX8_sees_11 : decode cX8_sees 11 = .ok (.aload_n 0, 1) := by decide +kernel
theorem dX8_sees_12 : decode cX8_sees 12 = .ok (.getfield 176, 3) := by decide +kernel
theorem dX8_sees_15 : decode cX8_sees 15 = .ok (.if_icmp .ge 24, 3) := by decide +kernel
theorem dX8_sees_18 : decode cX8_sees 18 = .ok (.aload_n 0, 1) := by decide +kernel
theorem dX8_sees_19 : decode cX8_sees 19 = .ok (.getfield 44, 3) := by decide +kernel
theorem dX8_sees_22 : decode cX8_sees 22 = .ok (.aload_n 0, 1) := by decide +kernel
theorem dX8_sees_23 : decode cX8_sees 23 = .ok (.getfield 182, 3) := by decide +kernel
theorem dX8_sees_26 : decode cX8_sees 26 = .ok (.iaload, 1) := by decide +kernel
theorem dX8_sees_27 : decode cX8_sees 27 = .ok (.iload_n 1, 1) := by decide +kernel
theorem dX8_sees_28 : decode cX8_sees 28 = .ok (.iload_n 2, 1) := by decide +kernel
theorem dX8_sees_29 : decode cX8_sees 29 = .ok (.invokestatic 71, 3) := by decide +kernel
theorem dX8_sees_32 : decode cX8_sees 32 = .ok (.ifCond .eq 7, 3) := by decide +kernel
theorem dX8_sees_35 : decode cX8_sees 35 = .ok (.iconst 1, 1) := by decide +kernel
theorem dX8_sees_36 : decode cX8_sees 36 = .ok (.goto 4, 3) := by decide +kernel
theorem dX8_sees_39 : decode cX8_sees 39 = .ok (.iconst 0, 1) := by decide +kernel
theorem dX8_sees_40 : decode cX8_sees 40 = .ok (.ireturn, 1) := by decide +kernel
theorem dX8_readDigit_0 : decode cX8_readDigit 0 = .ok (.aload_n 0, 1) := by decide +kernel
theorem dX8_readDigit_1 : decode cX8_readDigit 1 = .ok (.dup, 1) := by decide +kernel
theorem dX8_readDigit_2 : decode cX8_readDigit 2 = .ok (.getfield 179, 3) := by decide +kernel
theorem dX8_readDigit_5 : decode cX8_readDigit 5 = .ok (.aload_n 0, 1) := by decide +kernel
theorem dX8_readDigit_6 : decode cX8_readDigit 6 = .ok (.bipush 48, 2) := by decide +kernel
theorem dX8_readDigit_8 : decode cX8_readDigit 8 = .ok (.bipush 57, 2) := by decide +kernel
theorem dX8_readDigit_10 : decode cX8_readDigit 10 = .ok (.invokevirtual 185, 3) := by decide +kernel
theorem dX8_readDigit_13 : decode cX8_readDigit 13 = .ok (.ifCond .ne 7, 3) := by decide +kernel
theorem dX8_readDigit_16 : decode cX8_readDigit 16 = .ok (.iconst 1, 1) := by decide +kernel
theorem dX8_readDigit_17 : decode cX8_readDigit 17 = .ok (.goto 4, 3) := by decide +kernel
theorem dX8_readDigit_20 : decode cX8_readDigit 20 = .ok (.iconst 0, 1) := by decide +kernel
theorem dX8_readDigit_21 : decode cX8_readDigit 21 = .ok (.ior, 1) := by decide +kernel
theorem dX8_readDigit_22 : decode cX8_readDigit 22 = .ok (.putfield 179, 3) := by decide +kernel
theorem dX8_readDigit_25 : decode cX8_readDigit 25 = .ok (.aload_n 0, 1) := by decide +kernel
theorem dX8_readDigit_26 : decode cX8_readDigit 26 = .ok (.getfield 179, 3) := by decide +kernel
theorem dX8_readDigit_29 : decode cX8_readDigit 29 = .ok (.ifCond .eq 7, 3) := by decide +kernel
theorem dX8_readDigit_32 : decode cX8_readDigit 32 = .ok (.iconst 0, 1) := by decide +kernel
theorem dX8_readDigit_33 : decode cX8_readDigit 33 = .ok (.goto 15, 3) := by decide +kernel
theorem dX8_readDigit_36 : decode cX8_readDigit 36 = .ok (.aload_n 0, 1) := by decide +kernel
theorem dX8_readDigit_37 : decode cX8_readDigit 37 = .ok (.getfield 44, 3) := by decide +kernel
theorem dX8_readDigit_40 : decode cX8_readDigit 40 = .ok (.aload_n 0, 1) := by decide +kernel
theorem dX8_readDigit_41 : decode cX8_readDigit 41 = .ok (.getfield 182, 3) := by decide +kernel
theorem dX8_readDigit_44 : decode cX8_readDigit 44 = .ok (.iaload, 1) := by decide +kernel
theorem dX8_readDigit_45 : decode cX8_readDigit 45 = .ok (.bipush 48, 2) := by decide +kernel
theorem dX8_readDigit_47 : decode cX8_readDigit 47 = .ok (.isub, 1) := by decide +kernel
theorem dX8_readDigit_48 : decode cX8_readDigit 48 = .ok (.istore_n 1, 1) := by decide +kernel
theorem dX8_readDigit_49 : decode cX8_readDigit 49 = .ok (.aload_n 0, 1) := by decide +kernel
theorem dX8_readDigit_50 : decode cX8_readDigit 50 = .ok (.dup, 1) := by decide +kernel
theorem dX8_readDigit_51 : decode cX8_readDigit 51 = .ok (.getfield 182, 3) := by decide +kernel
theorem dX8_readDigit_54 : decode cX8_readDigit 54 = .ok (.aload_n 0, 1) := by decide +kernel
theorem dX8_readDigit_55 : decode cX8_readDigit 55 = .ok (.getfield 179, 3) := by decide +kernel
theorem dX8_readDigit_58 : decode cX8_readDigit 58 = .ok (.ifCond .eq 7, 3) := by decide +kernel
theorem dX8_readDigit_61 : decode cX8_readDigit 61 = .ok (.iconst 0, 1) := by decide +kernel
theorem dX8_readDigit_62 : decode cX8_readDigit 62 = .ok (.goto 4, 3) := by decide +kernel
theorem dX8_readDigit_65 : decode cX8_readDigit 65 = .ok (.iconst 1, 1) := by decide +kernel
theorem dX8_readDigit_66 : decode cX8_readDigit 66 = .ok (.iadd, 1) := by decide +kernel
theorem dX8_readDigit_67 : decode cX8_readDigit 67 = .ok (.putfield 182, 3) := by decide +kernel
theorem dX8_readDigit_70 : decode cX8_readDigit 70 = .ok (.iload_n 1, 1) := by decide +kernel
theorem dX8_readDigit_71 : decode cX8_readDigit 71 = .ok (.ireturn, 1) := by decide +kernel
theorem dX8_readRow_0 : decode cX8_readRow 0 = .ok (.aload_n 0, 1) := by decide +kernel
theorem dX8_readRow_1 : decode cX8_readRow 1 = .ok (.iconst 0, 1) := by decide +kernel
theorem dX8_readRow_2 : decode cX8_readRow 2 = .ok (.putfield 188, 3) := by decide +kernel
theorem dX8_readRow_5 : decode cX8_readRow 5 = .ok (.aload_n 0, 1) := by decide +kernel
theorem dX8_readRow_6 : decode cX8_readRow 6 = .ok (.iconst 0, 1) := by decide +kernel
theorem dX8_readRow_7 : decode cX8_readRow 7 = .ok (.putfield 191, 3) := by decide +kernel
theorem dX8_readRow_10 : decode cX8_readRow 10 = .ok (.aload_n 0, 1) := by decide +kernel
theorem dX8_readRow_11 : decode cX8_readRow 11 = .ok (.getfield 191, 3) := by decide +kernel
theorem dX8_readRow_14 : decode cX8_readRow 14 = .ok (.bipush 8, 2) := by decide +kernel
theorem dX8_readRow_16 : decode cX8_readRow 16 = .ok (.if_icmp .ge 43, 3) := by decide +kernel
theorem dX8_readRow_19 : decode cX8_readRow 19 = .ok (.aload_n 0, 1) := by decide +kernel
theorem dX8_readRow_20 : decode cX8_readRow 20 = .ok (.bipush 48, 2) := by decide +kernel
theorem dX8_readRow_22 : decode cX8_readRow 22 = .ok (.bipush 57, 2) := by decide +kernel
theorem dX8_readRow_24 : decode cX8_readRow 24 = .ok (.invokevirtual 185, 3) := by decide +kernel
theorem dX8_readRow_27 : decode cX8_readRow 27 = .ok (.ifCond .eq 32, 3) := by decide +kernel
theorem dX8_readRow_30 : decode cX8_readRow 30 = .ok (.aload_n 0, 1) := by decide +kernel
theorem dX8_readRow_31 : decode cX8_readRow 31 = .ok (.bipush 10, 2) := by decide +kernel
theorem dX8_readRow_33 : decode cX8_readRow 33 = .ok (.aload_n 0, 1) := by decide +kernel
theorem dX8_readRow_34 : decode cX8_readRow 34 = .ok (.getfield 188, 3) := by decide +kernel
theorem dX8_readRow_37 : decode cX8_readRow 37 = .ok (.imul, 1) := by decide +kernel
theorem dX8_readRow_38 : decode cX8_readRow 38 = .ok (.aload_n 0, 1) := by decide +kernel
theorem dX8_readRow_39 : decode cX8_readRow 39 = .ok (.invokevirtual 194, 3) := by decide +kernel
theorem dX8_readRow_42 : decode cX8_readRow 42 = .ok (.iadd, 1) := by decide +kernel
theorem dX8_readRow_43 : decode cX8_readRow 43 = .ok (.putfield 188, 3) := by decide +kernel
theorem dX8_readRow_46 : decode cX8_readRow 46 = .ok (.aload_n 0, 1) := by decide +kernel
theorem dX8_readRow_47 : decode cX8_readRow 47 = .ok (.dup, 1) := by decide +kernel
theorem dX8_readRow_48 : decode cX8_readRow 48 = .ok (.getfield 191, 3) := by decide +kernel
theorem dX8_readRow_51 : decode cX8_readRow 51 = .ok (.iconst 1, 1) := by decide +kernel
theorem dX8_readRow_52 : decode cX8_readRow 52 = .ok (.iadd, 1) := by decide +kernel
theorem dX8_readRow_53 : decode cX8_readRow 53 = .ok (.putfield 191, 3) := by decide +kernel
theorem dX8_readRow_56 : decode cX8_readRow 56 = .ok (.goto (-46), 3) := by decide +kernel
theorem dX8_readRow_59 : decode cX8_readRow 59 = .ok (.return_, 1) := by decide +kernel
theorem dX8_readCommand_0 : decode cX8_readCommand 0 = .ok (.aload_n 0, 1) := by decide +kernel
theorem dX8_readCommand_1 : decode cX8_readCommand 1 = .ok (.aload_n 0, 1) := by decide +kernel
theorem dX8_readCommand_2 : decode cX8_readCommand 2 = .ok (.getfield 179, 3) := by decide +kernel
theorem dX8_readCommand_5 : decode cX8_readCommand 5 = .ok (.ifCond .ne 26, 3) := by decide +kernel
theorem dX8_readCommand_8 : decode cX8_readCommand 8 = .ok (.aload_n 0, 1) := by decide +kernel
theorem dX8_readCommand_9 : decode cX8_readCommand 9 = .ok (.getfield 182, 3) := by decide +kernel
theorem dX8_readCommand_12 : decode cX8_readCommand 12 = .ok (.aload_n 0, 1) := by decide +kernel
theorem dX8_readCommand_13 : decode cX8_readCommand 13 = .ok (.getfield 176, 3) := by decide +kernel
theorem dX8_readCommand_16 : decode cX8_readCommand 16 = .ok (.if_icmp .ge 15, 3) := by decide +kernel
theorem dX8_readCommand_19 : decode cX8_readCommand 19 = .ok (.aload_n 0, 1) := by decide +kernel
theorem dX8_readCommand_20 : decode cX8_readCommand 20 = .ok (.getfield 44, 3) := by decide +kernel
theorem dX8_readCommand_23 : decode cX8_readCommand 23 = .ok (.aload_n 0, 1) := by decide +kernel
theorem dX8_readCommand_24 : decode cX8_readCommand 24 = .ok (.getfield 182, 3) := by decide +kernel
theorem dX8_readCommand_27 : decode cX8_readCommand 27 = .ok (.iaload, 1) := by decide +kernel
theorem dX8_readCommand_28 : decode cX8_readCommand 28 = .ok (.goto 5, 3) := by decide +kernel
theorem dX8_readCommand_31 : decode cX8_readCommand 31 = .ok (.bipush 32, 2) := by decide +kernel
theorem dX8_readCommand_33 : decode cX8_readCommand 33 = .ok (.putfield 197, 3) := by decide +kernel
theorem dX8_readCommand_36 : decode cX8_readCommand 36 = .ok (.aload_n 0, 1) := by decide +kernel
theorem dX8_readCommand_37 : decode cX8_readCommand 37 = .ok (.bipush 48, 2) := by decide +kernel
theorem dX8_readCommand_39 : decode cX8_readCommand 39 = .ok (.bipush 57, 2) := by decide +kernel
theorem dX8_readCommand_41 : decode cX8_readCommand 41 = .ok (.invokevirtual 185, 3) := by decide +kernel
theorem dX8_readCommand_44 : decode cX8_readCommand 44 = .ok (.ifCond .eq 14, 3) := by decide +kernel
theorem dX8_readCommand_47 : decode cX8_readCommand 47 = .ok (.aload_n 0, 1) := by decide +kernel
theorem dX8_readCommand_48 : decode cX8_readCommand 48 = .ok (.bipush 48, 2) := by decide +kernel
theorem dX8_readCommand_50 : decode cX8_readCommand 50 = .ok (.putfield 197, 3) := by decide +kernel
theorem dX8_readCommand_53 : decode cX8_readCommand 53 = .ok (.aload_n 0, 1) := by decide +kernel
theorem dX8_readCommand_54 : decode cX8_readCommand 54 = .ok (.invokevirtual 200, 3) := by decide +kernel
theorem dX8_readCommand_57 : decode cX8_readCommand 57 = .ok (.return_, 1) := by decide +kernel
theorem dX8_readCommand_58 : decode cX8_readCommand 58 = .ok (.aload_n 0, 1) := by decide +kernel
theorem dX8_readCommand_59 : decode cX8_readCommand 59 = .ok (.dup, 1) := by decide +kernel
theorem dX8_readCommand_60 : decode cX8_readCommand 60 = .ok (.getfield 179, 3) := by decide +kernel
theorem dX8_readCommand_63 : decode cX8_readCommand 63 = .ok (.ldc 203, 2) := by decide +kernel
theorem dX8_readCommand_65 : decode cX8_readCommand 65 = .ok (.aload_n 0, 1) := by decide +kernel
theorem dX8_readCommand_66 : decode cX8_readCommand 66 = .ok (.getfield 197, 3) := by decide +kernel
theorem dX8_readCommand_69 : decode cX8_readCommand 69 = .ok (.i2c, 1) := by decide +kernel
theorem dX8_readCommand_70 : decode cX8_readCommand 70 = .ok (.invokevirtual 205, 3) := by decide +kernel
theorem dX8_readCommand_73 : decode cX8_readCommand 73 = .ok (.ifCond .ge 7, 3) := by decide +kernel
theorem dX8_readCommand_76 : decode cX8_readCommand 76 = .ok (.iconst 1, 1) := by decide +kernel
theorem dX8_readCommand_77 : decode cX8_readCommand 77 = .ok (.goto 4, 3) := by decide +kernel
theorem dX8_readCommand_80 : decode cX8_readCommand 80 = .ok (.iconst 0, 1) := by decide +kernel
theorem dX8_readCommand_81 : decode cX8_readCommand 81 = .ok (.ior, 1) := by decide +kernel
theorem dX8_readCommand_82 : decode cX8_readCommand 82 = .ok (.putfield 179, 3) := by decide +kernel
theorem dX8_readCommand_85 : decode cX8_readCommand 85 = .ok (.aload_n 0, 1) := by decide +kernel
theorem dX8_readCommand_86 : decode cX8_readCommand 86 = .ok (.dup, 1) := by decide +kernel
theorem dX8_readCommand_87 : decode cX8_readCommand 87 = .ok (.getfield 182, 3) := by decide +kernel
theorem dX8_readCommand_90 : decode cX8_readCommand 90 = .ok (.aload_n 0, 1) := by decide +kernel
theorem dX8_readCommand_91 : decode cX8_readCommand 91 = .ok (.getfield 179, 3) := by decide +kernel
theorem dX8_readCommand_94 : decode cX8_readCommand 94 = .ok (.ifCond .eq 7, 3) := by decide +kernel
theorem dX8_readCommand_97 : decode cX8_readCommand 97 = .ok (.iconst 0, 1) := by decide +kernel
theorem dX8_readCommand_98 : decode cX8_readCommand 98 = .ok (.goto 4, 3) := by decide +kernel
theorem dX8_readCommand_101 : decode cX8_readCommand 101 = .ok (.iconst 1, 1) := by decide +kernel
theorem dX8_readCommand_102 : decode cX8_readCommand 102 = .ok (.iadd, 1) := by decide +kernel
theorem dX8_readCommand_103 : decode cX8_readCommand 103 = .ok (.putfield 182, 3) := by decide +kernel
theorem dX8_readCommand_106 : decode cX8_readCommand 106 = .ok (.aload_n 0, 1) := by decide +kernel
theorem dX8_readCommand_107 : decode cX8_readCommand 107 = .ok (.aload_n 0, 1) := by decide +kernel
theorem dX8_readCommand_108 : decode cX8_readCommand 108 = .ok (.invokevirtual 194, 3) := by decide +kernel
theorem dX8_readCommand_111 : decode cX8_readCommand 111 = .ok (.putfield 188, 3) := by decide +kernel
theorem dX8_readCommand_114 : decode cX8_readCommand 114 = .ok (.aload_n 0, 1) := by decide +kernel
theorem dX8_readCommand_115 : decode cX8_readCommand 115 = .ok (.getfield 197, 3) := by decide +kernel
theorem dX8_readCommand_118 : decode cX8_readCommand 118 = .ok (.bipush 115, 2) := by decide +kernel
theorem dX8_readCommand_120 : decode cX8_readCommand 120 = .ok (.if_icmp .ne 19, 3) := by decide +kernel
theorem dX8_readCommand_123 : decode cX8_readCommand 123 = .ok (.aload_n 0, 1) := by decide +kernel
theorem dX8_readCommand_124 : decode cX8_readCommand 124 = .ok (.aload_n 0, 1) := by decide +kernel
theorem dX8_readCommand_125 : decode cX8_readCommand 125 = .ok (.invokevirtual 194, 3) := by decide +kernel
theorem dX8_readCommand_128 : decode cX8_readCommand 128 = .ok (.putfield 191, 3) := by decide +kernel
theorem dX8_readCommand_131 : decode cX8_readCommand 131 = .ok (.aload_n 0, 1) := by decide +kernel
theorem dX8_readCommand_132 : decode cX8_readCommand 132 = .ok (.aload_n 0, 1) := by decide +kernel
theorem dX8_readCommand_133 : decode cX8_readCommand 133 = .ok (.invokevirtual 194, 3) := by decide +kernel
theorem dX8_readCommand_136 : decode cX8_readCommand 136 = .ok (.putfield 210, 3) := by decide +kernel
theorem dX8_readCommand_139 : decode cX8_readCommand 139 = .ok (.return_, 1) := by decide +kernel
theorem dX8_countCommands_0 : decode cX8_countCommands 0 = .ok (.aload_n 0, 1) := by decide +kernel
theorem dX8_countCommands_1 : decode cX8_countCommands 1 = .ok (.iconst 0, 1) := by decide +kernel
theorem dX8_countCommands_2 : decode cX8_countCommands 2 = .ok (.putfield 182, 3) := by decide +kernel
theorem dX8_countCommands_5 : decode cX8_countCommands 5 = .ok (.aload_n 0, 1) := by decide +kernel
theorem dX8_countCommands_6 : decode cX8_countCommands 6 = .ok (.iconst 0, 1) := by decide +kernel
theorem dX8_countCommands_7 : decode cX8_countCommands 7 = .ok (.putfield 179, 3) := by decide +kernel
theorem dX8_countCommands_10 : decode cX8_countCommands 10 = .ok (.iconst 1, 1) := by decide +kernel
theorem dX8_countCommands_11 : decode cX8_countCommands 11 = .ok (.istore_n 1, 1) := by decide +kernel
theorem dX8_countCommands_12 : decode cX8_countCommands 12 = .ok (.aload_n 0, 1) := by decide +kernel
theorem dX8_countCommands_13 : decode cX8_countCommands 13 = .ok (.invokevirtual 213, 3) := by decide +kernel
theorem dX8_countCommands_16 : decode cX8_countCommands 16 = .ok (.aload_n 0, 1) := by decide +kernel
theorem dX8_countCommands_17 : decode cX8_countCommands 17 = .ok (.getfield 179, 3) := by decide +kernel
theorem dX8_countCommands_20 : decode cX8_countCommands 20 = .ok (.ifCond .ne 65, 3) := by decide +kernel
theorem dX8_countCommands_23 : decode cX8_countCommands 23 = .ok (.aload_n 0, 1) := by decide +kernel
theorem dX8_countCommands_24 : decode cX8_countCommands 24 = .ok (.getfield 182, 3) := by decide +kernel
theorem dX8_countCommands_27 : decode cX8_countCommands 27 = .ok (.aload_n 0, 1) := by decide +kernel
theorem dX8_countCommands_28 : decode cX8_countCommands 28 = .ok (.getfield 176, 3) := by decide +kernel
theorem dX8_countCommands_31 : decode cX8_countCommands 31 = .ok (.if_icmp .ge 54, 3) := by decide +kernel
theorem dX8_countCommands_34 : decode cX8_countCommands 34 = .ok (.aload_n 0, 1) := by decide +kernel
theorem dX8_countCommands_35 : decode cX8_countCommands 35 = .ok (.aload_n 0, 1) := by decide +kernel
theorem dX8_countCommands_36 : decode cX8_countCommands 36 = .ok (.bipush 59, 2) := by decide +kernel
theorem dX8_countCommands_38 : decode cX8_countCommands 38 = .ok (.bipush 59, 2) := by decide +kernel
theorem dX8_countCommands_40 : decode cX8_countCommands 40 = .ok (.invokevirtual 185, 3) := by decide +kernel
theorem dX8_countCommands_43 : decode cX8_countCommands 43 = .ok (.ifCond .ne 7, 3) := by decide +kernel
theorem dX8_countCommands_46 : decode cX8_countCommands 46 = .ok (.iconst 1, 1) := by decide +kernel
theorem dX8_countCommands_47 : decode cX8_countCommands 47 = .ok (.goto 4, 3) := by decide +kernel
theorem dX8_countCommands_50 : decode cX8_countCommands 50 = .ok (.iconst 0, 1) := by decide +kernel
theorem dX8_countCommands_51 : decode cX8_countCommands 51 = .ok (.putfield 179, 3) := by decide +kernel
theorem dX8_countCommands_54 : decode cX8_countCommands 54 = .ok (.aload_n 0, 1) := by decide +kernel
theorem dX8_countCommands_55 : decode cX8_countCommands 55 = .ok (.dup, 1) := by decide +kernel
theorem dX8_countCommands_56 : decode cX8_countCommands 56 = .ok (.getfield 182, 3) := by decide +kernel
theorem dX8_countCommands_59 : decode cX8_countCommands 59 = .ok (.aload_n 0, 1) := by decide +kernel
theorem dX8_countCommands_60 : decode cX8_countCommands 60 = .ok (.getfield 179, 3) := by decide +kernel
theorem dX8_countCommands_63 : decode cX8_countCommands 63 = .ok (.ifCond .eq 7, 3) := by decide +kernel
theorem dX8_countCommands_66 : decode cX8_countCommands 66 = .ok (.iconst 0, 1) := by decide +kernel
theorem dX8_countCommands_67 : decode cX8_countCommands 67 = .ok (.goto 4, 3) := by decide +kernel
theorem dX8_countCommands_70 : decode cX8_countCommands 70 = .ok (.iconst 1, 1) := by decide +kernel
theorem dX8_countCommands_71 : decode cX8_countCommands 71 = .ok (.iadd, 1) := by decide +kernel
theorem dX8_countCommands_72 : decode cX8_countCommands 72 = .ok (.putfield 182, 3) := by decide +kernel
theorem dX8_countCommands_75 : decode cX8_countCommands 75 = .ok (.aload_n 0, 1) := by decide +kernel
theorem dX8_countCommands_76 : decode cX8_countCommands 76 = .ok (.invokevirtual 213, 3) := by decide +kernel
theorem dX8_countCommands_79 : decode cX8_countCommands 79 = .ok (.iinc 1 1, 3) := by decide +kernel
theorem dX8_countCommands_82 : decode cX8_countCommands 82 = .ok (.goto (-66), 3) := by decide +kernel
theorem dX8_countCommands_85 : decode cX8_countCommands 85 = .ok (.iload_n 1, 1) := by decide +kernel
theorem dX8_countCommands_86 : decode cX8_countCommands 86 = .ok (.ireturn, 1) := by decide +kernel
theorem dX8_carryOut_0 : decode cX8_carryOut 0 = .ok (.aload_n 0, 1) := by decide +kernel
theorem dX8_carryOut_1 : decode cX8_carryOut 1 = .ok (.getfield 197, 3) := by decide +kernel
theorem dX8_carryOut_4 : decode cX8_carryOut 4 = .ok (.lookupswitch 172 #[(48, 76), (98, 145), (99, 163), (106, 154), (108, 124), (115, 107), (116, 98), (120, 89)], 76) := by decide +kernel
theorem dX8_carryOut_80 : decode cX8_carryOut 80 = .ok (.aload_n 0, 1) := by decide +kernel
theorem dX8_carryOut_81 : decode cX8_carryOut 81 = .ok (.aload_n 0, 1) := by decide +kernel
theorem dX8_carryOut_82 : decode cX8_carryOut 82 = .ok (.getfield 188, 3) := by decide +kernel
theorem dX8_carryOut_85 : decode cX8_carryOut 85 = .ok (.aload_n 0, 1) := by decide +kernel
theorem dX8_carryOut_86 : decode cX8_carryOut 86 = .ok (.getfield 191, 3) := by decide +kernel
theorem dX8_carryOut_89 : decode cX8_carryOut 89 = .ok (.invokevirtual 216, 3) := by decide +kernel
theorem dX8_carryOut_92 : decode cX8_carryOut 92 = .ok (.ireturn, 1) := by decide +kernel
theorem dX8_carryOut_93 : decode cX8_carryOut 93 = .ok (.aload_n 0, 1) := by decide +kernel
theorem dX8_carryOut_94 : decode cX8_carryOut 94 = .ok (.aload_n 0, 1) := by decide +kernel
theorem dX8_carryOut_95 : decode cX8_carryOut 95 = .ok (.getfield 188, 3) := by decide +kernel
theorem dX8_carryOut_98 : decode cX8_carryOut 98 = .ok (.invokevirtual 219, 3) := by decide +kernel
theorem dX8_carryOut_101 : decode cX8_carryOut 101 = .ok (.ireturn, 1) := by decide +kernel
theorem dX8_carryOut_102 : decode cX8_carryOut 102 = .ok (.aload_n 0, 1) := by decide +kernel
theorem dX8_carryOut_103 : decode cX8_carryOut 103 = .ok (.aload_n 0, 1) := by decide +kernel
theorem dX8_carryOut_104 : decode cX8_carryOut 104 = .ok (.getfield 188, 3) := by decide +kernel
theorem dX8_carryOut_107 : decode cX8_carryOut 107 = .ok (.invokevirtual 222, 3) := by decide +kernel
theorem dX8_carryOut_110 : decode cX8_carryOut 110 = .ok (.ireturn, 1) := by decide +kernel
theorem dX8_carryOut_111 : decode cX8_carryOut 111 = .ok (.aload_n 0, 1) := by decide +kernel
theorem dX8_carryOut_112 : decode cX8_carryOut 112 = .ok (.aload_n 0, 1) := by decide +kernel
theorem dX8_carryOut_113 : decode cX8_carryOut 113 = .ok (.getfield 188, 3) := by decide +kernel
theorem dX8_carryOut_116 : decode cX8_carryOut 116 = .ok (.aload_n 0, 1) := by decide +kernel
theorem dX8_carryOut_117 : decode cX8_carryOut 117 = .ok (.getfield 191, 3) := by decide +kernel
theorem dX8_carryOut_120 : decode cX8_carryOut 120 = .ok (.aload_n 0, 1) := by decide +kernel
theorem dX8_carryOut_121 : decode cX8_carryOut 121 = .ok (.getfield 210, 3) := by decide +kernel
theorem dX8_carryOut_124 : decode cX8_carryOut 124 = .ok (.invokevirtual 225, 3) := by decide +kernel
theorem dX8_carryOut_127 : decode cX8_carryOut 127 = .ok (.ireturn, 1) := by decide +kernel
theorem dX8_carryOut_128 : decode cX8_carryOut 128 = .ok (.aload_n 0, 1) := by decide +kernel
theorem dX8_carryOut_129 : decode cX8_carryOut 129 = .ok (.aload_n 0, 1) := by decide +kernel
theorem dX8_carryOut_130 : decode cX8_carryOut 130 = .ok (.getfield 188, 3) := by decide +kernel
theorem dX8_carryOut_133 : decode cX8_carryOut 133 = .ok (.invokevirtual 229, 3) := by decide +kernel
theorem dX8_carryOut_136 : decode cX8_carryOut 136 = .ok (.istore_n 1, 1) := by decide +kernel
theorem dX8_carryOut_137 : decode cX8_carryOut 137 = .ok (.iload_n 1, 1) := by decide +kernel
theorem dX8_carryOut_138 : decode cX8_carryOut 138 = .ok (.bipush (-4), 2) := by decide +kernel
theorem dX8_carryOut_140 : decode cX8_carryOut 140 = .ok (.if_icmp .ne 7, 3) := by decide +kernel
theorem dX8_carryOut_143 : decode cX8_carryOut 143 = .ok (.iconst 0, 1) := by decide +kernel
theorem dX8_carryOut_144 : decode cX8_carryOut 144 = .ok (.goto 4, 3) := by decide +kernel
theorem dX8_carryOut_147 : decode cX8_carryOut 147 = .ok (.iload_n 1, 1) := by decide +kernel
theorem dX8_carryOut_148 : decode cX8_carryOut 148 = .ok (.ireturn, 1) := by decide +kernel
theorem dX8_carryOut_149 : decode cX8_carryOut 149 = .ok (.aload_n 0, 1) := by decide +kernel
theorem dX8_carryOut_150 : decode cX8_carryOut 150 = .ok (.aload_n 0, 1) := by decide +kernel
theorem dX8_carryOut_151 : decode cX8_carryOut 151 = .ok (.getfield 188, 3) := by decide +kernel
theorem dX8_carryOut_154 : decode cX8_carryOut 154 = .ok (.invokevirtual 232, 3) := by decide +kernel
theorem dX8_carryOut_157 : decode cX8_carryOut 157 = .ok (.ireturn, 1) := by decide +kernel
theorem dX8_carryOut_158 : decode cX8_carryOut 158 = .ok (.aload_n 0, 1) := by decide +kernel
theorem dX8_carryOut_159 : decode cX8_carryOut 159 = .ok (.aload_n 0, 1) := by decide +kernel
theorem dX8_carryOut_160 : decode cX8_carryOut 160 = .ok (.getfield 188, 3) := by decide +kernel
theorem dX8_carryOut_163 : decode cX8_carryOut 163 = .ok (.invokevirtual 235, 3) := by decide +kernel
theorem dX8_carryOut_166 : decode cX8_carryOut 166 = .ok (.ireturn, 1) := by decide +kernel
theorem dX8_carryOut_167 : decode cX8_carryOut 167 = .ok (.aload_n 0, 1) := by decide +kernel
theorem dX8_carryOut_168 : decode cX8_carryOut 168 = .ok (.aload_n 0, 1) := by decide +kernel
theorem dX8_carryOut_169 : decode cX8_carryOut 169 = .ok (.getfield 188, 3) := by decide +kernel
theorem dX8_carryOut_172 : decode cX8_carryOut 172 = .ok (.invokevirtual 238, 3) := by decide +kernel
theorem dX8_carryOut_175 : decode cX8_carryOut 175 = .ok (.ireturn, 1) := by decide +kernel
theorem dX8_carryOut_176 : decode cX8_carryOut 176 = .ok (.aload_n 0, 1) := by decide +kernel
theorem dX8_carryOut_177 : decode cX8_carryOut 177 = .ok (.aload_n 0, 1) := by decide +kernel
theorem dX8_carryOut_178 : decode cX8_carryOut 178 = .ok (.getfield 188, 3) := by decide +kernel
theorem dX8_carryOut_181 : decode cX8_carryOut 181 = .ok (.invokevirtual 240, 3) := by decide +kernel
theorem dX8_carryOut_184 : decode cX8_carryOut 184 = .ok (.ireturn, 1) := by decide +kernel
theorem dX8_read_0 : decode cX8_read 0 = .ok (.aload_n 0, 1) := by decide +kernel
theorem dX8_read_1 : decode cX8_read 1 = .ok (.invokevirtual 243, 3) := by decide +kernel
theorem dX8_read_4 : decode cX8_read 4 = .ok (.istore_n 1, 1) := by decide +kernel
theorem dX8_read_5 : decode cX8_read 5 = .ok (.aload_n 0, 1) := by decide +kernel
theorem dX8_read_6 : decode cX8_read 6 = .ok (.getfield 179, 3) := by decide +kernel
theorem dX8_read_9 : decode cX8_read 9 = .ok (.ifCond .eq 16, 3) := by decide +kernel
theorem dX8_read_12 : decode cX8_read 12 = .ok (.aload_n 0, 1) := by decide +kernel
theorem dX8_read_13 : decode cX8_read 13 = .ok (.iconst 0, 1) := by decide +kernel
theorem dX8_read_14 : decode cX8_read 14 = .ok (.putfield 176, 3) := by decide +kernel
theorem dX8_read_17 : decode cX8_read 17 = .ok (.bipush (-100), 2) := by decide +kernel
theorem dX8_read_19 : decode cX8_read 19 = .ok (.aload_n 0, 1) := by decide +kernel
theorem dX8_read_20 : decode cX8_read 20 = .ok (.getfield 182, 3) := by decide +kernel
theorem dX8_read_23 : decode cX8_read 23 = .ok (.isub, 1) := by decide +kernel
theorem dX8_read_24 : decode cX8_read 24 = .ok (.ireturn, 1) := by decide +kernel
theorem dX8_read_25 : decode cX8_read 25 = .ok (.aload_n 0, 1) := by decide +kernel
theorem dX8_read_26 : decode cX8_read 26 = .ok (.getfield 9, 3) := by decide +kernel
theorem dX8_read_29 : decode cX8_read 29 = .ok (.aload_n 0, 1) := by decide +kernel
theorem dX8_read_30 : decode cX8_read 30 = .ok (.getfield 16, 3) := by decide +kernel
theorem dX8_read_33 : decode cX8_read 33 = .ok (.invokestatic 63, 3) := by decide +kernel
theorem dX8_read_36 : decode cX8_read 36 = .ok (.aload_n 0, 1) := by decide +kernel
theorem dX8_read_37 : decode cX8_read 37 = .ok (.iconst 1, 1) := by decide +kernel
theorem dX8_read_38 : decode cX8_read 38 = .ok (.putfield 53, 3) := by decide +kernel
theorem dX8_read_41 : decode cX8_read 41 = .ok (.iconst 0, 1) := by decide +kernel
theorem dX8_read_42 : decode cX8_read 42 = .ok (.istore_n 2, 1) := by decide +kernel
theorem dX8_read_43 : decode cX8_read 43 = .ok (.aload_n 0, 1) := by decide +kernel
theorem dX8_read_44 : decode cX8_read 44 = .ok (.iconst 0, 1) := by decide +kernel
theorem dX8_read_45 : decode cX8_read 45 = .ok (.putfield 182, 3) := by decide +kernel
theorem dX8_read_48 : decode cX8_read 48 = .ok (.iconst 0, 1) := by decide +kernel
theorem dX8_read_49 : decode cX8_read 49 = .ok (.istore_n 3, 1) := by decide +kernel
theorem dX8_read_50 : decode cX8_read 50 = .ok (.iload_n 3, 1) := by decide +kernel
theorem dX8_read_51 : decode cX8_read 51 = .ok (.iload_n 1, 1) := by decide +kernel
theorem dX8_read_52 : decode cX8_read 52 = .ok (.if_icmp .ge 37, 3) := by decide +kernel
theorem dX8_read_55 : decode cX8_read 55 = .ok (.iload_n 2, 1) := by decide +kernel
theorem dX8_read_56 : decode cX8_read 56 = .ok (.ifCond .lt 33, 3) := by decide +kernel
theorem dX8_read_59 : decode cX8_read 59 = .ok (.aload_n 0, 1) := by decide +kernel
theorem dX8_read_60 : decode cX8_read 60 = .ok (.iload_n 3, 1) := by decide +kernel
theorem dX8_read_61 : decode cX8_read 61 = .ok (.putfield 57, 3) := by decide +kernel
theorem dX8_read_64 : decode cX8_read 64 = .ok (.aload_n 0, 1) := by decide +kernel
theorem dX8_read_65 : decode cX8_read 65 = .ok (.invokevirtual 213, 3) := by decide +kernel
theorem dX8_read_68 : decode cX8_read 68 = .ok (.aload_n 0, 1) := by decide +kernel
theorem dX8_read_69 : decode cX8_read 69 = .ok (.dup, 1) := by decide +kernel
theorem dX8_read_70 : decode cX8_read 70 = .ok (.getfield 182, 3) := by decide +kernel
theorem dX8_read_73 : decode cX8_read 73 = .ok (.iconst 1, 1) := by decide +kernel
theorem dX8_read_74 : decode cX8_read 74 = .ok (.iadd, 1) := by decide +kernel
theorem dX8_read_75 : decode cX8_read 75 = .ok (.putfield 182, 3) := by decide +kernel
theorem dX8_read_78 : decode cX8_read 78 = .ok (.aload_n 0, 1) := by decide +kernel
theorem dX8_read_79 : decode cX8_read 79 = .ok (.invokevirtual 246, 3) := by decide +kernel
theorem dX8_read_82 : decode cX8_read 82 = .ok (.istore_n 2, 1) := by decide +kernel
theorem dX8_read_83 : decode cX8_read 83 = .ok (.iinc 3 1, 3) := by decide +kernel
theorem dX8_read_86 : decode cX8_read 86 = .ok (.goto (-36), 3) := by decide +kernel
theorem dX8_read_89 : decode cX8_read 89 = .ok (.aload_n 0, 1) := by decide +kernel
theorem dX8_read_90 : decode cX8_read 90 = .ok (.iconst 0, 1) := by decide +kernel
theorem dX8_read_91 : decode cX8_read 91 = .ok (.putfield 53, 3) := by decide +kernel
theorem dX8_read_94 : decode cX8_read 94 = .ok (.aload_n 0, 1) := by decide +kernel
theorem dX8_read_95 : decode cX8_read 95 = .ok (.iconst 0, 1) := by decide +kernel
theorem dX8_read_96 : decode cX8_read 96 = .ok (.putfield 176, 3) := by decide +kernel
theorem dX8_read_99 : decode cX8_read 99 = .ok (.iload_n 2, 1) := by decide +kernel
theorem dX8_read_100 : decode cX8_read 100 = .ok (.ifCond .ge 28, 3) := by decide +kernel
theorem dX8_read_103 : decode cX8_read 103 = .ok (.aload_n 0, 1) := by decide +kernel
theorem dX8_read_104 : decode cX8_read 104 = .ok (.getfield 16, 3) := by decide +kernel
theorem dX8_read_107 : decode cX8_read 107 = .ok (.aload_n 0, 1) := by decide +kernel
theorem dX8_read_108 : decode cX8_read 108 = .ok (.getfield 9, 3) := by decide +kernel
theorem dX8_read_111 : decode cX8_read 111 = .ok (.invokestatic 63, 3) := by decide +kernel
theorem dX8_read_114 : decode cX8_read 114 = .ok (.iload_n 2, 1) := by decide +kernel
theorem dX8_read_115 : decode cX8_read 115 = .ok (.bipush (-3), 2) := by decide +kernel
theorem dX8_read_117 : decode cX8_read 117 = .ok (.if_icmp .ne 8, 3) := by decide +kernel
theorem dX8_read_120 : decode cX8_read 120 = .ok (.bipush (-3), 2) := by decide +kernel
theorem dX8_read_122 : decode cX8_read 122 = .ok (.goto 5, 3) := by decide +kernel
theorem dX8_read_125 : decode cX8_read 125 = .ok (.bipush (-2), 2) := by decide +kernel
theorem dX8_read_127 : decode cX8_read 127 = .ok (.ireturn, 1) := by decide +kernel
theorem dX8_read_128 : decode cX8_read 128 = .ok (.aload_n 0, 1) := by decide +kernel
theorem dX8_read_129 : decode cX8_read 129 = .ok (.aload_n 0, 1) := by decide +kernel
theorem dX8_read_130 : decode cX8_read 130 = .ok (.getfield 16, 3) := by decide +kernel
theorem dX8_read_133 : decode cX8_read 133 = .ok (.invokevirtual 67, 3) := by decide +kernel
theorem dX8_read_136 : decode cX8_read 136 = .ok (.iload_n 1, 1) := by decide +kernel
theorem dX8_read_137 : decode cX8_read 137 = .ok (.ireturn, 1) := by decide +kernel
theorem dX8_refusal_0 : decode cX8_refusal 0 = .ok (.iload_n 1, 1) := by decide +kernel
theorem dX8_refusal_1 : decode cX8_refusal 1 = .ok (.iconst 0, 1) := by decide +kernel
theorem dX8_refusal_2 : decode cX8_refusal 2 = .ok (.iconst 2, 1) := by decide +kernel
theorem dX8_refusal_3 : decode cX8_refusal 3 = .ok (.invokestatic 71, 3) := by decide +kernel
theorem dX8_refusal_6 : decode cX8_refusal 6 = .ok (.ifCond .ne 6, 3) := by decide +kernel
theorem dX8_refusal_9 : decode cX8_refusal 9 = .ok (.bipush (-2), 2) := by decide +kernel
theorem dX8_refusal_11 : decode cX8_refusal 11 = .ok (.ireturn, 1) := by decide +kernel
theorem dX8_refusal_12 : decode cX8_refusal 12 = .ok (.aload_n 0, 1) := by decide +kernel
theorem dX8_refusal_13 : decode cX8_refusal 13 = .ok (.getfield 47, 3) := by decide +kernel
theorem dX8_refusal_16 : decode cX8_refusal 16 = .ok (.ifCond .eq 15, 3) := by decide +kernel
theorem dX8_refusal_19 : decode cX8_refusal 19 = .ok (.iload_n 1, 1) := by decide +kernel
theorem dX8_refusal_20 : decode cX8_refusal 20 = .ok (.iconst 2, 1) := by decide +kernel
theorem dX8_refusal_21 : decode cX8_refusal 21 = .ok (.if_icmp .ne 13, 3) := by decide +kernel
theorem dX8_refusal_24 : decode cX8_refusal 24 = .ok (.aload_n 0, 1) := by decide +kernel
theorem dX8_refusal_25 : decode cX8_refusal 25 = .ok (.getfield 24, 3) := by decide +kernel
theorem dX8_refusal_28 : decode cX8_refusal 28 = .ok (.ifCond .ge 6, 3) := by decide +kernel
theorem dX8_refusal_31 : decode cX8_refusal 31 = .ok (.bipush (-4), 2) := by decide +kernel
theorem dX8_refusal_33 : decode cX8_refusal 33 = .ok (.ireturn, 1) := by decide +kernel
theorem dX8_refusal_34 : decode cX8_refusal 34 = .ok (.iload_n 1, 1) := by decide +kernel
theorem dX8_refusal_35 : decode cX8_refusal 35 = .ok (.ifCond .ne 10, 3) := by decide +kernel
theorem dX8_refusal_38 : decode cX8_refusal 38 = .ok (.aload_n 0, 1) := by decide +kernel
theorem dX8_refusal_39 : decode cX8_refusal 39 = .ok (.getfield 47, 3) := by decide +kernel
theorem dX8_refusal_42 : decode cX8_refusal 42 = .ok (.goto 19, 3) := by decide +kernel
theorem dX8_refusal_45 : decode cX8_refusal 45 = .ok (.iload_n 1, 1) := by decide +kernel
theorem dX8_refusal_46 : decode cX8_refusal 46 = .ok (.iconst 1, 1) := by decide +kernel
theorem dX8_refusal_47 : decode cX8_refusal 47 = .ok (.if_icmp .ne 10, 3) := by decide +kernel
theorem dX8_refusal_50 : decode cX8_refusal 50 = .ok (.aload_n 0, 1) := by decide +kernel
theorem dX8_refusal_51 : decode cX8_refusal 51 = .ok (.getfield 50, 3) := by decide +kernel
theorem dX8_refusal_54 : decode cX8_refusal 54 = .ok (.goto 7, 3) := by decide +kernel
theorem dX8_refusal_57 : decode cX8_refusal 57 = .ok (.aload_n 0, 1) := by decide +kernel
theorem dX8_refusal_58 : decode cX8_refusal 58 = .ok (.getfield 24, 3) := by decide +kernel
theorem dX8_refusal_61 : decode cX8_refusal 61 = .ok (.ireturn, 1) := by decide +kernel
theorem dX8_sumOver_0 : decode cX8_sumOver 0 = .ok (.iconst 0, 1) := by decide +kernel
theorem dX8_sumOver_1 : decode cX8_sumOver 1 = .ok (.istore_n 2, 1) := by decide +kernel
theorem dX8_sumOver_2 : decode cX8_sumOver 2 = .ok (.iconst 0, 1) := by decide +kernel
theorem dX8_sumOver_3 : decode cX8_sumOver 3 = .ok (.istore_n 3, 1) := by decide +kernel
theorem dX8_sumOver_4 : decode cX8_sumOver 4 = .ok (.iload_n 3, 1) := by decide +kernel
theorem dX8_sumOver_5 : decode cX8_sumOver 5 = .ok (.aload_n 0, 1) := by decide +kernel
theorem dX8_sumOver_6 : decode cX8_sumOver 6 = .ok (.getfield 9, 3) := by decide +kernel
theorem dX8_sumOver_9 : decode cX8_sumOver 9 = .ok (.iconst 0, 1) := by decide +kernel
theorem dX8_sumOver_10 : decode cX8_sumOver 10 = .ok (.iaload, 1) := by decide +kernel
theorem dX8_sumOver_11 : decode cX8_sumOver 11 = .ok (.if_icmp .ge 63, 3) := by decide +kernel
theorem dX8_sumOver_14 : decode cX8_sumOver 14 = .ok (.aload_n 0, 1) := by decide +kernel
theorem dX8_sumOver_15 : decode cX8_sumOver 15 = .ok (.iload_n 3, 1) := by decide +kernel
theorem dX8_sumOver_16 : decode cX8_sumOver 16 = .ok (.invokevirtual 83, 3) := by decide +kernel
theorem dX8_sumOver_19 : decode cX8_sumOver 19 = .ok (.ifCond .ge 7, 3) := by decide +kernel
theorem dX8_sumOver_22 : decode cX8_sumOver 22 = .ok (.iconst 1, 1) := by decide +kernel
theorem dX8_sumOver_23 : decode cX8_sumOver 23 = .ok (.goto 4, 3) := by decide +kernel
theorem dX8_sumOver_26 : decode cX8_sumOver 26 = .ok (.iconst 0, 1) := by decide +kernel
theorem dX8_sumOver_27 : decode cX8_sumOver 27 = .ok (.istore 4, 2) := by decide +kernel
theorem dX8_sumOver_29 : decode cX8_sumOver 29 = .ok (.iload_n 2, 1) := by decide +kernel
theorem dX8_sumOver_30 : decode cX8_sumOver 30 = .ok (.iload_n 1, 1) := by decide +kernel
theorem dX8_sumOver_31 : decode cX8_sumOver 31 = .ok (.iconst 2, 1) := by decide +kernel
theorem dX8_sumOver_32 : decode cX8_sumOver 32 = .ok (.if_icmp .ne 11, 3) := by decide +kernel
theorem dX8_sumOver_35 : decode cX8_sumOver 35 = .ok (.aload_n 0, 1) := by decide +kernel
theorem dX8_sumOver_36 : decode cX8_sumOver 36 = .ok (.iload_n 3, 1) := by decide +kernel
theorem dX8_sumOver_37 : decode cX8_sumOver 37 = .ok (.invokevirtual 75, 3) := by decide +kernel
theorem dX8_sumOver_40 : decode cX8_sumOver 40 = .ok (.goto 26, 3) := by decide +kernel
theorem dX8_sumOver_43 : decode cX8_sumOver 43 = .ok (.iload 4, 2) := by decide +kernel
theorem dX8_sumOver_45 : decode cX8_sumOver 45 = .ok (.ifCond .ne 7, 3) := by decide +kernel
theorem dX8_sumOver_48 : decode cX8_sumOver 48 = .ok (.iconst 0, 1) := by decide +kernel
theorem dX8_sumOver_49 : decode cX8_sumOver 49 = .ok (.goto 17, 3) := by decide +kernel
theorem dX8_sumOver_52 : decode cX8_sumOver 52 = .ok (.iload_n 1, 1) := by decide +kernel
theorem dX8_sumOver_53 : decode cX8_sumOver 53 = .ok (.iconst 1, 1) := by decide +kernel
theorem dX8_sumOver_54 : decode cX8_sumOver 54 = .ok (.if_icmp .ne 7, 3) := by decide +kernel
theorem dX8_sumOver_57 : decode cX8_sumOver 57 = .ok (.iconst 1, 1) := by decide +kernel
theorem dX8_sumOver_58 : decode cX8_sumOver 58 = .ok (.goto 8, 3) := by decide +kernel
theorem dX8_sumOver_61 : decode cX8_sumOver 61 = .ok (.aload_n 0, 1) := by decide +kernel
theorem dX8_sumOver_62 : decode cX8_sumOver 62 = .ok (.iload_n 3, 1) := by decide +kernel
theorem dX8_sumOver_63 : decode cX8_sumOver 63 = .ok (.invokevirtual 103, 3) := by decide +kernel
theorem dX8_sumOver_66 : decode cX8_sumOver 66 = .ok (.iadd, 1) := by decide +kernel
theorem dX8_sumOver_67 : decode cX8_sumOver 67 = .ok (.istore_n 2, 1) := by decide +kernel
theorem dX8_sumOver_68 : decode cX8_sumOver 68 = .ok (.iinc 3 1, 3) := by decide +kernel
theorem dX8_sumOver_71 : decode cX8_sumOver 71 = .ok (.goto (-67), 3) := by decide +kernel
theorem dX8_sumOver_74 : decode cX8_sumOver 74 = .ok (.iload_n 2, 1) := by decide +kernel
theorem dX8_sumOver_75 : decode cX8_sumOver 75 = .ok (.ireturn, 1) := by decide +kernel
theorem dX8_account_0 : decode cX8_account 0 = .ok (.iload_n 1, 1) := by decide +kernel
theorem dX8_account_1 : decode cX8_account 1 = .ok (.tableswitch 93 0 10 #[59, 66, 66, 66, 72, 72, 72, 72, 72, 83, 88], 59) := by decide +kernel
theorem dX8_account_60 : decode cX8_account 60 = .ok (.aload_n 0, 1) := by decide +kernel
theorem dX8_account_61 : decode cX8_account 61 = .ok (.getfield 9, 3) := by decide +kernel
theorem dX8_account_64 : decode cX8_account 64 = .ok (.iconst 0, 1) := by decide +kernel
theorem dX8_account_65 : decode cX8_account 65 = .ok (.iaload, 1) := by decide +kernel
theorem dX8_account_66 : decode cX8_account 66 = .ok (.ireturn, 1) := by decide +kernel
theorem dX8_account_67 : decode cX8_account 67 = .ok (.aload_n 0, 1) := by decide +kernel
theorem dX8_account_68 : decode cX8_account 68 = .ok (.iload_n 1, 1) := by decide +kernel
theorem dX8_account_69 : decode cX8_account 69 = .ok (.invokevirtual 249, 3) := by decide +kernel
theorem dX8_account_72 : decode cX8_account 72 = .ok (.ireturn, 1) := by decide +kernel
theorem dX8_account_73 : decode cX8_account 73 = .ok (.aload_n 0, 1) := by decide +kernel
theorem dX8_account_74 : decode cX8_account 74 = .ok (.getfield 9, 3) := by decide +kernel
theorem dX8_account_77 : decode cX8_account 77 = .ok (.iconst 4, 1) := by decide +kernel
theorem dX8_account_78 : decode cX8_account 78 = .ok (.iload_n 1, 1) := by decide +kernel
theorem dX8_account_79 : decode cX8_account 79 = .ok (.iadd, 1) := by decide +kernel
theorem dX8_account_80 : decode cX8_account 80 = .ok (.iconst 4, 1) := by decide +kernel
theorem dX8_account_81 : decode cX8_account 81 = .ok (.isub, 1) := by decide +kernel
theorem dX8_account_82 : decode cX8_account 82 = .ok (.iaload, 1) := by decide +kernel
theorem dX8_account_83 : decode cX8_account 83 = .ok (.ireturn, 1) := by decide +kernel
theorem dX8_account_84 : decode cX8_account 84 = .ok (.aload_n 0, 1) := by decide +kernel
theorem dX8_account_85 : decode cX8_account 85 = .ok (.getfield 176, 3) := by decide +kernel
theorem dX8_account_88 : decode cX8_account 88 = .ok (.ireturn, 1) := by decide +kernel
theorem dX8_account_89 : decode cX8_account 89 = .ok (.aload_n 0, 1) := by decide +kernel
theorem dX8_account_90 : decode cX8_account 90 = .ok (.getfield 60, 3) := by decide +kernel
theorem dX8_account_93 : decode cX8_account 93 = .ok (.ireturn, 1) := by decide +kernel
theorem dX8_account_94 : decode cX8_account 94 = .ok (.bipush (-2), 2) := by decide +kernel
theorem dX8_account_96 : decode cX8_account 96 = .ok (.ireturn, 1) := by decide +kernel
theorem dX8_isWell_0 : decode cX8_isWell 0 = .ok (.iconst 1, 1) := by decide +kernel
theorem dX8_isWell_1 : decode cX8_isWell 1 = .ok (.ireturn, 1) := by decide +kernel
theorem dX8_mean_0 : decode cX8_mean 0 = .ok (.iconst 0, 1) := by decide +kernel
theorem dX8_mean_1 : decode cX8_mean 1 = .ok (.istore_n 1, 1) := by decide +kernel
theorem dX8_mean_2 : decode cX8_mean 2 = .ok (.iconst 0, 1) := by decide +kernel
theorem dX8_mean_3 : decode cX8_mean 3 = .ok (.istore_n 2, 1) := by decide +kernel
theorem dX8_mean_4 : decode cX8_mean 4 = .ok (.iload_n 2, 1) := by decide +kernel
theorem dX8_mean_5 : decode cX8_mean 5 = .ok (.aload_n 0, 1) := by decide +kernel
theorem dX8_mean_6 : decode cX8_mean 6 = .ok (.getfield 9, 3) := by decide +kernel
theorem dX8_mean_9 : decode cX8_mean 9 = .ok (.iconst 0, 1) := by decide +kernel
theorem dX8_mean_10 : decode cX8_mean 10 = .ok (.iaload, 1) := by decide +kernel
theorem dX8_mean_11 : decode cX8_mean 11 = .ok (.if_icmp .ge 17, 3) := by decide +kernel
theorem dX8_mean_14 : decode cX8_mean 14 = .ok (.iload_n 1, 1) := by decide +kernel
theorem dX8_mean_15 : decode cX8_mean 15 = .ok (.aload_n 0, 1) := by decide +kernel
theorem dX8_mean_16 : decode cX8_mean 16 = .ok (.iload_n 2, 1) := by decide +kernel
theorem dX8_mean_17 : decode cX8_mean 17 = .ok (.invokevirtual 86, 3) := by decide +kernel
theorem dX8_mean_20 : decode cX8_mean 20 = .ok (.iadd, 1) := by decide +kernel
theorem dX8_mean_21 : decode cX8_mean 21 = .ok (.istore_n 1, 1) := by decide +kernel
theorem dX8_mean_22 : decode cX8_mean 22 = .ok (.iinc 2 1, 3) := by decide +kernel
theorem dX8_mean_25 : decode cX8_mean 25 = .ok (.goto (-21), 3) := by decide +kernel
theorem dX8_mean_28 : decode cX8_mean 28 = .ok (.aload_n 0, 1) := by decide +kernel
theorem dX8_mean_29 : decode cX8_mean 29 = .ok (.getfield 9, 3) := by decide +kernel
theorem dX8_mean_32 : decode cX8_mean 32 = .ok (.iconst 0, 1) := by decide +kernel
theorem dX8_mean_33 : decode cX8_mean 33 = .ok (.iaload, 1) := by decide +kernel
theorem dX8_mean_34 : decode cX8_mean 34 = .ok (.ifCond .ne 8, 3) := by decide +kernel
theorem dX8_mean_37 : decode cX8_mean 37 = .ok (.bipush (-4), 2) := by decide +kernel
theorem dX8_mean_39 : decode cX8_mean 39 = .ok (.goto 15, 3) := by decide +kernel
theorem dX8_mean_42 : decode cX8_mean 42 = .ok (.iload_n 1, 1) := by decide +kernel
theorem dX8_mean_43 : decode cX8_mean 43 = .ok (.i2f, 1) := by decide +kernel
theorem dX8_mean_44 : decode cX8_mean 44 = .ok (.aload_n 0, 1) := by decide +kernel
theorem dX8_mean_45 : decode cX8_mean 45 = .ok (.iconst 2, 1) := by decide +kernel
theorem dX8_mean_46 : decode cX8_mean 46 = .ok (.invokevirtual 249, 3) := by decide +kernel
theorem dX8_mean_49 : decode cX8_mean 49 = .ok (.i2f, 1) := by decide +kernel
theorem dX8_mean_50 : decode cX8_mean 50 = .ok (.fdiv, 1) := by decide +kernel
theorem dX8_mean_51 : decode cX8_mean 51 = .ok (.invokestatic 252, 3) := by decide +kernel
theorem dX8_mean_54 : decode cX8_mean 54 = .ok (.ireturn, 1) := by decide +kernel
theorem dX8_undo_0 : decode cX8_undo 0 = .ok (.aload_n 0, 1) := by decide +kernel
theorem dX8_undo_1 : decode cX8_undo 1 = .ok (.getfield 60, 3) := by decide +kernel
theorem dX8_undo_4 : decode cX8_undo 4 = .ok (.ifCond .ne 6, 3) := by decide +kernel
theorem dX8_undo_7 : decode cX8_undo 7 = .ok (.bipush (-4), 2) := by decide +kernel
theorem dX8_undo_9 : decode cX8_undo 9 = .ok (.ireturn, 1) := by decide +kernel
theorem dX8_undo_10 : decode cX8_undo 10 = .ok (.aload_n 0, 1) := by decide +kernel
theorem dX8_undo_11 : decode cX8_undo 11 = .ok (.dup, 1) := by decide +kernel
theorem dX8_undo_12 : decode cX8_undo 12 = .ok (.getfield 60, 3) := by decide +kernel
theorem dX8_undo_15 : decode cX8_undo 15 = .ok (.iconst 1, 1) := by decide +kernel
theorem dX8_undo_16 : decode cX8_undo 16 = .ok (.isub, 1) := by decide +kernel
theorem dX8_undo_17 : decode cX8_undo 17 = .ok (.putfield 60, 3) := by decide +kernel
theorem dX8_undo_20 : decode cX8_undo 20 = .ok (.aload_n 0, 1) := by decide +kernel
theorem dX8_undo_21 : decode cX8_undo 21 = .ok (.getfield 21, 3) := by decide +kernel
theorem dX8_undo_24 : decode cX8_undo 24 = .ok (.aload_n 0, 1) := by decide +kernel
theorem dX8_undo_25 : decode cX8_undo 25 = .ok (.getfield 60, 3) := by decide +kernel
theorem dX8_undo_28 : decode cX8_undo 28 = .ok (.aaload, 1) := by decide +kernel
theorem dX8_undo_29 : decode cX8_undo 29 = .ok (.aload_n 0, 1) := by decide +kernel
theorem dX8_undo_30 : decode cX8_undo 30 = .ok (.getfield 9, 3) := by decide +kernel
theorem dX8_undo_33 : decode cX8_undo 33 = .ok (.invokestatic 63, 3) := by decide +kernel
theorem dX8_undo_36 : decode cX8_undo 36 = .ok (.aload_n 0, 1) := by decide +kernel
theorem dX8_undo_37 : decode cX8_undo 37 = .ok (.getfield 60, 3) := by decide +kernel
theorem dX8_undo_40 : decode cX8_undo 40 = .ok (.ireturn, 1) := by decide +kernel
theorem dX8_save_0 : decode cX8_save 0 = .ok (.aload_n 0, 1) := by decide +kernel
theorem dX8_save_1 : decode cX8_save 1 = .ok (.iconst 1, 1) := by decide +kernel
theorem dX8_save_2 : decode cX8_save 2 = .ok (.putfield 258, 3) := by decide +kernel
theorem dX8_save_5 : decode cX8_save 5 = .ok (.aload_n 0, 1) := by decide +kernel
theorem dX8_save_6 : decode cX8_save 6 = .ok (.getfield 9, 3) := by decide +kernel
theorem dX8_save_9 : decode cX8_save 9 = .ok (.aload_n 0, 1) := by decide +kernel
theorem dX8_save_10 : decode cX8_save 10 = .ok (.getfield 13, 3) := by decide +kernel
theorem dX8_save_13 : decode cX8_save 13 = .ok (.invokestatic 63, 3) := by decide +kernel
theorem dX8_save_16 : decode cX8_save 16 = .ok (.aload_n 0, 1) := by decide +kernel
theorem dX8_save_17 : decode cX8_save 17 = .ok (.getfield 9, 3) := by decide +kernel
theorem dX8_save_20 : decode cX8_save 20 = .ok (.iconst 0, 1) := by decide +kernel
theorem dX8_save_21 : decode cX8_save 21 = .ok (.iaload, 1) := by decide +kernel
theorem dX8_save_22 : decode cX8_save 22 = .ok (.ireturn, 1) := by decide +kernel
theorem dX8_restore_0 : decode cX8_restore 0 = .ok (.aload_n 0, 1) := by decide +kernel
theorem dX8_restore_1 : decode cX8_restore 1 = .ok (.getfield 258, 3) := by decide +kernel
theorem dX8_restore_4 : decode cX8_restore 4 = .ok (.ifCond .ne 6, 3) := by decide +kernel
theorem dX8_restore_7 : decode cX8_restore 7 = .ok (.bipush (-4), 2) := by decide +kernel
theorem dX8_restore_9 : decode cX8_restore 9 = .ok (.ireturn, 1) := by decide +kernel
theorem dX8_restore_10 : decode cX8_restore 10 = .ok (.aload_n 0, 1) := by decide +kernel
theorem dX8_restore_11 : decode cX8_restore 11 = .ok (.getfield 13, 3) := by decide +kernel
theorem dX8_restore_14 : decode cX8_restore 14 = .ok (.aload_n 0, 1) := by decide +kernel
theorem dX8_restore_15 : decode cX8_restore 15 = .ok (.getfield 9, 3) := by decide +kernel
theorem dX8_restore_18 : decode cX8_restore 18 = .ok (.invokestatic 63, 3) := by decide +kernel
theorem dX8_restore_21 : decode cX8_restore 21 = .ok (.aload_n 0, 1) := by decide +kernel
theorem dX8_restore_22 : decode cX8_restore 22 = .ok (.iconst 0, 1) := by decide +kernel
theorem dX8_restore_23 : decode cX8_restore 23 = .ok (.putfield 60, 3) := by decide +kernel
theorem dX8_restore_26 : decode cX8_restore 26 = .ok (.aload_n 0, 1) := by decide +kernel
theorem dX8_restore_27 : decode cX8_restore 27 = .ok (.getfield 9, 3) := by decide +kernel
theorem dX8_restore_30 : decode cX8_restore 30 = .ok (.iconst 0, 1) := by decide +kernel
theorem dX8_restore_31 : decode cX8_restore 31 = .ok (.iaload, 1) := by decide +kernel
theorem dX8_restore_32 : decode cX8_restore 32 = .ok (.ireturn, 1) := by decide +kernel
