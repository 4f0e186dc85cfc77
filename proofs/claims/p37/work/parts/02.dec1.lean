theorem dX0_init_0 : decode cX0_init 0 = .ok (.aload_n 0, 1) := by decide +kernel
theorem dX0_init_1 : decode cX0_init 1 = .ok (.invokespecial 3, 3) := by decide +kernel
theorem dX0_init_4 : decode cX0_init 4 = .ok (.aload_n 0, 1) := by decide +kernel
theorem dX0_init_5 : decode cX0_init 5 = .ok (.sipush 512, 3) := by decide +kernel
theorem dX0_init_8 : decode cX0_init 8 = .ok (.newarray .int, 2) := by decide +kernel
theorem dX0_init_10 : decode cX0_init 10 = .ok (.putfield 9, 3) := by decide +kernel
theorem dX0_init_13 : decode cX0_init 13 = .ok (.aload_n 0, 1) := by decide +kernel
theorem dX0_init_14 : decode cX0_init 14 = .ok (.sipush 512, 3) := by decide +kernel
theorem dX0_init_17 : decode cX0_init 17 = .ok (.newarray .int, 2) := by decide +kernel
theorem dX0_init_19 : decode cX0_init 19 = .ok (.putfield 15, 3) := by decide +kernel
theorem dX0_init_22 : decode cX0_init 22 = .ok (.aload_n 0, 1) := by decide +kernel
theorem dX0_init_23 : decode cX0_init 23 = .ok (.bipush 9, 2) := by decide +kernel
theorem dX0_init_25 : decode cX0_init 25 = .ok (.newarray .int, 2) := by decide +kernel
theorem dX0_init_27 : decode cX0_init 27 = .ok (.putfield 18, 3) := by decide +kernel
theorem dX0_init_30 : decode cX0_init 30 = .ok (.return_, 1) := by decide +kernel
theorem dX0_countOnward_0 : decode cX0_countOnward 0 = .ok (.iload_n 1, 1) := by decide +kernel
theorem dX0_countOnward_1 : decode cX0_countOnward 1 = .ok (.invokestatic 21, 3) := by decide +kernel
theorem dX0_countOnward_4 : decode cX0_countOnward 4 = .ok (.ifCond .eq 10, 3) := by decide +kernel
theorem dX0_countOnward_7 : decode cX0_countOnward 7 = .ok (.iload_n 2, 1) := by decide +kernel
theorem dX0_countOnward_8 : decode cX0_countOnward 8 = .ok (.invokestatic 21, 3) := by decide +kernel
theorem dX0_countOnward_11 : decode cX0_countOnward 11 = .ok (.ifCond .ne 6, 3) := by decide +kernel
theorem dX0_countOnward_14 : decode cX0_countOnward 14 = .ok (.bipush (-4), 2) := by decide +kernel
theorem dX0_countOnward_16 : decode cX0_countOnward 16 = .ok (.ireturn, 1) := by decide +kernel
theorem dX0_countOnward_17 : decode cX0_countOnward 17 = .ok (.aload_n 0, 1) := by decide +kernel
theorem dX0_countOnward_18 : decode cX0_countOnward 18 = .ok (.iload_n 1, 1) := by decide +kernel
theorem dX0_countOnward_19 : decode cX0_countOnward 19 = .ok (.invokevirtual 25, 3) := by decide +kernel
theorem dX0_countOnward_22 : decode cX0_countOnward 22 = .ok (.iconst 0, 1) := by decide +kernel
theorem dX0_countOnward_23 : decode cX0_countOnward 23 = .ok (.istore_n 3, 1) := by decide +kernel
theorem dX0_countOnward_24 : decode cX0_countOnward 24 = .ok (.iload_n 3, 1) := by decide +kernel
theorem dX0_countOnward_25 : decode cX0_countOnward 25 = .ok (.aload_n 0, 1) := by decide +kernel
theorem dX0_countOnward_26 : decode cX0_countOnward 26 = .ok (.getfield 29, 3) := by decide +kernel
theorem dX0_countOnward_29 : decode cX0_countOnward 29 = .ok (.if_icmp .ge 38, 3) := by decide +kernel
theorem dX0_countOnward_32 : decode cX0_countOnward 32 = .ok (.iload_n 3, 1) := by decide +kernel
theorem dX0_countOnward_33 : decode cX0_countOnward 33 = .ok (.aload_n 0, 1) := by decide +kernel
theorem dX0_countOnward_34 : decode cX0_countOnward 34 = .ok (.getfield 15, 3) := by decide +kernel
theorem dX0_countOnward_37 : decode cX0_countOnward 37 = .ok (.arraylength, 1) := by decide +kernel
theorem dX0_countOnward_38 : decode cX0_countOnward 38 = .ok (.if_icmp .ge 29, 3) := by decide +kernel
theorem dX0_countOnward_41 : decode cX0_countOnward 41 = .ok (.aload_n 0, 1) := by decide +kernel
theorem dX0_countOnward_42 : decode cX0_countOnward 42 = .ok (.getfield 9, 3) := by decide +kernel
theorem dX0_countOnward_45 : decode cX0_countOnward 45 = .ok (.iload_n 2, 1) := by decide +kernel
theorem dX0_countOnward_46 : decode cX0_countOnward 46 = .ok (.iaload, 1) := by decide +kernel
theorem dX0_countOnward_47 : decode cX0_countOnward 47 = .ok (.iconst (-1), 1) := by decide +kernel
theorem dX0_countOnward_48 : decode cX0_countOnward 48 = .ok (.if_icmp .ne 19, 3) := by decide +kernel
theorem dX0_countOnward_51 : decode cX0_countOnward 51 = .ok (.aload_n 0, 1) := by decide +kernel
theorem dX0_countOnward_52 : decode cX0_countOnward 52 = .ok (.aload_n 0, 1) := by decide +kernel
theorem dX0_countOnward_53 : decode cX0_countOnward 53 = .ok (.getfield 15, 3) := by decide +kernel
theorem dX0_countOnward_56 : decode cX0_countOnward 56 = .ok (.iload_n 3, 1) := by decide +kernel
theorem dX0_countOnward_57 : decode cX0_countOnward 57 = .ok (.iaload, 1) := by decide +kernel
theorem dX0_countOnward_58 : decode cX0_countOnward 58 = .ok (.invokevirtual 33, 3) := by decide +kernel
theorem dX0_countOnward_61 : decode cX0_countOnward 61 = .ok (.iinc 3 1, 3) := by decide +kernel
theorem dX0_countOnward_64 : decode cX0_countOnward 64 = .ok (.goto (-40), 3) := by decide +kernel
theorem dX0_countOnward_67 : decode cX0_countOnward 67 = .ok (.aload_n 0, 1) := by decide +kernel
theorem dX0_countOnward_68 : decode cX0_countOnward 68 = .ok (.getfield 9, 3) := by decide +kernel
theorem dX0_countOnward_71 : decode cX0_countOnward 71 = .ok (.iload_n 2, 1) := by decide +kernel
theorem dX0_countOnward_72 : decode cX0_countOnward 72 = .ok (.iaload, 1) := by decide +kernel
theorem dX0_countOnward_73 : decode cX0_countOnward 73 = .ok (.iconst (-1), 1) := by decide +kernel
theorem dX0_countOnward_74 : decode cX0_countOnward 74 = .ok (.if_icmp .ne 8, 3) := by decide +kernel
theorem dX0_countOnward_77 : decode cX0_countOnward 77 = .ok (.bipush (-4), 2) := by decide +kernel
theorem dX0_countOnward_79 : decode cX0_countOnward 79 = .ok (.goto 9, 3) := by decide +kernel
theorem dX0_countOnward_82 : decode cX0_countOnward 82 = .ok (.aload_n 0, 1) := by decide +kernel
theorem dX0_countOnward_83 : decode cX0_countOnward 83 = .ok (.getfield 9, 3) := by decide +kernel
theorem dX0_countOnward_86 : decode cX0_countOnward 86 = .ok (.iload_n 2, 1) := by decide +kernel
theorem dX0_countOnward_87 : decode cX0_countOnward 87 = .ok (.iaload, 1) := by decide +kernel
theorem dX0_countOnward_88 : decode cX0_countOnward 88 = .ok (.ireturn, 1) := by decide +kernel
theorem dX0_countBack_0 : decode cX0_countBack 0 = .ok (.iload_n 1, 1) := by decide +kernel
theorem dX0_countBack_1 : decode cX0_countBack 1 = .ok (.invokestatic 21, 3) := by decide +kernel
theorem dX0_countBack_4 : decode cX0_countBack 4 = .ok (.ifCond .eq 10, 3) := by decide +kernel
theorem dX0_countBack_7 : decode cX0_countBack 7 = .ok (.iload_n 2, 1) := by decide +kernel
theorem dX0_countBack_8 : decode cX0_countBack 8 = .ok (.invokestatic 21, 3) := by decide +kernel
theorem dX0_countBack_11 : decode cX0_countBack 11 = .ok (.ifCond .ne 6, 3) := by decide +kernel
theorem dX0_countBack_14 : decode cX0_countBack 14 = .ok (.bipush (-4), 2) := by decide +kernel
theorem dX0_countBack_16 : decode cX0_countBack 16 = .ok (.ireturn, 1) := by decide +kernel
theorem dX0_countBack_17 : decode cX0_countBack 17 = .ok (.aload_n 0, 1) := by decide +kernel
theorem dX0_countBack_18 : decode cX0_countBack 18 = .ok (.iload_n 2, 1) := by decide +kernel
theorem dX0_countBack_19 : decode cX0_countBack 19 = .ok (.invokevirtual 25, 3) := by decide +kernel
theorem dX0_countBack_22 : decode cX0_countBack 22 = .ok (.iconst 0, 1) := by decide +kernel
theorem dX0_countBack_23 : decode cX0_countBack 23 = .ok (.istore_n 3, 1) := by decide +kernel
theorem dX0_countBack_24 : decode cX0_countBack 24 = .ok (.iload_n 3, 1) := by decide +kernel
theorem dX0_countBack_25 : decode cX0_countBack 25 = .ok (.aload_n 0, 1) := by decide +kernel
theorem dX0_countBack_26 : decode cX0_countBack 26 = .ok (.getfield 29, 3) := by decide +kernel
theorem dX0_countBack_29 : decode cX0_countBack 29 = .ok (.if_icmp .ge 38, 3) := by decide +kernel
theorem dX0_countBack_32 : decode cX0_countBack 32 = .ok (.iload_n 3, 1) := by decide +kernel
theorem dX0_countBack_33 : decode cX0_countBack 33 = .ok (.aload_n 0, 1) := by decide +kernel
theorem dX0_countBack_34 : decode cX0_countBack 34 = .ok (.getfield 15, 3) := by decide +kernel
theorem dX0_countBack_37 : decode cX0_countBack 37 = .ok (.arraylength, 1) := by decide +kernel
theorem dX0_countBack_38 : decode cX0_countBack 38 = .ok (.if_icmp .ge 29, 3) := by decide +kernel
theorem dX0_countBack_41 : decode cX0_countBack 41 = .ok (.aload_n 0, 1) := by decide +kernel
theorem dX0_countBack_42 : decode cX0_countBack 42 = .ok (.getfield 9, 3) := by decide +kernel
theorem dX0_countBack_45 : decode cX0_countBack 45 = .ok (.iload_n 1, 1) := by decide +kernel
theorem dX0_countBack_46 : decode cX0_countBack 46 = .ok (.iaload, 1) := by decide +kernel
theorem dX0_countBack_47 : decode cX0_countBack 47 = .ok (.iconst (-1), 1) := by decide +kernel
theorem dX0_countBack_48 : decode cX0_countBack 48 = .ok (.if_icmp .ne 19, 3) := by decide +kernel
theorem dX0_countBack_51 : decode cX0_countBack 51 = .ok (.aload_n 0, 1) := by decide +kernel
theorem dX0_countBack_52 : decode cX0_countBack 52 = .ok (.aload_n 0, 1) := by decide +kernel
theorem dX0_countBack_53 : decode cX0_countBack 53 = .ok (.getfield 15, 3) := by decide +kernel
theorem dX0_countBack_56 : decode cX0_countBack 56 = .ok (.iload_n 3, 1) := by decide +kernel
theorem dX0_countBack_57 : decode cX0_countBack 57 = .ok (.iaload, 1) := by decide +kernel
theorem dX0_countBack_58 : decode cX0_countBack 58 = .ok (.invokevirtual 36, 3) := by decide +kernel
theorem dX0_countBack_61 : decode cX0_countBack 61 = .ok (.iinc 3 1, 3) := by decide +kernel
theorem dX0_countBack_64 : decode cX0_countBack 64 = .ok (.goto (-40), 3) := by decide +kernel
theorem dX0_countBack_67 : decode cX0_countBack 67 = .ok (.aload_n 0, 1) := by decide +kernel
theorem dX0_countBack_68 : decode cX0_countBack 68 = .ok (.getfield 9, 3) := by decide +kernel
theorem dX0_countBack_71 : decode cX0_countBack 71 = .ok (.iload_n 1, 1) := by decide +kernel
theorem dX0_countBack_72 : decode cX0_countBack 72 = .ok (.iaload, 1) := by decide +kernel
theorem dX0_countBack_73 : decode cX0_countBack 73 = .ok (.iconst (-1), 1) := by decide +kernel
theorem dX0_countBack_74 : decode cX0_countBack 74 = .ok (.if_icmp .ne 8, 3) := by decide +kernel
theorem dX0_countBack_77 : decode cX0_countBack 77 = .ok (.bipush (-4), 2) := by decide +kernel
theorem dX0_countBack_79 : decode cX0_countBack 79 = .ok (.goto 9, 3) := by decide +kernel
theorem dX0_countBack_82 : decode cX0_countBack 82 = .ok (.aload_n 0, 1) := by decide +kernel
theorem dX0_countBack_83 : decode cX0_countBack 83 = .ok (.getfield 9, 3) := by decide +kernel
theorem dX0_countBack_86 : decode cX0_countBack 86 = .ok (.iload_n 1, 1) := by decide +kernel
theorem dX0_countBack_87 : decode cX0_countBack 87 = .ok (.iaload, 1) := by decide +kernel
theorem dX0_countBack_88 : decode cX0_countBack 88 = .ok (.ireturn, 1) := by decide +kernel
theorem dX0_find_0 : decode cX0_find 0 = .ok (.aload_n 0, 1) := by decide +kernel
theorem dX0_find_1 : decode cX0_find 1 = .ok (.iload_n 1, 1) := by decide +kernel
theorem dX0_find_2 : decode cX0_find 2 = .ok (.iload_n 2, 1) := by decide +kernel
theorem dX0_find_3 : decode cX0_find 3 = .ok (.invokevirtual 39, 3) := by decide +kernel
theorem dX0_find_6 : decode cX0_find 6 = .ok (.istore_n 3, 1) := by decide +kernel
theorem dX0_find_7 : decode cX0_find 7 = .ok (.iload_n 1, 1) := by decide +kernel
theorem dX0_find_8 : decode cX0_find 8 = .ok (.istore 4, 2) := by decide +kernel
theorem dX0_find_10 : decode cX0_find 10 = .ok (.iconst 0, 1) := by decide +kernel
theorem dX0_find_11 : decode cX0_find 11 = .ok (.istore 5, 2) := by decide +kernel
theorem dX0_find_13 : decode cX0_find 13 = .ok (.iload 5, 2) := by decide +kernel
theorem dX0_find_15 : decode cX0_find 15 = .ok (.iload_n 3, 1) := by decide +kernel
theorem dX0_find_16 : decode cX0_find 16 = .ok (.if_icmp .ge 51, 3) := by decide +kernel
theorem dX0_find_19 : decode cX0_find 19 = .ok (.iload 5, 2) := by decide +kernel
theorem dX0_find_21 : decode cX0_find 21 = .ok (.aload_n 0, 1) := by decide +kernel
theorem dX0_find_22 : decode cX0_find 22 = .ok (.getfield 18, 3) := by decide +kernel
theorem dX0_find_25 : decode cX0_find 25 = .ok (.arraylength, 1) := by decide +kernel
theorem dX0_find_26 : decode cX0_find 26 = .ok (.if_icmp .ge 41, 3) := by decide +kernel
theorem dX0_find_29 : decode cX0_find 29 = .ok (.aload_n 0, 1) := by decide +kernel
theorem dX0_find_30 : decode cX0_find 30 = .ok (.iload 4, 2) := by decide +kernel
theorem dX0_find_32 : decode cX0_find 32 = .ok (.iload_n 3, 1) := by decide +kernel
theorem dX0_find_33 : decode cX0_find 33 = .ok (.iload 5, 2) := by decide +kernel
theorem dX0_find_35 : decode cX0_find 35 = .ok (.isub, 1) := by decide +kernel
theorem dX0_find_36 : decode cX0_find 36 = .ok (.iconst 1, 1) := by decide +kernel
theorem dX0_find_37 : decode cX0_find 37 = .ok (.isub, 1) := by decide +kernel
theorem dX0_find_38 : decode cX0_find 38 = .ok (.invokevirtual 43, 3) := by decide +kernel
theorem dX0_find_41 : decode cX0_find 41 = .ok (.istore 6, 2) := by decide +kernel
theorem dX0_find_43 : decode cX0_find 43 = .ok (.aload_n 0, 1) := by decide +kernel
theorem dX0_find_44 : decode cX0_find 44 = .ok (.getfield 18, 3) := by decide +kernel
theorem dX0_find_47 : decode cX0_find 47 = .ok (.iload 5, 2) := by decide +kernel
theorem dX0_find_49 : decode cX0_find 49 = .ok (.iload 6, 2) := by decide +kernel
theorem dX0_find_51 : decode cX0_find 51 = .ok (.iastore, 1) := by decide +kernel
theorem dX0_find_52 : decode cX0_find 52 = .ok (.iload 4, 2) := by decide +kernel
theorem dX0_find_54 : decode cX0_find 54 = .ok (.iload 6, 2) := by decide +kernel
theorem dX0_find_56 : decode cX0_find 56 = .ok (.invokestatic 46, 3) := by decide +kernel
theorem dX0_find_59 : decode cX0_find 59 = .ok (.istore 4, 2) := by decide +kernel
theorem dX0_find_61 : decode cX0_find 61 = .ok (.iinc 5 1, 3) := by decide +kernel
theorem dX0_find_64 : decode cX0_find 64 = .ok (.goto (-51), 3) := by decide +kernel
theorem dX0_find_67 : decode cX0_find 67 = .ok (.iload_n 3, 1) := by decide +kernel
theorem dX0_find_68 : decode cX0_find 68 = .ok (.ireturn, 1) := by decide +kernel
theorem dX0_heightAt_0 : decode cX0_heightAt 0 = .ok (.iload_n 1, 1) := by decide +kernel
theorem dX0_heightAt_1 : decode cX0_heightAt 1 = .ok (.ifCond .lt 21, 3) := by decide +kernel
theorem dX0_heightAt_4 : decode cX0_heightAt 4 = .ok (.iload_n 1, 1) := by decide +kernel
theorem dX0_heightAt_5 : decode cX0_heightAt 5 = .ok (.aload_n 0, 1) := by decide +kernel
theorem dX0_heightAt_6 : decode cX0_heightAt 6 = .ok (.getfield 18, 3) := by decide +kernel
theorem dX0_heightAt_9 : decode cX0_heightAt 9 = .ok (.arraylength, 1) := by decide +kernel
theorem dX0_heightAt_10 : decode cX0_heightAt 10 = .ok (.if_icmp .ge 12, 3) := by decide +kernel
theorem dX0_heightAt_13 : decode cX0_heightAt 13 = .ok (.aload_n 0, 1) := by decide +kernel
theorem dX0_heightAt_14 : decode cX0_heightAt 14 = .ok (.getfield 18, 3) := by decide +kernel
theorem dX0_heightAt_17 : decode cX0_heightAt 17 = .ok (.iload_n 1, 1) := by decide +kernel
theorem dX0_heightAt_18 : decode cX0_heightAt 18 = .ok (.iaload, 1) := by decide +kernel
theorem dX0_heightAt_19 : decode cX0_heightAt 19 = .ok (.goto 4, 3) := by decide +kernel
theorem dX0_heightAt_22 : decode cX0_heightAt 22 = .ok (.iconst 0, 1) := by decide +kernel
theorem dX0_heightAt_23 : decode cX0_heightAt 23 = .ok (.ireturn, 1) := by decide +kernel
theorem dX0_lowestNearer_0 : decode cX0_lowestNearer 0 = .ok (.iconst 0, 1) := by decide +kernel
theorem dX0_lowestNearer_1 : decode cX0_lowestNearer 1 = .ok (.istore_n 3, 1) := by decide +kernel
theorem dX0_lowestNearer_2 : decode cX0_lowestNearer 2 = .ok (.iload_n 3, 1) := by decide +kernel
theorem dX0_lowestNearer_3 : decode cX0_lowestNearer 3 = .ok (.bipush 9, 2) := by decide +kernel
theorem dX0_lowestNearer_5 : decode cX0_lowestNearer 5 = .ok (.if_icmp .gt 45, 3) := by decide +kernel
theorem dX0_lowestNearer_8 : decode cX0_lowestNearer 8 = .ok (.iload_n 1, 1) := by decide +kernel
theorem dX0_lowestNearer_9 : decode cX0_lowestNearer 9 = .ok (.iload_n 3, 1) := by decide +kernel
theorem dX0_lowestNearer_10 : decode cX0_lowestNearer 10 = .ok (.invokestatic 49, 3) := by decide +kernel
theorem dX0_lowestNearer_13 : decode cX0_lowestNearer 13 = .ok (.ifCond .eq 31, 3) := by decide +kernel
theorem dX0_lowestNearer_16 : decode cX0_lowestNearer 16 = .ok (.iload_n 1, 1) := by decide +kernel
theorem dX0_lowestNearer_17 : decode cX0_lowestNearer 17 = .ok (.iload_n 3, 1) := by decide +kernel
theorem dX0_lowestNearer_18 : decode cX0_lowestNearer 18 = .ok (.invokestatic 46, 3) := by decide +kernel
theorem dX0_lowestNearer_21 : decode cX0_lowestNearer 21 = .ok (.istore 4, 2) := by decide +kernel
theorem dX0_lowestNearer_23 : decode cX0_lowestNearer 23 = .ok (.iload 4, 2) := by decide +kernel
theorem dX0_lowestNearer_25 : decode cX0_lowestNearer 25 = .ok (.invokestatic 21, 3) := by decide +kernel
theorem dX0_lowestNearer_28 : decode cX0_lowestNearer 28 = .ok (.ifCond .eq 16, 3) := by decide +kernel
theorem dX0_lowestNearer_31 : decode cX0_lowestNearer 31 = .ok (.aload_n 0, 1) := by decide +kernel
theorem dX0_lowestNearer_32 : decode cX0_lowestNearer 32 = .ok (.getfield 9, 3) := by decide +kernel
theorem dX0_lowestNearer_35 : decode cX0_lowestNearer 35 = .ok (.iload 4, 2) := by decide +kernel
theorem dX0_lowestNearer_37 : decode cX0_lowestNearer 37 = .ok (.iaload, 1) := by decide +kernel
theorem dX0_lowestNearer_38 : decode cX0_lowestNearer 38 = .ok (.iload_n 2, 1) := by decide +kernel
theorem dX0_lowestNearer_39 : decode cX0_lowestNearer 39 = .ok (.if_icmp .ne 5, 3) := by decide +kernel
theorem dX0_lowestNearer_42 : decode cX0_lowestNearer 42 = .ok (.iload_n 3, 1) := by decide +kernel
theorem dX0_lowestNearer_43 : decode cX0_lowestNearer 43 = .ok (.ireturn, 1) := by decide +kernel
theorem dX0_lowestNearer_44 : decode cX0_lowestNearer 44 = .ok (.iinc 3 1, 3) := by decide +kernel
theorem dX0_lowestNearer_47 : decode cX0_lowestNearer 47 = .ok (.goto (-45), 3) := by decide +kernel
theorem dX0_lowestNearer_50 : decode cX0_lowestNearer 50 = .ok (.iconst 0, 1) := by decide +kernel
theorem dX0_lowestNearer_51 : decode cX0_lowestNearer 51 = .ok (.ireturn, 1) := by decide +kernel
theorem dX0_startAt_0 : decode cX0_startAt 0 = .ok (.aload_n 0, 1) := by decide +kernel
theorem dX0_startAt_1 : decode cX0_startAt 1 = .ok (.getfield 9, 3) := by decide +kernel
theorem dX0_startAt_4 : decode cX0_startAt 4 = .ok (.iconst (-1), 1) := by decide +kernel
theorem dX0_startAt_5 : decode cX0_startAt 5 = .ok (.invokestatic 53, 3) := by decide +kernel
theorem dX0_startAt_8 : decode cX0_startAt 8 = .ok (.aload_n 0, 1) := by decide +kernel
theorem dX0_startAt_9 : decode cX0_startAt 9 = .ok (.iconst 0, 1) := by decide +kernel
theorem dX0_startAt_10 : decode cX0_startAt 10 = .ok (.putfield 29, 3) := by decide +kernel
theorem dX0_startAt_13 : decode cX0_startAt 13 = .ok (.aload_n 0, 1) := by decide +kernel
theorem dX0_startAt_14 : decode cX0_startAt 14 = .ok (.iload_n 1, 1) := by decide +kernel
theorem dX0_startAt_15 : decode cX0_startAt 15 = .ok (.iconst 0, 1) := by decide +kernel
theorem dX0_startAt_16 : decode cX0_startAt 16 = .ok (.invokevirtual 59, 3) := by decide +kernel
theorem dX0_startAt_19 : decode cX0_startAt 19 = .ok (.return_, 1) := by decide +kernel
theorem dX0_spreadOnward_0 : decode cX0_spreadOnward 0 = .ok (.iload_n 1, 1) := by decide +kernel
theorem dX0_spreadOnward_1 : decode cX0_spreadOnward 1 = .ok (.invokestatic 21, 3) := by decide +kernel
theorem dX0_spreadOnward_4 : decode cX0_spreadOnward 4 = .ok (.ifCond .ne 4, 3) := by decide +kernel
theorem dX0_spreadOnward_7 : decode cX0_spreadOnward 7 = .ok (.return_, 1) := by decide +kernel
theorem dX0_spreadOnward_8 : decode cX0_spreadOnward 8 = .ok (.iconst 0, 1) := by decide +kernel
theorem dX0_spreadOnward_9 : decode cX0_spreadOnward 9 = .ok (.istore_n 2, 1) := by decide +kernel
theorem dX0_spreadOnward_10 : decode cX0_spreadOnward 10 = .ok (.iload_n 2, 1) := by decide +kernel
theorem dX0_spreadOnward_11 : decode cX0_spreadOnward 11 = .ok (.bipush 9, 2) := by decide +kernel
theorem dX0_spreadOnward_13 : decode cX0_spreadOnward 13 = .ok (.if_icmp .gt 34, 3) := by decide +kernel
theorem dX0_spreadOnward_16 : decode cX0_spreadOnward 16 = .ok (.iload_n 1, 1) := by decide +kernel
theorem dX0_spreadOnward_17 : decode cX0_spreadOnward 17 = .ok (.iload_n 2, 1) := by decide +kernel
theorem dX0_spreadOnward_18 : decode cX0_spreadOnward 18 = .ok (.invokestatic 49, 3) := by decide +kernel
theorem dX0_spreadOnward_21 : decode cX0_spreadOnward 21 = .ok (.ifCond .eq 20, 3) := by decide +kernel
theorem dX0_spreadOnward_24 : decode cX0_spreadOnward 24 = .ok (.aload_n 0, 1) := by decide +kernel
theorem dX0_spreadOnward_25 : decode cX0_spreadOnward 25 = .ok (.iload_n 1, 1) := by decide +kernel
theorem dX0_spreadOnward_26 : decode cX0_spreadOnward 26 = .ok (.iload_n 2, 1) := by decide +kernel
theorem dX0_spreadOnward_27 : decode cX0_spreadOnward 27 = .ok (.invokestatic 46, 3) := by decide +kernel
theorem dX0_spreadOnward_30 : decode cX0_spreadOnward 30 = .ok (.aload_n 0, 1) := by decide +kernel
theorem dX0_spreadOnward_31 : decode cX0_spreadOnward 31 = .ok (.getfield 9, 3) := by decide +kernel
theorem dX0_spreadOnward_34 : decode cX0_spreadOnward 34 = .ok (.iload_n 1, 1) := by decide +kernel
theorem dX0_spreadOnward_35 : decode cX0_spreadOnward 35 = .ok (.iaload, 1) := by decide +kernel
theorem dX0_spreadOnward_36 : decode cX0_spreadOnward 36 = .ok (.iconst 1, 1) := by decide +kernel
theorem dX0_spreadOnward_37 : decode cX0_spreadOnward 37 = .ok (.iadd, 1) := by decide +kernel
theorem dX0_spreadOnward_38 : decode cX0_spreadOnward 38 = .ok (.invokevirtual 59, 3) := by decide +kernel
theorem dX0_spreadOnward_41 : decode cX0_spreadOnward 41 = .ok (.iinc 2 1, 3) := by decide +kernel
theorem dX0_spreadOnward_44 : decode cX0_spreadOnward 44 = .ok (.goto (-34), 3) := by decide +kernel
theorem dX0_spreadOnward_47 : decode cX0_spreadOnward 47 = .ok (.return_, 1) := by decide +kernel
theorem dX0_spreadBack_0 : decode cX0_spreadBack 0 = .ok (.iload_n 1, 1) := by decide +kernel
theorem dX0_spreadBack_1 : decode cX0_spreadBack 1 = .ok (.invokestatic 21, 3) := by decide +kernel
theorem dX0_spreadBack_4 : decode cX0_spreadBack 4 = .ok (.ifCond .ne 4, 3) := by decide +kernel
theorem dX0_spreadBack_7 : decode cX0_spreadBack 7 = .ok (.return_, 1) := by decide +kernel
theorem dX0_spreadBack_8 : decode cX0_spreadBack 8 = .ok (.aload_n 0, 1) := by decide +kernel
theorem dX0_spreadBack_9 : decode cX0_spreadBack 9 = .ok (.iload_n 1, 1) := by decide +kernel
theorem dX0_spreadBack_10 : decode cX0_spreadBack 10 = .ok (.iconst 1, 1) := by decide +kernel
theorem dX0_spreadBack_11 : decode cX0_spreadBack 11 = .ok (.ishl, 1) := by decide +kernel
theorem dX0_spreadBack_12 : decode cX0_spreadBack 12 = .ok (.aload_n 0, 1) := by decide +kernel
theorem dX0_spreadBack_13 : decode cX0_spreadBack 13 = .ok (.getfield 9, 3) := by decide +kernel
theorem dX0_spreadBack_16 : decode cX0_spreadBack 16 = .ok (.iload_n 1, 1) := by decide +kernel
theorem dX0_spreadBack_17 : decode cX0_spreadBack 17 = .ok (.iaload, 1) := by decide +kernel
theorem dX0_spreadBack_18 : decode cX0_spreadBack 18 = .ok (.iconst 1, 1) := by decide +kernel
theorem dX0_spreadBack_19 : decode cX0_spreadBack 19 = .ok (.iadd, 1) := by decide +kernel
theorem dX0_spreadBack_20 : decode cX0_spreadBack 20 = .ok (.invokevirtual 59, 3) := by decide +kernel
theorem dX0_spreadBack_23 : decode cX0_spreadBack 23 = .ok (.iconst 1, 1) := by decide +kernel
theorem dX0_spreadBack_24 : decode cX0_spreadBack 24 = .ok (.istore_n 2, 1) := by decide +kernel
theorem dX0_spreadBack_25 : decode cX0_spreadBack 25 = .ok (.iload_n 2, 1) := by decide +kernel
theorem dX0_spreadBack_26 : decode cX0_spreadBack 26 = .ok (.bipush 9, 2) := by decide +kernel
theorem dX0_spreadBack_28 : decode cX0_spreadBack 28 = .ok (.if_icmp .gt 40, 3) := by decide +kernel
theorem dX0_spreadBack_31 : decode cX0_spreadBack 31 = .ok (.iconst 1, 1) := by decide +kernel
theorem dX0_spreadBack_32 : decode cX0_spreadBack 32 = .ok (.iload_n 2, 1) := by decide +kernel
theorem dX0_spreadBack_33 : decode cX0_spreadBack 33 = .ok (.iconst 1, 1) := by decide +kernel
theorem dX0_spreadBack_34 : decode cX0_spreadBack 34 = .ok (.isub, 1) := by decide +kernel
theorem dX0_spreadBack_35 : decode cX0_spreadBack 35 = .ok (.ishl, 1) := by decide +kernel
theorem dX0_spreadBack_36 : decode cX0_spreadBack 36 = .ok (.istore_n 3, 1) := by decide +kernel
theorem dX0_spreadBack_37 : decode cX0_spreadBack 37 = .ok (.iload_n 1, 1) := by decide +kernel
theorem dX0_spreadBack_38 : decode cX0_spreadBack 38 = .ok (.iload_n 3, 1) := by decide +kernel
theorem dX0_spreadBack_39 : decode cX0_spreadBack 39 = .ok (.iand, 1) := by decide +kernel
theorem dX0_spreadBack_40 : decode cX0_spreadBack 40 = .ok (.ifCond .eq 22, 3) := by decide +kernel
theorem dX0_spreadBack_43 : decode cX0_spreadBack 43 = .ok (.aload_n 0, 1) := by decide +kernel
theorem dX0_spreadBack_44 : decode cX0_spreadBack 44 = .ok (.iload_n 1, 1) := by decide +kernel
theorem dX0_spreadBack_45 : decode cX0_spreadBack 45 = .ok (.iload_n 3, 1) := by decide +kernel
theorem dX0_spreadBack_46 : decode cX0_spreadBack 46 = .ok (.isub, 1) := by decide +kernel
theorem dX0_spreadBack_47 : decode cX0_spreadBack 47 = .ok (.iconst 1, 1) := by decide +kernel
theorem dX0_spreadBack_48 : decode cX0_spreadBack 48 = .ok (.ishl, 1) := by decide +kernel
theorem dX0_spreadBack_49 : decode cX0_spreadBack 49 = .ok (.iconst 1, 1) := by decide +kernel
theorem dX0_spreadBack_50 : decode cX0_spreadBack 50 = .ok (.ior, 1) := by decide +kernel
theorem dX0_spreadBack_51 : decode cX0_spreadBack 51 = .ok (.aload_n 0, 1) := by decide +kernel
theorem dX0_spreadBack_52 : decode cX0_spreadBack 52 = .ok (.getfield 9, 3) := by decide +kernel
theorem dX0_spreadBack_55 : decode cX0_spreadBack 55 = .ok (.iload_n 1, 1) := by decide +kernel
theorem dX0_spreadBack_56 : decode cX0_spreadBack 56 = .ok (.iaload, 1) := by decide +kernel
theorem dX0_spreadBack_57 : decode cX0_spreadBack 57 = .ok (.iconst 1, 1) := by decide +kernel
theorem dX0_spreadBack_58 : decode cX0_spreadBack 58 = .ok (.iadd, 1) := by decide +kernel
theorem dX0_spreadBack_59 : decode cX0_spreadBack 59 = .ok (.invokevirtual 59, 3) := by decide +kernel
theorem dX0_spreadBack_62 : decode cX0_spreadBack 62 = .ok (.iinc 2 1, 3) := by decide +kernel
theorem dX0_spreadBack_65 : decode cX0_spreadBack 65 = .ok (.goto (-40), 3) := by decide +kernel
theorem dX0_spreadBack_68 : decode cX0_spreadBack 68 = .ok (.return_, 1) := by decide +kernel
theorem dX0_reach_0 : decode cX0_reach 0 = .ok (.iload_n 1, 1) := by decide +kernel
theorem dX0_reach_1 : decode cX0_reach 1 = .ok (.ifCond .lt 31, 3) := by decide +kernel
theorem dX0_reach_4 : decode cX0_reach 4 = .ok (.iload_n 1, 1) := by decide +kernel
theorem dX0_reach_5 : decode cX0_reach 5 = .ok (.aload_n 0, 1) := by decide +kernel
theorem dX0_reach_6 : decode cX0_reach 6 = .ok (.getfield 9, 3) := by decide +kernel
theorem dX0_reach_9 : decode cX0_reach 9 = .ok (.arraylength, 1) := by decide +kernel
theorem dX0_reach_10 : decode cX0_reach 10 = .ok (.if_icmp .ge 22, 3) := by decide +kernel
theorem dX0_reach_13 : decode cX0_reach 13 = .ok (.aload_n 0, 1) := by decide +kernel
theorem dX0_reach_14 : decode cX0_reach 14 = .ok (.getfield 29, 3) := by decide +kernel
theorem dX0_reach_17 : decode cX0_reach 17 = .ok (.ifCond .lt 15, 3) := by decide +kernel
theorem dX0_reach_20 : decode cX0_reach 20 = .ok (.aload_n 0, 1) := by decide +kernel
theorem dX0_reach_21 : decode cX0_reach 21 = .ok (.getfield 29, 3) := by decide +kernel
theorem dX0_reach_24 : decode cX0_reach 24 = .ok (.aload_n 0, 1) := by decide +kernel
theorem dX0_reach_25 : decode cX0_reach 25 = .ok (.getfield 15, 3) := by decide +kernel
theorem dX0_reach_28 : decode cX0_reach 28 = .ok (.arraylength, 1) := by decide +kernel
theorem dX0_reach_29 : decode cX0_reach 29 = .ok (.if_icmp .lt 4, 3) := by decide +kernel
theorem dX0_reach_32 : decode cX0_reach 32 = .ok (.return_, 1) := by decide +kernel
theorem dX0_reach_33 : decode cX0_reach 33 = .ok (.aload_n 0, 1) := by decide +kernel
theorem dX0_reach_34 : decode cX0_reach 34 = .ok (.getfield 9, 3) := by decide +kernel
theorem dX0_reach_37 : decode cX0_reach 37 = .ok (.iload_n 1, 1) := by decide +kernel
theorem dX0_reach_38 : decode cX0_reach 38 = .ok (.iaload, 1) := by decide +kernel
theorem dX0_reach_39 : decode cX0_reach 39 = .ok (.iconst (-1), 1) := by decide +kernel
theorem dX0_reach_40 : decode cX0_reach 40 = .ok (.if_icmp .ne 30, 3) := by decide +kernel
theorem dX0_reach_43 : decode cX0_reach 43 = .ok (.aload_n 0, 1) := by decide +kernel
theorem dX0_reach_44 : decode cX0_reach 44 = .ok (.getfield 9, 3) := by decide +kernel
theorem dX0_reach_47 : decode cX0_reach 47 = .ok (.iload_n 1, 1) := by decide +kernel
theorem dX0_reach_48 : decode cX0_reach 48 = .ok (.iload_n 2, 1) := by decide +kernel
theorem dX0_reach_49 : decode cX0_reach 49 = .ok (.iastore, 1) := by decide +kernel
theorem dX0_reach_50 : decode cX0_reach 50 = .ok (.aload_n 0, 1) := by decide +kernel
theorem dX0_reach_51 : decode cX0_reach 51 = .ok (.getfield 15, 3) := by decide +kernel
theorem dX0_reach_54 : decode cX0_reach 54 = .ok (.aload_n 0, 1) := by decide +kernel
theorem dX0_reach_55 : decode cX0_reach 55 = .ok (.getfield 29, 3) := by decide +kernel
theorem dX0_reach_58 : decode cX0_reach 58 = .ok (.iload_n 1, 1) := by decide +kernel
theorem dX0_reach_59 : decode cX0_reach 59 = .ok (.iastore, 1) := by decide +kernel
theorem dX0_reach_60 : decode cX0_reach 60 = .ok (.aload_n 0, 1) := by decide +kernel
theorem dX0_reach_61 : decode cX0_reach 61 = .ok (.dup, 1) := by decide +kernel
theorem dX0_reach_62 : decode cX0_reach 62 = .ok (.getfield 29, 3) := by decide +kernel
theorem dX0_reach_65 : decode cX0_reach 65 = .ok (.iconst 1, 1) := by decide +kernel
theorem dX0_reach_66 : decode cX0_reach 66 = .ok (.iadd, 1) := by decide +kernel
theorem dX0_reach_67 : decode cX0_reach 67 = .ok (.putfield 29, 3) := by decide +kernel
theorem dX0_reach_70 : decode cX0_reach 70 = .ok (.return_, 1) := by decide +kernel
theorem dX0_isState_0 : decode cX0_isState 0 = .ok (.iload_n 0, 1) := by decide +kernel
theorem dX0_isState_1 : decode cX0_isState 1 = .ok (.ifCond .lt 14, 3) := by decide +kernel
theorem dX0_isState_4 : decode cX0_isState 4 = .ok (.iload_n 0, 1) := by decide +kernel
theorem dX0_isState_5 : decode cX0_isState 5 = .ok (.sipush 512, 3) := by decide +kernel
theorem dX0_isState_8 : decode cX0_isState 8 = .ok (.if_icmp .ge 7, 3) := by decide +kernel
theorem dX0_isState_11 : decode cX0_isState 11 = .ok (.iconst 1, 1) := by decide +kernel
theorem dX0_isState_12 : decode cX0_isState 12 = .ok (.goto 4, 3) := by decide +kernel
theorem dX0_isState_15 : decode cX0_isState 15 = .ok (.iconst 0, 1) := by decide +kernel
theorem dX0_isState_16 : decode cX0_isState 16 = .ok (.ireturn, 1) := by decide +kernel
theorem dX1_init_0 : decode cX1_init 0 = .ok (.aload_n 0, 1) := by decide +kernel
theorem dX1_init_1 : decode cX1_init 1 = .ok (.invokespecial 3, 3) := by decide +kernel
theorem dX1_init_4 : decode cX1_init 4 = .ok (.aload_n 0, 1) := by decide +kernel
theorem dX1_init_5 : decode cX1_init 5 = .ok (.bipush 10, 2) := by decide +kernel
theorem dX1_init_7 : decode cX1_init 7 = .ok (.newarray .char, 2) := by decide +kernel
theorem dX1_init_9 : decode cX1_init 9 = .ok (.putfield 9, 3) := by decide +kernel
theorem dX1_init_12 : decode cX1_init 12 = .ok (.return_, 1) := by decide +kernel
theorem dX1_clear_0 : decode cX1_clear 0 = .ok (.aload_n 0, 1) := by decide +kernel
theorem dX1_clear_1 : decode cX1_clear 1 = .ok (.iconst 0, 1) := by decide +kernel
theorem dX1_clear_2 : decode cX1_clear 2 = .ok (.putfield 15, 3) := by decide +kernel
theorem dX1_clear_5 : decode cX1_clear 5 = .ok (.return_, 1) := by decide +kernel
theorem dX1_put_0 : decode cX1_put 0 = .ok (.aload_n 0, 1) := by decide +kernel
theorem dX1_put_1 : decode cX1_put 1 = .ok (.getfield 15, 3) := by decide +kernel
theorem dX1_put_4 : decode cX1_put 4 = .ok (.ifCond .lt 35, 3) := by decide +kernel
theorem dX1_put_7 : decode cX1_put 7 = .ok (.aload_n 0, 1) := by decide +kernel
theorem dX1_put_8 : decode cX1_put 8 = .ok (.getfield 15, 3) := by decide +kernel
theorem dX1_put_11 : decode cX1_put 11 = .ok (.aload_n 0, 1) := by decide +kernel
theorem dX1_put_12 : decode cX1_put 12 = .ok (.getfield 9, 3) := by decide +kernel
theorem dX1_put_15 : decode cX1_put 15 = .ok (.arraylength, 1) := by decide +kernel
theorem dX1_put_16 : decode cX1_put 16 = .ok (.if_icmp .ge 23, 3) := by decide +kernel
theorem dX1_put_19 : decode cX1_put 19 = .ok (.aload_n 0, 1) := by decide +kernel
theorem dX1_put_20 : decode cX1_put 20 = .ok (.getfield 9, 3) := by decide +kernel
theorem dX1_put_23 : decode cX1_put 23 = .ok (.aload_n 0, 1) := by decide +kernel
theorem dX1_put_24 : decode cX1_put 24 = .ok (.getfield 15, 3) := by decide +kernel
theorem dX1_put_27 : decode cX1_put 27 = .ok (.iload_n 1, 1) := by decide +kernel
theorem dX1_put_28 : decode cX1_put 28 = .ok (.castore, 1) := by decide +kernel
theorem dX1_put_29 : decode cX1_put 29 = .ok (.aload_n 0, 1) := by decide +kernel
theorem dX1_put_30 : decode cX1_put 30 = .ok (.dup, 1) := by decide +kernel
theorem dX1_put_31 : decode cX1_put 31 = .ok (.getfield 15, 3) := by decide +kernel
theorem dX1_put_34 : decode cX1_put 34 = .ok (.iconst 1, 1) := by decide +kernel
theorem dX1_put_35 : decode cX1_put 35 = .ok (.iadd, 1) := by decide +kernel
theorem dX1_put_36 : decode cX1_put 36 = .ok (.putfield 15, 3) := by decide +kernel
theorem dX1_put_39 : decode cX1_put 39 = .ok (.return_, 1) := by decide +kernel
theorem dX1_putDigit_0 : decode cX1_putDigit 0 = .ok (.aload_n 0, 1) := by decide +kernel
theorem dX1_putDigit_1 : decode cX1_putDigit 1 = .ok (.bipush 48, 2) := by decide +kernel
theorem dX1_putDigit_3 : decode cX1_putDigit 3 = .ok (.iload_n 1, 1) := by decide +kernel
theorem dX1_putDigit_4 : decode cX1_putDigit 4 = .ok (.iadd, 1) := by decide +kernel
theorem dX1_putDigit_5 : decode cX1_putDigit 5 = .ok (.i2c, 1) := by decide +kernel
theorem dX1_putDigit_6 : decode cX1_putDigit 6 = .ok (.invokevirtual 19, 3) := by decide +kernel
theorem dX1_putDigit_9 : decode cX1_putDigit 9 = .ok (.return_, 1) := by decide +kernel
theorem dX2_init_0 : decode cX2_init 0 = .ok (.aload_n 0, 1) := by decide +kernel
theorem dX2_init_1 : decode cX2_init 1 = .ok (.invokespecial 3, 3) := by decide +kernel
theorem dX2_init_4 : decode cX2_init 4 = .ok (.aload_n 0, 1) := by decide +kernel
theorem dX2_init_5 : decode cX2_init 5 = .ok (.bipush 8, 2) := by decide +kernel
theorem dX2_init_7 : decode cX2_init 7 = .ok (.anewarray 9, 3) := by decide +kernel
theorem dX2_init_10 : decode cX2_init 10 = .ok (.putfield 11, 3) := by decide +kernel
theorem dX2_init_13 : decode cX2_init 13 = .ok (.iconst 0, 1) := by decide +kernel
theorem dX2_init_14 : decode cX2_init 14 = .ok (.istore_n 1, 1) := by decide +kernel
theorem dX2_init_15 : decode cX2_init 15 = .ok (.iload_n 1, 1) := by decide +kernel
theorem dX2_init_16 : decode cX2_init 16 = .ok (.aload_n 0, 1) := by decide +kernel
theorem dX2_init_17 : decode cX2_init 17 = .ok (.getfield 11, 3) := by decide +kernel
theorem dX2_init_20 : decode cX2_init 20 = .ok (.arraylength, 1) := by decide +kernel
theorem dX2_init_21 : decode cX2_init 21 = .ok (.if_icmp .ge 22, 3) := by decide +kernel
theorem dX2_init_24 : decode cX2_init 24 = .ok (.aload_n 0, 1) := by decide +kernel
theorem dX2_init_25 : decode cX2_init 25 = .ok (.getfield 11, 3) := by decide +kernel
theorem dX2_init_28 : decode cX2_init 28 = .ok (.iload_n 1, 1) := by decide +kernel
theorem dX2_init_29 : decode cX2_init 29 = .ok (.new 9, 3) := by decide +kernel
theorem dX2_init_32 : decode cX2_init 32 = .ok (.dup, 1) := by decide +kernel
theorem dX2_init_33 : decode cX2_init 33 = .ok (.invokespecial 17, 3) := by decide +kernel
theorem dX2_init_36 : decode cX2_init 36 = .ok (.aastore, 1) := by decide +kernel
theorem dX2_init_37 : decode cX2_init 37 = .ok (.iinc 1 1, 3) := by decide +kernel
theorem dX2_init_40 : decode cX2_init 40 = .ok (.goto (-25), 3) := by decide +kernel
theorem dX2_init_43 : decode cX2_init 43 = .ok (.return_, 1) := by decide +kernel
theorem dX2_keep_0 : decode cX2_keep 0 = .ok (.aload_n 0, 1) := by decide +kernel
theorem dX2_keep_1 : decode cX2_keep 1 = .ok (.getfield 18, 3) := by decide +kernel
theorem dX2_keep_4 : decode cX2_keep 4 = .ok (.ifCond .lt 15, 3) := by decide +kernel
theorem dX2_keep_7 : decode cX2_keep 7 = .ok (.aload_n 0, 1) := by decide +kernel
theorem dX2_keep_8 : decode cX2_keep 8 = .ok (.getfield 18, 3) := by decide +kernel
theorem dX2_keep_11 : decode cX2_keep 11 = .ok (.aload_n 0, 1) := by decide +kernel
theorem dX2_keep_12 : decode cX2_keep 12 = .ok (.getfield 11, 3) := by decide +kernel
theorem dX2_keep_15 : decode cX2_keep 15 = .ok (.arraylength, 1) := by decide +kernel
theorem dX2_keep_16 : decode cX2_keep 16 = .ok (.if_icmp .lt 4, 3) := by decide +kernel
theorem dX2_keep_19 : decode cX2_keep 19 = .ok (.return_, 1) := by decide +kernel
theorem dX2_keep_20 : decode cX2_keep 20 = .ok (.aload_n 0, 1) := by decide +kernel
theorem dX2_keep_21 : decode cX2_keep 21 = .ok (.getfield 11, 3) := by decide +kernel
theorem dX2_keep_24 : decode cX2_keep 24 = .ok (.aload_n 0, 1) := by decide +kernel
theorem dX2_keep_25 : decode cX2_keep 25 = .ok (.getfield 18, 3) := by decide +kernel
theorem dX2_keep_28 : decode cX2_keep 28 = .ok (.aaload, 1) := by decide +kernel
theorem dX2_keep_29 : decode cX2_keep 29 = .ok (.astore_n 2, 1) := by decide +kernel
theorem dX2_keep_30 : decode cX2_keep 30 = .ok (.aload_n 2, 1) := by decide +kernel
theorem dX2_keep_31 : decode cX2_keep 31 = .ok (.ifnonnull 4, 3) := by decide +kernel
theorem dX2_keep_34 : decode cX2_keep 34 = .ok (.return_, 1) := by decide +kernel
theorem dX2_keep_35 : decode cX2_keep 35 = .ok (.aload_n 2, 1) := by decide +kernel
theorem dX2_keep_36 : decode cX2_keep 36 = .ok (.aload_n 1, 1) := by decide +kernel
theorem dX2_keep_37 : decode cX2_keep 37 = .ok (.invokevirtual 22, 3) := by decide +kernel
theorem dX2_keep_40 : decode cX2_keep 40 = .ok (.aload_n 0, 1) := by decide +kernel
theorem dX2_keep_41 : decode cX2_keep 41 = .ok (.aload_n 0, 1) := by decide +kernel
theorem dX2_keep_42 : decode cX2_keep 42 = .ok (.getfield 18, 3) := by decide +kernel
theorem dX2_keep_45 : decode cX2_keep 45 = .ok (.iconst 1, 1) := by decide +kernel
theorem dX2_keep_46 : decode cX2_keep 46 = .ok (.iadd, 1) := by decide +kernel
theorem dX2_keep_47 : decode cX2_keep 47 = .ok (.aload_n 0, 1) := by decide +kernel
theorem dX2_keep_48 : decode cX2_keep 48 = .ok (.getfield 11, 3) := by decide +kernel
theorem dX2_keep_51 : decode cX2_keep 51 = .ok (.arraylength, 1) := by decide +kernel
theorem dX2_keep_52 : decode cX2_keep 52 = .ok (.if_icmp .ge 12, 3) := by decide +kernel
theorem dX2_keep_55 : decode cX2_keep 55 = .ok (.aload_n 0, 1) := by decide +kernel
theorem dX2_keep_56 : decode cX2_keep 56 = .ok (.getfield 18, 3) := by decide +kernel
theorem dX2_keep_59 : decode cX2_keep 59 = .ok (.iconst 1, 1) := by decide +kernel
theorem dX2_keep_60 : decode cX2_keep 60 = .ok (.iadd, 1) := by decide +kernel
theorem dX2_keep_61 : decode cX2_keep 61 = .ok (.goto 4, 3) := by decide +kernel
theorem dX2_keep_64 : decode cX2_keep 64 = .ok (.iconst 0, 1) := by decide +kernel
theorem dX2_keep_65 : decode cX2_keep 65 = .ok (.putfield 18, 3) := by decide +kernel
theorem dX2_keep_68 : decode cX2_keep 68 = .ok (.aload_n 0, 1) := by decide +kernel
theorem dX2_keep_69 : decode cX2_keep 69 = .ok (.aload_n 0, 1) := by decide +kernel
theorem dX2_keep_70 : decode cX2_keep 70 = .ok (.getfield 26, 3) := by decide +kernel
theorem dX2_keep_73 : decode cX2_keep 73 = .ok (.iconst 1, 1) := by decide +kernel
theorem dX2_keep_74 : decode cX2_keep 74 = .ok (.iadd, 1) := by decide +kernel
theorem dX2_keep_75 : decode cX2_keep 75 = .ok (.bipush 8, 2) := by decide +kernel
theorem dX2_keep_77 : decode cX2_keep 77 = .ok (.invokestatic 29, 3) := by decide +kernel
theorem dX2_keep_80 : decode cX2_keep 80 = .ok (.putfield 26, 3) := by decide +kernel
theorem dX2_keep_83 : decode cX2_keep 83 = .ok (.return_, 1) := by decide +kernel
theorem dX2_takeBack_0 : decode cX2_takeBack 0 = .ok (.aload_n 0, 1) := by decide +kernel
theorem dX2_takeBack_1 : decode cX2_takeBack 1 = .ok (.getfield 18, 3) := by decide +kernel
theorem dX2_takeBack_4 : decode cX2_takeBack 4 = .ok (.ifCond .le 12, 3) := by decide +kernel
theorem dX2_takeBack_7 : decode cX2_takeBack 7 = .ok (.aload_n 0, 1) := by decide +kernel
theorem dX2_takeBack_8 : decode cX2_takeBack 8 = .ok (.getfield 18, 3) := by decide +kernel
theorem dX2_takeBack_11 : decode cX2_takeBack 11 = .ok (.iconst 1, 1) := by decide +kernel
theorem dX2_takeBack_12 : decode cX2_takeBack 12 = .ok (.isub, 1) := by decide +kernel
theorem dX2_takeBack_13 : decode cX2_takeBack 13 = .ok (.goto 10, 3) := by decide +kernel
theorem dX2_takeBack_16 : decode cX2_takeBack 16 = .ok (.aload_n 0, 1) := by decide +kernel
theorem dX2_takeBack_17 : decode cX2_takeBack 17 = .ok (.getfield 11, 3) := by decide +kernel
theorem dX2_takeBack_20 : decode cX2_takeBack 20 = .ok (.arraylength, 1) := by decide +kernel
theorem dX2_takeBack_21 : decode cX2_takeBack 21 = .ok (.iconst 1, 1) := by decide +kernel
theorem dX2_takeBack_22 : decode cX2_takeBack 22 = .ok (.isub, 1) := by decide +kernel
theorem dX2_takeBack_23 : decode cX2_takeBack 23 = .ok (.istore_n 2, 1) := by decide +kernel
theorem dX2_takeBack_24 : decode cX2_takeBack 24 = .ok (.aload_n 0, 1) := by decide +kernel
theorem dX2_takeBack_25 : decode cX2_takeBack 25 = .ok (.getfield 26, 3) := by decide +kernel
theorem dX2_takeBack_28 : decode cX2_takeBack 28 = .ok (.ifCond .le 12, 3) := by decide +kernel
theorem dX2_takeBack_31 : decode cX2_takeBack 31 = .ok (.iload_n 2, 1) := by decide +kernel
theorem dX2_takeBack_32 : decode cX2_takeBack 32 = .ok (.aload_n 0, 1) := by decide +kernel
theorem dX2_takeBack_33 : decode cX2_takeBack 33 = .ok (.getfield 11, 3) := by decide +kernel
theorem dX2_takeBack_36 : decode cX2_takeBack 36 = .ok (.arraylength, 1) := by decide +kernel
theorem dX2_takeBack_37 : decode cX2_takeBack 37 = .ok (.if_icmp .lt 5, 3) := by decide +kernel
theorem dX2_takeBack_40 : decode cX2_takeBack 40 = .ok (.iconst 0, 1) := by decide +kernel
theorem dX2_takeBack_41 : decode cX2_takeBack 41 = .ok (.ireturn, 1) := by decide +kernel
theorem dX2_takeBack_42 : decode cX2_takeBack 42 = .ok (.aload_n 0, 1) := by decide +kernel
theorem dX2_takeBack_43 : decode cX2_takeBack 43 = .ok (.getfield 11, 3) := by decide +kernel
theorem dX2_takeBack_46 : decode cX2_takeBack 46 = .ok (.iload_n 2, 1) := by decide +kernel
theorem dX2_takeBack_47 : decode cX2_takeBack 47 = .ok (.aaload, 1) := by decide +kernel
theorem dX2_takeBack_48 : decode cX2_takeBack 48 = .ok (.astore_n 3, 1) := by decide +kernel
theorem dX2_takeBack_49 : decode cX2_takeBack 49 = .ok (.aload_n 3, 1) := by decide +kernel
theorem dX2_takeBack_50 : decode cX2_takeBack 50 = .ok (.ifnonnull 5, 3) := by decide +kernel
theorem dX2_takeBack_53 : decode cX2_takeBack 53 = .ok (.iconst 0, 1) := by decide +kernel
theorem dX2_takeBack_54 : decode cX2_takeBack 54 = .ok (.ireturn, 1) := by decide +kernel
theorem dX2_takeBack_55 : decode cX2_takeBack 55 = .ok (.aload_n 1, 1) := by decide +kernel
theorem dX2_takeBack_56 : decode cX2_takeBack 56 = .ok (.aload_n 3, 1) := by decide +kernel
theorem dX2_takeBack_57 : decode cX2_takeBack 57 = .ok (.invokevirtual 22, 3) := by decide +kernel
theorem dX2_takeBack_60 : decode cX2_takeBack 60 = .ok (.aload_n 0, 1) := by decide +kernel
theorem dX2_takeBack_61 : decode cX2_takeBack 61 = .ok (.iload_n 2, 1) := by decide +kernel
theorem dX2_takeBack_62 : decode cX2_takeBack 62 = .ok (.putfield 18, 3) := by decide +kernel
theorem dX2_takeBack_65 : decode cX2_takeBack 65 = .ok (.aload_n 0, 1) := by decide +kernel
theorem dX2_takeBack_66 : decode cX2_takeBack 66 = .ok (.dup, 1) := by decide +kernel
theorem dX2_takeBack_67 : decode cX2_takeBack 67 = .ok (.getfield 26, 3) := by decide +kernel
theorem dX2_takeBack_70 : decode cX2_takeBack 70 = .ok (.iconst 1, 1) := by decide +kernel
theorem dX2_takeBack_71 : decode cX2_takeBack 71 = .ok (.isub, 1) := by decide +kernel
theorem dX2_takeBack_72 : decode cX2_takeBack 72 = .ok (.putfield 26, 3) := by decide +kernel
theorem dX2_takeBack_75 : decode cX2_takeBack 75 = .ok (.iconst 1, 1) := by decide +kernel
theorem dX2_takeBack_76 : decode cX2_takeBack 76 = .ok (.ireturn, 1) := by decide +kernel
theorem dX2_forget_0 : decode cX2_forget 0 = .ok (.aload_n 0, 1) := by decide +kernel
theorem dX2_forget_1 : decode cX2_forget 1 = .ok (.iconst 0, 1) := by decide +kernel
theorem dX2_forget_2 : decode cX2_forget 2 = .ok (.putfield 26, 3) := by decide +kernel
theorem dX2_forget_5 : decode cX2_forget 5 = .ok (.return_, 1) := by decide +kernel
theorem dX3_init_0 : decode cX3_init 0 = .ok (.aload_n 0, 1) := by decide +kernel
theorem dX3_init_1 : decode cX3_init 1 = .ok (.invokespecial 3, 3) := by decide +kernel
theorem dX3_init_4 : decode cX3_init 4 = .ok (.aload_n 0, 1) := by decide +kernel
theorem dX3_init_5 : decode cX3_init 5 = .ok (.bipush (-4), 2) := by decide +kernel
theorem dX3_init_7 : decode cX3_init 7 = .ok (.putfield 9, 3) := by decide +kernel
theorem dX3_init_10 : decode cX3_init 10 = .ok (.return_, 1) := by decide +kernel
theorem dX3_refuse_0 : decode cX3_refuse 0 = .ok (.aload_n 0, 1) := by decide +kernel
theorem dX3_refuse_1 : decode cX3_refuse 1 = .ok (.iload_n 1, 1) := by decide +kernel
theorem dX3_refuse_2 : decode cX3_refuse 2 = .ok (.putfield 15, 3) := by decide +kernel
theorem dX3_refuse_5 : decode cX3_refuse 5 = .ok (.aload_n 0, 1) := by decide +kernel
theorem dX3_refuse_6 : decode cX3_refuse 6 = .ok (.iload_n 2, 1) := by decide +kernel
theorem dX3_refuse_7 : decode cX3_refuse 7 = .ok (.putfield 18, 3) := by decide +kernel
theorem dX3_refuse_10 : decode cX3_refuse 10 = .ok (.aload_n 0, 1) := by decide +kernel
theorem dX3_refuse_11 : decode cX3_refuse 11 = .ok (.aload_n 0, 1) := by decide +kernel
theorem dX3_refuse_12 : decode cX3_refuse 12 = .ok (.getfield 9, 3) := by decide +kernel
theorem dX3_refuse_15 : decode cX3_refuse 15 = .ok (.putfield 21, 3) := by decide +kernel
theorem dX3_refuse_18 : decode cX3_refuse 18 = .ok (.bipush (-3), 2) := by decide +kernel
theorem dX3_refuse_20 : decode cX3_refuse 20 = .ok (.ireturn, 1) := by decide +kernel
theorem dX4_init_0 : decode cX4_init 0 = .ok (.aload_n 0, 1) := by decide +kernel
theorem dX4_init_1 : decode cX4_init 1 = .ok (.invokespecial 3, 3) := by decide +kernel
theorem dX4_init_4 : decode cX4_init 4 = .ok (.aload_n 0, 1) := by decide +kernel
theorem dX4_init_5 : decode cX4_init 5 = .ok (.bipush 8, 2) := by decide +kernel
theorem dX4_init_7 : decode cX4_init 7 = .ok (.newarray .int, 2) := by decide +kernel
theorem dX4_init_9 : decode cX4_init 9 = .ok (.putfield 9, 3) := by decide +kernel
theorem dX4_init_12 : decode cX4_init 12 = .ok (.return_, 1) := by decide +kernel
theorem dX4_copyThrows_0 : decode cX4_copyThrows 0 = .ok (.aload_n 0, 1) := by decide +kernel
theorem dX4_copyThrows_1 : decode cX4_copyThrows 1 = .ok (.aload_n 1, 1) := by decide +kernel
theorem dX4_copyThrows_2 : decode cX4_copyThrows 2 = .ok (.getfield 15, 3) := by decide +kernel
theorem dX4_copyThrows_5 : decode cX4_copyThrows 5 = .ok (.putfield 15, 3) := by decide +kernel
theorem dX4_copyThrows_8 : decode cX4_copyThrows 8 = .ok (.aload_n 1, 1) := by decide +kernel
theorem dX4_copyThrows_9 : decode cX4_copyThrows 9 = .ok (.getfield 9, 3) := by decide +kernel
theorem dX4_copyThrows_12 : decode cX4_copyThrows 12 = .ok (.iconst 0, 1) := by decide +kernel
theorem dX4_copyThrows_13 : decode cX4_copyThrows 13 = .ok (.aload_n 0, 1) := by decide +kernel
theorem dX4_copyThrows_14 : decode cX4_copyThrows 14 = .ok (.getfield 9, 3) := by decide +kernel
theorem dX4_copyThrows_17 : decode cX4_copyThrows 17 = .ok (.iconst 0, 1) := by decide +kernel
theorem dX4_copyThrows_18 : decode cX4_copyThrows 18 = .ok (.bipush 8, 2) := by decide +kernel
theorem dX4_copyThrows_20 : decode cX4_copyThrows 20 = .ok (.invokestatic 19, 3) := by decide +kernel
theorem dX4_copyThrows_23 : decode cX4_copyThrows 23 = .ok (.return_, 1) := by decide +kernel
theorem dX4_fill_0 : decode cX4_fill 0 = .ok (.aload_n 0, 1) := by decide +kernel
theorem dX4_fill_1 : decode cX4_fill 1 = .ok (.iload_n 2, 1) := by decide +kernel
theorem dX4_fill_2 : decode cX4_fill 2 = .ok (.putfield 15, 3) := by decide +kernel
theorem dX4_fill_5 : decode cX4_fill 5 = .ok (.iload_n 1, 1) := by decide +kernel
theorem dX4_fill_6 : decode cX4_fill 6 = .ok (.istore_n 3, 1) := by decide +kernel
theorem dX4_fill_7 : decode cX4_fill 7 = .ok (.iload_n 2, 1) := by decide +kernel
theorem dX4_fill_8 : decode cX4_fill 8 = .ok (.iconst 1, 1) := by decide +kernel
theorem dX4_fill_9 : decode cX4_fill 9 = .ok (.isub, 1) := by decide +kernel
theorem dX4_fill_10 : decode cX4_fill 10 = .ok (.istore 4, 2) := by decide +kernel
theorem dX4_fill_12 : decode cX4_fill 12 = .ok (.iload 4, 2) := by decide +kernel
theorem dX4_fill_14 : decode cX4_fill 14 = .ok (.ifCond .lt 24, 3) := by decide +kernel
theorem dX4_fill_17 : decode cX4_fill 17 = .ok (.aload_n 0, 1) := by decide +kernel
theorem dX4_fill_18 : decode cX4_fill 18 = .ok (.iload 4, 2) := by decide +kernel
theorem dX4_fill_20 : decode cX4_fill 20 = .ok (.iload_n 3, 1) := by decide +kernel
theorem dX4_fill_21 : decode cX4_fill 21 = .ok (.bipush 10, 2) := by decide +kernel
theorem dX4_fill_23 : decode cX4_fill 23 = .ok (.irem, 1) := by decide +kernel
theorem dX4_fill_24 : decode cX4_fill 24 = .ok (.invokevirtual 25, 3) := by decide +kernel
theorem dX4_fill_27 : decode cX4_fill 27 = .ok (.iload_n 3, 1) := by decide +kernel
theorem dX4_fill_28 : decode cX4_fill 28 = .ok (.bipush 10, 2) := by decide +kernel
theorem dX4_fill_30 : decode cX4_fill 30 = .ok (.idiv, 1) := by decide +kernel
theorem dX4_fill_31 : decode cX4_fill 31 = .ok (.istore_n 3, 1) := by decide +kernel
theorem dX4_fill_32 : decode cX4_fill 32 = .ok (.iinc 4 (-1), 3) := by decide +kernel
theorem dX4_fill_35 : decode cX4_fill 35 = .ok (.goto (-23), 3) := by decide +kernel
theorem dX4_fill_38 : decode cX4_fill 38 = .ok (.return_, 1) := by decide +kernel
theorem dX4_hasBeat_0 : decode cX4_hasBeat 0 = .ok (.iload_n 1, 1) := by decide +kernel
theorem dX4_hasBeat_1 : decode cX4_hasBeat 1 = .ok (.ifCond .lt 15, 3) := by decide +kernel
theorem dX4_hasBeat_4 : decode cX4_hasBeat 4 = .ok (.iload_n 1, 1) := by decide +kernel
theorem dX4_hasBeat_5 : decode cX4_hasBeat 5 = .ok (.aload_n 0, 1) := by decide +kernel
theorem dX4_hasBeat_6 : decode cX4_hasBeat 6 = .ok (.getfield 15, 3) := by decide +kernel
theorem dX4_hasBeat_9 : decode cX4_hasBeat 9 = .ok (.if_icmp .ge 7, 3) := by decide +kernel
theorem dX4_hasBeat_12 : decode cX4_hasBeat 12 = .ok (.iconst 1, 1) := by decide +kernel
theorem dX4_hasBeat_13 : decode cX4_hasBeat 13 = .ok (.goto 4, 3) := by decide +kernel
theorem dX4_hasBeat_16 : decode cX4_hasBeat 16 = .ok (.iconst 0, 1) := by decide +kernel
theorem dX4_hasBeat_17 : decode cX4_hasBeat 17 = .ok (.ireturn, 1) := by decide +kernel
theorem dX4_heightAt_0 : decode cX4_heightAt 0 = .ok (.iload_n 1, 1) := by decide +kernel
theorem dX4_heightAt_1 : decode cX4_heightAt 1 = .ok (.ifCond .lt 21, 3) := by decide +kernel
theorem dX4_heightAt_4 : decode cX4_heightAt 4 = .ok (.iload_n 1, 1) := by decide +kernel
theorem dX4_heightAt_5 : decode cX4_heightAt 5 = .ok (.aload_n 0, 1) := by decide +kernel
theorem dX4_heightAt_6 : decode cX4_heightAt 6 = .ok (.getfield 9, 3) := by decide +kernel
theorem dX4_heightAt_9 : decode cX4_heightAt 9 = .ok (.arraylength, 1) := by decide +kernel
theorem dX4_heightAt_10 : decode cX4_heightAt 10 = .ok (.if_icmp .ge 12, 3) := by decide +kernel
theorem dX4_heightAt_13 : decode cX4_heightAt 13 = .ok (.aload_n 0, 1) := by decide +kernel
theorem dX4_heightAt_14 : decode cX4_heightAt 14 = .ok (.getfield 9, 3) := by decide +kernel
theorem dX4_heightAt_17 : decode cX4_heightAt 17 = .ok (.iload_n 1, 1) := by decide +kernel
theorem dX4_heightAt_18 : decode cX4_heightAt 18 = .ok (.iaload, 1) := by decide +kernel
theorem dX4_heightAt_19 : decode cX4_heightAt 19 = .ok (.goto 4, 3) := by decide +kernel
theorem dX4_heightAt_22 : decode cX4_heightAt 22 = .ok (.iconst 0, 1) := by decide +kernel
theorem dX4_heightAt_23 : decode cX4_heightAt 23 = .ok (.ireturn, 1) := by decide +kernel
theorem dX4_setHeight_0 : decode cX4_setHeight 0 = .ok (.iload_n 1, 1) := by decide +kernel
theorem dX4_setHeight_1 : decode cX4_setHeight 1 = .ok (.ifCond .lt 19, 3) := by decide +kernel
theorem dX4_setHeight_4 : decode cX4_setHeight 4 = .ok (.iload_n 1, 1) := by decide +kernel
theorem dX4_setHeight_5 : decode cX4_setHeight 5 = .ok (.aload_n 0, 1) := by decide +kernel
theorem dX4_setHeight_6 : decode cX4_setHeight 6 = .ok (.getfield 9, 3) := by decide +kernel
theorem dX4_setHeight_9 : decode cX4_setHeight 9 = .ok (.arraylength, 1) := by decide +kernel
theorem dX4_setHeight_10 : decode cX4_setHeight 10 = .ok (.if_icmp .ge 10, 3) := by decide +kernel
theorem dX4_setHeight_13 : decode cX4_setHeight 13 = .ok (.aload_n 0, 1) := by decide +kernel
theorem dX4_setHeight_14 : decode cX4_setHeight 14 = .ok (.getfield 9, 3) := by decide +kernel
theorem dX4_setHeight_17 : decode cX4_setHeight 17 = .ok (.iload_n 1, 1) := by decide +kernel
theorem dX4_setHeight_18 : decode cX4_setHeight 18 = .ok (.iload_n 2, 1) := by decide +kernel
theorem dX4_setHeight_19 : decode cX4_setHeight 19 = .ok (.iastore, 1) := by decide +kernel
theorem dX4_setHeight_20 : decode cX4_setHeight 20 = .ok (.return_, 1) := by decide +kernel
theorem dX4_moveFirstToEnd_0 : decode cX4_moveFirstToEnd 0 = .ok (.aload_n 0, 1) := by decide +kernel
theorem dX4_moveFirstToEnd_1 : decode cX4_moveFirstToEnd 1 = .ok (.iconst 0, 1) := by decide +kernel
theorem dX4_moveFirstToEnd_2 : decode cX4_moveFirstToEnd 2 = .ok (.invokevirtual 29, 3) := by decide +kernel
theorem dX4_moveFirstToEnd_5 : decode cX4_moveFirstToEnd 5 = .ok (.istore_n 1, 1) := by decide +kernel
theorem dX4_moveFirstToEnd_6 : decode cX4_moveFirstToEnd 6 = .ok (.iconst 1, 1) := by decide +kernel
theorem dX4_moveFirstToEnd_7 : decode cX4_moveFirstToEnd 7 = .ok (.istore_n 2, 1) := by decide +kernel
theorem dX4_moveFirstToEnd_8 : decode cX4_moveFirstToEnd 8 = .ok (.iload_n 2, 1) := by decide +kernel
theorem dX4_moveFirstToEnd_9 : decode cX4_moveFirstToEnd 9 = .ok (.aload_n 0, 1) := by decide +kernel
theorem dX4_moveFirstToEnd_10 : decode cX4_moveFirstToEnd 10 = .ok (.getfield 15, 3) := by decide +kernel
theorem dX4_moveFirstToEnd_13 : decode cX4_moveFirstToEnd 13 = .ok (.if_icmp .ge 21, 3) := by decide +kernel
theorem dX4_moveFirstToEnd_16 : decode cX4_moveFirstToEnd 16 = .ok (.aload_n 0, 1) := by decide +kernel
theorem dX4_moveFirstToEnd_17 : decode cX4_moveFirstToEnd 17 = .ok (.iload_n 2, 1) := by decide +kernel
theorem dX4_moveFirstToEnd_18 : decode cX4_moveFirstToEnd 18 = .ok (.iconst 1, 1) := by decide +kernel
theorem dX4_moveFirstToEnd_19 : decode cX4_moveFirstToEnd 19 = .ok (.isub, 1) := by decide +kernel
theorem dX4_moveFirstToEnd_20 : decode cX4_moveFirstToEnd 20 = .ok (.aload_n 0, 1) := by decide +kernel
theorem dX4_moveFirstToEnd_21 : decode cX4_moveFirstToEnd 21 = .ok (.iload_n 2, 1) := by decide +kernel
theorem dX4_moveFirstToEnd_22 : decode cX4_moveFirstToEnd 22 = .ok (.invokevirtual 29, 3) := by decide +kernel
theorem dX4_moveFirstToEnd_25 : decode cX4_moveFirstToEnd 25 = .ok (.invokevirtual 25, 3) := by decide +kernel
theorem dX4_moveFirstToEnd_28 : decode cX4_moveFirstToEnd 28 = .ok (.iinc 2 1, 3) := by decide +kernel
theorem dX4_moveFirstToEnd_31 : decode cX4_moveFirstToEnd 31 = .ok (.goto (-23), 3) := by decide +kernel
theorem dX4_moveFirstToEnd_34 : decode cX4_moveFirstToEnd 34 = .ok (.aload_n 0, 1) := by decide +kernel
theorem dX4_moveFirstToEnd_35 : decode cX4_moveFirstToEnd 35 = .ok (.aload_n 0, 1) := by decide +kernel
theorem dX4_moveFirstToEnd_36 : decode cX4_moveFirstToEnd 36 = .ok (.getfield 15, 3) := by decide +kernel
theorem dX4_moveFirstToEnd_39 : decode cX4_moveFirstToEnd 39 = .ok (.iconst 1, 1) := by decide +kernel
theorem dX4_moveFirstToEnd_40 : decode cX4_moveFirstToEnd 40 = .ok (.isub, 1) := by decide +kernel
theorem dX4_moveFirstToEnd_41 : decode cX4_moveFirstToEnd 41 = .ok (.iload_n 1, 1) := by decide +kernel
theorem dX4_moveFirstToEnd_42 : decode cX4_moveFirstToEnd 42 = .ok (.invokevirtual 25, 3) := by decide +kernel
theorem dX4_moveFirstToEnd_45 : decode cX4_moveFirstToEnd 45 = .ok (.return_, 1) := by decide +kernel
theorem dX4_sum_0 : decode cX4_sum 0 = .ok (.iconst 0, 1) := by decide +kernel
theorem dX4_sum_1 : decode cX4_sum 1 = .ok (.istore_n 1, 1) := by decide +kernel
theorem dX4_sum_2 : decode cX4_sum 2 = .ok (.iconst 0, 1) := by decide +kernel
theorem dX4_sum_3 : decode cX4_sum 3 = .ok (.istore_n 2, 1) := by decide +kernel
theorem dX4_sum_4 : decode cX4_sum 4 = .ok (.iload_n 2, 1) := by decide +kernel
theorem dX4_sum_5 : decode cX4_sum 5 = .ok (.aload_n 0, 1) := by decide +kernel
theorem dX4_sum_6 : decode cX4_sum 6 = .ok (.getfield 15, 3) := by decide +kernel
theorem dX4_sum_9 : decode cX4_sum 9 = .ok (.if_icmp .ge 17, 3) := by decide +kernel
theorem dX4_sum_12 : decode cX4_sum 12 = .ok (.iload_n 1, 1) := by decide +kernel
theorem dX4_sum_13 : decode cX4_sum 13 = .ok (.aload_n 0, 1) := by decide +kernel
theorem dX4_sum_14 : decode cX4_sum 14 = .ok (.iload_n 2, 1) := by decide +kernel
theorem dX4_sum_15 : decode cX4_sum 15 = .ok (.invokevirtual 29, 3) := by decide +kernel
theorem dX4_sum_18 : decode cX4_sum 18 = .ok (.iadd, 1) := by decide +kernel
theorem dX4_sum_19 : decode cX4_sum 19 = .ok (.istore_n 1, 1) := by decide +kernel
theorem dX4_sum_20 : decode cX4_sum 20 = .ok (.iinc 2 1, 3) := by decide +kernel
theorem dX4_sum_23 : decode cX4_sum 23 = .ok (.goto (-19), 3) := by decide +kernel
theorem dX4_sum_26 : decode cX4_sum 26 = .ok (.iload_n 1, 1) := by decide +kernel
theorem dX4_sum_27 : decode cX4_sum 27 = .ok (.ireturn, 1) := by decide +kernel
theorem dX4_greatest_0 : decode cX4_greatest 0 = .ok (.iconst 0, 1) := by decide +kernel
theorem dX4_greatest_1 : decode cX4_greatest 1 = .ok (.istore_n 1, 1) := by decide +kernel
theorem dX4_greatest_2 : decode cX4_greatest 2 = .ok (.iconst 0, 1) := by decide +kernel
theorem dX4_greatest_3 : decode cX4_greatest 3 = .ok (.istore_n 2, 1) := by decide +kernel
theorem dX4_greatest_4 : decode cX4_greatest 4 = .ok (.iload_n 2, 1) := by decide +kernel
theorem dX4_greatest_5 : decode cX4_greatest 5 = .ok (.aload_n 0, 1) := by decide +kernel
theorem dX4_greatest_6 : decode cX4_greatest 6 = .ok (.getfield 15, 3) := by decide +kernel
theorem dX4_greatest_9 : decode cX4_greatest 9 = .ok (.if_icmp .ge 19, 3) := by decide +kernel
theorem dX4_greatest_12 : decode cX4_greatest 12 = .ok (.iload_n 1, 1) := by decide +kernel
theorem dX4_greatest_13 : decode cX4_greatest 13 = .ok (.aload_n 0, 1) := by decide +kernel
theorem dX4_greatest_14 : decode cX4_greatest 14 = .ok (.iload_n 2, 1) := by decide +kernel
theorem dX4_greatest_15 : decode cX4_greatest 15 = .ok (.invokevirtual 29, 3) := by decide +kernel
theorem dX4_greatest_18 : decode cX4_greatest 18 = .ok (.invokestatic 33, 3) := by decide +kernel
theorem dX4_greatest_21 : decode cX4_greatest 21 = .ok (.istore_n 1, 1) := by decide +kernel
theorem dX4_greatest_22 : decode cX4_greatest 22 = .ok (.iinc 2 1, 3) := by decide +kernel
theorem dX4_greatest_25 : decode cX4_greatest 25 = .ok (.goto (-21), 3) := by decide +kernel
theorem dX4_greatest_28 : decode cX4_greatest 28 = .ok (.iload_n 1, 1) := by decide +kernel
theorem dX4_greatest_29 : decode cX4_greatest 29 = .ok (.ireturn, 1) := by decide +kernel
theorem dX4_throwsToOtherHand_0 : decode cX4_throwsToOtherHand 0 = .ok (.iconst 0, 1) := by decide +kernel
theorem dX4_throwsToOtherHand_1 : decode cX4_throwsToOtherHand 1 = .ok (.istore_n 1, 1) := by decide +kernel
theorem dX4_throwsToOtherHand_2 : decode cX4_throwsToOtherHand 2 = .ok (.iconst 0, 1) := by decide +kernel
theorem dX4_throwsToOtherHand_3 : decode cX4_throwsToOtherHand 3 = .ok (.istore_n 2, 1) := by decide +kernel
theorem dX4_throwsToOtherHand_4 : decode cX4_throwsToOtherHand 4 = .ok (.iload_n 2, 1) := by decide +kernel
theorem dX4_throwsToOtherHand_5 : decode cX4_throwsToOtherHand 5 = .ok (.aload_n 0, 1) := by decide +kernel
theorem dX4_throwsToOtherHand_6 : decode cX4_throwsToOtherHand 6 = .ok (.getfield 15, 3) := by decide +kernel
theorem dX4_throwsToOtherHand_9 : decode cX4_throwsToOtherHand 9 = .ok (.if_icmp .ge 19, 3) := by decide +kernel
theorem dX4_throwsToOtherHand_12 : decode cX4_throwsToOtherHand 12 = .ok (.iload_n 1, 1) := by decide +kernel
theorem dX4_throwsToOtherHand_13 : decode cX4_throwsToOtherHand 13 = .ok (.aload_n 0, 1) := by decide +kernel
theorem dX4_throwsToOtherHand_14 : decode cX4_throwsToOtherHand 14 = .ok (.iload_n 2, 1) := by decide +kernel
theorem dX4_throwsToOtherHand_15 : decode cX4_throwsToOtherHand 15 = .ok (.invokevirtual 29, 3) := by decide +kernel
theorem dX4_throwsToOtherHand_18 : decode cX4_throwsToOtherHand 18 = .ok (.iconst 1, 1) := by decide +kernel
theorem dX4_throwsToOtherHand_19 : decode cX4_throwsToOtherHand 19 = .ok (.iand, 1) := by decide +kernel
theorem dX4_throwsToOtherHand_20 : decode cX4_throwsToOtherHand 20 = .ok (.iadd, 1) := by decide +kernel
theorem dX4_throwsToOtherHand_21 : decode cX4_throwsToOtherHand 21 = .ok (.istore_n 1, 1) := by decide +kernel
theorem dX4_throwsToOtherHand_22 : decode cX4_throwsToOtherHand 22 = .ok (.iinc 2 1, 3) := by decide +kernel
theorem dX4_throwsToOtherHand_25 : decode cX4_throwsToOtherHand 25 = .ok (.goto (-21), 3) := by decide +kernel
theorem dX4_throwsToOtherHand_28 : decode cX4_throwsToOtherHand 28 = .ok (.iload_n 1, 1) := by decide +kernel
theorem dX4_throwsToOtherHand_29 : decode cX4_throwsToOtherHand 29 = .ok (.ireturn, 1) := by decide +kernel
theorem dX4_landing_0 : decode cX4_landing 0 = .ok (.aload_n 0, 1) := by decide +kernel
theorem dX4_landing_1 : decode cX4_landing 1 = .ok (.getfield 15, 3) := by decide +kernel
theorem dX4_landing_4 : decode cX4_landing 4 = .ok (.ifCond .le 16, 3) := by decide +kernel
theorem dX4_landing_7 : decode cX4_landing 7 = .ok (.iload_n 1, 1) := by decide +kernel
theorem dX4_landing_8 : decode cX4_landing 8 = .ok (.ifCond .lt 12, 3) := by decide +kernel
theorem dX4_landing_11 : decode cX4_landing 11 = .ok (.iload_n 1, 1) := by decide +kernel
theorem dX4_landing_12 : decode cX4_landing 12 = .ok (.aload_n 0, 1) := by decide +kernel
theorem dX4_landing_13 : decode cX4_landing 13 = .ok (.getfield 9, 3) := by decide +kernel
theorem dX4_landing_16 : decode cX4_landing 16 = .ok (.arraylength, 1) := by decide +kernel
theorem dX4_landing_17 : decode cX4_landing 17 = .ok (.if_icmp .lt 5, 3) := by decide +kernel
theorem dX4_landing_20 : decode cX4_landing 20 = .ok (.iconst 0, 1) := by decide +kernel
theorem dX4_landing_21 : decode cX4_landing 21 = .ok (.ireturn, 1) := by decide +kernel
theorem dX4_landing_22 : decode cX4_landing 22 = .ok (.iload_n 1, 1) := by decide +kernel
theorem dX4_landing_23 : decode cX4_landing 23 = .ok (.aload_n 0, 1) := by decide +kernel
theorem dX4_landing_24 : decode cX4_landing 24 = .ok (.getfield 9, 3) := by decide +kernel
theorem dX4_landing_27 : decode cX4_landing 27 = .ok (.iload_n 1, 1) := by decide +kernel
theorem dX4_landing_28 : decode cX4_landing 28 = .ok (.iaload, 1) := by decide +kernel
theorem dX4_landing_29 : decode cX4_landing 29 = .ok (.iadd, 1) := by decide +kernel
theorem dX4_landing_30 : decode cX4_landing 30 = .ok (.aload_n 0, 1) := by decide +kernel
theorem dX4_landing_31 : decode cX4_landing 31 = .ok (.getfield 15, 3) := by decide +kernel
theorem dX4_landing_34 : decode cX4_landing 34 = .ok (.irem, 1) := by decide +kernel
theorem dX4_landing_35 : decode cX4_landing 35 = .ok (.ireturn, 1) := by decide +kernel
theorem dX4_marksEachLanding_0 : decode cX4_marksEachLanding 0 = .ok (.iconst 0, 1) := by decide +kernel
theorem dX4_marksEachLanding_1 : decode cX4_marksEachLanding 1 = .ok (.istore_n 1, 1) := by decide +kernel
theorem dX4_marksEachLanding_2 : decode cX4_marksEachLanding 2 = .ok (.iconst 0, 1) := by decide +kernel
theorem dX4_marksEachLanding_3 : decode cX4_marksEachLanding 3 = .ok (.istore_n 2, 1) := by decide +kernel
theorem dX4_marksEachLanding_4 : decode cX4_marksEachLanding 4 = .ok (.iload_n 2, 1) := by decide +kernel
theorem dX4_marksEachLanding_5 : decode cX4_marksEachLanding 5 = .ok (.aload_n 0, 1) := by decide +kernel
theorem dX4_marksEachLanding_6 : decode cX4_marksEachLanding 6 = .ok (.getfield 15, 3) := by decide +kernel
theorem dX4_marksEachLanding_9 : decode cX4_marksEachLanding 9 = .ok (.if_icmp .ge 19, 3) := by decide +kernel
theorem dX4_marksEachLanding_12 : decode cX4_marksEachLanding 12 = .ok (.iload_n 1, 1) := by decide +kernel
theorem dX4_marksEachLanding_13 : decode cX4_marksEachLanding 13 = .ok (.iconst 1, 1) := by decide +kernel
theorem dX4_marksEachLanding_14 : decode cX4_marksEachLanding 14 = .ok (.aload_n 0, 1) := by decide +kernel
theorem dX4_marksEachLanding_15 : decode cX4_marksEachLanding 15 = .ok (.iload_n 2, 1) := by decide +kernel
theorem dX4_marksEachLanding_16 : decode cX4_marksEachLanding 16 = .ok (.invokevirtual 39, 3) := by decide +kernel
theorem dX4_marksEachLanding_19 : decode cX4_marksEachLanding 19 = .ok (.ishl, 1) := by decide +kernel
theorem dX4_marksEachLanding_20 : decode cX4_marksEachLanding 20 = .ok (.ior, 1) := by decide +kernel
theorem dX4_marksEachLanding_21 : decode cX4_marksEachLanding 21 = .ok (.istore_n 1, 1) := by decide +kernel
theorem dX4_marksEachLanding_22 : decode cX4_marksEachLanding 22 = .ok (.iinc 2 1, 3) := by decide +kernel
theorem dX4_marksEachLanding_25 : decode cX4_marksEachLanding 25 = .ok (.goto (-21), 3) := by decide +kernel
theorem dX4_marksEachLanding_28 : decode cX4_marksEachLanding 28 = .ok (.iload_n 1, 1) := by decide +kernel
theorem dX4_marksEachLanding_29 : decode cX4_marksEachLanding 29 = .ok (.iconst 1, 1) := by decide +kernel
theorem dX4_marksEachLanding_30 : decode cX4_marksEachLanding 30 = .ok (.aload_n 0, 1) := by decide +kernel
theorem dX4_marksEachLanding_31 : decode cX4_marksEachLanding 31 = .ok (.getfield 15, 3) := by decide +kernel
theorem dX4_marksEachLanding_34 : decode cX4_marksEachLanding 34 = .ok (.ishl, 1) := by decide +kernel
theorem dX4_marksEachLanding_35 : decode cX4_marksEachLanding 35 = .ok (.iconst 1, 1) := by decide +kernel
theorem dX4_marksEachLanding_36 : decode cX4_marksEachLanding 36 = .ok (.isub, 1) := by decide +kernel
theorem dX4_marksEachLanding_37 : decode cX4_marksEachLanding 37 = .ok (.if_icmp .ne 7, 3) := by decide +kernel
theorem dX4_marksEachLanding_40 : decode cX4_marksEachLanding 40 = .ok (.iconst 1, 1) := by decide +kernel
theorem dX4_marksEachLanding_41 : decode cX4_marksEachLanding 41 = .ok (.goto 4, 3) := by decide +kernel
theorem dX4_marksEachLanding_44 : decode cX4_marksEachLanding 44 = .ok (.iconst 0, 1) := by decide +kernel
theorem dX4_marksEachLanding_45 : decode cX4_marksEachLanding 45 = .ok (.ireturn, 1) := by decide +kernel
theorem dX4_lowestClash_0 : decode cX4_lowestClash 0 = .ok (.iconst 0, 1) := by decide +kernel
theorem dX4_lowestClash_1 : decode cX4_lowestClash 1 = .ok (.istore_n 1, 1) := by decide +kernel
theorem dX4_lowestClash_2 : decode cX4_lowestClash 2 = .ok (.iload_n 1, 1) := by decide +kernel
theorem dX4_lowestClash_3 : decode cX4_lowestClash 3 = .ok (.aload_n 0, 1) := by decide +kernel
theorem dX4_lowestClash_4 : decode cX4_lowestClash 4 = .ok (.getfield 15, 3) := by decide +kernel
theorem dX4_lowestClash_7 : decode cX4_lowestClash 7 = .ok (.if_icmp .ge 42, 3) := by decide +kernel
theorem dX4_lowestClash_10 : decode cX4_lowestClash 10 = .ok (.iload_n 1, 1) := by decide +kernel
theorem dX4_lowestClash_11 : decode cX4_lowestClash 11 = .ok (.iconst 1, 1) := by decide +kernel
theorem dX4_lowestClash_12 : decode cX4_lowestClash 12 = .ok (.iadd, 1) := by decide +kernel
theorem dX4_lowestClash_13 : decode cX4_lowestClash 13 = .ok (.istore_n 2, 1) := by decide +kernel
theorem dX4_lowestClash_14 : decode cX4_lowestClash 14 = .ok (.iload_n 2, 1) := by decide +kernel
theorem dX4_lowestClash_15 : decode cX4_lowestClash 15 = .ok (.aload_n 0, 1) := by decide +kernel
theorem dX4_lowestClash_16 : decode cX4_lowestClash 16 = .ok (.getfield 15, 3) := by decide +kernel
theorem dX4_lowestClash_19 : decode cX4_lowestClash 19 = .ok (.if_icmp .ge 24, 3) := by decide +kernel
theorem dX4_lowestClash_22 : decode cX4_lowestClash 22 = .ok (.aload_n 0, 1) := by decide +kernel
theorem dX4_lowestClash_23 : decode cX4_lowestClash 23 = .ok (.iload_n 1, 1) := by decide +kernel
theorem dX4_lowestClash_24 : decode cX4_lowestClash 24 = .ok (.invokevirtual 39, 3) := by decide +kernel
theorem dX4_lowestClash_27 : decode cX4_lowestClash 27 = .ok (.aload_n 0, 1) := by decide +kernel
theorem dX4_lowestClash_28 : decode cX4_lowestClash 28 = .ok (.iload_n 2, 1) := by decide +kernel
theorem dX4_lowestClash_29 : decode cX4_lowestClash 29 = .ok (.invokevirtual 39, 3) := by decide +kernel
theorem dX4_lowestClash_32 : decode cX4_lowestClash 32 = .ok (.if_icmp .ne 5, 3) := by decide +kernel
theorem dX4_lowestClash_35 : decode cX4_lowestClash 35 = .ok (.iload_n 1, 1) := by decide +kernel
theorem dX4_lowestClash_36 : decode cX4_lowestClash 36 = .ok (.ireturn, 1) := by decide +kernel
theorem dX4_lowestClash_37 : decode cX4_lowestClash 37 = .ok (.iinc 2 1, 3) := by decide +kernel
theorem dX4_lowestClash_40 : decode cX4_lowestClash 40 = .ok (.goto (-26), 3) := by decide +kernel
theorem dX4_lowestClash_43 : decode cX4_lowestClash 43 = .ok (.iinc 1 1, 3) := by decide +kernel
theorem dX4_lowestClash_46 : decode cX4_lowestClash 46 = .ok (.goto (-44), 3) := by decide +kernel
theorem dX4_lowestClash_49 : decode cX4_lowestClash 49 = .ok (.bipush (-4), 2) := by decide +kernel
theorem dX4_lowestClash_51 : decode cX4_lowestClash 51 = .ok (.ireturn, 1) := by decide +kernel
theorem dX4_balls_0 : decode cX4_balls 0 = .ok (.aload_n 0, 1) := by decide +kernel
theorem dX4_balls_1 : decode cX4_balls 1 = .ok (.getfield 15, 3) := by decide +kernel
theorem dX4_balls_4 : decode cX4_balls 4 = .ok (.ifCond .le 22, 3) := by decide +kernel
theorem dX4_balls_7 : decode cX4_balls 7 = .ok (.aload_n 0, 1) := by decide +kernel
theorem dX4_balls_8 : decode cX4_balls 8 = .ok (.invokevirtual 42, 3) := by decide +kernel
theorem dX4_balls_11 : decode cX4_balls 11 = .ok (.ifCond .eq 15, 3) := by decide +kernel
theorem dX4_balls_14 : decode cX4_balls 14 = .ok (.aload_n 0, 1) := by decide +kernel
theorem dX4_balls_15 : decode cX4_balls 15 = .ok (.invokevirtual 46, 3) := by decide +kernel
theorem dX4_balls_18 : decode cX4_balls 18 = .ok (.aload_n 0, 1) := by decide +kernel
theorem dX4_balls_19 : decode cX4_balls 19 = .ok (.getfield 15, 3) := by decide +kernel
theorem dX4_balls_22 : decode cX4_balls 22 = .ok (.idiv, 1) := by decide +kernel
theorem dX4_balls_23 : decode cX4_balls 23 = .ok (.goto 5, 3) := by decide +kernel
theorem dX4_balls_26 : decode cX4_balls 26 = .ok (.bipush (-4), 2) := by decide +kernel
theorem dX4_balls_28 : decode cX4_balls 28 = .ok (.ireturn, 1) := by decide +kernel
theorem dX4_stateAt_0 : decode cX4_stateAt 0 = .ok (.iconst 0, 1) := by decide +kernel
theorem dX4_stateAt_1 : decode cX4_stateAt 1 = .ok (.istore_n 2, 1) := by decide +kernel
theorem dX4_stateAt_2 : decode cX4_stateAt 2 = .ok (.iload_n 1, 1) := by decide +kernel
theorem dX4_stateAt_3 : decode cX4_stateAt 3 = .ok (.istore_n 3, 1) := by decide +kernel
theorem dX4_stateAt_4 : decode cX4_stateAt 4 = .ok (.iconst 1, 1) := by decide +kernel
theorem dX4_stateAt_5 : decode cX4_stateAt 5 = .ok (.istore 4, 2) := by decide +kernel
theorem dX4_stateAt_7 : decode cX4_stateAt 7 = .ok (.iload 4, 2) := by decide +kernel
theorem dX4_stateAt_9 : decode cX4_stateAt 9 = .ok (.bipush 9, 2) := by decide +kernel
theorem dX4_stateAt_11 : decode cX4_stateAt 11 = .ok (.if_icmp .gt 48, 3) := by decide +kernel
theorem dX4_stateAt_14 : decode cX4_stateAt 14 = .ok (.iload_n 3, 1) := by decide +kernel
theorem dX4_stateAt_15 : decode cX4_stateAt 15 = .ok (.ifCond .le 9, 3) := by decide +kernel
theorem dX4_stateAt_18 : decode cX4_stateAt 18 = .ok (.iload_n 3, 1) := by decide +kernel
theorem dX4_stateAt_19 : decode cX4_stateAt 19 = .ok (.iconst 1, 1) := by decide +kernel
theorem dX4_stateAt_20 : decode cX4_stateAt 20 = .ok (.isub, 1) := by decide +kernel
theorem dX4_stateAt_21 : decode cX4_stateAt 21 = .ok (.goto 9, 3) := by decide +kernel
theorem dX4_stateAt_24 : decode cX4_stateAt 24 = .ok (.aload_n 0, 1) := by decide +kernel
theorem dX4_stateAt_25 : decode cX4_stateAt 25 = .ok (.getfield 15, 3) := by decide +kernel
theorem dX4_stateAt_28 : decode cX4_stateAt 28 = .ok (.iconst 1, 1) := by decide +kernel
theorem dX4_stateAt_29 : decode cX4_stateAt 29 = .ok (.isub, 1) := by decide +kernel
theorem dX4_stateAt_30 : decode cX4_stateAt 30 = .ok (.istore_n 3, 1) := by decide +kernel
theorem dX4_stateAt_31 : decode cX4_stateAt 31 = .ok (.aload_n 0, 1) := by decide +kernel
theorem dX4_stateAt_32 : decode cX4_stateAt 32 = .ok (.iload_n 3, 1) := by decide +kernel
theorem dX4_stateAt_33 : decode cX4_stateAt 33 = .ok (.invokevirtual 29, 3) := by decide +kernel
theorem dX4_stateAt_36 : decode cX4_stateAt 36 = .ok (.iload 4, 2) := by decide +kernel
theorem dX4_stateAt_38 : decode cX4_stateAt 38 = .ok (.isub, 1) := by decide +kernel
theorem dX4_stateAt_39 : decode cX4_stateAt 39 = .ok (.istore 5, 2) := by decide +kernel
theorem dX4_stateAt_41 : decode cX4_stateAt 41 = .ok (.iload 5, 2) := by decide +kernel
theorem dX4_stateAt_43 : decode cX4_stateAt 43 = .ok (.ifCond .lt 10, 3) := by decide +kernel
theorem dX4_stateAt_46 : decode cX4_stateAt 46 = .ok (.iload_n 2, 1) := by decide +kernel
theorem dX4_stateAt_47 : decode cX4_stateAt 47 = .ok (.iconst 1, 1) := by decide +kernel
theorem dX4_stateAt_48 : decode cX4_stateAt 48 = .ok (.iload 5, 2) := by decide +kernel
theorem dX4_stateAt_50 : decode cX4_stateAt 50 = .ok (.ishl, 1) := by decide +kernel
theorem dX4_stateAt_51 : decode cX4_stateAt 51 = .ok (.ior, 1) := by decide +kernel
theorem dX4_stateAt_52 : decode cX4_stateAt 52 = .ok (.istore_n 2, 1) := by decide +kernel
theorem dX4_stateAt_53 : decode cX4_stateAt 53 = .ok (.iinc 4 1, 3) := by decide +kernel
theorem dX4_stateAt_56 : decode cX4_stateAt 56 = .ok (.goto (-49), 3) := by decide +kernel
theorem dX4_stateAt_59 : decode cX4_stateAt 59 = .ok (.iload_n 2, 1) := by decide +kernel
theorem dX4_stateAt_60 : decode cX4_stateAt 60 = .ok (.ireturn, 1) := by decide +kernel
theorem dX4_period_0 : decode cX4_period 0 = .ok (.iconst 1, 1) := by decide +kernel
theorem dX4_period_1 : decode cX4_period 1 = .ok (.istore_n 1, 1) := by decide +kernel
theorem dX4_period_2 : decode cX4_period 2 = .ok (.iload_n 1, 1) := by decide +kernel
theorem dX4_period_3 : decode cX4_period 3 = .ok (.aload_n 0, 1) := by decide +kernel
theorem dX4_period_4 : decode cX4_period 4 = .ok (.getfield 15, 3) := by decide +kernel
theorem dX4_period_7 : decode cX4_period 7 = .ok (.if_icmp .ge 28, 3) := by decide +kernel
theorem dX4_period_10 : decode cX4_period 10 = .ok (.aload_n 0, 1) := by decide +kernel
theorem dX4_period_11 : decode cX4_period 11 = .ok (.getfield 15, 3) := by decide +kernel
theorem dX4_period_14 : decode cX4_period 14 = .ok (.iload_n 1, 1) := by decide +kernel
theorem dX4_period_15 : decode cX4_period 15 = .ok (.irem, 1) := by decide +kernel
theorem dX4_period_16 : decode cX4_period 16 = .ok (.ifCond .ne 13, 3) := by decide +kernel
theorem dX4_period_19 : decode cX4_period 19 = .ok (.aload_n 0, 1) := by decide +kernel
theorem dX4_period_20 : decode cX4_period 20 = .ok (.iload_n 1, 1) := by decide +kernel
theorem dX4_period_21 : decode cX4_period 21 = .ok (.invokevirtual 50, 3) := by decide +kernel
theorem dX4_period_24 : decode cX4_period 24 = .ok (.ifCond .eq 5, 3) := by decide +kernel
theorem dX4_period_27 : decode cX4_period 27 = .ok (.iload_n 1, 1) := by decide +kernel
theorem dX4_period_28 : decode cX4_period 28 = .ok (.ireturn, 1) := by decide +kernel
theorem dX4_period_29 : decode cX4_period 29 = .ok (.iinc 1 1, 3) := by decide +kernel
theorem dX4_period_32 : decode cX4_period 32 = .ok (.goto (-30), 3) := by decide +kernel
theorem dX4_period_35 : decode cX4_period 35 = .ok (.aload_n 0, 1) := by decide +kernel
theorem dX4_period_36 : decode cX4_period 36 = .ok (.getfield 15, 3) := by decide +kernel
theorem dX4_period_39 : decode cX4_period 39 = .ok (.ireturn, 1) := by decide +kernel
theorem dX4_repeatsBy_0 : decode cX4_repeatsBy 0 = .ok (.iconst 0, 1) := by decide +kernel
theorem dX4_repeatsBy_1 : decode cX4_repeatsBy 1 = .ok (.istore_n 2, 1) := by decide +kernel
theorem dX4_repeatsBy_2 : decode cX4_repeatsBy 2 = .ok (.iload_n 2, 1) := by decide +kernel
theorem dX4_repeatsBy_3 : decode cX4_repeatsBy 3 = .ok (.iload_n 1, 1) := by decide +kernel
theorem dX4_repeatsBy_4 : decode cX4_repeatsBy 4 = .ok (.iadd, 1) := by decide +kernel
theorem dX4_repeatsBy_5 : decode cX4_repeatsBy 5 = .ok (.aload_n 0, 1) := by decide +kernel
theorem dX4_repeatsBy_6 : decode cX4_repeatsBy 6 = .ok (.getfield 15, 3) := by decide +kernel
theorem dX4_repeatsBy_9 : decode cX4_repeatsBy 9 = .ok (.if_icmp .ge 26, 3) := by decide +kernel
theorem dX4_repeatsBy_12 : decode cX4_repeatsBy 12 = .ok (.aload_n 0, 1) := by decide +kernel
theorem dX4_repeatsBy_13 : decode cX4_repeatsBy 13 = .ok (.iload_n 2, 1) := by decide +kernel
theorem dX4_repeatsBy_14 : decode cX4_repeatsBy 14 = .ok (.invokevirtual 29, 3) := by decide +kernel
theorem dX4_repeatsBy_17 : decode cX4_repeatsBy 17 = .ok (.aload_n 0, 1) := by decide +kernel
theorem dX4_repeatsBy_18 : decode cX4_repeatsBy 18 = .ok (.iload_n 2, 1) := by decide +kernel
theorem dX4_repeatsBy_19 : decode cX4_repeatsBy 19 = .ok (.iload_n 1, 1) := by decide +kernel
theorem dX4_repeatsBy_20 : decode cX4_repeatsBy 20 = .ok (.iadd, 1) := by decide +kernel
theorem dX4_repeatsBy_21 : decode cX4_repeatsBy 21 = .ok (.invokevirtual 29, 3) := by decide +kernel
theorem dX4_repeatsBy_24 : decode cX4_repeatsBy 24 = .ok (.if_icmp .eq 5, 3) := by decide +kernel
theorem dX4_repeatsBy_27 : decode cX4_repeatsBy 27 = .ok (.iconst 0, 1) := by decide +kernel
theorem dX4_repeatsBy_28 : decode cX4_repeatsBy 28 = .ok (.ireturn, 1) := by decide +kernel
theorem dX4_repeatsBy_29 : decode cX4_repeatsBy 29 = .ok (.iinc 2 1, 3) := by decide +kernel
theorem dX4_repeatsBy_32 : decode cX4_repeatsBy 32 = .ok (.goto (-30), 3) := by decide +kernel
theorem dX4_repeatsBy_35 : decode cX4_repeatsBy 35 = .ok (.iconst 1, 1) := by decide +kernel
theorem dX4_repeatsBy_36 : decode cX4_repeatsBy 36 = .ok (.ireturn, 1) := by decide +kernel
theorem dX4_statesDiffer_0 : decode cX4_statesDiffer 0 = .ok (.aload_n 0, 1) := by decide +kernel
theorem dX4_statesDiffer_1 : decode cX4_statesDiffer 1 = .ok (.invokevirtual 42, 3) := by decide +kernel
theorem dX4_statesDiffer_4 : decode cX4_statesDiffer 4 = .ok (.ifCond .ne 6, 3) := by decide +kernel
theorem dX4_statesDiffer_7 : decode cX4_statesDiffer 7 = .ok (.bipush (-4), 2) := by decide +kernel
theorem dX4_statesDiffer_9 : decode cX4_statesDiffer 9 = .ok (.ireturn, 1) := by decide +kernel
theorem dX4_statesDiffer_10 : decode cX4_statesDiffer 10 = .ok (.aload_n 0, 1) := by decide +kernel
theorem dX4_statesDiffer_11 : decode cX4_statesDiffer 11 = .ok (.invokevirtual 54, 3) := by decide +kernel
theorem dX4_statesDiffer_14 : decode cX4_statesDiffer 14 = .ok (.istore_n 1, 1) := by decide +kernel
theorem dX4_statesDiffer_15 : decode cX4_statesDiffer 15 = .ok (.iconst 0, 1) := by decide +kernel
theorem dX4_statesDiffer_16 : decode cX4_statesDiffer 16 = .ok (.istore_n 2, 1) := by decide +kernel
theorem dX4_statesDiffer_17 : decode cX4_statesDiffer 17 = .ok (.iload_n 2, 1) := by decide +kernel
theorem dX4_statesDiffer_18 : decode cX4_statesDiffer 18 = .ok (.iload_n 1, 1) := by decide +kernel
theorem dX4_statesDiffer_19 : decode cX4_statesDiffer 19 = .ok (.if_icmp .ge 39, 3) := by decide +kernel
theorem dX4_statesDiffer_22 : decode cX4_statesDiffer 22 = .ok (.iload_n 2, 1) := by decide +kernel
theorem dX4_statesDiffer_23 : decode cX4_statesDiffer 23 = .ok (.iconst 1, 1) := by decide +kernel
theorem dX4_statesDiffer_24 : decode cX4_statesDiffer 24 = .ok (.iadd, 1) := by decide +kernel
theorem dX4_statesDiffer_25 : decode cX4_statesDiffer 25 = .ok (.istore_n 3, 1) := by decide +kernel
theorem dX4_statesDiffer_26 : decode cX4_statesDiffer 26 = .ok (.iload_n 3, 1) := by decide +kernel
theorem dX4_statesDiffer_27 : decode cX4_statesDiffer 27 = .ok (.iload_n 1, 1) := by decide +kernel
theorem dX4_statesDiffer_28 : decode cX4_statesDiffer 28 = .ok (.if_icmp .ge 24, 3) := by decide +kernel
theorem dX4_statesDiffer_31 : decode cX4_statesDiffer 31 = .ok (.aload_n 0, 1) := by decide +kernel
theorem dX4_statesDiffer_32 : decode cX4_statesDiffer 32 = .ok (.iload_n 2, 1) := by decide +kernel
theorem dX4_statesDiffer_33 : decode cX4_statesDiffer 33 = .ok (.invokevirtual 57, 3) := by decide +kernel
theorem dX4_statesDiffer_36 : decode cX4_statesDiffer 36 = .ok (.aload_n 0, 1) := by decide +kernel
theorem dX4_statesDiffer_37 : decode cX4_statesDiffer 37 = .ok (.iload_n 3, 1) := by decide +kernel
theorem dX4_statesDiffer_38 : decode cX4_statesDiffer 38 = .ok (.invokevirtual 57, 3) := by decide +kernel
theorem dX4_statesDiffer_41 : decode cX4_statesDiffer 41 = .ok (.if_icmp .ne 5, 3) := by decide +kernel
theorem dX4_statesDiffer_44 : decode cX4_statesDiffer 44 = .ok (.iconst 0, 1) := by decide +kernel
theorem dX4_statesDiffer_45 : decode cX4_statesDiffer 45 = .ok (.ireturn, 1) := by decide +kernel
theorem dX4_statesDiffer_46 : decode cX4_statesDiffer 46 = .ok (.iinc 3 1, 3) := by decide +kernel
theorem dX4_statesDiffer_49 : decode cX4_statesDiffer 49 = .ok (.goto (-23), 3) := by decide +kernel
theorem dX4_statesDiffer_52 : decode cX4_statesDiffer 52 = .ok (.iinc 2 1, 3) := by decide +kernel
theorem dX4_statesDiffer_55 : decode cX4_statesDiffer 55 = .ok (.goto (-38), 3) := by decide +kernel
theorem dX4_statesDiffer_58 : decode cX4_statesDiffer 58 = .ok (.iconst 1, 1) := by decide +kernel
theorem dX4_statesDiffer_59 : decode cX4_statesDiffer 59 = .ok (.ireturn, 1) := by decide +kernel
theorem dX4_statesHoldTheBalls_0 : decode cX4_statesHoldTheBalls 0 = .ok (.aload_n 0, 1) := by decide +kernel
theorem dX4_statesHoldTheBalls_1 : decode cX4_statesHoldTheBalls 1 = .ok (.invokevirtual 60, 3) := by decide +kernel
theorem dX4_statesHoldTheBalls_4 : decode cX4_statesHoldTheBalls 4 = .ok (.istore_n 1, 1) := by decide +kernel
theorem dX4_statesHoldTheBalls_5 : decode cX4_statesHoldTheBalls 5 = .ok (.iconst 0, 1) := by decide +kernel
theorem dX4_statesHoldTheBalls_6 : decode cX4_statesHoldTheBalls 6 = .ok (.istore_n 2, 1) := by decide +kernel
theorem dX4_statesHoldTheBalls_7 : decode cX4_statesHoldTheBalls 7 = .ok (.iload_n 2, 1) := by decide +kernel
theorem dX4_statesHoldTheBalls_8 : decode cX4_statesHoldTheBalls 8 = .ok (.aload_n 0, 1) := by decide +kernel
theorem dX4_statesHoldTheBalls_9 : decode cX4_statesHoldTheBalls 9 = .ok (.getfield 15, 3) := by decide +kernel
theorem dX4_statesHoldTheBalls_12 : decode cX4_statesHoldTheBalls 12 = .ok (.if_icmp .ge 23, 3) := by decide +kernel
theorem dX4_statesHoldTheBalls_15 : decode cX4_statesHoldTheBalls 15 = .ok (.aload_n 0, 1) := by decide +kernel
theorem dX4_statesHoldTheBalls_16 : decode cX4_statesHoldTheBalls 16 = .ok (.iload_n 2, 1) := by decide +kernel
theorem dX4_statesHoldTheBalls_17 : decode cX4_statesHoldTheBalls 17 = .ok (.invokevirtual 57, 3) := by decide +kernel
theorem dX4_statesHoldTheBalls_20 : decode cX4_statesHoldTheBalls 20 = .ok (.invokestatic 63, 3) := by decide +kernel
theorem dX4_statesHoldTheBalls_23 : decode cX4_statesHoldTheBalls 23 = .ok (.iload_n 1, 1) := by decide +kernel
theorem dX4_statesHoldTheBalls_24 : decode cX4_statesHoldTheBalls 24 = .ok (.if_icmp .eq 5, 3) := by decide +kernel
theorem dX4_statesHoldTheBalls_27 : decode cX4_statesHoldTheBalls 27 = .ok (.iconst 0, 1) := by decide +kernel
theorem dX4_statesHoldTheBalls_28 : decode cX4_statesHoldTheBalls 28 = .ok (.ireturn, 1) := by decide +kernel
theorem dX4_statesHoldTheBalls_29 : decode cX4_statesHoldTheBalls 29 = .ok (.iinc 2 1, 3) := by decide +kernel
theorem dX4_statesHoldTheBalls_32 : decode cX4_statesHoldTheBalls 32 = .ok (.goto (-25), 3) := by decide +kernel
theorem dX4_statesHoldTheBalls_35 : decode cX4_statesHoldTheBalls 35 = .ok (.iconst 1, 1) := by decide +kernel
theorem dX4_statesHoldTheBalls_36 : decode cX4_statesHoldTheBalls 36 = .ok (.ireturn, 1) := by decide +kernel
theorem dX5_init_0 : decode cX5_init 0 = .ok (.aload_n 0, 1) := by decide +kernel
theorem dX5_init_1 : decode cX5_init 1 = .ok (.invokespecial 3, 3) := by decide +kernel
theorem dX5_init_4 : decode cX5_init 4 = .ok (.aload_n 0, 1) := by decide +kernel
theorem dX5_init_5 : decode cX5_init 5 = .ok (.bipush 6, 2) := by decide +kernel
theorem dX5_init_7 : decode cX5_init 7 = .ok (.anewarray 9, 3) := by decide +kernel
theorem dX5_init_10 : decode cX5_init 10 = .ok (.putfield 11, 3) := by decide +kernel
theorem dX5_init_13 : decode cX5_init 13 = .ok (.iconst 0, 1) := by decide +kernel
theorem dX5_init_14 : decode cX5_init 14 = .ok (.istore_n 1, 1) := by decide +kernel
theorem dX5_init_15 : decode cX5_init 15 = .ok (.iload_n 1, 1) := by decide +kernel
theorem dX5_init_16 : decode cX5_init 16 = .ok (.aload_n 0, 1) := by decide +kernel
theorem dX5_init_17 : decode cX5_init 17 = .ok (.getfield 11, 3) := by decide +kernel
theorem dX5_init_20 : decode cX5_init 20 = .ok (.arraylength, 1) := by decide +kernel
theorem dX5_init_21 : decode cX5_init 21 = .ok (.if_icmp .ge 22, 3) := by decide +kernel
theorem dX5_init_24 : decode cX5_init 24 = .ok (.aload_n 0, 1) := by decide +kernel
theorem dX5_init_25 : decode cX5_init 25 = .ok (.getfield 11, 3) := by decide +kernel
theorem dX5_init_28 : decode cX5_init 28 = .ok (.iload_n 1, 1) := by decide +kernel
theorem dX5_init_29 : decode cX5_init 29 = .ok (.new 9, 3) := by decide +kernel
theorem dX5_init_32 : decode cX5_init 32 = .ok (.dup, 1) := by decide +kernel
theorem dX5_init_33 : decode cX5_init 33 = .ok (.invokespecial 17, 3) := by decide +kernel
theorem dX5_init_36 : decode cX5_init 36 = .ok (.aastore, 1) := by decide +kernel
theorem dX5_init_37 : decode cX5_init 37 = .ok (.iinc 1 1, 3) := by decide +kernel
theorem dX5_init_40 : decode cX5_init 40 = .ok (.goto (-25), 3) := by decide +kernel
theorem dX5_init_43 : decode cX5_init 43 = .ok (.return_, 1) := by decide +kernel
theorem dX5_copyFrom_0 : decode cX5_copyFrom 0 = .ok (.aload_n 0, 1) := by decide +kernel
theorem dX5_copyFrom_1 : decode cX5_copyFrom 1 = .ok (.aload_n 1, 1) := by decide +kernel
theorem dX5_copyFrom_2 : decode cX5_copyFrom 2 = .ok (.getfield 18, 3) := by decide +kernel
theorem dX5_copyFrom_5 : decode cX5_copyFrom 5 = .ok (.putfield 18, 3) := by decide +kernel
theorem dX5_copyFrom_8 : decode cX5_copyFrom 8 = .ok (.iconst 0, 1) := by decide +kernel
theorem dX5_copyFrom_9 : decode cX5_copyFrom 9 = .ok (.istore_n 2, 1) := by decide +kernel
theorem dX5_copyFrom_10 : decode cX5_copyFrom 10 = .ok (.iload_n 2, 1) := by decide +kernel
theorem dX5_copyFrom_11 : decode cX5_copyFrom 11 = .ok (.aload_n 0, 1) := by decide +kernel
theorem dX5_copyFrom_12 : decode cX5_copyFrom 12 = .ok (.getfield 11, 3) := by decide +kernel
theorem dX5_copyFrom_15 : decode cX5_copyFrom 15 = .ok (.arraylength, 1) := by decide +kernel
theorem dX5_copyFrom_16 : decode cX5_copyFrom 16 = .ok (.if_icmp .ge 48, 3) := by decide +kernel
theorem dX5_copyFrom_19 : decode cX5_copyFrom 19 = .ok (.iload_n 2, 1) := by decide +kernel
theorem dX5_copyFrom_20 : decode cX5_copyFrom 20 = .ok (.aload_n 1, 1) := by decide +kernel
theorem dX5_copyFrom_21 : decode cX5_copyFrom 21 = .ok (.getfield 11, 3) := by decide +kernel
theorem dX5_copyFrom_24 : decode cX5_copyFrom 24 = .ok (.arraylength, 1) := by decide +kernel
theorem dX5_copyFrom_25 : decode cX5_copyFrom 25 = .ok (.if_icmp .ge 39, 3) := by decide +kernel
theorem dX5_copyFrom_28 : decode cX5_copyFrom 28 = .ok (.aload_n 0, 1) := by decide +kernel
theorem dX5_copyFrom_29 : decode cX5_copyFrom 29 = .ok (.getfield 11, 3) := by decide +kernel
theorem dX5_copyFrom_32 : decode cX5_copyFrom 32 = .ok (.iload_n 2, 1) := by decide +kernel
theorem dX5_copyFrom_33 : decode cX5_copyFrom 33 = .ok (.aaload, 1) := by decide +kernel
theorem dX5_copyFrom_34 : decode cX5_copyFrom 34 = .ok (.astore_n 3, 1) := by decide +kernel
theorem dX5_copyFrom_35 : decode cX5_copyFrom 35 = .ok (.aload_n 1, 1) := by decide +kernel
theorem dX5_copyFrom_36 : decode cX5_copyFrom 36 = .ok (.getfield 11, 3) := by decide +kernel
theorem dX5_copyFrom_39 : decode cX5_copyFrom 39 = .ok (.iload_n 2, 1) := by decide +kernel
theorem dX5_copyFrom_40 : decode cX5_copyFrom 40 = .ok (.aaload, 1) := by decide +kernel
theorem dX5_copyFrom_41 : decode cX5_copyFrom 41 = .ok (.astore 4, 2) := by decide +kernel
theorem dX5_copyFrom_43 : decode cX5_copyFrom 43 = .ok (.aload_n 3, 1) := by decide +kernel
theorem dX5_copyFrom_44 : decode cX5_copyFrom 44 = .ok (.ifnull 14, 3) := by decide +kernel
theorem dX5_copyFrom_47 : decode cX5_copyFrom 47 = .ok (.aload 4, 2) := by decide +kernel
theorem dX5_copyFrom_49 : decode cX5_copyFrom 49 = .ok (.ifnull 9, 3) := by decide +kernel
theorem dX5_copyFrom_52 : decode cX5_copyFrom 52 = .ok (.aload_n 3, 1) := by decide +kernel
theorem dX5_copyFrom_53 : decode cX5_copyFrom 53 = .ok (.aload 4, 2) := by decide +kernel
theorem dX5_copyFrom_55 : decode cX5_copyFrom 55 = .ok (.invokevirtual 22, 3) := by decide +kernel
theorem dX5_copyFrom_58 : decode cX5_copyFrom 58 = .ok (.iinc 2 1, 3) := by decide +kernel
theorem dX5_copyFrom_61 : decode cX5_copyFrom 61 = .ok (.goto (-51), 3) := by decide +kernel
theorem dX5_copyFrom_64 : decode cX5_copyFrom 64 = .ok (.aload_n 0, 1) := by decide +kernel
theorem dX5_copyFrom_65 : decode cX5_copyFrom 65 = .ok (.aload_n 1, 1) := by decide +kernel
theorem dX5_copyFrom_66 : decode cX5_copyFrom 66 = .ok (.getfield 26, 3) := by decide +kernel
theorem dX5_copyFrom_69 : decode cX5_copyFrom 69 = .ok (.putfield 26, 3) := by decide +kernel
theorem dX5_copyFrom_72 : decode cX5_copyFrom 72 = .ok (.aload_n 0, 1) := by decide +kernel
theorem dX5_copyFrom_73 : decode cX5_copyFrom 73 = .ok (.aload_n 1, 1) := by decide +kernel
theorem dX5_copyFrom_74 : decode cX5_copyFrom 74 = .ok (.getfield 29, 3) := by decide +kernel
theorem dX5_copyFrom_77 : decode cX5_copyFrom 77 = .ok (.putfield 29, 3) := by decide +kernel
theorem dX5_copyFrom_80 : decode cX5_copyFrom 80 = .ok (.aload_n 0, 1) := by decide +kernel
theorem dX5_copyFrom_81 : decode cX5_copyFrom 81 = .ok (.aload_n 1, 1) := by decide +kernel
theorem dX5_copyFrom_82 : decode cX5_copyFrom 82 = .ok (.getfield 32, 3) := by decide +kernel
theorem dX5_copyFrom_85 : decode cX5_copyFrom 85 = .ok (.putfield 32, 3) := by decide +kernel
theorem dX5_copyFrom_88 : decode cX5_copyFrom 88 = .ok (.aload_n 0, 1) := by decide +kernel
theorem dX5_copyFrom_89 : decode cX5_copyFrom 89 = .ok (.aload_n 1, 1) := by decide +kernel
theorem dX5_copyFrom_90 : decode cX5_copyFrom 90 = .ok (.getfield 35, 3) := by decide +kernel
theorem dX5_copyFrom_93 : decode cX5_copyFrom 93 = .ok (.putfield 35, 3) := by decide +kernel
theorem dX5_copyFrom_96 : decode cX5_copyFrom 96 = .ok (.aload_n 0, 1) := by decide +kernel
theorem dX5_copyFrom_97 : decode cX5_copyFrom 97 = .ok (.aload_n 1, 1) := by decide +kernel
theorem dX5_copyFrom_98 : decode cX5_copyFrom 98 = .ok (.getfield 38, 3) := by decide +kernel
theorem dX5_copyFrom_101 : decode cX5_copyFrom 101 = .ok (.putfield 38, 3) := by decide +kernel
theorem dX5_copyFrom_104 : decode cX5_copyFrom 104 = .ok (.aload_n 0, 1) := by decide +kernel
theorem dX5_copyFrom_105 : decode cX5_copyFrom 105 = .ok (.aload_n 1, 1) := by decide +kernel
theorem dX5_copyFrom_106 : decode cX5_copyFrom 106 = .ok (.getfield 41, 3) := by decide +kernel
theorem dX5_copyFrom_109 : decode cX5_copyFrom 109 = .ok (.putfield 41, 3) := by decide +kernel
theorem dX5_copyFrom_112 : decode cX5_copyFrom 112 = .ok (.aload_n 0, 1) := by decide +kernel
theorem dX5_copyFrom_113 : decode cX5_copyFrom 113 = .ok (.aload_n 1, 1) := by decide +kernel
theorem dX5_copyFrom_114 : decode cX5_copyFrom 114 = .ok (.getfield 44, 3) := by decide +kernel
theorem dX5_copyFrom_117 : decode cX5_copyFrom 117 = .ok (.putfield 44, 3) := by decide +kernel
theorem dX5_copyFrom_120 : decode cX5_copyFrom 120 = .ok (.return_, 1) := by decide +kernel
theorem dX5_rowNumbered_0 : decode cX5_rowNumbered 0 = .ok (.iload_n 1, 1) := by decide +kernel
theorem dX5_rowNumbered_1 : decode cX5_rowNumbered 1 = .ok (.ifCond .lt 29, 3) := by decide +kernel
theorem dX5_rowNumbered_4 : decode cX5_rowNumbered 4 = .ok (.iload_n 1, 1) := by decide +kernel
theorem dX5_rowNumbered_5 : decode cX5_rowNumbered 5 = .ok (.aload_n 0, 1) := by decide +kernel
theorem dX5_rowNumbered_6 : decode cX5_rowNumbered 6 = .ok (.getfield 18, 3) := by decide +kernel
theorem dX5_rowNumbered_9 : decode cX5_rowNumbered 9 = .ok (.if_icmp .ge 21, 3) := by decide +kernel
theorem dX5_rowNumbered_12 : decode cX5_rowNumbered 12 = .ok (.iload_n 1, 1) := by decide +kernel
theorem dX5_rowNumbered_13 : decode cX5_rowNumbered 13 = .ok (.aload_n 0, 1) := by decide +kernel
theorem dX5_rowNumbered_14 : decode cX5_rowNumbered 14 = .ok (.getfield 11, 3) := by decide +kernel
theorem dX5_rowNumbered_17 : decode cX5_rowNumbered 17 = .ok (.arraylength, 1) := by decide +kernel
theorem dX5_rowNumbered_18 : decode cX5_rowNumbered 18 = .ok (.if_icmp .ge 12, 3) := by decide +kernel
theorem dX5_rowNumbered_21 : decode cX5_rowNumbered 21 = .ok (.aload_n 0, 1) := by decide +kernel
theorem dX5_rowNumbered_22 : decode cX5_rowNumbered 22 = .ok (.getfield 11, 3) := by decide +kernel
theorem dX5_rowNumbered_25 : decode cX5_rowNumbered 25 = .ok (.iload_n 1, 1) := by decide +kernel
theorem dX5_rowNumbered_26 : decode cX5_rowNumbered 26 = .ok (.aaload, 1) := by decide +kernel
theorem dX5_rowNumbered_27 : decode cX5_rowNumbered 27 = .ok (.goto 4, 3) := by decide +kernel
theorem dX5_rowNumbered_30 : decode cX5_rowNumbered 30 = .ok (.aconst_null, 1) := by decide +kernel
theorem dX5_rowNumbered_31 : decode cX5_rowNumbered 31 = .ok (.areturn, 1) := by decide +kernel
theorem dX5_appendRow_0 : decode cX5_appendRow 0 = .ok (.aload_n 0, 1) := by decide +kernel
theorem dX5_appendRow_1 : decode cX5_appendRow 1 = .ok (.dup, 1) := by decide +kernel
theorem dX5_appendRow_2 : decode cX5_appendRow 2 = .ok (.getfield 18, 3) := by decide +kernel
theorem dX5_appendRow_5 : decode cX5_appendRow 5 = .ok (.iconst 1, 1) := by decide +kernel
theorem dX5_appendRow_6 : decode cX5_appendRow 6 = .ok (.iadd, 1) := by decide +kernel
theorem dX5_appendRow_7 : decode cX5_appendRow 7 = .ok (.putfield 18, 3) := by decide +kernel
theorem dX5_appendRow_10 : decode cX5_appendRow 10 = .ok (.aload_n 0, 1) := by decide +kernel
theorem dX5_appendRow_11 : decode cX5_appendRow 11 = .ok (.aload_n 0, 1) := by decide +kernel
theorem dX5_appendRow_12 : decode cX5_appendRow 12 = .ok (.getfield 18, 3) := by decide +kernel
theorem dX5_appendRow_15 : decode cX5_appendRow 15 = .ok (.iconst 1, 1) := by decide +kernel
theorem dX5_appendRow_16 : decode cX5_appendRow 16 = .ok (.isub, 1) := by decide +kernel
theorem dX5_appendRow_17 : decode cX5_appendRow 17 = .ok (.invokevirtual 47, 3) := by decide +kernel
theorem dX5_appendRow_20 : decode cX5_appendRow 20 = .ok (.astore_n 3, 1) := by decide +kernel
theorem dX5_appendRow_21 : decode cX5_appendRow 21 = .ok (.aload_n 3, 1) := by decide +kernel
theorem dX5_appendRow_22 : decode cX5_appendRow 22 = .ok (.ifnull 9, 3) := by decide +kernel
theorem dX5_appendRow_25 : decode cX5_appendRow 25 = .ok (.aload_n 3, 1) := by decide +kernel
theorem dX5_appendRow_26 : decode cX5_appendRow 26 = .ok (.iload_n 1, 1) := by decide +kernel
theorem dX5_appendRow_27 : decode cX5_appendRow 27 = .ok (.iload_n 2, 1) := by decide +kernel
theorem dX5_appendRow_28 : decode cX5_appendRow 28 = .ok (.invokevirtual 51, 3) := by decide +kernel
theorem dX5_appendRow_31 : decode cX5_appendRow 31 = .ok (.aload_n 0, 1) := by decide +kernel
theorem dX5_appendRow_32 : decode cX5_appendRow 32 = .ok (.getfield 18, 3) := by decide +kernel
theorem dX5_appendRow_35 : decode cX5_appendRow 35 = .ok (.iconst 1, 1) := by decide +kernel
theorem dX5_appendRow_36 : decode cX5_appendRow 36 = .ok (.isub, 1) := by decide +kernel
theorem dX5_appendRow_37 : decode cX5_appendRow 37 = .ok (.ireturn, 1) := by decide +kernel
theorem dX5_removeRow_0 : decode cX5_removeRow 0 = .ok (.aload_n 0, 1) := by decide +kernel
theorem dX5_removeRow_1 : decode cX5_removeRow 1 = .ok (.iload_n 1, 1) := by decide +kernel
theorem dX5_removeRow_2 : decode cX5_removeRow 2 = .ok (.invokevirtual 47, 3) := by decide +kernel
theorem dX5_removeRow_5 : decode cX5_removeRow 5 = .ok (.astore_n 2, 1) := by decide +kernel
theorem dX5_removeRow_6 : decode cX5_removeRow 6 = .ok (.aload_n 2, 1) := by decide +kernel
theorem dX5_removeRow_7 : decode cX5_removeRow 7 = .ok (.ifnonnull 5, 3) := by decide +kernel
theorem dX5_removeRow_10 : decode cX5_removeRow 10 = .ok (.iconst 0, 1) := by decide +kernel
theorem dX5_removeRow_11 : decode cX5_removeRow 11 = .ok (.ireturn, 1) := by decide +kernel
theorem dX5_removeRow_12 : decode cX5_removeRow 12 = .ok (.iload_n 1, 1) := by decide +kernel
theorem dX5_removeRow_13 : decode cX5_removeRow 13 = .ok (.iconst 1, 1) := by decide +kernel
theorem dX5_removeRow_14 : decode cX5_removeRow 14 = .ok (.iadd, 1) := by decide +kernel
theorem dX5_removeRow_15 : decode cX5_removeRow 15 = .ok (.istore_n 3, 1) := by decide +kernel
theorem dX5_removeRow_16 : decode cX5_removeRow 16 = .ok (.iload_n 3, 1) := by decide +kernel
theorem dX5_removeRow_17 : decode cX5_removeRow 17 = .ok (.aload_n 0, 1) := by decide +kernel
theorem dX5_removeRow_18 : decode cX5_removeRow 18 = .ok (.getfield 18, 3) := by decide +kernel
theorem dX5_removeRow_21 : decode cX5_removeRow 21 = .ok (.if_icmp .ge 32, 3) := by decide +kernel
theorem dX5_removeRow_24 : decode cX5_removeRow 24 = .ok (.iload_n 3, 1) := by decide +kernel
theorem dX5_removeRow_25 : decode cX5_removeRow 25 = .ok (.aload_n 0, 1) := by decide +kernel
theorem dX5_removeRow_26 : decode cX5_removeRow 26 = .ok (.getfield 11, 3) := by decide +kernel
theorem dX5_removeRow_29 : decode cX5_removeRow 29 = .ok (.arraylength, 1) := by decide +kernel
theorem dX5_removeRow_30 : decode cX5_removeRow 30 = .ok (.if_icmp .ge 23, 3) := by decide +kernel
theorem dX5_removeRow_33 : decode cX5_removeRow 33 = .ok (.aload_n 0, 1) := by decide +kernel
theorem dX5_removeRow_34 : decode cX5_removeRow 34 = .ok (.getfield 11, 3) := by decide +kernel
theorem dX5_removeRow_37 : decode cX5_removeRow 37 = .ok (.iload_n 3, 1) := by decide +kernel
theorem dX5_removeRow_38 : decode cX5_removeRow 38 = .ok (.iconst 1, 1) := by decide +kernel
theorem dX5_removeRow_39 : decode cX5_removeRow 39 = .ok (.isub, 1) := by decide +kernel
theorem dX5_removeRow_40 : decode cX5_removeRow 40 = .ok (.aload_n 0, 1) := by decide +kernel
theorem dX5_removeRow_41 : decode cX5_removeRow 41 = .ok (.getfield 11, 3) := by decide +kernel
theorem dX5_removeRow_44 : decode cX5_removeRow 44 = .ok (.iload_n 3, 1) := by decide +kernel
theorem dX5_removeRow_45 : decode cX5_removeRow 45 = .ok (.aaload, 1) := by decide +kernel
theorem dX5_removeRow_46 : decode cX5_removeRow 46 = .ok (.aastore, 1) := by decide +kernel
theorem dX5_removeRow_47 : decode cX5_removeRow 47 = .ok (.iinc 3 1, 3) := by decide +kernel
theorem dX5_removeRow_50 : decode cX5_removeRow 50 = .ok (.goto (-34), 3) := by decide +kernel
theorem dX5_removeRow_53 : decode cX5_removeRow 53 = .ok (.aload_n 0, 1) := by decide +kernel
theorem dX5_removeRow_54 : decode cX5_removeRow 54 = .ok (.dup, 1) := by decide +kernel
theorem dX5_removeRow_55 : decode cX5_removeRow 55 = .ok (.getfield 18, 3) := by decide +kernel
theorem dX5_removeRow_58 : decode cX5_removeRow 58 = .ok (.iconst 1, 1) := by decide +kernel
theorem dX5_removeRow_59 : decode cX5_removeRow 59 = .ok (.isub, 1) := by decide +kernel
theorem dX5_removeRow_60 : decode cX5_removeRow 60 = .ok (.putfield 18, 3) := by decide +kernel
theorem dX5_removeRow_63 : decode cX5_removeRow 63 = .ok (.aload_n 0, 1) := by decide +kernel
theorem dX5_removeRow_64 : decode cX5_removeRow 64 = .ok (.getfield 18, 3) := by decide +kernel
theorem dX5_removeRow_67 : decode cX5_removeRow 67 = .ok (.ifCond .lt 25, 3) := by decide +kernel
theorem dX5_removeRow_70 : decode cX5_removeRow 70 = .ok (.aload_n 0, 1) := by decide +kernel
theorem dX5_removeRow_71 : decode cX5_removeRow 71 = .ok (.getfield 18, 3) := by decide +kernel
theorem dX5_removeRow_74 : decode cX5_removeRow 74 = .ok (.aload_n 0, 1) := by decide +kernel
theorem dX5_removeRow_75 : decode cX5_removeRow 75 = .ok (.getfield 11, 3) := by decide +kernel
theorem dX5_removeRow_78 : decode cX5_removeRow 78 = .ok (.arraylength, 1) := by decide +kernel
theorem dX5_removeRow_79 : decode cX5_removeRow 79 = .ok (.if_icmp .ge 13, 3) := by decide +kernel
theorem dX5_removeRow_82 : decode cX5_removeRow 82 = .ok (.aload_n 0, 1) := by decide +kernel
theorem dX5_removeRow_83 : decode cX5_removeRow 83 = .ok (.getfield 11, 3) := by decide +kernel
theorem dX5_removeRow_86 : decode cX5_removeRow 86 = .ok (.aload_n 0, 1) := by decide +kernel
theorem dX5_removeRow_87 : decode cX5_removeRow 87 = .ok (.getfield 18, 3) := by decide +kernel
theorem dX5_removeRow_90 : decode cX5_removeRow 90 = .ok (.aload_n 2, 1) := by decide +kernel
theorem dX5_removeRow_91 : decode cX5_removeRow 91 = .ok (.aastore, 1) := by decide +kernel
theorem dX5_removeRow_92 : decode cX5_removeRow 92 = .ok (.iconst 1, 1) := by decide +kernel
theorem dX5_removeRow_93 : decode cX5_removeRow 93 = .ok (.ireturn, 1) := by decide +kernel
theorem dX5_balls_0 : decode cX5_balls 0 = .ok (.aload_n 0, 1) := by decide +kernel
theorem dX5_balls_1 : decode cX5_balls 1 = .ok (.getfield 26, 3) := by decide +kernel
theorem dX5_balls_4 : decode cX5_balls 4 = .ok (.invokestatic 55, 3) := by decide +kernel
theorem dX5_balls_7 : decode cX5_balls 7 = .ok (.ireturn, 1) := by decide +kernel
theorem dX5_throwOne_0 : decode cX5_throwOne 0 = .ok (.aload_n 0, 1) := by decide +kernel
theorem dX5_throwOne_1 : decode cX5_throwOne 1 = .ok (.aload_n 0, 1) := by decide +kernel
theorem dX5_throwOne_2 : decode cX5_throwOne 2 = .ok (.getfield 26, 3) := by decide +kernel
theorem dX5_throwOne_5 : decode cX5_throwOne 5 = .ok (.iload_n 1, 1) := by decide +kernel
theorem dX5_throwOne_6 : decode cX5_throwOne 6 = .ok (.invokestatic 61, 3) := by decide +kernel
theorem dX5_throwOne_9 : decode cX5_throwOne 9 = .ok (.putfield 26, 3) := by decide +kernel
theorem dX5_throwOne_12 : decode cX5_throwOne 12 = .ok (.aload_n 0, 1) := by decide +kernel
theorem dX5_throwOne_13 : decode cX5_throwOne 13 = .ok (.dup, 1) := by decide +kernel
theorem dX5_throwOne_14 : decode cX5_throwOne 14 = .ok (.getfield 29, 3) := by decide +kernel
theorem dX5_throwOne_17 : decode cX5_throwOne 17 = .ok (.iconst 1, 1) := by decide +kernel
theorem dX5_throwOne_18 : decode cX5_throwOne 18 = .ok (.iadd, 1) := by decide +kernel
theorem dX5_throwOne_19 : decode cX5_throwOne 19 = .ok (.putfield 29, 3) := by decide +kernel
theorem dX5_throwOne_22 : decode cX5_throwOne 22 = .ok (.aload_n 0, 1) := by decide +kernel
theorem dX5_throwOne_23 : decode cX5_throwOne 23 = .ok (.dup, 1) := by decide +kernel
theorem dX5_throwOne_24 : decode cX5_throwOne 24 = .ok (.getfield 32, 3) := by decide +kernel
theorem dX5_throwOne_27 : decode cX5_throwOne 27 = .ok (.iconst 1, 1) := by decide +kernel
theorem dX5_throwOne_28 : decode cX5_throwOne 28 = .ok (.iadd, 1) := by decide +kernel
theorem dX5_throwOne_29 : decode cX5_throwOne 29 = .ok (.putfield 32, 3) := by decide +kernel
theorem dX5_throwOne_32 : decode cX5_throwOne 32 = .ok (.iload_n 1, 1) := by decide +kernel
theorem dX5_throwOne_33 : decode cX5_throwOne 33 = .ok (.ifCond .le 13, 3) := by decide +kernel
theorem dX5_throwOne_36 : decode cX5_throwOne 36 = .ok (.aload_n 0, 1) := by decide +kernel
theorem dX5_throwOne_37 : decode cX5_throwOne 37 = .ok (.dup, 1) := by decide +kernel
theorem dX5_throwOne_38 : decode cX5_throwOne 38 = .ok (.getfield 35, 3) := by decide +kernel
theorem dX5_throwOne_41 : decode cX5_throwOne 41 = .ok (.iconst 1, 1) := by decide +kernel
theorem dX5_throwOne_42 : decode cX5_throwOne 42 = .ok (.iadd, 1) := by decide +kernel
theorem dX5_throwOne_43 : decode cX5_throwOne 43 = .ok (.putfield 35, 3) := by decide +kernel
theorem dX5_throwOne_46 : decode cX5_throwOne 46 = .ok (.aload_n 0, 1) := by decide +kernel
theorem dX5_throwOne_47 : decode cX5_throwOne 47 = .ok (.aload_n 0, 1) := by decide +kernel
theorem dX5_throwOne_48 : decode cX5_throwOne 48 = .ok (.getfield 38, 3) := by decide +kernel
theorem dX5_throwOne_51 : decode cX5_throwOne 51 = .ok (.iload_n 1, 1) := by decide +kernel
theorem dX5_throwOne_52 : decode cX5_throwOne 52 = .ok (.invokestatic 65, 3) := by decide +kernel
theorem dX5_throwOne_55 : decode cX5_throwOne 55 = .ok (.putfield 38, 3) := by decide +kernel
theorem dX5_throwOne_58 : decode cX5_throwOne 58 = .ok (.return_, 1) := by decide +kernel
theorem dX5_countClean_0 : decode cX5_countClean 0 = .ok (.iconst 0, 1) := by decide +kernel
theorem dX5_countClean_1 : decode cX5_countClean 1 = .ok (.istore_n 1, 1) := by decide +kernel
theorem dX5_countClean_2 : decode cX5_countClean 2 = .ok (.iconst 0, 1) := by decide +kernel
theorem dX5_countClean_3 : decode cX5_countClean 3 = .ok (.istore_n 2, 1) := by decide +kernel
theorem dX5_countClean_4 : decode cX5_countClean 4 = .ok (.iload_n 2, 1) := by decide +kernel
theorem dX5_countClean_5 : decode cX5_countClean 5 = .ok (.aload_n 0, 1) := by decide +kernel
theorem dX5_countClean_6 : decode cX5_countClean 6 = .ok (.getfield 18, 3) := by decide +kernel
theorem dX5_countClean_9 : decode cX5_countClean 9 = .ok (.if_icmp .ge 29, 3) := by decide +kernel
theorem dX5_countClean_12 : decode cX5_countClean 12 = .ok (.aload_n 0, 1) := by decide +kernel
theorem dX5_countClean_13 : decode cX5_countClean 13 = .ok (.iload_n 2, 1) := by decide +kernel
theorem dX5_countClean_14 : decode cX5_countClean 14 = .ok (.invokevirtual 47, 3) := by decide +kernel
theorem dX5_countClean_17 : decode cX5_countClean 17 = .ok (.astore_n 3, 1) := by decide +kernel
theorem dX5_countClean_18 : decode cX5_countClean 18 = .ok (.aload_n 3, 1) := by decide +kernel
theorem dX5_countClean_19 : decode cX5_countClean 19 = .ok (.ifnull 13, 3) := by decide +kernel
theorem dX5_countClean_22 : decode cX5_countClean 22 = .ok (.aload_n 3, 1) := by decide +kernel
theorem dX5_countClean_23 : decode cX5_countClean 23 = .ok (.invokevirtual 70, 3) := by decide +kernel
theorem dX5_countClean_26 : decode cX5_countClean 26 = .ok (.ifCond .eq 6, 3) := by decide +kernel
theorem dX5_countClean_29 : decode cX5_countClean 29 = .ok (.iinc 1 1, 3) := by decide +kernel
theorem dX5_countClean_32 : decode cX5_countClean 32 = .ok (.iinc 2 1, 3) := by decide +kernel
theorem dX5_countClean_35 : decode cX5_countClean 35 = .ok (.goto (-31), 3) := by decide +kernel
theorem dX5_countClean_38 : decode cX5_countClean 38 = .ok (.iload_n 1, 1) := by decide +kernel
theorem dX5_countClean_39 : decode cX5_countClean 39 = .ok (.ireturn, 1) := by decide +kernel
theorem dX5_ballsOfCleanRows_0 : decode cX5_ballsOfCleanRows 0 = .ok (.iconst 0, 1) := by decide +kernel
theorem dX5_ballsOfCleanRows_1 : decode cX5_ballsOfCleanRows 1 = .ok (.istore_n 1, 1) := by decide +kernel
theorem dX5_ballsOfCleanRows_2 : decode cX5_ballsOfCleanRows 2 = .ok (.iconst 0, 1) := by decide +kernel
theorem dX5_ballsOfCleanRows_3 : decode cX5_ballsOfCleanRows 3 = .ok (.istore_n 2, 1) := by decide +kernel
theorem dX5_ballsOfCleanRows_4 : decode cX5_ballsOfCleanRows 4 = .ok (.iload_n 2, 1) := by decide +kernel
theorem dX5_ballsOfCleanRows_5 : decode cX5_ballsOfCleanRows 5 = .ok (.aload_n 0, 1) := by decide +kernel
theorem dX5_ballsOfCleanRows_6 : decode cX5_ballsOfCleanRows 6 = .ok (.getfield 18, 3) := by decide +kernel
theorem dX5_ballsOfCleanRows_9 : decode cX5_ballsOfCleanRows 9 = .ok (.if_icmp .ge 33, 3) := by decide +kernel
theorem dX5_ballsOfCleanRows_12 : decode cX5_ballsOfCleanRows 12 = .ok (.aload_n 0, 1) := by decide +kernel
theorem dX5_ballsOfCleanRows_13 : decode cX5_ballsOfCleanRows 13 = .ok (.iload_n 2, 1) := by decide +kernel
theorem dX5_ballsOfCleanRows_14 : decode cX5_ballsOfCleanRows 14 = .ok (.invokevirtual 47, 3) := by decide +kernel
theorem dX5_ballsOfCleanRows_17 : decode cX5_ballsOfCleanRows 17 = .ok (.astore_n 3, 1) := by decide +kernel
theorem dX5_ballsOfCleanRows_18 : decode cX5_ballsOfCleanRows 18 = .ok (.aload_n 3, 1) := by decide +kernel
theorem dX5_ballsOfCleanRows_19 : decode cX5_ballsOfCleanRows 19 = .ok (.ifnull 17, 3) := by decide +kernel
theorem dX5_ballsOfCleanRows_22 : decode cX5_ballsOfCleanRows 22 = .ok (.aload_n 3, 1) := by decide +kernel
theorem dX5_ballsOfCleanRows_23 : decode cX5_ballsOfCleanRows 23 = .ok (.invokevirtual 70, 3) := by decide +kernel
theorem dX5_ballsOfCleanRows_26 : decode cX5_ballsOfCleanRows 26 = .ok (.ifCond .eq 10, 3) := by decide +kernel
theorem dX5_ballsOfCleanRows_29 : decode cX5_ballsOfCleanRows 29 = .ok (.iload_n 1, 1) := by decide +kernel
theorem dX5_ballsOfCleanRows_30 : decode cX5_ballsOfCleanRows 30 = .ok (.aload_n 3, 1) := by decide +kernel
theorem dX5_ballsOfCleanRows_31 : decode cX5_ballsOfCleanRows 31 = .ok (.invokevirtual 74, 3) := by decide +kernel
theorem dX5_ballsOfCleanRows_34 : decode cX5_ballsOfCleanRows 34 = .ok (.iadd, 1) := by decide +kernel
theorem dX5_ballsOfCleanRows_35 : decode cX5_ballsOfCleanRows 35 = .ok (.istore_n 1, 1) := by decide +kernel
theorem dX5_ballsOfCleanRows_36 : decode cX5_ballsOfCleanRows 36 = .ok (.iinc 2 1, 3) := by decide +kernel
theorem dX5_ballsOfCleanRows_39 : decode cX5_ballsOfCleanRows 39 = .ok (.goto (-35), 3) := by decide +kernel
theorem dX5_ballsOfCleanRows_42 : decode cX5_ballsOfCleanRows 42 = .ok (.iload_n 1, 1) := by decide +kernel
theorem dX5_ballsOfCleanRows_43 : decode cX5_ballsOfCleanRows 43 = .ok (.ireturn, 1) := by decide +kernel
theorem dX5_countThrows_0 : decode cX5_countThrows 0 = .ok (.iconst 0, 1) := by decide +kernel
theorem dX5_countThrows_1 : decode cX5_countThrows 1 = .ok (.istore_n 1, 1) := by decide +kernel
theorem dX5_countThrows_2 : decode cX5_countThrows 2 = .ok (.iconst 0, 1) := by decide +kernel
theorem dX5_countThrows_3 : decode cX5_countThrows 3 = .ok (.istore_n 2, 1) := by decide +kernel
theorem dX5_countThrows_4 : decode cX5_countThrows 4 = .ok (.iload_n 2, 1) := by decide +kernel
theorem dX5_countThrows_5 : decode cX5_countThrows 5 = .ok (.aload_n 0, 1) := by decide +kernel
theorem dX5_countThrows_6 : decode cX5_countThrows 6 = .ok (.getfield 18, 3) := by decide +kernel
theorem dX5_countThrows_9 : decode cX5_countThrows 9 = .ok (.if_icmp .ge 26, 3) := by decide +kernel
theorem dX5_countThrows_12 : decode cX5_countThrows 12 = .ok (.aload_n 0, 1) := by decide +kernel
theorem dX5_countThrows_13 : decode cX5_countThrows 13 = .ok (.iload_n 2, 1) := by decide +kernel
theorem dX5_countThrows_14 : decode cX5_countThrows 14 = .ok (.invokevirtual 47, 3) := by decide +kernel
theorem dX5_countThrows_17 : decode cX5_countThrows 17 = .ok (.astore_n 3, 1) := by decide +kernel
theorem dX5_countThrows_18 : decode cX5_countThrows 18 = .ok (.aload_n 3, 1) := by decide +kernel
theorem dX5_countThrows_19 : decode cX5_countThrows 19 = .ok (.ifnull 10, 3) := by decide +kernel
theorem dX5_countThrows_22 : decode cX5_countThrows 22 = .ok (.iload_n 1, 1) := by decide +kernel
theorem dX5_countThrows_23 : decode cX5_countThrows 23 = .ok (.aload_n 3, 1) := by decide +kernel
theorem dX5_countThrows_24 : decode cX5_countThrows 24 = .ok (.getfield 78, 3) := by decide +kernel
theorem dX5_countThrows_27 : decode cX5_countThrows 27 = .ok (.iadd, 1) := by decide +kernel
theorem dX5_countThrows_28 : decode cX5_countThrows 28 = .ok (.istore_n 1, 1) := by decide +kernel
theorem dX5_countThrows_29 : decode cX5_countThrows 29 = .ok (.iinc 2 1, 3) := by decide +kernel
theorem dX5_countThrows_32 : decode cX5_countThrows 32 = .ok (.goto (-28), 3) := by decide +kernel
theorem dX5_countThrows_35 : decode cX5_countThrows 35 = .ok (.iload_n 1, 1) := by decide +kernel
theorem dX5_countThrows_36 : decode cX5_countThrows 36 = .ok (.ireturn, 1) := by decide +kernel
theorem dX5_sumOfThrows_0 : decode cX5_sumOfThrows 0 = .ok (.iconst 0, 1) := by decide +kernel
theorem dX5_sumOfThrows_1 : decode cX5_sumOfThrows 1 = .ok (.istore_n 1, 1) := by decide +kernel
theorem dX5_sumOfThrows_2 : decode cX5_sumOfThrows 2 = .ok (.iconst 0, 1) := by decide +kernel
theorem dX5_sumOfThrows_3 : decode cX5_sumOfThrows 3 = .ok (.istore_n 2, 1) := by decide +kernel
theorem dX5_sumOfThrows_4 : decode cX5_sumOfThrows 4 = .ok (.iload_n 2, 1) := by decide +kernel
theorem dX5_sumOfThrows_5 : decode cX5_sumOfThrows 5 = .ok (.aload_n 0, 1) := by decide +kernel
theorem dX5_sumOfThrows_6 : decode cX5_sumOfThrows 6 = .ok (.getfield 18, 3) := by decide +kernel
theorem dX5_sumOfThrows_9 : decode cX5_sumOfThrows 9 = .ok (.if_icmp .ge 26, 3) := by decide +kernel
theorem dX5_sumOfThrows_12 : decode cX5_sumOfThrows 12 = .ok (.aload_n 0, 1) := by decide +kernel
theorem dX5_sumOfThrows_13 : decode cX5_sumOfThrows 13 = .ok (.iload_n 2, 1) := by decide +kernel
theorem dX5_sumOfThrows_14 : decode cX5_sumOfThrows 14 = .ok (.invokevirtual 47, 3) := by decide +kernel
theorem dX5_sumOfThrows_17 : decode cX5_sumOfThrows 17 = .ok (.astore_n 3, 1) := by decide +kernel
theorem dX5_sumOfThrows_18 : decode cX5_sumOfThrows 18 = .ok (.aload_n 3, 1) := by decide +kernel
theorem dX5_sumOfThrows_19 : decode cX5_sumOfThrows 19 = .ok (.ifnull 10, 3) := by decide +kernel
theorem dX5_sumOfThrows_22 : decode cX5_sumOfThrows 22 = .ok (.iload_n 1, 1) := by decide +kernel
theorem dX5_sumOfThrows_23 : decode cX5_sumOfThrows 23 = .ok (.aload_n 3, 1) := by decide +kernel
theorem dX5_sumOfThrows_24 : decode cX5_sumOfThrows 24 = .ok (.invokevirtual 81, 3) := by decide +kernel
theorem dX5_sumOfThrows_27 : decode cX5_sumOfThrows 27 = .ok (.iadd, 1) := by decide +kernel
theorem dX5_sumOfThrows_28 : decode cX5_sumOfThrows 28 = .ok (.istore_n 1, 1) := by decide +kernel
theorem dX5_sumOfThrows_29 : decode cX5_sumOfThrows 29 = .ok (.iinc 2 1, 3) := by decide +kernel
theorem dX5_sumOfThrows_32 : decode cX5_sumOfThrows 32 = .ok (.goto (-28), 3) := by decide +kernel
theorem dX5_sumOfThrows_35 : decode cX5_sumOfThrows 35 = .ok (.iload_n 1, 1) := by decide +kernel
theorem dX5_sumOfThrows_36 : decode cX5_sumOfThrows 36 = .ok (.ireturn, 1) := by decide +kernel
theorem dX6_init_0 : decode cX6_init 0 = .ok (.aload_n 0, 1) := by decide +kernel
theorem dX6_init_1 : decode cX6_init 1 = .ok (.invokespecial 3, 3) := by decide +kernel
theorem dX6_init_4 : decode cX6_init 4 = .ok (.aload_n 0, 1) := by decide +kernel
theorem dX6_init_5 : decode cX6_init 5 = .ok (.bipush 70, 2) := by decide +kernel
theorem dX6_init_7 : decode cX6_init 7 = .ok (.newarray .char, 2) := by decide +kernel
theorem dX6_init_9 : decode cX6_init 9 = .ok (.putfield 9, 3) := by decide +kernel
theorem dX6_init_12 : decode cX6_init 12 = .ok (.return_, 1) := by decide +kernel
theorem dX6_clear_0 : decode cX6_clear 0 = .ok (.aload_n 0, 1) := by decide +kernel
theorem dX6_clear_1 : decode cX6_clear 1 = .ok (.iconst 0, 1) := by decide +kernel
theorem dX6_clear_2 : decode cX6_clear 2 = .ok (.putfield 15, 3) := by decide +kernel
theorem dX6_clear_5 : decode cX6_clear 5 = .ok (.return_, 1) := by decide +kernel
theorem dX6_put_0 : decode cX6_put 0 = .ok (.iload_n 1, 1) := by decide +kernel
theorem dX6_put_1 : decode cX6_put 1 = .ok (.bipush 32, 2) := by decide +kernel
theorem dX6_put_3 : decode cX6_put 3 = .ok (.if_icmp .lt 28, 3) := by decide +kernel
theorem dX6_put_6 : decode cX6_put 6 = .ok (.iload_n 1, 1) := by decide +kernel
theorem dX6_put_7 : decode cX6_put 7 = .ok (.bipush 126, 2) := by decide +kernel
theorem dX6_put_9 : decode cX6_put 9 = .ok (.if_icmp .gt 22, 3) := by decide +kernel
theorem dX6_put_12 : decode cX6_put 12 = .ok (.aload_n 0, 1) := by decide +kernel
theorem dX6_put_13 : decode cX6_put 13 = .ok (.getfield 15, 3) := by decide +kernel
theorem dX6_put_16 : decode cX6_put 16 = .ok (.ifCond .lt 15, 3) := by decide +kernel
theorem dX6_put_19 : decode cX6_put 19 = .ok (.aload_n 0, 1) := by decide +kernel
theorem dX6_put_20 : decode cX6_put 20 = .ok (.getfield 15, 3) := by decide +kernel
theorem dX6_put_23 : decode cX6_put 23 = .ok (.aload_n 0, 1) := by decide +kernel
theorem dX6_put_24 : decode cX6_put 24 = .ok (.getfield 9, 3) := by decide +kernel
theorem dX6_put_27 : decode cX6_put 27 = .ok (.arraylength, 1) := by decide +kernel
theorem dX6_put_28 : decode cX6_put 28 = .ok (.if_icmp .lt 5, 3) := by decide +kernel
theorem dX6_put_31 : decode cX6_put 31 = .ok (.iconst 0, 1) := by decide +kernel
theorem dX6_put_32 : decode cX6_put 32 = .ok (.ireturn, 1) := by decide +kernel
theorem dX6_put_33 : decode cX6_put 33 = .ok (.aload_n 0, 1) := by decide +kernel
theorem dX6_put_34 : decode cX6_put 34 = .ok (.getfield 9, 3) := by decide +kernel
theorem dX6_put_37 : decode cX6_put 37 = .ok (.aload_n 0, 1) := by decide +kernel
theorem dX6_put_38 : decode cX6_put 38 = .ok (.getfield 15, 3) := by decide +kernel
theorem dX6_put_41 : decode cX6_put 41 = .ok (.iload_n 1, 1) := by decide +kernel
theorem dX6_put_42 : decode cX6_put 42 = .ok (.i2c, 1) := by decide +kernel
theorem dX6_put_43 : decode cX6_put 43 = .ok (.castore, 1) := by decide +kernel
theorem dX6_put_44 : decode cX6_put 44 = .ok (.aload_n 0, 1) := by decide +kernel
theorem dX6_put_45 : decode cX6_put 45 = .ok (.dup, 1) := by decide +kernel
theorem dX6_put_46 : decode cX6_put 46 = .ok (.getfield 15, 3) := by decide +kernel
theorem dX6_put_49 : decode cX6_put 49 = .ok (.iconst 1, 1) := by decide +kernel
theorem dX6_put_50 : decode cX6_put 50 = .ok (.iadd, 1) := by decide +kernel
theorem dX6_put_51 : decode cX6_put 51 = .ok (.putfield 15, 3) := by decide +kernel
theorem dX6_put_54 : decode cX6_put 54 = .ok (.iconst 1, 1) := by decide +kernel
theorem dX6_put_55 : decode cX6_put 55 = .ok (.ireturn, 1) := by decide +kernel
theorem dX6_codeAt_0 : decode cX6_codeAt 0 = .ok (.iload_n 1, 1) := by decide +kernel
theorem dX6_codeAt_1 : decode cX6_codeAt 1 = .ok (.ifCond .lt 29, 3) := by decide +kernel
theorem dX6_codeAt_4 : decode cX6_codeAt 4 = .ok (.iload_n 1, 1) := by decide +kernel
theorem dX6_codeAt_5 : decode cX6_codeAt 5 = .ok (.aload_n 0, 1) := by decide +kernel
theorem dX6_codeAt_6 : decode cX6_codeAt 6 = .ok (.getfield 15, 3) := by decide +kernel
theorem dX6_codeAt_9 : decode cX6_codeAt 9 = .ok (.if_icmp .ge 21, 3) := by decide +kernel
theorem dX6_codeAt_12 : decode cX6_codeAt 12 = .ok (.iload_n 1, 1) := by decide +kernel
theorem dX6_codeAt_13 : decode cX6_codeAt 13 = .ok (.aload_n 0, 1) := by decide +kernel
theorem dX6_codeAt_14 : decode cX6_codeAt 14 = .ok (.getfield 9, 3) := by decide +kernel
theorem dX6_codeAt_17 : decode cX6_codeAt 17 = .ok (.arraylength, 1) := by decide +kernel
theorem dX6_codeAt_18 : decode cX6_codeAt 18 = .ok (.if_icmp .ge 12, 3) := by decide +kernel
theorem dX6_codeAt_21 : decode cX6_codeAt 21 = .ok (.aload_n 0, 1) := by decide +kernel
theorem dX6_codeAt_22 : decode cX6_codeAt 22 = .ok (.getfield 9, 3) := by decide +kernel
theorem dX6_codeAt_25 : decode cX6_codeAt 25 = .ok (.iload_n 1, 1) := by decide +kernel
theorem dX6_codeAt_26 : decode cX6_codeAt 26 = .ok (.caload, 1) := by decide +kernel
theorem dX6_codeAt_27 : decode cX6_codeAt 27 = .ok (.goto 4, 3) := by decide +kernel
theorem dX6_codeAt_30 : decode cX6_codeAt 30 = .ok (.iconst (-1), 1) := by decide +kernel
theorem dX6_codeAt_31 : decode cX6_codeAt 31 = .ok (.ireturn, 1) := by decide +kernel
theorem dX6_digitAt_0 : decode cX6_digitAt 0 = .ok (.aload_n 0, 1) := by decide +kernel
theorem dX6_digitAt_1 : decode cX6_digitAt 1 = .ok (.iload_n 1, 1) := by decide +kernel
theorem dX6_digitAt_2 : decode cX6_digitAt 2 = .ok (.invokevirtual 19, 3) := by decide +kernel
theorem dX6_digitAt_5 : decode cX6_digitAt 5 = .ok (.istore_n 2, 1) := by decide +kernel
theorem dX6_digitAt_6 : decode cX6_digitAt 6 = .ok (.iload_n 2, 1) := by decide +kernel
theorem dX6_digitAt_7 : decode cX6_digitAt 7 = .ok (.bipush 48, 2) := by decide +kernel
theorem dX6_digitAt_9 : decode cX6_digitAt 9 = .ok (.if_icmp .lt 16, 3) := by decide +kernel
theorem dX6_digitAt_12 : decode cX6_digitAt 12 = .ok (.iload_n 2, 1) := by decide +kernel
theorem dX6_digitAt_13 : decode cX6_digitAt 13 = .ok (.bipush 57, 2) := by decide +kernel
theorem dX6_digitAt_15 : decode cX6_digitAt 15 = .ok (.if_icmp .gt 10, 3) := by decide +kernel
theorem dX6_digitAt_18 : decode cX6_digitAt 18 = .ok (.iload_n 2, 1) := by decide +kernel
theorem dX6_digitAt_19 : decode cX6_digitAt 19 = .ok (.bipush 48, 2) := by decide +kernel
theorem dX6_digitAt_21 : decode cX6_digitAt 21 = .ok (.isub, 1) := by decide +kernel
theorem dX6_digitAt_22 : decode cX6_digitAt 22 = .ok (.goto 4, 3) := by decide +kernel
theorem dX6_digitAt_25 : decode cX6_digitAt 25 = .ok (.iconst (-1), 1) := by decide +kernel
theorem dX6_digitAt_26 : decode cX6_digitAt 26 = .ok (.ireturn, 1) := by decide +kernel
theorem dX6_digitsFrom_0 : decode cX6_digitsFrom 0 = .ok (.iconst 0, 1) := by decide +kernel
theorem dX6_digitsFrom_1 : decode cX6_digitsFrom 1 = .ok (.istore_n 3, 1) := by decide +kernel
theorem dX6_digitsFrom_2 : decode cX6_digitsFrom 2 = .ok (.iload_n 3, 1) := by decide +kernel
theorem dX6_digitsFrom_3 : decode cX6_digitsFrom 3 = .ok (.iload_n 2, 1) := by decide +kernel
theorem dX6_digitsFrom_4 : decode cX6_digitsFrom 4 = .ok (.if_icmp .ge 20, 3) := by decide +kernel
theorem dX6_digitsFrom_7 : decode cX6_digitsFrom 7 = .ok (.aload_n 0, 1) := by decide +kernel
theorem dX6_digitsFrom_8 : decode cX6_digitsFrom 8 = .ok (.iload_n 1, 1) := by decide +kernel
theorem dX6_digitsFrom_9 : decode cX6_digitsFrom 9 = .ok (.iload_n 3, 1) := by decide +kernel
theorem dX6_digitsFrom_10 : decode cX6_digitsFrom 10 = .ok (.iadd, 1) := by decide +kernel
theorem dX6_digitsFrom_11 : decode cX6_digitsFrom 11 = .ok (.invokevirtual 23, 3) := by decide +kernel
theorem dX6_digitsFrom_14 : decode cX6_digitsFrom 14 = .ok (.iconst (-1), 1) := by decide +kernel
theorem dX6_digitsFrom_15 : decode cX6_digitsFrom 15 = .ok (.if_icmp .eq 9, 3) := by decide +kernel
theorem dX6_digitsFrom_18 : decode cX6_digitsFrom 18 = .ok (.iinc 3 1, 3) := by decide +kernel
theorem dX6_digitsFrom_21 : decode cX6_digitsFrom 21 = .ok (.goto (-19), 3) := by decide +kernel
theorem dX6_digitsFrom_24 : decode cX6_digitsFrom 24 = .ok (.iload_n 3, 1) := by decide +kernel
theorem dX6_digitsFrom_25 : decode cX6_digitsFrom 25 = .ok (.ireturn, 1) := by decide +kernel
theorem dX6_digitsBehind_0 : decode cX6_digitsBehind 0 = .ok (.iload_n 0, 1) := by decide +kernel
theorem dX6_digitsBehind_1 : decode cX6_digitsBehind 1 = .ok (.tableswitch 111 98 120 #[107, 107, 111, 111, 111, 111, 111, 111, 107, 111, 107, 111, 111, 111, 111, 111, 107, 109, 107, 111, 111, 111, 107], 107) := by decide +kernel
theorem dX6_digitsBehind_108 : decode cX6_digitsBehind 108 = .ok (.iconst 1, 1) := by decide +kernel
theorem dX6_digitsBehind_109 : decode cX6_digitsBehind 109 = .ok (.ireturn, 1) := by decide +kernel
theorem dX6_digitsBehind_110 : decode cX6_digitsBehind 110 = .ok (.iconst 3, 1) := by decide +kernel
theorem dX6_digitsBehind_111 : decode cX6_digitsBehind 111 = .ok (.ireturn, 1) := by decide +kernel
theorem dX6_digitsBehind_112 : decode cX6_digitsBehind 112 = .ok (.iconst 0, 1) := by decide +kernel
theorem dX6_digitsBehind_113 : decode cX6_digitsBehind 113 = .ok (.ireturn, 1) := by decide +kernel
theorem dX6_faultPosition_0 : decode cX6_faultPosition 0 = .ok (.iconst 0, 1) := by decide +kernel
theorem dX6_faultPosition_1 : decode cX6_faultPosition 1 = .ok (.istore_n 1, 1) := by decide +kernel
theorem dX6_faultPosition_2 : decode cX6_faultPosition 2 = .ok (.iconst 0, 1) := by decide +kernel
theorem dX6_faultPosition_3 : decode cX6_faultPosition 3 = .ok (.istore_n 2, 1) := by decide +kernel
theorem dX6_faultPosition_4 : decode cX6_faultPosition 4 = .ok (.iload_n 2, 1) := by decide +kernel
theorem dX6_faultPosition_5 : decode cX6_faultPosition 5 = .ok (.bipush 70, 2) := by decide +kernel
theorem dX6_faultPosition_7 : decode cX6_faultPosition 7 = .ok (.if_icmp .gt 95, 3) := by decide +kernel
theorem dX6_faultPosition_10 : decode cX6_faultPosition 10 = .ok (.aload_n 0, 1) := by decide +kernel
theorem dX6_faultPosition_11 : decode cX6_faultPosition 11 = .ok (.iload_n 1, 1) := by decide +kernel
theorem dX6_faultPosition_12 : decode cX6_faultPosition 12 = .ok (.invokevirtual 19, 3) := by decide +kernel
theorem dX6_faultPosition_15 : decode cX6_faultPosition 15 = .ok (.invokestatic 26, 3) := by decide +kernel
theorem dX6_faultPosition_18 : decode cX6_faultPosition 18 = .ok (.istore_n 3, 1) := by decide +kernel
theorem dX6_faultPosition_19 : decode cX6_faultPosition 19 = .ok (.iload_n 3, 1) := by decide +kernel
theorem dX6_faultPosition_20 : decode cX6_faultPosition 20 = .ok (.ifCond .le 7, 3) := by decide +kernel
theorem dX6_faultPosition_23 : decode cX6_faultPosition 23 = .ok (.iconst 1, 1) := by decide +kernel
theorem dX6_faultPosition_24 : decode cX6_faultPosition 24 = .ok (.goto 4, 3) := by decide +kernel
theorem dX6_faultPosition_27 : decode cX6_faultPosition 27 = .ok (.iconst 0, 1) := by decide +kernel
theorem dX6_faultPosition_28 : decode cX6_faultPosition 28 = .ok (.istore 4, 2) := by decide +kernel
theorem dX6_faultPosition_30 : decode cX6_faultPosition 30 = .ok (.aload_n 0, 1) := by decide +kernel
theorem dX6_faultPosition_31 : decode cX6_faultPosition 31 = .ok (.iload_n 1, 1) := by decide +kernel
theorem dX6_faultPosition_32 : decode cX6_faultPosition 32 = .ok (.iload 4, 2) := by decide +kernel
theorem dX6_faultPosition_34 : decode cX6_faultPosition 34 = .ok (.iadd, 1) := by decide +kernel
theorem dX6_faultPosition_35 : decode cX6_faultPosition 35 = .ok (.iload_n 3, 1) := by decide +kernel
theorem dX6_faultPosition_36 : decode cX6_faultPosition 36 = .ok (.ifCond .le 7, 3) := by decide +kernel
theorem dX6_faultPosition_39 : decode cX6_faultPosition 39 = .ok (.iload_n 3, 1) := by decide +kernel
theorem dX6_faultPosition_40 : decode cX6_faultPosition 40 = .ok (.goto 5, 3) := by decide +kernel
theorem dX6_faultPosition_43 : decode cX6_faultPosition 43 = .ok (.bipush 8, 2) := by decide +kernel
theorem dX6_faultPosition_45 : decode cX6_faultPosition 45 = .ok (.invokevirtual 29, 3) := by decide +kernel
theorem dX6_faultPosition_48 : decode cX6_faultPosition 48 = .ok (.istore 5, 2) := by decide +kernel
theorem dX6_faultPosition_50 : decode cX6_faultPosition 50 = .ok (.iload_n 1, 1) := by decide +kernel
theorem dX6_faultPosition_51 : decode cX6_faultPosition 51 = .ok (.iload 4, 2) := by decide +kernel
theorem dX6_faultPosition_53 : decode cX6_faultPosition 53 = .ok (.iload 5, 2) := by decide +kernel
theorem dX6_faultPosition_55 : decode cX6_faultPosition 55 = .ok (.iadd, 1) := by decide +kernel
theorem dX6_faultPosition_56 : decode cX6_faultPosition 56 = .ok (.iadd, 1) := by decide +kernel
theorem dX6_faultPosition_57 : decode cX6_faultPosition 57 = .ok (.istore_n 1, 1) := by decide +kernel
theorem dX6_faultPosition_58 : decode cX6_faultPosition 58 = .ok (.iload 5, 2) := by decide +kernel
theorem dX6_faultPosition_60 : decode cX6_faultPosition 60 = .ok (.ifCond .eq 9, 3) := by decide +kernel
theorem dX6_faultPosition_63 : decode cX6_faultPosition 63 = .ok (.iload 5, 2) := by decide +kernel
theorem dX6_faultPosition_65 : decode cX6_faultPosition 65 = .ok (.iload_n 3, 1) := by decide +kernel
theorem dX6_faultPosition_66 : decode cX6_faultPosition 66 = .ok (.if_icmp .ge 5, 3) := by decide +kernel
theorem dX6_faultPosition_69 : decode cX6_faultPosition 69 = .ok (.iload_n 1, 1) := by decide +kernel
theorem dX6_faultPosition_70 : decode cX6_faultPosition 70 = .ok (.ireturn, 1) := by decide +kernel
theorem dX6_faultPosition_71 : decode cX6_faultPosition 71 = .ok (.iload_n 1, 1) := by decide +kernel
theorem dX6_faultPosition_72 : decode cX6_faultPosition 72 = .ok (.aload_n 0, 1) := by decide +kernel
theorem dX6_faultPosition_73 : decode cX6_faultPosition 73 = .ok (.getfield 15, 3) := by decide +kernel
theorem dX6_faultPosition_76 : decode cX6_faultPosition 76 = .ok (.if_icmp .ne 5, 3) := by decide +kernel
theorem dX6_faultPosition_79 : decode cX6_faultPosition 79 = .ok (.iconst (-1), 1) := by decide +kernel
theorem dX6_faultPosition_80 : decode cX6_faultPosition 80 = .ok (.ireturn, 1) := by decide +kernel
theorem dX6_faultPosition_81 : decode cX6_faultPosition 81 = .ok (.aload_n 0, 1) := by decide +kernel
theorem dX6_faultPosition_82 : decode cX6_faultPosition 82 = .ok (.iload_n 1, 1) := by decide +kernel
theorem dX6_faultPosition_83 : decode cX6_faultPosition 83 = .ok (.invokevirtual 19, 3) := by decide +kernel
theorem dX6_faultPosition_86 : decode cX6_faultPosition 86 = .ok (.bipush 59, 2) := by decide +kernel
theorem dX6_faultPosition_88 : decode cX6_faultPosition 88 = .ok (.if_icmp .eq 5, 3) := by decide +kernel
theorem dX6_faultPosition_91 : decode cX6_faultPosition 91 = .ok (.iload_n 1, 1) := by decide +kernel
theorem dX6_faultPosition_92 : decode cX6_faultPosition 92 = .ok (.ireturn, 1) := by decide +kernel
theorem dX6_faultPosition_93 : decode cX6_faultPosition 93 = .ok (.iinc 1 1, 3) := by decide +kernel
theorem dX6_faultPosition_96 : decode cX6_faultPosition 96 = .ok (.iinc 2 1, 3) := by decide +kernel
theorem dX6_faultPosition_99 : decode cX6_faultPosition 99 = .ok (.goto (-95), 3) := by decide +kernel
theorem dX6_faultPosition_102 : decode cX6_faultPosition 102 = .ok (.iload_n 1, 1) := by decide +kernel
theorem dX6_faultPosition_103 : decode cX6_faultPosition 103 = .ok (.ireturn, 1) := by decide +kernel
theorem dX6_endOfCommand_0 : decode cX6_endOfCommand 0 = .ok (.iload_n 1, 1) := by decide +kernel
theorem dX6_endOfCommand_1 : decode cX6_endOfCommand 1 = .ok (.istore_n 2, 1) := by decide +kernel
theorem dX6_endOfCommand_2 : decode cX6_endOfCommand 2 = .ok (.iload_n 2, 1) := by decide +kernel
theorem dX6_endOfCommand_3 : decode cX6_endOfCommand 3 = .ok (.aload_n 0, 1) := by decide +kernel
theorem dX6_endOfCommand_4 : decode cX6_endOfCommand 4 = .ok (.getfield 15, 3) := by decide +kernel
theorem dX6_endOfCommand_7 : decode cX6_endOfCommand 7 = .ok (.if_icmp .ge 19, 3) := by decide +kernel
theorem dX6_endOfCommand_10 : decode cX6_endOfCommand 10 = .ok (.aload_n 0, 1) := by decide +kernel
theorem dX6_endOfCommand_11 : decode cX6_endOfCommand 11 = .ok (.iload_n 2, 1) := by decide +kernel
theorem dX6_endOfCommand_12 : decode cX6_endOfCommand 12 = .ok (.invokevirtual 19, 3) := by decide +kernel
theorem dX6_endOfCommand_15 : decode cX6_endOfCommand 15 = .ok (.bipush 59, 2) := by decide +kernel
theorem dX6_endOfCommand_17 : decode cX6_endOfCommand 17 = .ok (.if_icmp .eq 9, 3) := by decide +kernel
theorem dX6_endOfCommand_20 : decode cX6_endOfCommand 20 = .ok (.iinc 2 1, 3) := by decide +kernel
theorem dX6_endOfCommand_23 : decode cX6_endOfCommand 23 = .ok (.goto (-21), 3) := by decide +kernel
theorem dX6_endOfCommand_26 : decode cX6_endOfCommand 26 = .ok (.iload_n 2, 1) := by decide +kernel
theorem dX6_endOfCommand_27 : decode cX6_endOfCommand 27 = .ok (.ireturn, 1) := by decide +kernel
theorem dX6_numberAt_0 : decode cX6_numberAt 0 = .ok (.iconst 0, 1) := by decide +kernel
theorem dX6_numberAt_1 : decode cX6_numberAt 1 = .ok (.istore_n 2, 1) := by decide +kernel
theorem dX6_numberAt_2 : decode cX6_numberAt 2 = .ok (.aload_n 0, 1) := by decide +kernel
theorem dX6_numberAt_3 : decode cX6_numberAt 3 = .ok (.iload_n 1, 1) := by decide +kernel
theorem dX6_numberAt_4 : decode cX6_numberAt 4 = .ok (.bipush 8, 2) := by decide +kernel
theorem dX6_numberAt_6 : decode cX6_numberAt 6 = .ok (.invokevirtual 29, 3) := by decide +kernel
theorem dX6_numberAt_9 : decode cX6_numberAt 9 = .ok (.istore_n 3, 1) := by decide +kernel
theorem dX6_numberAt_10 : decode cX6_numberAt 10 = .ok (.iconst 0, 1) := by decide +kernel
theorem dX6_numberAt_11 : decode cX6_numberAt 11 = .ok (.istore 4, 2) := by decide +kernel
theorem dX6_numberAt_13 : decode cX6_numberAt 13 = .ok (.iload 4, 2) := by decide +kernel
theorem dX6_numberAt_15 : decode cX6_numberAt 15 = .ok (.iload_n 3, 1) := by decide +kernel
theorem dX6_numberAt_16 : decode cX6_numberAt 16 = .ok (.if_icmp .ge 23, 3) := by decide +kernel
theorem dX6_numberAt_19 : decode cX6_numberAt 19 = .ok (.iload_n 2, 1) := by decide +kernel
theorem dX6_numberAt_20 : decode cX6_numberAt 20 = .ok (.bipush 10, 2) := by decide +kernel
theorem dX6_numberAt_22 : decode cX6_numberAt 22 = .ok (.imul, 1) := by decide +kernel
theorem dX6_numberAt_23 : decode cX6_numberAt 23 = .ok (.aload_n 0, 1) := by decide +kernel
theorem dX6_numberAt_24 : decode cX6_numberAt 24 = .ok (.iload_n 1, 1) := by decide +kernel
theorem dX6_numberAt_25 : decode cX6_numberAt 25 = .ok (.iload 4, 2) := by decide +kernel
theorem dX6_numberAt_27 : decode cX6_numberAt 27 = .ok (.iadd, 1) := by decide +kernel
theorem dX6_numberAt_28 : decode cX6_numberAt 28 = .ok (.invokevirtual 23, 3) := by decide +kernel
theorem dX6_numberAt_31 : decode cX6_numberAt 31 = .ok (.iadd, 1) := by decide +kernel
theorem dX6_numberAt_32 : decode cX6_numberAt 32 = .ok (.istore_n 2, 1) := by decide +kernel
theorem dX6_numberAt_33 : decode cX6_numberAt 33 = .ok (.iinc 4 1, 3) := by decide +kernel
theorem dX6_numberAt_36 : decode cX6_numberAt 36 = .ok (.goto (-23), 3) := by decide +kernel
theorem dX6_numberAt_39 : decode cX6_numberAt 39 = .ok (.iload_n 2, 1) := by decide +kernel
theorem dX6_numberAt_40 : decode cX6_numberAt 40 = .ok (.ireturn, 1) := by decide +kernel
theorem dJxf58ca_isNaN_12338_0 : decode cJxf58ca_isNaN_12338 0 = .ok (.fload_n 0, 1) := by decide +kernel
theorem dJxf58ca_isNaN_12338_1 : decode cJxf58ca_isNaN_12338 1 = .ok (.fload_n 0, 1) := by decide +kernel
theorem dJxf58ca_isNaN_12338_2 : decode cJxf58ca_isNaN_12338 2 = .ok (.fcmp .l, 1) := by decide +kernel
theorem dJxf58ca_isNaN_12338_3 : decode cJxf58ca_isNaN_12338 3 = .ok (.ifCond .eq 7, 3) := by decide +kernel
theorem dJxf58ca_isNaN_12338_6 : decode cJxf58ca_isNaN_12338 6 = .ok (.iconst 1, 1) := by decide +kernel
theorem dJxf58ca_isNaN_12338_7 : decode cJxf58ca_isNaN_12338 7 = .ok (.goto 4, 3) := by decide +kernel
theorem dJxf58ca_isNaN_12338_10 : decode cJxf58ca_isNaN_12338 10 = .ok (.iconst 0, 1) := by decide +kernel
theorem dJxf58ca_isNaN_12338_11 : decode cJxf58ca_isNaN_12338 11 = .ok (.ireturn, 1) := by decide +kernel
theorem dJxf58ca_floatToIntBits_5c35a_0 : decode cJxf58ca_floatToIntBits_5c35a 0 = .ok (.fload_n 0, 1) := by decide +kernel
theorem dJxf58ca_floatToIntBits_5c35a_1 : decode cJxf58ca_floatToIntBits_5c35a 1 = .ok (.invokestatic 59, 3) := by decide +kernel
theorem dJxf58ca_floatToIntBits_5c35a_4 : decode cJxf58ca_floatToIntBits_5c35a 4 = .ok (.ifCond .ne 8, 3) := by decide +kernel
theorem dJxf58ca_floatToIntBits_5c35a_7 : decode cJxf58ca_floatToIntBits_5c35a 7 = .ok (.fload_n 0, 1) := by decide +kernel
theorem dJxf58ca_floatToIntBits_5c35a_8 : decode cJxf58ca_floatToIntBits_5c35a 8 = .ok (.invokestatic 74, 3) := by decide +kernel
theorem dJxf58ca_floatToIntBits_5c35a_11 : decode cJxf58ca_floatToIntBits_5c35a 11 = .ok (.ireturn, 1) := by decide +kernel
theorem dJxf58ca_floatToIntBits_5c35a_12 : decode cJxf58ca_floatToIntBits_5c35a 12 = .ok (.ldc 77, 2) := by decide +kernel
theorem dJxf58ca_floatToIntBits_5c35a_14 : decode cJxf58ca_floatToIntBits_5c35a 14 = .ok (.ireturn, 1) := by decide +kernel
theorem dJ6_bitCount_0f7a4_0 : decode cJ6_bitCount_0f7a4 0 = .ok (.iload_n 0, 1) := by decide +kernel
theorem dJ6_bitCount_0f7a4_1 : decode cJ6_bitCount_0f7a4 1 = .ok (.iload_n 0, 1) := by decide +kernel
theorem dJ6_bitCount_0f7a4_2 : decode cJ6_bitCount_0f7a4 2 = .ok (.iconst 1, 1) := by decide +kernel
theorem dJ6_bitCount_0f7a4_3 : decode cJ6_bitCount_0f7a4 3 = .ok (.iushr, 1) := by decide +kernel
theorem dJ6_bitCount_0f7a4_4 : decode cJ6_bitCount_0f7a4 4 = .ok (.ldc_w 265, 3) := by decide +kernel
theorem dJ6_bitCount_0f7a4_7 : decode cJ6_bitCount_0f7a4 7 = .ok (.iand, 1) := by decide +kernel
theorem dJ6_bitCount_0f7a4_8 : decode cJ6_bitCount_0f7a4 8 = .ok (.isub, 1) := by decide +kernel
theorem dJ6_bitCount_0f7a4_9 : decode cJ6_bitCount_0f7a4 9 = .ok (.istore_n 0, 1) := by decide +kernel
theorem dJ6_bitCount_0f7a4_10 : decode cJ6_bitCount_0f7a4 10 = .ok (.iload_n 0, 1) := by decide +kernel
theorem dJ6_bitCount_0f7a4_11 : decode cJ6_bitCount_0f7a4 11 = .ok (.ldc_w 266, 3) := by decide +kernel
theorem dJ6_bitCount_0f7a4_14 : decode cJ6_bitCount_0f7a4 14 = .ok (.iand, 1) := by decide +kernel
theorem dJ6_bitCount_0f7a4_15 : decode cJ6_bitCount_0f7a4 15 = .ok (.iload_n 0, 1) := by decide +kernel
theorem dJ6_bitCount_0f7a4_16 : decode cJ6_bitCount_0f7a4 16 = .ok (.iconst 2, 1) := by decide +kernel
theorem dJ6_bitCount_0f7a4_17 : decode cJ6_bitCount_0f7a4 17 = .ok (.iushr, 1) := by decide +kernel
theorem dJ6_bitCount_0f7a4_18 : decode cJ6_bitCount_0f7a4 18 = .ok (.ldc_w 266, 3) := by decide +kernel
theorem dJ6_bitCount_0f7a4_21 : decode cJ6_bitCount_0f7a4 21 = .ok (.iand, 1) := by decide +kernel
theorem dJ6_bitCount_0f7a4_22 : decode cJ6_bitCount_0f7a4 22 = .ok (.iadd, 1) := by decide +kernel
theorem dJ6_bitCount_0f7a4_23 : decode cJ6_bitCount_0f7a4 23 = .ok (.istore_n 0, 1) := by decide +kernel
theorem dJ6_bitCount_0f7a4_24 : decode cJ6_bitCount_0f7a4 24 = .ok (.iload_n 0, 1) := by decide +kernel
theorem dJ6_bitCount_0f7a4_25 : decode cJ6_bitCount_0f7a4 25 = .ok (.iload_n 0, 1) := by decide +kernel
theorem dJ6_bitCount_0f7a4_26 : decode cJ6_bitCount_0f7a4 26 = .ok (.iconst 4, 1) := by decide +kernel
theorem dJ6_bitCount_0f7a4_27 : decode cJ6_bitCount_0f7a4 27 = .ok (.iushr, 1) := by decide +kernel
theorem dJ6_bitCount_0f7a4_28 : decode cJ6_bitCount_0f7a4 28 = .ok (.iadd, 1) := by decide +kernel
theorem dJ6_bitCount_0f7a4_29 : decode cJ6_bitCount_0f7a4 29 = .ok (.ldc_w 267, 3) := by decide +kernel
theorem dJ6_bitCount_0f7a4_32 : decode cJ6_bitCount_0f7a4 32 = .ok (.iand, 1) := by decide +kernel
theorem dJ6_bitCount_0f7a4_33 : decode cJ6_bitCount_0f7a4 33 = .ok (.istore_n 0, 1) := by decide +kernel
theorem dJ6_bitCount_0f7a4_34 : decode cJ6_bitCount_0f7a4 34 = .ok (.iload_n 0, 1) := by decide +kernel
theorem dJ6_bitCount_0f7a4_35 : decode cJ6_bitCount_0f7a4 35 = .ok (.iload_n 0, 1) := by decide +kernel
theorem dJ6_bitCount_0f7a4_36 : decode cJ6_bitCount_0f7a4 36 = .ok (.bipush 8, 2) := by decide +kernel
theorem dJ6_bitCount_0f7a4_38 : decode cJ6_bitCount_0f7a4 38 = .ok (.iushr, 1) := by decide +kernel
theorem dJ6_bitCount_0f7a4_39 : decode cJ6_bitCount_0f7a4 39 = .ok (.iadd, 1) := by decide +kernel
theorem dJ6_bitCount_0f7a4_40 : decode cJ6_bitCount_0f7a4 40 = .ok (.istore_n 0, 1) := by decide +kernel
theorem dJ6_bitCount_0f7a4_41 : decode cJ6_bitCount_0f7a4 41 = .ok (.iload_n 0, 1) := by decide +kernel
theorem dJ6_bitCount_0f7a4_42 : decode cJ6_bitCount_0f7a4 42 = .ok (.iload_n 0, 1) := by decide +kernel
theorem dJ6_bitCount_0f7a4_43 : decode cJ6_bitCount_0f7a4 43 = .ok (.bipush 16, 2) := by decide +kernel
theorem dJ6_bitCount_0f7a4_45 : decode cJ6_bitCount_0f7a4 45 = .ok (.iushr, 1) := by decide +kernel
theorem dJ6_bitCount_0f7a4_46 : decode cJ6_bitCount_0f7a4 46 = .ok (.iadd, 1) := by decide +kernel
theorem dJ6_bitCount_0f7a4_47 : decode cJ6_bitCount_0f7a4 47 = .ok (.istore_n 0, 1) := by decide +kernel
theorem dJ6_bitCount_0f7a4_48 : decode cJ6_bitCount_0f7a4 48 = .ok (.iload_n 0, 1) := by decide +kernel
theorem dJ6_bitCount_0f7a4_49 : decode cJ6_bitCount_0f7a4 49 = .ok (.bipush 63, 2) := by decide +kernel
theorem dJ6_bitCount_0f7a4_51 : decode cJ6_bitCount_0f7a4 51 = .ok (.iand, 1) := by decide +kernel
theorem dJ6_bitCount_0f7a4_52 : decode cJ6_bitCount_0f7a4 52 = .ok (.ireturn, 1) := by decide +kernel
theorem dJ9_max_7cf53_0 : decode cJ9_max_7cf53 0 = .ok (.iload_n 0, 1) := by decide +kernel
theorem dJ9_max_7cf53_1 : decode cJ9_max_7cf53 1 = .ok (.iload_n 1, 1) := by decide +kernel
theorem dJ9_max_7cf53_2 : decode cJ9_max_7cf53 2 = .ok (.if_icmp .lt 7, 3) := by decide +kernel
theorem dJ9_max_7cf53_5 : decode cJ9_max_7cf53 5 = .ok (.iload_n 0, 1) := by decide +kernel
theorem dJ9_max_7cf53_6 : decode cJ9_max_7cf53 6 = .ok (.goto 4, 3) := by decide +kernel
theorem dJ9_max_7cf53_9 : decode cJ9_max_7cf53 9 = .ok (.iload_n 1, 1) := by decide +kernel
theorem dJ9_max_7cf53_10 : decode cJ9_max_7cf53 10 = .ok (.ireturn, 1) := by decide +kernel
theorem dJ9_min_7cf53_0 : decode cJ9_min_7cf53 0 = .ok (.iload_n 0, 1) := by decide +kernel
theorem dJ9_min_7cf53_1 : decode cJ9_min_7cf53 1 = .ok (.iload_n 1, 1) := by decide +kernel
theorem dJ9_min_7cf53_2 : decode cJ9_min_7cf53 2 = .ok (.if_icmp .gt 7, 3) := by decide +kernel
theorem dJ9_min_7cf53_5 : decode cJ9_min_7cf53 5 = .ok (.iload_n 0, 1) := by decide +kernel
theorem dJ9_min_7cf53_6 : decode cJ9_min_7cf53 6 = .ok (.goto 4, 3) := by decide +kernel
theorem dJ9_min_7cf53_9 : decode cJ9_min_7cf53 9 = .ok (.iload_n 1, 1) := by decide +kernel
theorem dJ9_min_7cf53_10 : decode cJ9_min_7cf53 10 = .ok (.ireturn, 1) := by decide +kernel
theorem dJ0_length_8abf5_0 : decode cJ0_length_8abf5 0 = .ok (.aload_n 0, 1) := by decide +kernel
theorem dJ0_length_8abf5_1 : decode cJ0_length_8abf5 1 = .ok (.getfield 9, 3) := by decide +kernel
theorem dJ0_length_8abf5_4 : decode cJ0_length_8abf5 4 = .ok (.arraylength, 1) := by decide +kernel
theorem dJ0_length_8abf5_5 : decode cJ0_length_8abf5 5 = .ok (.aload_n 0, 1) := by decide +kernel
theorem dJ0_length_8abf5_6 : decode cJ0_length_8abf5 6 = .ok (.invokevirtual 335, 3) := by decide +kernel
theorem dJ0_length_8abf5_9 : decode cJ0_length_8abf5 9 = .ok (.ishr, 1) := by decide +kernel
theorem dJ0_length_8abf5_10 : decode cJ0_length_8abf5 10 = .ok (.ireturn, 1) := by decide +kernel
theorem dJ0_charAt_5068e_0 : decode cJ0_charAt_5068e 0 = .ok (.aload_n 0, 1) := by decide +kernel
theorem dJ0_charAt_5068e_1 : decode cJ0_charAt_5068e 1 = .ok (.invokevirtual 492, 3) := by decide +kernel
theorem dJ0_charAt_5068e_4 : decode cJ0_charAt_5068e 4 = .ok (.ifCond .eq 12, 3) := by decide +kernel
theorem dJ0_charAt_5068e_7 : decode cJ0_charAt_5068e 7 = .ok (.aload_n 0, 1) := by decide +kernel
theorem dJ0_charAt_5068e_8 : decode cJ0_charAt_5068e 8 = .ok (.getfield 9, 3) := by decide +kernel
theorem dJ0_charAt_5068e_11 : decode cJ0_charAt_5068e 11 = .ok (.iload_n 1, 1) := by decide +kernel
theorem dJ0_charAt_5068e_12 : decode cJ0_charAt_5068e 12 = .ok (.invokestatic 495, 3) := by decide +kernel
theorem dJ0_charAt_5068e_15 : decode cJ0_charAt_5068e 15 = .ok (.ireturn, 1) := by decide +kernel
theorem dJ0_charAt_5068e_16 : decode cJ0_charAt_5068e 16 = .ok (.aload_n 0, 1) := by decide +kernel
theorem dJ0_charAt_5068e_17 : decode cJ0_charAt_5068e 17 = .ok (.getfield 9, 3) := by decide +kernel
theorem dJ0_charAt_5068e_20 : decode cJ0_charAt_5068e 20 = .ok (.iload_n 1, 1) := by decide +kernel
theorem dJ0_charAt_5068e_21 : decode cJ0_charAt_5068e 21 = .ok (.invokestatic 498, 3) := by decide +kernel
theorem dJ0_charAt_5068e_24 : decode cJ0_charAt_5068e 24 = .ok (.ireturn, 1) := by decide +kernel
theorem dJ0_coder_7d493_0 : decode cJ0_coder_7d493 0 = .ok (.getstatic 38, 3) := by decide +kernel
theorem dJ0_coder_7d493_3 : decode cJ0_coder_7d493 3 = .ok (.ifCond .eq 10, 3) := by decide +kernel
theorem dJ0_coder_7d493_6 : decode cJ0_coder_7d493 6 = .ok (.aload_n 0, 1) := by decide +kernel
theorem dJ0_coder_7d493_7 : decode cJ0_coder_7d493 7 = .ok (.getfield 15, 3) := by decide +kernel
theorem dJ0_coder_7d493_10 : decode cJ0_coder_7d493 10 = .ok (.goto 4, 3) := by decide +kernel
theorem dJ0_coder_7d493_13 : decode cJ0_coder_7d493 13 = .ok (.iconst 1, 1) := by decide +kernel
theorem dJ0_coder_7d493_14 : decode cJ0_coder_7d493 14 = .ok (.ireturn, 1) := by decide +kernel
theorem dJ0_isLatin1_aae02_0 : decode cJ0_isLatin1_aae02 0 = .ok (.getstatic 38, 3) := by decide +kernel
theorem dJ0_isLatin1_aae02_3 : decode cJ0_isLatin1_aae02 3 = .ok (.ifCond .eq 14, 3) := by decide +kernel
theorem dJ0_isLatin1_aae02_6 : decode cJ0_isLatin1_aae02 6 = .ok (.aload_n 0, 1) := by decide +kernel
theorem dJ0_isLatin1_aae02_7 : decode cJ0_isLatin1_aae02 7 = .ok (.getfield 15, 3) := by decide +kernel
theorem dJ0_isLatin1_aae02_10 : decode cJ0_isLatin1_aae02 10 = .ok (.ifCond .ne 7, 3) := by decide +kernel
theorem dJ0_isLatin1_aae02_13 : decode cJ0_isLatin1_aae02 13 = .ok (.iconst 1, 1) := by decide +kernel
theorem dJ0_isLatin1_aae02_14 : decode cJ0_isLatin1_aae02 14 = .ok (.goto 4, 3) := by decide +kernel
theorem dJ0_isLatin1_aae02_17 : decode cJ0_isLatin1_aae02 17 = .ok (.iconst 0, 1) := by decide +kernel
theorem dJ0_isLatin1_aae02_18 : decode cJ0_isLatin1_aae02 18 = .ok (.ireturn, 1) := by decide +kernel
theorem dJ0_checkIndex_df160_0 : decode cJ0_checkIndex_df160 0 = .ok (.iload_n 0, 1) := by decide +kernel
theorem dJ0_checkIndex_df160_1 : decode cJ0_checkIndex_df160 1 = .ok (.iload_n 1, 1) := by decide +kernel
theorem dJ0_checkIndex_df160_2 : decode cJ0_checkIndex_df160 2 = .ok (.getstatic 1053, 3) := by decide +kernel
theorem dJ0_checkIndex_df160_5 : decode cJ0_checkIndex_df160 5 = .ok (.invokestatic 1059, 3) := by decide +kernel
theorem dJ0_checkIndex_df160_8 : decode cJ0_checkIndex_df160 8 = .ok (.pop, 1) := by decide +kernel
theorem dJ0_checkIndex_df160_9 : decode cJ0_checkIndex_df160 9 = .ok (.return_, 1) := by decide +kernel
theorem dJ1_charAt_3b067_0 : decode cJ1_charAt_3b067 0 = .ok (.iload_n 1, 1) := by decide +kernel
theorem dJ1_charAt_3b067_1 : decode cJ1_charAt_3b067 1 = .ok (.aload_n 0, 1) := by decide +kernel
theorem dJ1_charAt_3b067_2 : decode cJ1_charAt_3b067 2 = .ok (.arraylength, 1) := by decide +kernel
theorem dJ1_charAt_3b067_3 : decode cJ1_charAt_3b067 3 = .ok (.invokestatic 9, 3) := by decide +kernel
theorem dJ1_charAt_3b067_6 : decode cJ1_charAt_3b067 6 = .ok (.aload_n 0, 1) := by decide +kernel
theorem dJ1_charAt_3b067_7 : decode cJ1_charAt_3b067 7 = .ok (.iload_n 1, 1) := by decide +kernel
theorem dJ1_charAt_3b067_8 : decode cJ1_charAt_3b067 8 = .ok (.baload, 1) := by decide +kernel
theorem dJ1_charAt_3b067_9 : decode cJ1_charAt_3b067 9 = .ok (.sipush 255, 3) := by decide +kernel
theorem dJ1_charAt_3b067_12 : decode cJ1_charAt_3b067 12 = .ok (.iand, 1) := by decide +kernel
theorem dJ1_charAt_3b067_13 : decode cJ1_charAt_3b067 13 = .ok (.i2c, 1) := by decide +kernel
theorem dJ1_charAt_3b067_14 : decode cJ1_charAt_3b067 14 = .ok (.ireturn, 1) := by decide +kernel
theorem dJ2_getChar_3b067_0 : decode cJ2_getChar_3b067 0 = .ok (.getstatic 44, 3) := by decide +kernel
theorem dJ2_getChar_3b067_3 : decode cJ2_getChar_3b067 3 = .ok (.ifCond .ne 25, 3) := by decide +kernel
theorem dJ2_getChar_3b067_6 : decode cJ2_getChar_3b067 6 = .ok (.iload_n 1, 1) := by decide +kernel
theorem dJ2_getChar_3b067_7 : decode cJ2_getChar_3b067 7 = .ok (.ifCond .lt 11, 3) := by decide +kernel
theorem dJ2_getChar_3b067_10 : decode cJ2_getChar_3b067 10 = .ok (.iload_n 1, 1) := by decide +kernel
theorem dJ2_getChar_3b067_11 : decode cJ2_getChar_3b067 11 = .ok (.aload_n 0, 1) := by decide +kernel
theorem dJ2_getChar_3b067_12 : decode cJ2_getChar_3b067 12 = .ok (.invokestatic 48, 3) := by decide +kernel
theorem dJ2_getChar_3b067_15 : decode cJ2_getChar_3b067 15 = .ok (.if_icmp .lt 13, 3) := by decide +kernel
theorem dJ2_getChar_3b067_18 : decode cJ2_getChar_3b067 18 = .ok (.new 52, 3) := by decide +kernel
theorem dJ2_getChar_3b067_21 : decode cJ2_getChar_3b067 21 = .ok (.dup, 1) := by decide +kernel
theorem dJ2_getChar_3b067_22 : decode cJ2_getChar_3b067 22 = .ok (.ldc 54, 2) := by decide +kernel
theorem dJ2_getChar_3b067_24 : decode cJ2_getChar_3b067 24 = .ok (.invokespecial 56, 3) := by decide +kernel
theorem dJ2_getChar_3b067_27 : decode cJ2_getChar_3b067 27 = .ok (.athrow, 1) := by decide +kernel
theorem dJ2_getChar_3b067_28 : decode cJ2_getChar_3b067 28 = .ok (.iload_n 1, 1) := by decide +kernel
theorem dJ2_getChar_3b067_29 : decode cJ2_getChar_3b067 29 = .ok (.iconst 1, 1) := by decide +kernel
theorem dJ2_getChar_3b067_30 : decode cJ2_getChar_3b067 30 = .ok (.ishl, 1) := by decide +kernel
theorem dJ2_getChar_3b067_31 : decode cJ2_getChar_3b067 31 = .ok (.istore_n 1, 1) := by decide +kernel
theorem dJ2_getChar_3b067_32 : decode cJ2_getChar_3b067 32 = .ok (.aload_n 0, 1) := by decide +kernel
theorem dJ2_getChar_3b067_33 : decode cJ2_getChar_3b067 33 = .ok (.iload_n 1, 1) := by decide +kernel
theorem dJ2_getChar_3b067_34 : decode cJ2_getChar_3b067 34 = .ok (.iinc 1 1, 3) := by decide +kernel
theorem dJ2_getChar_3b067_37 : decode cJ2_getChar_3b067 37 = .ok (.baload, 1) := by decide +kernel
theorem dJ2_getChar_3b067_38 : decode cJ2_getChar_3b067 38 = .ok (.sipush 255, 3) := by decide +kernel
theorem dJ2_getChar_3b067_41 : decode cJ2_getChar_3b067 41 = .ok (.iand, 1) := by decide +kernel
theorem dJ2_getChar_3b067_42 : decode cJ2_getChar_3b067 42 = .ok (.getstatic 59, 3) := by decide +kernel
theorem dJ2_getChar_3b067_45 : decode cJ2_getChar_3b067 45 = .ok (.ishl, 1) := by decide +kernel
theorem dJ2_getChar_3b067_46 : decode cJ2_getChar_3b067 46 = .ok (.aload_n 0, 1) := by decide +kernel
theorem dJ2_getChar_3b067_47 : decode cJ2_getChar_3b067 47 = .ok (.iload_n 1, 1) := by decide +kernel
theorem dJ2_getChar_3b067_48 : decode cJ2_getChar_3b067 48 = .ok (.baload, 1) := by decide +kernel
theorem dJ2_getChar_3b067_49 : decode cJ2_getChar_3b067 49 = .ok (.sipush 255, 3) := by decide +kernel
theorem dJ2_getChar_3b067_52 : decode cJ2_getChar_3b067 52 = .ok (.iand, 1) := by decide +kernel
theorem dJ2_getChar_3b067_53 : decode cJ2_getChar_3b067 53 = .ok (.getstatic 63, 3) := by decide +kernel
theorem dJ2_getChar_3b067_56 : decode cJ2_getChar_3b067 56 = .ok (.ishl, 1) := by decide +kernel
theorem dJ2_getChar_3b067_57 : decode cJ2_getChar_3b067 57 = .ok (.ior, 1) := by decide +kernel
theorem dJ2_getChar_3b067_58 : decode cJ2_getChar_3b067 58 = .ok (.i2c, 1) := by decide +kernel
theorem dJ2_getChar_3b067_59 : decode cJ2_getChar_3b067 59 = .ok (.ireturn, 1) := by decide +kernel
theorem dJ2_length_9d52b_0 : decode cJ2_length_9d52b 0 = .ok (.aload_n 0, 1) := by decide +kernel
theorem dJ2_length_9d52b_1 : decode cJ2_length_9d52b 1 = .ok (.arraylength, 1) := by decide +kernel
theorem dJ2_length_9d52b_2 : decode cJ2_length_9d52b 2 = .ok (.iconst 1, 1) := by decide +kernel
theorem dJ2_length_9d52b_3 : decode cJ2_length_9d52b 3 = .ok (.ishr, 1) := by decide +kernel
theorem dJ2_length_9d52b_4 : decode cJ2_length_9d52b 4 = .ok (.ireturn, 1) := by decide +kernel
theorem dJ2_charAt_3b067_0 : decode cJ2_charAt_3b067 0 = .ok (.iload_n 1, 1) := by decide +kernel
theorem dJ2_charAt_3b067_1 : decode cJ2_charAt_3b067 1 = .ok (.aload_n 0, 1) := by decide +kernel
theorem dJ2_charAt_3b067_2 : decode cJ2_charAt_3b067 2 = .ok (.invokestatic 67, 3) := by decide +kernel
theorem dJ2_charAt_3b067_5 : decode cJ2_charAt_3b067 5 = .ok (.aload_n 0, 1) := by decide +kernel
theorem dJ2_charAt_3b067_6 : decode cJ2_charAt_3b067 6 = .ok (.iload_n 1, 1) := by decide +kernel
theorem dJ2_charAt_3b067_7 : decode cJ2_charAt_3b067 7 = .ok (.invokestatic 71, 3) := by decide +kernel
theorem dJ2_charAt_3b067_10 : decode cJ2_charAt_3b067 10 = .ok (.ireturn, 1) := by decide +kernel
theorem dJ2_checkIndex_2214a_0 : decode cJ2_checkIndex_2214a 0 = .ok (.iload_n 0, 1) := by decide +kernel
theorem dJ2_checkIndex_2214a_1 : decode cJ2_checkIndex_2214a 1 = .ok (.aload_n 1, 1) := by decide +kernel
theorem dJ2_checkIndex_2214a_2 : decode cJ2_checkIndex_2214a 2 = .ok (.invokestatic 48, 3) := by decide +kernel
theorem dJ2_checkIndex_2214a_5 : decode cJ2_checkIndex_2214a 5 = .ok (.invokestatic 414, 3) := by decide +kernel
theorem dJ2_checkIndex_2214a_8 : decode cJ2_checkIndex_2214a 8 = .ok (.return_, 1) := by decide +kernel
theorem dJ7_fill_53178_0 : decode cJ7_fill_53178 0 = .ok (.iconst 0, 1) := by decide +kernel
theorem dJ7_fill_53178_1 : decode cJ7_fill_53178 1 = .ok (.istore_n 2, 1) := by decide +kernel
theorem dJ7_fill_53178_2 : decode cJ7_fill_53178 2 = .ok (.aload_n 0, 1) := by decide +kernel
theorem dJ7_fill_53178_3 : decode cJ7_fill_53178 3 = .ok (.arraylength, 1) := by decide +kernel
theorem dJ7_fill_53178_4 : decode cJ7_fill_53178 4 = .ok (.istore_n 3, 1) := by decide +kernel
theorem dJ7_fill_53178_5 : decode cJ7_fill_53178 5 = .ok (.iload_n 2, 1) := by decide +kernel
theorem dJ7_fill_53178_6 : decode cJ7_fill_53178 6 = .ok (.iload_n 3, 1) := by decide +kernel
theorem dJ7_fill_53178_7 : decode cJ7_fill_53178 7 = .ok (.if_icmp .ge 13, 3) := by decide +kernel
theorem dJ7_fill_53178_10 : decode cJ7_fill_53178 10 = .ok (.aload_n 0, 1) := by decide +kernel
theorem dJ7_fill_53178_11 : decode cJ7_fill_53178 11 = .ok (.iload_n 2, 1) := by decide +kernel
theorem dJ7_fill_53178_12 : decode cJ7_fill_53178 12 = .ok (.iload_n 1, 1) := by decide +kernel
theorem dJ7_fill_53178_13 : decode cJ7_fill_53178 13 = .ok (.iastore, 1) := by decide +kernel
theorem dJ7_fill_53178_14 : decode cJ7_fill_53178 14 = .ok (.iinc 2 1, 3) := by decide +kernel
theorem dJ7_fill_53178_17 : decode cJ7_fill_53178 17 = .ok (.goto (-12), 3) := by decide +kernel
theorem dJ7_fill_53178_20 : decode cJ7_fill_53178 20 = .ok (.return_, 1) := by decide +kernel
theorem dJ3_checkIndex_8e157_0 : decode cJ3_checkIndex_8e157 0 = .ok (.iload_n 0, 1) := by decide +kernel
theorem dJ3_checkIndex_8e157_1 : decode cJ3_checkIndex_8e157 1 = .ok (.ifCond .lt 8, 3) := by decide +kernel
theorem dJ3_checkIndex_8e157_4 : decode cJ3_checkIndex_8e157 4 = .ok (.iload_n 0, 1) := by decide +kernel
theorem dJ3_checkIndex_8e157_5 : decode cJ3_checkIndex_8e157 5 = .ok (.iload_n 1, 1) := by decide +kernel
theorem dJ3_checkIndex_8e157_6 : decode cJ3_checkIndex_8e157 6 = .ok (.if_icmp .lt 10, 3) := by decide +kernel
theorem dJ3_checkIndex_8e157_9 : decode cJ3_checkIndex_8e157 9 = .ok (.aload_n 2, 1) := by decide +kernel
theorem dJ3_checkIndex_8e157_10 : decode cJ3_checkIndex_8e157 10 = .ok (.iload_n 0, 1) := by decide +kernel
theorem dJ3_checkIndex_8e157_11 : decode cJ3_checkIndex_8e157 11 = .ok (.iload_n 1, 1) := by decide +kernel
theorem dJ3_checkIndex_8e157_12 : decode cJ3_checkIndex_8e157 12 = .ok (.invokestatic 95, 3) := by decide +kernel
theorem dJ3_checkIndex_8e157_15 : decode cJ3_checkIndex_8e157 15 = .ok (.athrow, 1) := by decide +kernel
theorem dJ3_checkIndex_8e157_16 : decode cJ3_checkIndex_8e157 16 = .ok (.iload_n 0, 1) := by decide +kernel
theorem dJ3_checkIndex_8e157_17 : decode cJ3_checkIndex_8e157 17 = .ok (.ireturn, 1) := by decide +kernel
