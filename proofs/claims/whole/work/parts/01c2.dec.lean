theorem dX5_told_95 : decode cX5_told 95 = .ok (.invokestatic 101, 3) := by decide +kernel
theorem dX5_told_98 : decode cX5_told 98 = .ok (.ireturn, 1) := by decide +kernel
theorem dX5_told_99 : decode cX5_told 99 = .ok (.aload_n 0, 1) := by decide +kernel
theorem dX5_told_100 : decode cX5_told 100 = .ok (.getfield 12, 3) := by decide +kernel
theorem dX5_told_103 : decode cX5_told 103 = .ok (.getfield 85, 3) := by decide +kernel
theorem dX5_told_106 : decode cX5_told 106 = .ok (.iload_n 1, 1) := by decide +kernel
theorem dX5_told_107 : decode cX5_told 107 = .ok (.baload, 1) := by decide +kernel
theorem dX5_told_108 : decode cX5_told 108 = .ok (.invokestatic 101, 3) := by decide +kernel
theorem dX5_told_111 : decode cX5_told 111 = .ok (.ireturn, 1) := by decide +kernel
theorem dX5_told_112 : decode cX5_told 112 = .ok (.aload_n 0, 1) := by decide +kernel
theorem dX5_told_113 : decode cX5_told 113 = .ok (.getfield 12, 3) := by decide +kernel
theorem dX5_told_116 : decode cX5_told 116 = .ok (.getfield 85, 3) := by decide +kernel
theorem dX5_told_119 : decode cX5_told 119 = .ok (.iload_n 1, 1) := by decide +kernel
theorem dX5_told_120 : decode cX5_told 120 = .ok (.baload, 1) := by decide +kernel
theorem dX5_told_121 : decode cX5_told 121 = .ok (.ifCond .eq 14, 3) := by decide +kernel
theorem dX5_told_124 : decode cX5_told 124 = .ok (.aload_n 0, 1) := by decide +kernel
theorem dX5_told_125 : decode cX5_told 125 = .ok (.getfield 21, 3) := by decide +kernel
theorem dX5_told_128 : decode cX5_told 128 = .ok (.iload_n 1, 1) := by decide +kernel
theorem dX5_told_129 : decode cX5_told 129 = .ok (.invokevirtual 105, 3) := by decide +kernel
theorem dX5_told_132 : decode cX5_told 132 = .ok (.goto 6, 3) := by decide +kernel
theorem dX5_told_135 : decode cX5_told 135 = .ok (.sipush (-1000), 3) := by decide +kernel
theorem dX5_told_138 : decode cX5_told 138 = .ok (.ireturn, 1) := by decide +kernel
theorem dX5_told_139 : decode cX5_told 139 = .ok (.sipush (-1002), 3) := by decide +kernel
theorem dX5_told_142 : decode cX5_told 142 = .ok (.ireturn, 1) := by decide +kernel
theorem dX5_far_0 : decode cX5_far 0 = .ok (.aload_n 0, 1) := by decide +kernel
theorem dX5_far_1 : decode cX5_far 1 = .ok (.getfield 12, 3) := by decide +kernel
theorem dX5_far_4 : decode cX5_far 4 = .ok (.iload_n 1, 1) := by decide +kernel
theorem dX5_far_5 : decode cX5_far 5 = .ok (.iload_n 2, 1) := by decide +kernel
theorem dX5_far_6 : decode cX5_far 6 = .ok (.invokevirtual 47, 3) := by decide +kernel
theorem dX5_far_9 : decode cX5_far 9 = .ok (.ifCond .eq 15, 3) := by decide +kernel
theorem dX5_far_12 : decode cX5_far 12 = .ok (.aload_n 0, 1) := by decide +kernel
theorem dX5_far_13 : decode cX5_far 13 = .ok (.getfield 21, 3) := by decide +kernel
theorem dX5_far_16 : decode cX5_far 16 = .ok (.iload_n 1, 1) := by decide +kernel
theorem dX5_far_17 : decode cX5_far 17 = .ok (.iload_n 2, 1) := by decide +kernel
theorem dX5_far_18 : decode cX5_far 18 = .ok (.invokevirtual 109, 3) := by decide +kernel
theorem dX5_far_21 : decode cX5_far 21 = .ok (.goto 6, 3) := by decide +kernel
theorem dX5_far_24 : decode cX5_far 24 = .ok (.sipush (-1001), 3) := by decide +kernel
theorem dX5_far_27 : decode cX5_far 27 = .ok (.ireturn, 1) := by decide +kernel
theorem dX5_steps_0 : decode cX5_steps 0 = .ok (.aload_n 0, 1) := by decide +kernel
theorem dX5_steps_1 : decode cX5_steps 1 = .ok (.getfield 12, 3) := by decide +kernel
theorem dX5_steps_4 : decode cX5_steps 4 = .ok (.iload_n 1, 1) := by decide +kernel
theorem dX5_steps_5 : decode cX5_steps 5 = .ok (.iload_n 2, 1) := by decide +kernel
theorem dX5_steps_6 : decode cX5_steps 6 = .ok (.invokevirtual 47, 3) := by decide +kernel
theorem dX5_steps_9 : decode cX5_steps 9 = .ok (.ifCond .eq 15, 3) := by decide +kernel
theorem dX5_steps_12 : decode cX5_steps 12 = .ok (.aload_n 0, 1) := by decide +kernel
theorem dX5_steps_13 : decode cX5_steps 13 = .ok (.getfield 21, 3) := by decide +kernel
theorem dX5_steps_16 : decode cX5_steps 16 = .ok (.iload_n 1, 1) := by decide +kernel
theorem dX5_steps_17 : decode cX5_steps 17 = .ok (.iload_n 2, 1) := by decide +kernel
theorem dX5_steps_18 : decode cX5_steps 18 = .ok (.invokevirtual 113, 3) := by decide +kernel
theorem dX5_steps_21 : decode cX5_steps 21 = .ok (.goto 6, 3) := by decide +kernel
theorem dX5_steps_24 : decode cX5_steps 24 = .ok (.sipush (-1001), 3) := by decide +kernel
theorem dX5_steps_27 : decode cX5_steps 27 = .ok (.ireturn, 1) := by decide +kernel
theorem dX5_way_0 : decode cX5_way 0 = .ok (.aload_n 0, 1) := by decide +kernel
theorem dX5_way_1 : decode cX5_way 1 = .ok (.getfield 12, 3) := by decide +kernel
theorem dX5_way_4 : decode cX5_way 4 = .ok (.iload_n 1, 1) := by decide +kernel
theorem dX5_way_5 : decode cX5_way 5 = .ok (.iload_n 2, 1) := by decide +kernel
theorem dX5_way_6 : decode cX5_way 6 = .ok (.invokevirtual 47, 3) := by decide +kernel
theorem dX5_way_9 : decode cX5_way 9 = .ok (.ifCond .eq 16, 3) := by decide +kernel
theorem dX5_way_12 : decode cX5_way 12 = .ok (.aload_n 0, 1) := by decide +kernel
theorem dX5_way_13 : decode cX5_way 13 = .ok (.getfield 21, 3) := by decide +kernel
theorem dX5_way_16 : decode cX5_way 16 = .ok (.iload_n 1, 1) := by decide +kernel
theorem dX5_way_17 : decode cX5_way 17 = .ok (.iload_n 2, 1) := by decide +kernel
theorem dX5_way_18 : decode cX5_way 18 = .ok (.iload_n 3, 1) := by decide +kernel
theorem dX5_way_19 : decode cX5_way 19 = .ok (.invokevirtual 116, 3) := by decide +kernel
theorem dX5_way_22 : decode cX5_way 22 = .ok (.goto 6, 3) := by decide +kernel
theorem dX5_way_25 : decode cX5_way 25 = .ok (.sipush (-1001), 3) := by decide +kernel
theorem dX5_way_28 : decode cX5_way 28 = .ok (.ireturn, 1) := by decide +kernel
theorem dX5_without_0 : decode cX5_without 0 = .ok (.aload_n 0, 1) := by decide +kernel
theorem dX5_without_1 : decode cX5_without 1 = .ok (.getfield 12, 3) := by decide +kernel
theorem dX5_without_4 : decode cX5_without 4 = .ok (.iload_n 1, 1) := by decide +kernel
theorem dX5_without_5 : decode cX5_without 5 = .ok (.iload_n 2, 1) := by decide +kernel
theorem dX5_without_6 : decode cX5_without 6 = .ok (.invokevirtual 47, 3) := by decide +kernel
theorem dX5_without_9 : decode cX5_without 9 = .ok (.ifCond .eq 14, 3) := by decide +kernel
theorem dX5_without_12 : decode cX5_without 12 = .ok (.aload_n 0, 1) := by decide +kernel
theorem dX5_without_13 : decode cX5_without 13 = .ok (.getfield 12, 3) := by decide +kernel
theorem dX5_without_16 : decode cX5_without 16 = .ok (.iload_n 3, 1) := by decide +kernel
theorem dX5_without_17 : decode cX5_without 17 = .ok (.invokevirtual 73, 3) := by decide +kernel
theorem dX5_without_20 : decode cX5_without 20 = .ok (.ifCond .ne 7, 3) := by decide +kernel
theorem dX5_without_23 : decode cX5_without 23 = .ok (.sipush (-1001), 3) := by decide +kernel
theorem dX5_without_26 : decode cX5_without 26 = .ok (.ireturn, 1) := by decide +kernel
theorem dX5_without_27 : decode cX5_without 27 = .ok (.aload_n 0, 1) := by decide +kernel
theorem dX5_without_28 : decode cX5_without 28 = .ok (.getfield 21, 3) := by decide +kernel
theorem dX5_without_31 : decode cX5_without 31 = .ok (.iload_n 1, 1) := by decide +kernel
theorem dX5_without_32 : decode cX5_without 32 = .ok (.iload_n 2, 1) := by decide +kernel
theorem dX5_without_33 : decode cX5_without 33 = .ok (.iload_n 3, 1) := by decide +kernel
theorem dX5_without_34 : decode cX5_without 34 = .ok (.iconst (-1), 1) := by decide +kernel
theorem dX5_without_35 : decode cX5_without 35 = .ok (.invokevirtual 120, 3) := by decide +kernel
theorem dX5_without_38 : decode cX5_without 38 = .ok (.ireturn, 1) := by decide +kernel
theorem dX5_vital_0 : decode cX5_vital 0 = .ok (.aload_n 0, 1) := by decide +kernel
theorem dX5_vital_1 : decode cX5_vital 1 = .ok (.getfield 12, 3) := by decide +kernel
theorem dX5_vital_4 : decode cX5_vital 4 = .ok (.iload_n 1, 1) := by decide +kernel
theorem dX5_vital_5 : decode cX5_vital 5 = .ok (.iload_n 2, 1) := by decide +kernel
theorem dX5_vital_6 : decode cX5_vital 6 = .ok (.invokevirtual 47, 3) := by decide +kernel
theorem dX5_vital_9 : decode cX5_vital 9 = .ok (.ifCond .ne 7, 3) := by decide +kernel
theorem dX5_vital_12 : decode cX5_vital 12 = .ok (.sipush (-1001), 3) := by decide +kernel
theorem dX5_vital_15 : decode cX5_vital 15 = .ok (.ireturn, 1) := by decide +kernel
theorem dX5_vital_16 : decode cX5_vital 16 = .ok (.iconst 0, 1) := by decide +kernel
theorem dX5_vital_17 : decode cX5_vital 17 = .ok (.istore 4, 2) := by decide +kernel
theorem dX5_vital_19 : decode cX5_vital 19 = .ok (.iconst 0, 1) := by decide +kernel
theorem dX5_vital_20 : decode cX5_vital 20 = .ok (.istore 5, 2) := by decide +kernel
theorem dX5_vital_22 : decode cX5_vital 22 = .ok (.iload 5, 2) := by decide +kernel
theorem dX5_vital_24 : decode cX5_vital 24 = .ok (.aload_n 0, 1) := by decide +kernel
theorem dX5_vital_25 : decode cX5_vital 25 = .ok (.getfield 12, 3) := by decide +kernel
theorem dX5_vital_28 : decode cX5_vital 28 = .ok (.getfield 59, 3) := by decide +kernel
theorem dX5_vital_31 : decode cX5_vital 31 = .ok (.if_icmp .ge 35, 3) := by decide +kernel
theorem dX5_vital_34 : decode cX5_vital 34 = .ok (.aload_n 0, 1) := by decide +kernel
theorem dX5_vital_35 : decode cX5_vital 35 = .ok (.getfield 21, 3) := by decide +kernel
theorem dX5_vital_38 : decode cX5_vital 38 = .ok (.iload_n 1, 1) := by decide +kernel
theorem dX5_vital_39 : decode cX5_vital 39 = .ok (.iload_n 2, 1) := by decide +kernel
theorem dX5_vital_40 : decode cX5_vital 40 = .ok (.iload 5, 2) := by decide +kernel
theorem dX5_vital_42 : decode cX5_vital 42 = .ok (.invokevirtual 124, 3) := by decide +kernel
theorem dX5_vital_45 : decode cX5_vital 45 = .ok (.ifCond .eq 15, 3) := by decide +kernel
theorem dX5_vital_48 : decode cX5_vital 48 = .ok (.iload 4, 2) := by decide +kernel
theorem dX5_vital_50 : decode cX5_vital 50 = .ok (.iload_n 3, 1) := by decide +kernel
theorem dX5_vital_51 : decode cX5_vital 51 = .ok (.if_icmp .ne 6, 3) := by decide +kernel
theorem dX5_vital_54 : decode cX5_vital 54 = .ok (.iload 5, 2) := by decide +kernel
theorem dX5_vital_56 : decode cX5_vital 56 = .ok (.ireturn, 1) := by decide +kernel
theorem dX5_vital_57 : decode cX5_vital 57 = .ok (.iinc 4 1, 3) := by decide +kernel
theorem dX5_vital_60 : decode cX5_vital 60 = .ok (.iinc 5 1, 3) := by decide +kernel
theorem dX5_vital_63 : decode cX5_vital 63 = .ok (.goto (-41), 3) := by decide +kernel
theorem dX5_vital_66 : decode cX5_vital 66 = .ok (.sipush (-1000), 3) := by decide +kernel
theorem dX5_vital_69 : decode cX5_vital 69 = .ok (.ireturn, 1) := by decide +kernel
theorem dX5_about_0 : decode cX5_about 0 = .ok (.aload_n 0, 1) := by decide +kernel
theorem dX5_about_1 : decode cX5_about 1 = .ok (.getfield 12, 3) := by decide +kernel
theorem dX5_about_4 : decode cX5_about 4 = .ok (.iload_n 1, 1) := by decide +kernel
theorem dX5_about_5 : decode cX5_about 5 = .ok (.iload_n 2, 1) := by decide +kernel
theorem dX5_about_6 : decode cX5_about 6 = .ok (.invokevirtual 47, 3) := by decide +kernel
theorem dX5_about_9 : decode cX5_about 9 = .ok (.ifCond .eq 14, 3) := by decide +kernel
theorem dX5_about_12 : decode cX5_about 12 = .ok (.aload_n 0, 1) := by decide +kernel
theorem dX5_about_13 : decode cX5_about 13 = .ok (.getfield 12, 3) := by decide +kernel
theorem dX5_about_16 : decode cX5_about 16 = .ok (.iload_n 3, 1) := by decide +kernel
theorem dX5_about_17 : decode cX5_about 17 = .ok (.invokevirtual 128, 3) := by decide +kernel
theorem dX5_about_20 : decode cX5_about 20 = .ok (.ifCond .ne 7, 3) := by decide +kernel
theorem dX5_about_23 : decode cX5_about 23 = .ok (.sipush (-1001), 3) := by decide +kernel
theorem dX5_about_26 : decode cX5_about 26 = .ok (.ireturn, 1) := by decide +kernel
theorem dX5_about_27 : decode cX5_about 27 = .ok (.iload_n 3, 1) := by decide +kernel
theorem dX5_about_28 : decode cX5_about 28 = .ok (.iload_n 1, 1) := by decide +kernel
theorem dX5_about_29 : decode cX5_about 29 = .ok (.if_icmp .eq 8, 3) := by decide +kernel
theorem dX5_about_32 : decode cX5_about 32 = .ok (.iload_n 3, 1) := by decide +kernel
theorem dX5_about_33 : decode cX5_about 33 = .ok (.iload_n 2, 1) := by decide +kernel
theorem dX5_about_34 : decode cX5_about 34 = .ok (.if_icmp .ne 7, 3) := by decide +kernel
theorem dX5_about_37 : decode cX5_about 37 = .ok (.sipush (-1003), 3) := by decide +kernel
theorem dX5_about_40 : decode cX5_about 40 = .ok (.ireturn, 1) := by decide +kernel
theorem dX5_about_41 : decode cX5_about 41 = .ok (.aload_n 0, 1) := by decide +kernel
theorem dX5_about_42 : decode cX5_about 42 = .ok (.getfield 21, 3) := by decide +kernel
theorem dX5_about_45 : decode cX5_about 45 = .ok (.iload_n 1, 1) := by decide +kernel
theorem dX5_about_46 : decode cX5_about 46 = .ok (.iload_n 2, 1) := by decide +kernel
theorem dX5_about_47 : decode cX5_about 47 = .ok (.iconst (-1), 1) := by decide +kernel
theorem dX5_about_48 : decode cX5_about 48 = .ok (.iload_n 3, 1) := by decide +kernel
theorem dX5_about_49 : decode cX5_about 49 = .ok (.invokevirtual 120, 3) := by decide +kernel
theorem dX5_about_52 : decode cX5_about 52 = .ok (.ireturn, 1) := by decide +kernel
theorem dX5_ring_0 : decode cX5_ring 0 = .ok (.aload_n 0, 1) := by decide +kernel
theorem dX5_ring_1 : decode cX5_ring 1 = .ok (.getfield 21, 3) := by decide +kernel
theorem dX5_ring_4 : decode cX5_ring 4 = .ok (.invokevirtual 131, 3) := by decide +kernel
theorem dX5_ring_7 : decode cX5_ring 7 = .ok (.ireturn, 1) := by decide +kernel
theorem dX5_height_0 : decode cX5_height 0 = .ok (.aload_n 0, 1) := by decide +kernel
theorem dX5_height_1 : decode cX5_height 1 = .ok (.getfield 12, 3) := by decide +kernel
theorem dX5_height_4 : decode cX5_height 4 = .ok (.iload_n 1, 1) := by decide +kernel
theorem dX5_height_5 : decode cX5_height 5 = .ok (.invokevirtual 128, 3) := by decide +kernel
theorem dX5_height_8 : decode cX5_height 8 = .ok (.ifCond .eq 14, 3) := by decide +kernel
theorem dX5_height_11 : decode cX5_height 11 = .ok (.aload_n 0, 1) := by decide +kernel
theorem dX5_height_12 : decode cX5_height 12 = .ok (.getfield 21, 3) := by decide +kernel
theorem dX5_height_15 : decode cX5_height 15 = .ok (.iload_n 1, 1) := by decide +kernel
theorem dX5_height_16 : decode cX5_height 16 = .ok (.invokevirtual 134, 3) := by decide +kernel
theorem dX5_height_19 : decode cX5_height 19 = .ok (.goto 6, 3) := by decide +kernel
theorem dX5_height_22 : decode cX5_height 22 = .ok (.sipush (-1001), 3) := by decide +kernel
theorem dX5_height_25 : decode cX5_height 25 = .ok (.ireturn, 1) := by decide +kernel
theorem dX5_acts_0 : decode cX5_acts 0 = .ok (.aload_n 0, 1) := by decide +kernel
theorem dX5_acts_1 : decode cX5_acts 1 = .ok (.getfield 28, 3) := by decide +kernel
theorem dX5_acts_4 : decode cX5_acts 4 = .ok (.invokevirtual 137, 3) := by decide +kernel
theorem dX5_acts_7 : decode cX5_acts 7 = .ok (.ireturn, 1) := by decide +kernel
theorem dX5_moved_0 : decode cX5_moved 0 = .ok (.aload_n 0, 1) := by decide +kernel
theorem dX5_moved_1 : decode cX5_moved 1 = .ok (.getfield 28, 3) := by decide +kernel
theorem dX5_moved_4 : decode cX5_moved 4 = .ok (.iload_n 1, 1) := by decide +kernel
theorem dX5_moved_5 : decode cX5_moved 5 = .ok (.invokevirtual 140, 3) := by decide +kernel
theorem dX5_moved_8 : decode cX5_moved 8 = .ok (.ifCond .eq 14, 3) := by decide +kernel
theorem dX5_moved_11 : decode cX5_moved 11 = .ok (.aload_n 0, 1) := by decide +kernel
theorem dX5_moved_12 : decode cX5_moved 12 = .ok (.getfield 28, 3) := by decide +kernel
theorem dX5_moved_15 : decode cX5_moved 15 = .ok (.iload_n 1, 1) := by decide +kernel
theorem dX5_moved_16 : decode cX5_moved 16 = .ok (.invokevirtual 143, 3) := by decide +kernel
theorem dX5_moved_19 : decode cX5_moved 19 = .ok (.goto 6, 3) := by decide +kernel
theorem dX5_moved_22 : decode cX5_moved 22 = .ok (.sipush (-1001), 3) := by decide +kernel
theorem dX5_moved_25 : decode cX5_moved 25 = .ok (.ireturn, 1) := by decide +kernel
theorem dX5_pair_0 : decode cX5_pair 0 = .ok (.aload_n 0, 1) := by decide +kernel
theorem dX5_pair_1 : decode cX5_pair 1 = .ok (.getfield 28, 3) := by decide +kernel
theorem dX5_pair_4 : decode cX5_pair 4 = .ok (.iload_n 1, 1) := by decide +kernel
theorem dX5_pair_5 : decode cX5_pair 5 = .ok (.invokevirtual 140, 3) := by decide +kernel
theorem dX5_pair_8 : decode cX5_pair 8 = .ok (.ifCond .eq 15, 3) := by decide +kernel
theorem dX5_pair_11 : decode cX5_pair 11 = .ok (.aload_n 0, 1) := by decide +kernel
theorem dX5_pair_12 : decode cX5_pair 12 = .ok (.getfield 28, 3) := by decide +kernel
theorem dX5_pair_15 : decode cX5_pair 15 = .ok (.iload_n 1, 1) := by decide +kernel
theorem dX5_pair_16 : decode cX5_pair 16 = .ok (.iload_n 2, 1) := by decide +kernel
theorem dX5_pair_17 : decode cX5_pair 17 = .ok (.invokevirtual 146, 3) := by decide +kernel
theorem dX5_pair_20 : decode cX5_pair 20 = .ok (.goto 6, 3) := by decide +kernel
theorem dX5_pair_23 : decode cX5_pair 23 = .ok (.sipush (-1001), 3) := by decide +kernel
theorem dX5_pair_26 : decode cX5_pair 26 = .ok (.ireturn, 1) := by decide +kernel
theorem dX5_then_0 : decode cX5_then 0 = .ok (.aload_n 0, 1) := by decide +kernel
theorem dX5_then_1 : decode cX5_then 1 = .ok (.getfield 12, 3) := by decide +kernel
theorem dX5_then_4 : decode cX5_then 4 = .ok (.iload_n 2, 1) := by decide +kernel
theorem dX5_then_5 : decode cX5_then 5 = .ok (.iload_n 3, 1) := by decide +kernel
theorem dX5_then_6 : decode cX5_then 6 = .ok (.invokevirtual 47, 3) := by decide +kernel
theorem dX5_then_9 : decode cX5_then 9 = .ok (.ifCond .eq 18, 3) := by decide +kernel
theorem dX5_then_12 : decode cX5_then 12 = .ok (.iload_n 1, 1) := by decide +kernel
theorem dX5_then_13 : decode cX5_then 13 = .ok (.ifCond .eq 18, 3) := by decide +kernel
theorem dX5_then_16 : decode cX5_then 16 = .ok (.aload_n 0, 1) := by decide +kernel
theorem dX5_then_17 : decode cX5_then 17 = .ok (.getfield 28, 3) := by decide +kernel
theorem dX5_then_20 : decode cX5_then 20 = .ok (.iload_n 1, 1) := by decide +kernel
theorem dX5_then_21 : decode cX5_then 21 = .ok (.invokevirtual 140, 3) := by decide +kernel
theorem dX5_then_24 : decode cX5_then 24 = .ok (.ifCond .ne 7, 3) := by decide +kernel
theorem dX5_then_27 : decode cX5_then 27 = .ok (.sipush (-1001), 3) := by decide +kernel
theorem dX5_then_30 : decode cX5_then 30 = .ok (.ireturn, 1) := by decide +kernel
theorem dX5_then_31 : decode cX5_then 31 = .ok (.aload_n 0, 1) := by decide +kernel
theorem dX5_then_32 : decode cX5_then 32 = .ok (.getfield 28, 3) := by decide +kernel
theorem dX5_then_35 : decode cX5_then 35 = .ok (.iload_n 1, 1) := by decide +kernel
theorem dX5_then_36 : decode cX5_then 36 = .ok (.iload_n 2, 1) := by decide +kernel
theorem dX5_then_37 : decode cX5_then 37 = .ok (.iload_n 3, 1) := by decide +kernel
theorem dX5_then_38 : decode cX5_then 38 = .ok (.invokestatic 149, 3) := by decide +kernel
theorem dX5_then_41 : decode cX5_then 41 = .ok (.invokevirtual 152, 3) := by decide +kernel
theorem dX5_then_44 : decode cX5_then 44 = .ok (.ireturn, 1) := by decide +kernel
theorem dX5_since_0 : decode cX5_since 0 = .ok (.aload_n 0, 1) := by decide +kernel
theorem dX5_since_1 : decode cX5_since 1 = .ok (.getfield 12, 3) := by decide +kernel
theorem dX5_since_4 : decode cX5_since 4 = .ok (.iload_n 2, 1) := by decide +kernel
theorem dX5_since_5 : decode cX5_since 5 = .ok (.iload_n 3, 1) := by decide +kernel
theorem dX5_since_6 : decode cX5_since 6 = .ok (.invokevirtual 47, 3) := by decide +kernel
theorem dX5_since_9 : decode cX5_since 9 = .ok (.ifCond .eq 14, 3) := by decide +kernel
theorem dX5_since_12 : decode cX5_since 12 = .ok (.aload_n 0, 1) := by decide +kernel
theorem dX5_since_13 : decode cX5_since 13 = .ok (.getfield 28, 3) := by decide +kernel
theorem dX5_since_16 : decode cX5_since 16 = .ok (.iload_n 1, 1) := by decide +kernel
theorem dX5_since_17 : decode cX5_since 17 = .ok (.invokevirtual 140, 3) := by decide +kernel
theorem dX5_since_20 : decode cX5_since 20 = .ok (.ifCond .ne 7, 3) := by decide +kernel
theorem dX5_since_23 : decode cX5_since 23 = .ok (.sipush (-1001), 3) := by decide +kernel
theorem dX5_since_26 : decode cX5_since 26 = .ok (.ireturn, 1) := by decide +kernel
theorem dX5_since_27 : decode cX5_since 27 = .ok (.iload 4, 2) := by decide +kernel
theorem dX5_since_29 : decode cX5_since 29 = .ok (.sipush (-500), 3) := by decide +kernel
theorem dX5_since_32 : decode cX5_since 32 = .ok (.if_icmp .lt 11, 3) := by decide +kernel
theorem dX5_since_35 : decode cX5_since 35 = .ok (.iload 4, 2) := by decide +kernel
theorem dX5_since_37 : decode cX5_since 37 = .ok (.sipush 1000, 3) := by decide +kernel
theorem dX5_since_40 : decode cX5_since 40 = .ok (.if_icmp .le 7, 3) := by decide +kernel
theorem dX5_since_43 : decode cX5_since 43 = .ok (.sipush (-1002), 3) := by decide +kernel
theorem dX5_since_46 : decode cX5_since 46 = .ok (.ireturn, 1) := by decide +kernel
theorem dX5_since_47 : decode cX5_since 47 = .ok (.aload_n 0, 1) := by decide +kernel
theorem dX5_since_48 : decode cX5_since 48 = .ok (.getfield 28, 3) := by decide +kernel
theorem dX5_since_51 : decode cX5_since 51 = .ok (.iload_n 1, 1) := by decide +kernel
theorem dX5_since_52 : decode cX5_since 52 = .ok (.iload_n 2, 1) := by decide +kernel
theorem dX5_since_53 : decode cX5_since 53 = .ok (.iload_n 3, 1) := by decide +kernel
theorem dX5_since_54 : decode cX5_since 54 = .ok (.invokestatic 149, 3) := by decide +kernel
theorem dX5_since_57 : decode cX5_since 57 = .ok (.iload 4, 2) := by decide +kernel
theorem dX5_since_59 : decode cX5_since 59 = .ok (.invokevirtual 155, 3) := by decide +kernel
theorem dX5_since_62 : decode cX5_since 62 = .ok (.ireturn, 1) := by decide +kernel
theorem dX5_marks_0 : decode cX5_marks 0 = .ok (.iload_n 1, 1) := by decide +kernel
theorem dX5_marks_1 : decode cX5_marks 1 = .ok (.ifCond .lt 16, 3) := by decide +kernel
theorem dX5_marks_4 : decode cX5_marks 4 = .ok (.iload_n 1, 1) := by decide +kernel
theorem dX5_marks_5 : decode cX5_marks 5 = .ok (.iconst 1, 1) := by decide +kernel
theorem dX5_marks_6 : decode cX5_marks 6 = .ok (.aload_n 0, 1) := by decide +kernel
theorem dX5_marks_7 : decode cX5_marks 7 = .ok (.getfield 12, 3) := by decide +kernel
theorem dX5_marks_10 : decode cX5_marks 10 = .ok (.getfield 43, 3) := by decide +kernel
theorem dX5_marks_13 : decode cX5_marks 13 = .ok (.ishl, 1) := by decide +kernel
theorem dX5_marks_14 : decode cX5_marks 14 = .ok (.if_icmp .lt 7, 3) := by decide +kernel
theorem dX5_marks_17 : decode cX5_marks 17 = .ok (.sipush (-1002), 3) := by decide +kernel
theorem dX5_marks_20 : decode cX5_marks 20 = .ok (.ireturn, 1) := by decide +kernel
theorem dX5_marks_21 : decode cX5_marks 21 = .ok (.aload_n 0, 1) := by decide +kernel
theorem dX5_marks_22 : decode cX5_marks 22 = .ok (.getfield 158, 3) := by decide +kernel
theorem dX5_marks_25 : decode cX5_marks 25 = .ok (.istore_n 2, 1) := by decide +kernel
theorem dX5_marks_26 : decode cX5_marks 26 = .ok (.aload_n 0, 1) := by decide +kernel
theorem dX5_marks_27 : decode cX5_marks 27 = .ok (.iload_n 1, 1) := by decide +kernel
theorem dX5_marks_28 : decode cX5_marks 28 = .ok (.putfield 158, 3) := by decide +kernel
theorem dX5_marks_31 : decode cX5_marks 31 = .ok (.iload_n 2, 1) := by decide +kernel
theorem dX5_marks_32 : decode cX5_marks 32 = .ok (.ireturn, 1) := by decide +kernel
theorem dX5_near_0 : decode cX5_near 0 = .ok (.aload_n 0, 1) := by decide +kernel
theorem dX5_near_1 : decode cX5_near 1 = .ok (.getfield 12, 3) := by decide +kernel
theorem dX5_near_4 : decode cX5_near 4 = .ok (.iload_n 1, 1) := by decide +kernel
theorem dX5_near_5 : decode cX5_near 5 = .ok (.iload_n 2, 1) := by decide +kernel
theorem dX5_near_6 : decode cX5_near 6 = .ok (.invokevirtual 47, 3) := by decide +kernel
theorem dX5_near_9 : decode cX5_near 9 = .ok (.ifCond .eq 19, 3) := by decide +kernel
theorem dX5_near_12 : decode cX5_near 12 = .ok (.aload_n 0, 1) := by decide +kernel
theorem dX5_near_13 : decode cX5_near 13 = .ok (.getfield 21, 3) := by decide +kernel
theorem dX5_near_16 : decode cX5_near 16 = .ok (.iload_n 1, 1) := by decide +kernel
theorem dX5_near_17 : decode cX5_near 17 = .ok (.iload_n 2, 1) := by decide +kernel
theorem dX5_near_18 : decode cX5_near 18 = .ok (.aload_n 0, 1) := by decide +kernel
theorem dX5_near_19 : decode cX5_near 19 = .ok (.getfield 158, 3) := by decide +kernel
theorem dX5_near_22 : decode cX5_near 22 = .ok (.invokevirtual 161, 3) := by decide +kernel
theorem dX5_near_25 : decode cX5_near 25 = .ok (.goto 6, 3) := by decide +kernel
theorem dX5_near_28 : decode cX5_near 28 = .ok (.sipush (-1001), 3) := by decide +kernel
theorem dX5_near_31 : decode cX5_near 31 = .ok (.ireturn, 1) := by decide +kernel
theorem dX5_worst_0 : decode cX5_worst 0 = .ok (.iconst 0, 1) := by decide +kernel
theorem dX5_worst_1 : decode cX5_worst 1 = .ok (.istore_n 1, 1) := by decide +kernel
theorem dX5_worst_2 : decode cX5_worst 2 = .ok (.iconst 0, 1) := by decide +kernel
theorem dX5_worst_3 : decode cX5_worst 3 = .ok (.istore_n 2, 1) := by decide +kernel
theorem dX5_worst_4 : decode cX5_worst 4 = .ok (.iload_n 2, 1) := by decide +kernel
theorem dX5_worst_5 : decode cX5_worst 5 = .ok (.aload_n 0, 1) := by decide +kernel
theorem dX5_worst_6 : decode cX5_worst 6 = .ok (.getfield 12, 3) := by decide +kernel
theorem dX5_worst_9 : decode cX5_worst 9 = .ok (.getfield 43, 3) := by decide +kernel
theorem dX5_worst_12 : decode cX5_worst 12 = .ok (.if_icmp .ge 84, 3) := by decide +kernel
theorem dX5_worst_15 : decode cX5_worst 15 = .ok (.iconst 0, 1) := by decide +kernel
theorem dX5_worst_16 : decode cX5_worst 16 = .ok (.istore_n 3, 1) := by decide +kernel
theorem dX5_worst_17 : decode cX5_worst 17 = .ok (.iload_n 3, 1) := by decide +kernel
theorem dX5_worst_18 : decode cX5_worst 18 = .ok (.aload_n 0, 1) := by decide +kernel
theorem dX5_worst_19 : decode cX5_worst 19 = .ok (.getfield 12, 3) := by decide +kernel
theorem dX5_worst_22 : decode cX5_worst 22 = .ok (.getfield 43, 3) := by decide +kernel
theorem dX5_worst_25 : decode cX5_worst 25 = .ok (.if_icmp .ge 65, 3) := by decide +kernel
theorem dX5_worst_28 : decode cX5_worst 28 = .ok (.aload_n 0, 1) := by decide +kernel
theorem dX5_worst_29 : decode cX5_worst 29 = .ok (.getfield 21, 3) := by decide +kernel
theorem dX5_worst_32 : decode cX5_worst 32 = .ok (.iload_n 2, 1) := by decide +kernel
theorem dX5_worst_33 : decode cX5_worst 33 = .ok (.iload_n 3, 1) := by decide +kernel
theorem dX5_worst_34 : decode cX5_worst 34 = .ok (.invokevirtual 164, 3) := by decide +kernel
theorem dX5_worst_37 : decode cX5_worst 37 = .ok (.ifCond .eq 47, 3) := by decide +kernel
theorem dX5_worst_40 : decode cX5_worst 40 = .ok (.aload_n 0, 1) := by decide +kernel
theorem dX5_worst_41 : decode cX5_worst 41 = .ok (.getfield 21, 3) := by decide +kernel
theorem dX5_worst_44 : decode cX5_worst 44 = .ok (.iload_n 2, 1) := by decide +kernel
theorem dX5_worst_45 : decode cX5_worst 45 = .ok (.iload_n 3, 1) := by decide +kernel
theorem dX5_worst_46 : decode cX5_worst 46 = .ok (.aload_n 0, 1) := by decide +kernel
theorem dX5_worst_47 : decode cX5_worst 47 = .ok (.getfield 158, 3) := by decide +kernel
theorem dX5_worst_50 : decode cX5_worst 50 = .ok (.invokevirtual 161, 3) := by decide +kernel
theorem dX5_worst_53 : decode cX5_worst 53 = .ok (.istore 4, 2) := by decide +kernel
theorem dX5_worst_55 : decode cX5_worst 55 = .ok (.iload 4, 2) := by decide +kernel
theorem dX5_worst_57 : decode cX5_worst 57 = .ok (.sipush (-1000), 3) := by decide +kernel
theorem dX5_worst_60 : decode cX5_worst 60 = .ok (.if_icmp .ne 7, 3) := by decide +kernel
theorem dX5_worst_63 : decode cX5_worst 63 = .ok (.sipush (-1000), 3) := by decide +kernel
theorem dX5_worst_66 : decode cX5_worst 66 = .ok (.ireturn, 1) := by decide +kernel
theorem dX5_worst_67 : decode cX5_worst 67 = .ok (.iload_n 1, 1) := by decide +kernel
theorem dX5_worst_68 : decode cX5_worst 68 = .ok (.iload 4, 2) := by decide +kernel
theorem dX5_worst_70 : decode cX5_worst 70 = .ok (.aload_n 0, 1) := by decide +kernel
theorem dX5_worst_71 : decode cX5_worst 71 = .ok (.getfield 21, 3) := by decide +kernel
theorem dX5_worst_74 : decode cX5_worst 74 = .ok (.iload_n 2, 1) := by decide +kernel
theorem dX5_worst_75 : decode cX5_worst 75 = .ok (.iload_n 3, 1) := by decide +kernel
theorem dX5_worst_76 : decode cX5_worst 76 = .ok (.invokevirtual 109, 3) := by decide +kernel
theorem dX5_worst_79 : decode cX5_worst 79 = .ok (.isub, 1) := by decide +kernel
theorem dX5_worst_80 : decode cX5_worst 80 = .ok (.invokestatic 167, 3) := by decide +kernel
theorem dX5_worst_83 : decode cX5_worst 83 = .ok (.istore_n 1, 1) := by decide +kernel
theorem dX5_worst_84 : decode cX5_worst 84 = .ok (.iinc 3 1, 3) := by decide +kernel
theorem dX5_worst_87 : decode cX5_worst 87 = .ok (.goto (-70), 3) := by decide +kernel
theorem dX5_worst_90 : decode cX5_worst 90 = .ok (.iinc 2 1, 3) := by decide +kernel
theorem dX5_worst_93 : decode cX5_worst 93 = .ok (.goto (-89), 3) := by decide +kernel
theorem dX5_worst_96 : decode cX5_worst 96 = .ok (.iload_n 1, 1) := by decide +kernel
theorem dX5_worst_97 : decode cX5_worst 97 = .ok (.ireturn, 1) := by decide +kernel
theorem dX5_hits_0 : decode cX5_hits 0 = .ok (.iload_n 1, 1) := by decide +kernel
theorem dX5_hits_1 : decode cX5_hits 1 = .ok (.iconst 1, 1) := by decide +kernel
theorem dX5_hits_2 : decode cX5_hits 2 = .ok (.if_icmp .lt 9, 3) := by decide +kernel
theorem dX5_hits_5 : decode cX5_hits 5 = .ok (.iload_n 1, 1) := by decide +kernel
theorem dX5_hits_6 : decode cX5_hits 6 = .ok (.bipush 9, 2) := by decide +kernel
theorem dX5_hits_8 : decode cX5_hits 8 = .ok (.if_icmp .le 7, 3) := by decide +kernel
theorem dX5_hits_11 : decode cX5_hits 11 = .ok (.sipush (-1002), 3) := by decide +kernel
theorem dX5_hits_14 : decode cX5_hits 14 = .ok (.ireturn, 1) := by decide +kernel
theorem dX5_hits_15 : decode cX5_hits 15 = .ok (.aload_n 0, 1) := by decide +kernel
theorem dX5_hits_16 : decode cX5_hits 16 = .ok (.getfield 35, 3) := by decide +kernel
theorem dX5_hits_19 : decode cX5_hits 19 = .ok (.aload_n 0, 1) := by decide +kernel
theorem dX5_hits_20 : decode cX5_hits 20 = .ok (.getfield 21, 3) := by decide +kernel
theorem dX5_hits_23 : decode cX5_hits 23 = .ok (.aload_n 0, 1) := by decide +kernel
theorem dX5_hits_24 : decode cX5_hits 24 = .ok (.getfield 12, 3) := by decide +kernel
theorem dX5_hits_27 : decode cX5_hits 27 = .ok (.getfield 43, 3) := by decide +kernel
theorem dX5_hits_30 : decode cX5_hits 30 = .ok (.iload_n 1, 1) := by decide +kernel
theorem dX5_hits_31 : decode cX5_hits 31 = .ok (.invokevirtual 172, 3) := by decide +kernel
theorem dX5_hits_34 : decode cX5_hits 34 = .ok (.aload_n 0, 1) := by decide +kernel
theorem dX5_hits_35 : decode cX5_hits 35 = .ok (.getfield 35, 3) := by decide +kernel
theorem dX5_hits_38 : decode cX5_hits 38 = .ok (.aload_n 0, 1) := by decide +kernel
theorem dX5_hits_39 : decode cX5_hits 39 = .ok (.getfield 12, 3) := by decide +kernel
theorem dX5_hits_42 : decode cX5_hits 42 = .ok (.getfield 43, 3) := by decide +kernel
theorem dX5_hits_45 : decode cX5_hits 45 = .ok (.invokevirtual 176, 3) := by decide +kernel
theorem dX5_hits_48 : decode cX5_hits 48 = .ok (.ireturn, 1) := by decide +kernel
theorem dX5_count_0 : decode cX5_count 0 = .ok (.iload_n 1, 1) := by decide +kernel
theorem dX5_count_1 : decode cX5_count 1 = .ok (.tableswitch 75 0 4 #[35, 43, 51, 59, 67], 35) := by decide +kernel
theorem dX5_count_36 : decode cX5_count 36 = .ok (.aload_n 0, 1) := by decide +kernel
theorem dX5_count_37 : decode cX5_count 37 = .ok (.getfield 12, 3) := by decide +kernel
theorem dX5_count_40 : decode cX5_count 40 = .ok (.getfield 43, 3) := by decide +kernel
theorem dX5_count_43 : decode cX5_count 43 = .ok (.ireturn, 1) := by decide +kernel
theorem dX5_count_44 : decode cX5_count 44 = .ok (.aload_n 0, 1) := by decide +kernel
theorem dX5_count_45 : decode cX5_count 45 = .ok (.getfield 12, 3) := by decide +kernel
theorem dX5_count_48 : decode cX5_count 48 = .ok (.getfield 59, 3) := by decide +kernel
theorem dX5_count_51 : decode cX5_count 51 = .ok (.ireturn, 1) := by decide +kernel
theorem dX5_count_52 : decode cX5_count 52 = .ok (.aload_n 0, 1) := by decide +kernel
theorem dX5_count_53 : decode cX5_count 53 = .ok (.getfield 12, 3) := by decide +kernel
theorem dX5_count_56 : decode cX5_count 56 = .ok (.invokevirtual 91, 3) := by decide +kernel
theorem dX5_count_59 : decode cX5_count 59 = .ok (.ireturn, 1) := by decide +kernel
theorem dX5_count_60 : decode cX5_count 60 = .ok (.aload_n 0, 1) := by decide +kernel
theorem dX5_count_61 : decode cX5_count 61 = .ok (.getfield 21, 3) := by decide +kernel
theorem dX5_count_64 : decode cX5_count 64 = .ok (.invokevirtual 179, 3) := by decide +kernel
theorem dX5_count_67 : decode cX5_count 67 = .ok (.ireturn, 1) := by decide +kernel
theorem dX5_count_68 : decode cX5_count 68 = .ok (.aload_n 0, 1) := by decide +kernel
theorem dX5_count_69 : decode cX5_count 69 = .ok (.getfield 158, 3) := by decide +kernel
theorem dX5_count_72 : decode cX5_count 72 = .ok (.invokestatic 182, 3) := by decide +kernel
theorem dX5_count_75 : decode cX5_count 75 = .ok (.ireturn, 1) := by decide +kernel
theorem dX5_count_76 : decode cX5_count 76 = .ok (.sipush (-1002), 3) := by decide +kernel
theorem dX5_count_79 : decode cX5_count 79 = .ok (.ireturn, 1) := by decide +kernel
theorem dX5_restart_0 : decode cX5_restart 0 = .ok (.aload_n 0, 1) := by decide +kernel
theorem dX5_restart_1 : decode cX5_restart 1 = .ok (.getfield 12, 3) := by decide +kernel
theorem dX5_restart_4 : decode cX5_restart 4 = .ok (.iload_n 1, 1) := by decide +kernel
theorem dX5_restart_5 : decode cX5_restart 5 = .ok (.invokevirtual 187, 3) := by decide +kernel
theorem dX5_restart_8 : decode cX5_restart 8 = .ok (.aload_n 0, 1) := by decide +kernel
theorem dX5_restart_9 : decode cX5_restart 9 = .ok (.getfield 28, 3) := by decide +kernel
theorem dX5_restart_12 : decode cX5_restart 12 = .ok (.invokevirtual 190, 3) := by decide +kernel
theorem dX5_restart_15 : decode cX5_restart 15 = .ok (.aload_n 0, 1) := by decide +kernel
theorem dX5_restart_16 : decode cX5_restart 16 = .ok (.iconst 0, 1) := by decide +kernel
theorem dX5_restart_17 : decode cX5_restart 17 = .ok (.putfield 158, 3) := by decide +kernel
theorem dX5_restart_20 : decode cX5_restart 20 = .ok (.aload_n 0, 1) := by decide +kernel
theorem dX5_restart_21 : decode cX5_restart 21 = .ok (.invokevirtual 70, 3) := by decide +kernel
theorem dX5_restart_24 : decode cX5_restart 24 = .ok (.return_, 1) := by decide +kernel
theorem dX5_keepAct_0 : decode cX5_keepAct 0 = .ok (.aload_n 0, 1) := by decide +kernel
theorem dX5_keepAct_1 : decode cX5_keepAct 1 = .ok (.getfield 21, 3) := by decide +kernel
theorem dX5_keepAct_4 : decode cX5_keepAct 4 = .ok (.invokevirtual 192, 3) := by decide +kernel
theorem dX5_keepAct_7 : decode cX5_keepAct 7 = .ok (.aload_n 0, 1) := by decide +kernel
theorem dX5_keepAct_8 : decode cX5_keepAct 8 = .ok (.getfield 28, 3) := by decide +kernel
theorem dX5_keepAct_11 : decode cX5_keepAct 11 = .ok (.aload_n 0, 1) := by decide +kernel
theorem dX5_keepAct_12 : decode cX5_keepAct 12 = .ok (.getfield 21, 3) := by decide +kernel
theorem dX5_keepAct_15 : decode cX5_keepAct 15 = .ok (.invokevirtual 195, 3) := by decide +kernel
theorem dX5_keepAct_18 : decode cX5_keepAct 18 = .ok (.return_, 1) := by decide +kernel
theorem dX5_wouldSinkAt_0 : decode cX5_wouldSinkAt 0 = .ok (.aload_n 0, 1) := by decide +kernel
theorem dX5_wouldSinkAt_1 : decode cX5_wouldSinkAt 1 = .ok (.getfield 21, 3) := by decide +kernel
theorem dX5_wouldSinkAt_4 : decode cX5_wouldSinkAt 4 = .ok (.aload_n 0, 1) := by decide +kernel
theorem dX5_wouldSinkAt_5 : decode cX5_wouldSinkAt 5 = .ok (.getfield 12, 3) := by decide +kernel
theorem dX5_wouldSinkAt_8 : decode cX5_wouldSinkAt 8 = .ok (.getfield 95, 3) := by decide +kernel
theorem dX5_wouldSinkAt_11 : decode cX5_wouldSinkAt 11 = .ok (.iload_n 1, 1) := by decide +kernel
theorem dX5_wouldSinkAt_12 : decode cX5_wouldSinkAt 12 = .ok (.iaload, 1) := by decide +kernel
theorem dX5_wouldSinkAt_13 : decode cX5_wouldSinkAt 13 = .ok (.aload_n 0, 1) := by decide +kernel
theorem dX5_wouldSinkAt_14 : decode cX5_wouldSinkAt 14 = .ok (.getfield 12, 3) := by decide +kernel
theorem dX5_wouldSinkAt_17 : decode cX5_wouldSinkAt 17 = .ok (.getfield 98, 3) := by decide +kernel
theorem dX5_wouldSinkAt_20 : decode cX5_wouldSinkAt 20 = .ok (.iload_n 1, 1) := by decide +kernel
theorem dX5_wouldSinkAt_21 : decode cX5_wouldSinkAt 21 = .ok (.iaload, 1) := by decide +kernel
theorem dX5_wouldSinkAt_22 : decode cX5_wouldSinkAt 22 = .ok (.iload_n 2, 1) := by decide +kernel
theorem dX5_wouldSinkAt_23 : decode cX5_wouldSinkAt 23 = .ok (.aload_n 0, 1) := by decide +kernel
theorem dX5_wouldSinkAt_24 : decode cX5_wouldSinkAt 24 = .ok (.getfield 12, 3) := by decide +kernel
theorem dX5_wouldSinkAt_27 : decode cX5_wouldSinkAt 27 = .ok (.getfield 77, 3) := by decide +kernel
theorem dX5_wouldSinkAt_30 : decode cX5_wouldSinkAt 30 = .ok (.iload_n 1, 1) := by decide +kernel
theorem dX5_wouldSinkAt_31 : decode cX5_wouldSinkAt 31 = .ok (.baload, 1) := by decide +kernel
theorem dX5_wouldSinkAt_32 : decode cX5_wouldSinkAt 32 = .ok (.iload_n 1, 1) := by decide +kernel
theorem dX5_wouldSinkAt_33 : decode cX5_wouldSinkAt 33 = .ok (.invokevirtual 55, 3) := by decide +kernel
theorem dX5_wouldSinkAt_36 : decode cX5_wouldSinkAt 36 = .ok (.ireturn, 1) := by decide +kernel
theorem dX5_mayCost_0 : decode cX5_mayCost 0 = .ok (.iload_n 0, 1) := by decide +kernel
theorem dX5_mayCost_1 : decode cX5_mayCost 1 = .ok (.iload_n 1, 1) := by decide +kernel
theorem dX5_mayCost_2 : decode cX5_mayCost 2 = .ok (.ifCond .eq 7, 3) := by decide +kernel
theorem dX5_mayCost_5 : decode cX5_mayCost 5 = .ok (.iconst 0, 1) := by decide +kernel
theorem dX5_mayCost_6 : decode cX5_mayCost 6 = .ok (.goto 5, 3) := by decide +kernel
theorem dX5_mayCost_9 : decode cX5_mayCost 9 = .ok (.bipush (-50), 2) := by decide +kernel
theorem dX5_mayCost_11 : decode cX5_mayCost 11 = .ok (.if_icmp .lt 13, 3) := by decide +kernel
theorem dX5_mayCost_14 : decode cX5_mayCost 14 = .ok (.iload_n 0, 1) := by decide +kernel
theorem dX5_mayCost_15 : decode cX5_mayCost 15 = .ok (.bipush 99, 2) := by decide +kernel
theorem dX5_mayCost_17 : decode cX5_mayCost 17 = .ok (.if_icmp .gt 7, 3) := by decide +kernel
theorem dX5_mayCost_20 : decode cX5_mayCost 20 = .ok (.iconst 1, 1) := by decide +kernel
theorem dX5_mayCost_21 : decode cX5_mayCost 21 = .ok (.goto 4, 3) := by decide +kernel
theorem dX5_mayCost_24 : decode cX5_mayCost 24 = .ok (.iconst 0, 1) := by decide +kernel
theorem dX5_mayCost_25 : decode cX5_mayCost 25 = .ok (.ireturn, 1) := by decide +kernel
theorem dX5_asNumber_0 : decode cX5_asNumber 0 = .ok (.iload_n 0, 1) := by decide +kernel
theorem dX5_asNumber_1 : decode cX5_asNumber 1 = .ok (.ifCond .eq 7, 3) := by decide +kernel
theorem dX5_asNumber_4 : decode cX5_asNumber 4 = .ok (.iconst 1, 1) := by decide +kernel
theorem dX5_asNumber_5 : decode cX5_asNumber 5 = .ok (.goto 4, 3) := by decide +kernel
theorem dX5_asNumber_8 : decode cX5_asNumber 8 = .ok (.iconst 0, 1) := by decide +kernel
theorem dX5_asNumber_9 : decode cX5_asNumber 9 = .ok (.ireturn, 1) := by decide +kernel
theorem dX5_pairOf_0 : decode cX5_pairOf 0 = .ok (.iload_n 0, 1) := by decide +kernel
theorem dX5_pairOf_1 : decode cX5_pairOf 1 = .ok (.bipush 10, 2) := by decide +kernel
theorem dX5_pairOf_3 : decode cX5_pairOf 3 = .ok (.imul, 1) := by decide +kernel
theorem dX5_pairOf_4 : decode cX5_pairOf 4 = .ok (.iload_n 1, 1) := by decide +kernel
theorem dX5_pairOf_5 : decode cX5_pairOf 5 = .ok (.iadd, 1) := by decide +kernel
theorem dX5_pairOf_6 : decode cX5_pairOf 6 = .ok (.ireturn, 1) := by decide +kernel
theorem dJ6_bitCount_0f7a4_0 : decode cJ6_bitCount_0f7a4 0 = .ok (.iload_n 0, 1) := by decide +kernel
theorem dJ6_bitCount_0f7a4_1 : decode cJ6_bitCount_0f7a4 1 = .ok (.iload_n 0, 1) := by decide +kernel
theorem dJ6_bitCount_0f7a4_2 : decode cJ6_bitCount_0f7a4 2 = .ok (.iconst 1, 1) := by decide +kernel
theorem dJ6_bitCount_0f7a4_3 : decode cJ6_bitCount_0f7a4 3 = .ok (.iushr, 1) := by decide +kernel
theorem dJ6_bitCount_0f7a4_4 : decode cJ6_bitCount_0f7a4 4 = .ok (.ldc_w 265, 3) := by decide +kernel
theorem dJ6_bitCount_0f7a4_7 : decode cJ6_bitCount_0f7a4 7 = .ok (.iand, 1) := by decide +kernel
theorem dJ6_bitCount_0f7a4_8 : decode cJ6_bitCount_0f7a4 8 = .ok (.isub, 1) := by decide +kernel
theorem dJ6_bitCount_0f7a4_9 : decode cJ6_bitCount_0f7a4 9 = .ok (.istore_n 0, 1) := by decide +kernel
theorem dJ6_bitCount_0f7a4_10 : decode cJ6_bitCount_0f7a4 10 = .ok (.iload_n 0, 1) := by decide +kernel
theorem dJ6_bitCount_0f7a4_11 : decode cJ6_bitCount_0f7a4 11 = .ok (.ldc_w 266, 3) := by decide +kernel
theorem dJ6_bitCount_0f7a4_14 : decode cJ6_bitCount_0f7a4 14 = .ok (.iand, 1) := by decide +kernel
theorem dJ6_bitCount_0f7a4_15 : decode cJ6_bitCount_0f7a4 15 = .ok (.iload_n 0, 1) := by decide +kernel
theorem dJ6_bitCount_0f7a4_16 : decode cJ6_bitCount_0f7a4 16 = .ok (.iconst 2, 1) := by decide +kernel
theorem dJ6_bitCount_0f7a4_17 : decode cJ6_bitCount_0f7a4 17 = .ok (.iushr, 1) := by decide +kernel
theorem dJ6_bitCount_0f7a4_18 : decode cJ6_bitCount_0f7a4 18 = .ok (.ldc_w 266, 3) := by decide +kernel
theorem dJ6_bitCount_0f7a4_21 : decode cJ6_bitCount_0f7a4 21 = .ok (.iand, 1) := by decide +kernel
theorem dJ6_bitCount_0f7a4_22 : decode cJ6_bitCount_0f7a4 22 = .ok (.iadd, 1) := by decide +kernel
theorem dJ6_bitCount_0f7a4_23 : decode cJ6_bitCount_0f7a4 23 = .ok (.istore_n 0, 1) := by decide +kernel
theorem dJ6_bitCount_0f7a4_24 : decode cJ6_bitCount_0f7a4 24 = .ok (.iload_n 0, 1) := by decide +kernel
theorem dJ6_bitCount_0f7a4_25 : decode cJ6_bitCount_0f7a4 25 = .ok (.iload_n 0, 1) := by decide +kernel
theorem dJ6_bitCount_0f7a4_26 : decode cJ6_bitCount_0f7a4 26 = .ok (.iconst 4, 1) := by decide +kernel
theorem dJ6_bitCount_0f7a4_27 : decode cJ6_bitCount_0f7a4 27 = .ok (.iushr, 1) := by decide +kernel
theorem dJ6_bitCount_0f7a4_28 : decode cJ6_bitCount_0f7a4 28 = .ok (.iadd, 1) := by decide +kernel
theorem dJ6_bitCount_0f7a4_29 : decode cJ6_bitCount_0f7a4 29 = .ok (.ldc_w 267, 3) := by decide +kernel
theorem dJ6_bitCount_0f7a4_32 : decode cJ6_bitCount_0f7a4 32 = .ok (.iand, 1) := by decide +kernel
theorem dJ6_bitCount_0f7a4_33 : decode cJ6_bitCount_0f7a4 33 = .ok (.istore_n 0, 1) := by decide +kernel
theorem dJ6_bitCount_0f7a4_34 : decode cJ6_bitCount_0f7a4 34 = .ok (.iload_n 0, 1) := by decide +kernel
theorem dJ6_bitCount_0f7a4_35 : decode cJ6_bitCount_0f7a4 35 = .ok (.iload_n 0, 1) := by decide +kernel
theorem dJ6_bitCount_0f7a4_36 : decode cJ6_bitCount_0f7a4 36 = .ok (.bipush 8, 2) := by decide +kernel
theorem dJ6_bitCount_0f7a4_38 : decode cJ6_bitCount_0f7a4 38 = .ok (.iushr, 1) := by decide +kernel
theorem dJ6_bitCount_0f7a4_39 : decode cJ6_bitCount_0f7a4 39 = .ok (.iadd, 1) := by decide +kernel
theorem dJ6_bitCount_0f7a4_40 : decode cJ6_bitCount_0f7a4 40 = .ok (.istore_n 0, 1) := by decide +kernel
theorem dJ6_bitCount_0f7a4_41 : decode cJ6_bitCount_0f7a4 41 = .ok (.iload_n 0, 1) := by decide +kernel
theorem dJ6_bitCount_0f7a4_42 : decode cJ6_bitCount_0f7a4 42 = .ok (.iload_n 0, 1) := by decide +kernel
theorem dJ6_bitCount_0f7a4_43 : decode cJ6_bitCount_0f7a4 43 = .ok (.bipush 16, 2) := by decide +kernel
theorem dJ6_bitCount_0f7a4_45 : decode cJ6_bitCount_0f7a4 45 = .ok (.iushr, 1) := by decide +kernel
theorem dJ6_bitCount_0f7a4_46 : decode cJ6_bitCount_0f7a4 46 = .ok (.iadd, 1) := by decide +kernel
theorem dJ6_bitCount_0f7a4_47 : decode cJ6_bitCount_0f7a4 47 = .ok (.istore_n 0, 1) := by decide +kernel
theorem dJ6_bitCount_0f7a4_48 : decode cJ6_bitCount_0f7a4 48 = .ok (.iload_n 0, 1) := by decide +kernel
theorem dJ6_bitCount_0f7a4_49 : decode cJ6_bitCount_0f7a4 49 = .ok (.bipush 63, 2) := by decide +kernel
theorem dJ6_bitCount_0f7a4_51 : decode cJ6_bitCount_0f7a4 51 = .ok (.iand, 1) := by decide +kernel
theorem dJ6_bitCount_0f7a4_52 : decode cJ6_bitCount_0f7a4 52 = .ok (.ireturn, 1) := by decide +kernel
theorem dJ9_floorDiv_7cf53_0 : decode cJ9_floorDiv_7cf53 0 = .ok (.iload_n 0, 1) := by decide +kernel
theorem dJ9_floorDiv_7cf53_1 : decode cJ9_floorDiv_7cf53 1 = .ok (.iload_n 1, 1) := by decide +kernel
theorem dJ9_floorDiv_7cf53_2 : decode cJ9_floorDiv_7cf53 2 = .ok (.idiv, 1) := by decide +kernel
theorem dJ9_floorDiv_7cf53_3 : decode cJ9_floorDiv_7cf53 3 = .ok (.istore_n 2, 1) := by decide +kernel
theorem dJ9_floorDiv_7cf53_4 : decode cJ9_floorDiv_7cf53 4 = .ok (.iload_n 0, 1) := by decide +kernel
theorem dJ9_floorDiv_7cf53_5 : decode cJ9_floorDiv_7cf53 5 = .ok (.iload_n 1, 1) := by decide +kernel
theorem dJ9_floorDiv_7cf53_6 : decode cJ9_floorDiv_7cf53 6 = .ok (.ixor, 1) := by decide +kernel
theorem dJ9_floorDiv_7cf53_7 : decode cJ9_floorDiv_7cf53 7 = .ok (.ifCond .ge 14, 3) := by decide +kernel
theorem dJ9_floorDiv_7cf53_10 : decode cJ9_floorDiv_7cf53 10 = .ok (.iload_n 2, 1) := by decide +kernel
theorem dJ9_floorDiv_7cf53_11 : decode cJ9_floorDiv_7cf53 11 = .ok (.iload_n 1, 1) := by decide +kernel
theorem dJ9_floorDiv_7cf53_12 : decode cJ9_floorDiv_7cf53 12 = .ok (.imul, 1) := by decide +kernel
theorem dJ9_floorDiv_7cf53_13 : decode cJ9_floorDiv_7cf53 13 = .ok (.iload_n 0, 1) := by decide +kernel
theorem dJ9_floorDiv_7cf53_14 : decode cJ9_floorDiv_7cf53 14 = .ok (.if_icmp .eq 7, 3) := by decide +kernel
theorem dJ9_floorDiv_7cf53_17 : decode cJ9_floorDiv_7cf53 17 = .ok (.iload_n 2, 1) := by decide +kernel
theorem dJ9_floorDiv_7cf53_18 : decode cJ9_floorDiv_7cf53 18 = .ok (.iconst 1, 1) := by decide +kernel
theorem dJ9_floorDiv_7cf53_19 : decode cJ9_floorDiv_7cf53 19 = .ok (.isub, 1) := by decide +kernel
theorem dJ9_floorDiv_7cf53_20 : decode cJ9_floorDiv_7cf53 20 = .ok (.ireturn, 1) := by decide +kernel
theorem dJ9_floorDiv_7cf53_21 : decode cJ9_floorDiv_7cf53 21 = .ok (.iload_n 2, 1) := by decide +kernel
theorem dJ9_floorDiv_7cf53_22 : decode cJ9_floorDiv_7cf53 22 = .ok (.ireturn, 1) := by decide +kernel
theorem dJ9_floorMod_7cf53_0 : decode cJ9_floorMod_7cf53 0 = .ok (.iload_n 0, 1) := by decide +kernel
theorem dJ9_floorMod_7cf53_1 : decode cJ9_floorMod_7cf53 1 = .ok (.iload_n 1, 1) := by decide +kernel
theorem dJ9_floorMod_7cf53_2 : decode cJ9_floorMod_7cf53 2 = .ok (.irem, 1) := by decide +kernel
theorem dJ9_floorMod_7cf53_3 : decode cJ9_floorMod_7cf53 3 = .ok (.istore_n 2, 1) := by decide +kernel
theorem dJ9_floorMod_7cf53_4 : decode cJ9_floorMod_7cf53 4 = .ok (.iload_n 0, 1) := by decide +kernel
theorem dJ9_floorMod_7cf53_5 : decode cJ9_floorMod_7cf53 5 = .ok (.iload_n 1, 1) := by decide +kernel
theorem dJ9_floorMod_7cf53_6 : decode cJ9_floorMod_7cf53 6 = .ok (.ixor, 1) := by decide +kernel
theorem dJ9_floorMod_7cf53_7 : decode cJ9_floorMod_7cf53 7 = .ok (.ifCond .ge 11, 3) := by decide +kernel
theorem dJ9_floorMod_7cf53_10 : decode cJ9_floorMod_7cf53 10 = .ok (.iload_n 2, 1) := by decide +kernel
theorem dJ9_floorMod_7cf53_11 : decode cJ9_floorMod_7cf53 11 = .ok (.ifCond .eq 7, 3) := by decide +kernel
theorem dJ9_floorMod_7cf53_14 : decode cJ9_floorMod_7cf53 14 = .ok (.iload_n 2, 1) := by decide +kernel
theorem dJ9_floorMod_7cf53_15 : decode cJ9_floorMod_7cf53 15 = .ok (.iload_n 1, 1) := by decide +kernel
theorem dJ9_floorMod_7cf53_16 : decode cJ9_floorMod_7cf53 16 = .ok (.iadd, 1) := by decide +kernel
theorem dJ9_floorMod_7cf53_17 : decode cJ9_floorMod_7cf53 17 = .ok (.ireturn, 1) := by decide +kernel
theorem dJ9_floorMod_7cf53_18 : decode cJ9_floorMod_7cf53 18 = .ok (.iload_n 2, 1) := by decide +kernel
theorem dJ9_floorMod_7cf53_19 : decode cJ9_floorMod_7cf53 19 = .ok (.ireturn, 1) := by decide +kernel
theorem dJ9_max_7cf53_0 : decode cJ9_max_7cf53 0 = .ok (.iload_n 0, 1) := by decide +kernel
theorem dJ9_max_7cf53_1 : decode cJ9_max_7cf53 1 = .ok (.iload_n 1, 1) := by decide +kernel
theorem dJ9_max_7cf53_2 : decode cJ9_max_7cf53 2 = .ok (.if_icmp .lt 7, 3) := by decide +kernel
theorem dJ9_max_7cf53_5 : decode cJ9_max_7cf53 5 = .ok (.iload_n 0, 1) := by decide +kernel
theorem dJ9_max_7cf53_6 : decode cJ9_max_7cf53 6 = .ok (.goto 4, 3) := by decide +kernel
theorem dJ9_max_7cf53_9 : decode cJ9_max_7cf53 9 = .ok (.iload_n 1, 1) := by decide +kernel
theorem dJ9_max_7cf53_10 : decode cJ9_max_7cf53 10 = .ok (.ireturn, 1) := by decide +kernel
theorem dJ9_min_7cf53_0 : decode cJ9_min_7cf53 0 = .ok (.iload_n 0, 1) := by decide +kernel
theorem dJ9_min_7cf53_1 : decode cJ9_min_7cf53 1 = .ok (.iload_n 1, 1) := by decide +kernel
theorem dJ9_min_7cf53_2 : decode cJ9_min_7cf53 2 = .ok (.if_icmp .gt 7, 3) := by decide +kernel
theorem dJ9_min_7cf53_5 : decode cJ9_min_7cf53 5 = .ok (.iload_n 0, 1) := by decide +kernel
theorem dJ9_min_7cf53_6 : decode cJ9_min_7cf53 6 = .ok (.goto 4, 3) := by decide +kernel
theorem dJ9_min_7cf53_9 : decode cJ9_min_7cf53 9 = .ok (.iload_n 1, 1) := by decide +kernel
theorem dJ9_min_7cf53_10 : decode cJ9_min_7cf53 10 = .ok (.ireturn, 1) := by decide +kernel
theorem dJ7_fill_53178_0 : decode cJ7_fill_53178 0 = .ok (.iconst 0, 1) := by decide +kernel
theorem dJ7_fill_53178_1 : decode cJ7_fill_53178 1 = .ok (.istore_n 2, 1) := by decide +kernel
theorem dJ7_fill_53178_2 : decode cJ7_fill_53178 2 = .ok (.aload_n 0, 1) := by decide +kernel
theorem dJ7_fill_53178_3 : decode cJ7_fill_53178 3 = .ok (.arraylength, 1) := by decide +kernel
theorem dJ7_fill_53178_4 : decode cJ7_fill_53178 4 = .ok (.istore_n 3, 1) := by decide +kernel
theorem dJ7_fill_53178_5 : decode cJ7_fill_53178 5 = .ok (.iload_n 2, 1) := by decide +kernel
theorem dJ7_fill_53178_6 : decode cJ7_fill_53178 6 = .ok (.iload_n 3, 1) := by decide +kernel
theorem dJ7_fill_53178_7 : decode cJ7_fill_53178 7 = .ok (.if_icmp .ge 13, 3) := by decide +kernel
theorem dJ7_fill_53178_10 : decode cJ7_fill_53178 10 = .ok (.aload_n 0, 1) := by decide +kernel
theorem dJ7_fill_53178_11 : decode cJ7_fill_53178 11 = .ok (.iload_n 2, 1) := by decide +kernel
theorem dJ7_fill_53178_12 : decode cJ7_fill_53178 12 = .ok (.iload_n 1, 1) := by decide +kernel
theorem dJ7_fill_53178_13 : decode cJ7_fill_53178 13 = .ok (.iastore, 1) := by decide +kernel
theorem dJ7_fill_53178_14 : decode cJ7_fill_53178 14 = .ok (.iinc 2 1, 3) := by decide +kernel
theorem dJ7_fill_53178_17 : decode cJ7_fill_53178 17 = .ok (.goto (-12), 3) := by decide +kernel
theorem dJ7_fill_53178_20 : decode cJ7_fill_53178 20 = .ok (.return_, 1) := by decide +kernel
theorem dX6_init_0 : decode cX6_init 0 = .ok (.aload_n 0, 1) := by decide +kernel
theorem dX6_init_1 : decode cX6_init 1 = .ok (.invokespecial 1, 3) := by decide +kernel
theorem dX6_init_4 : decode cX6_init 4 = .ok (.aload_n 0, 1) := by decide +kernel
theorem dX6_init_5 : decode cX6_init 5 = .ok (.iconst 2, 1) := by decide +kernel
theorem dX6_init_6 : decode cX6_init 6 = .ok (.putfield 7, 3) := by decide +kernel
theorem dX6_init_9 : decode cX6_init 9 = .ok (.aload_n 0, 1) := by decide +kernel
theorem dX6_init_10 : decode cX6_init 10 = .ok (.bipush 40, 2) := by decide +kernel
theorem dX6_init_12 : decode cX6_init 12 = .ok (.newarray .int, 2) := by decide +kernel
theorem dX6_init_14 : decode cX6_init 14 = .ok (.putfield 13, 3) := by decide +kernel
theorem dX6_init_17 : decode cX6_init 17 = .ok (.aload_n 0, 1) := by decide +kernel
theorem dX6_init_18 : decode cX6_init 18 = .ok (.bipush 40, 2) := by decide +kernel
theorem dX6_init_20 : decode cX6_init 20 = .ok (.newarray .int, 2) := by decide +kernel
theorem dX6_init_22 : decode cX6_init 22 = .ok (.putfield 17, 3) := by decide +kernel
theorem dX6_init_25 : decode cX6_init 25 = .ok (.aload_n 0, 1) := by decide +kernel
theorem dX6_init_26 : decode cX6_init 26 = .ok (.bipush 40, 2) := by decide +kernel
theorem dX6_init_28 : decode cX6_init 28 = .ok (.newarray .int, 2) := by decide +kernel
theorem dX6_init_30 : decode cX6_init 30 = .ok (.putfield 20, 3) := by decide +kernel
theorem dX6_init_33 : decode cX6_init 33 = .ok (.aload_n 0, 1) := by decide +kernel
theorem dX6_init_34 : decode cX6_init 34 = .ok (.bipush 40, 2) := by decide +kernel
theorem dX6_init_36 : decode cX6_init 36 = .ok (.newarray .boolean, 2) := by decide +kernel
theorem dX6_init_38 : decode cX6_init 38 = .ok (.putfield 23, 3) := by decide +kernel
theorem dX6_init_41 : decode cX6_init 41 = .ok (.aload_n 0, 1) := by decide +kernel
theorem dX6_init_42 : decode cX6_init 42 = .ok (.bipush 40, 2) := by decide +kernel
theorem dX6_init_44 : decode cX6_init 44 = .ok (.newarray .boolean, 2) := by decide +kernel
theorem dX6_init_46 : decode cX6_init 46 = .ok (.putfield 27, 3) := by decide +kernel
theorem dX6_init_49 : decode cX6_init 49 = .ok (.aload_n 0, 1) := by decide +kernel
theorem dX6_init_50 : decode cX6_init 50 = .ok (.bipush 100, 2) := by decide +kernel
theorem dX6_init_52 : decode cX6_init 52 = .ok (.newarray .int, 2) := by decide +kernel
theorem dX6_init_54 : decode cX6_init 54 = .ok (.putfield 30, 3) := by decide +kernel
theorem dX6_init_57 : decode cX6_init 57 = .ok (.aload_n 0, 1) := by decide +kernel
theorem dX6_init_58 : decode cX6_init 58 = .ok (.ldc 33, 2) := by decide +kernel
theorem dX6_init_60 : decode cX6_init 60 = .ok (.newarray .int, 2) := by decide +kernel
theorem dX6_init_62 : decode cX6_init 62 = .ok (.putfield 34, 3) := by decide +kernel
theorem dX6_init_65 : decode cX6_init 65 = .ok (.aload_n 0, 1) := by decide +kernel
theorem dX6_init_66 : decode cX6_init 66 = .ok (.bipush 100, 2) := by decide +kernel
theorem dX6_init_68 : decode cX6_init 68 = .ok (.newarray .int, 2) := by decide +kernel
theorem dX6_init_70 : decode cX6_init 70 = .ok (.putfield 37, 3) := by decide +kernel
theorem dX6_init_73 : decode cX6_init 73 = .ok (.aload_n 0, 1) := by decide +kernel
theorem dX6_init_74 : decode cX6_init 74 = .ok (.sipush (-1000), 3) := by decide +kernel
theorem dX6_init_77 : decode cX6_init 77 = .ok (.sipush (-1000), 3) := by decide +kernel
theorem dX6_init_80 : decode cX6_init 80 = .ok (.invokevirtual 40, 3) := by decide +kernel
theorem dX6_init_83 : decode cX6_init 83 = .ok (.pop, 1) := by decide +kernel
theorem dX6_init_84 : decode cX6_init 84 = .ok (.aload_n 0, 1) := by decide +kernel
theorem dX6_init_85 : decode cX6_init 85 = .ok (.invokevirtual 44, 3) := by decide +kernel
theorem dX6_init_88 : decode cX6_init 88 = .ok (.return_, 1) := by decide +kernel
theorem dX6_in_0 : decode cX6_in 0 = .ok (.lload_n 0, 1) := by decide +kernel
theorem dX6_in_1 : decode cX6_in 1 = .ok (.lload_n 2, 1) := by decide +kernel
theorem dX6_in_2 : decode cX6_in 2 = .ok (.lcmp, 1) := by decide +kernel
theorem dX6_in_3 : decode cX6_in 3 = .ok (.ifCond .lt 14, 3) := by decide +kernel
theorem dX6_in_6 : decode cX6_in 6 = .ok (.lload_n 0, 1) := by decide +kernel
theorem dX6_in_7 : decode cX6_in 7 = .ok (.lload 4, 2) := by decide +kernel
theorem dX6_in_9 : decode cX6_in 9 = .ok (.lcmp, 1) := by decide +kernel
theorem dX6_in_10 : decode cX6_in 10 = .ok (.ifCond .gt 7, 3) := by decide +kernel
theorem dX6_in_13 : decode cX6_in 13 = .ok (.iconst 1, 1) := by decide +kernel
theorem dX6_in_14 : decode cX6_in 14 = .ok (.goto 4, 3) := by decide +kernel
theorem dX6_in_17 : decode cX6_in 17 = .ok (.iconst 0, 1) := by decide +kernel
theorem dX6_in_18 : decode cX6_in 18 = .ok (.ireturn, 1) := by decide +kernel
theorem dX6_noPost_0 : decode cX6_noPost 0 = .ok (.iload_n 1, 1) := by decide +kernel
theorem dX6_noPost_1 : decode cX6_noPost 1 = .ok (.i2l, 1) := by decide +kernel
theorem dX6_noPost_2 : decode cX6_noPost 2 = .ok (.lconst 0, 1) := by decide +kernel
theorem dX6_noPost_3 : decode cX6_noPost 3 = .ok (.aload_n 0, 1) := by decide +kernel
theorem dX6_noPost_4 : decode cX6_noPost 4 = .ok (.getfield 7, 3) := by decide +kernel
theorem dX6_noPost_7 : decode cX6_noPost 7 = .ok (.iconst 1, 1) := by decide +kernel
theorem dX6_noPost_8 : decode cX6_noPost 8 = .ok (.isub, 1) := by decide +kernel
theorem dX6_noPost_9 : decode cX6_noPost 9 = .ok (.i2l, 1) := by decide +kernel
theorem dX6_noPost_10 : decode cX6_noPost 10 = .ok (.invokestatic 50, 3) := by decide +kernel
theorem dX6_noPost_13 : decode cX6_noPost 13 = .ok (.ifCond .ne 7, 3) := by decide +kernel
theorem dX6_noPost_16 : decode cX6_noPost 16 = .ok (.iconst 1, 1) := by decide +kernel
theorem dX6_noPost_17 : decode cX6_noPost 17 = .ok (.goto 4, 3) := by decide +kernel
theorem dX6_noPost_20 : decode cX6_noPost 20 = .ok (.iconst 0, 1) := by decide +kernel
theorem dX6_noPost_21 : decode cX6_noPost 21 = .ok (.ireturn, 1) := by decide +kernel
theorem dX6_noLine_0 : decode cX6_noLine 0 = .ok (.iload_n 1, 1) := by decide +kernel
theorem dX6_noLine_1 : decode cX6_noLine 1 = .ok (.i2l, 1) := by decide +kernel
theorem dX6_noLine_2 : decode cX6_noLine 2 = .ok (.lconst 0, 1) := by decide +kernel
theorem dX6_noLine_3 : decode cX6_noLine 3 = .ok (.aload_n 0, 1) := by decide +kernel
theorem dX6_noLine_4 : decode cX6_noLine 4 = .ok (.getfield 54, 3) := by decide +kernel
theorem dX6_noLine_7 : decode cX6_noLine 7 = .ok (.iconst 1, 1) := by decide +kernel
theorem dX6_noLine_8 : decode cX6_noLine 8 = .ok (.isub, 1) := by decide +kernel
theorem dX6_noLine_9 : decode cX6_noLine 9 = .ok (.i2l, 1) := by decide +kernel
theorem dX6_noLine_10 : decode cX6_noLine 10 = .ok (.invokestatic 50, 3) := by decide +kernel
theorem dX6_noLine_13 : decode cX6_noLine 13 = .ok (.ifCond .ne 7, 3) := by decide +kernel
theorem dX6_noLine_16 : decode cX6_noLine 16 = .ok (.iconst 1, 1) := by decide +kernel
theorem dX6_noLine_17 : decode cX6_noLine 17 = .ok (.goto 4, 3) := by decide +kernel
theorem dX6_noLine_20 : decode cX6_noLine 20 = .ok (.iconst 0, 1) := by decide +kernel
theorem dX6_noLine_21 : decode cX6_noLine 21 = .ok (.ireturn, 1) := by decide +kernel
theorem dX6_learn_0 : decode cX6_learn 0 = .ok (.iconst 0, 1) := by decide +kernel
theorem dX6_learn_1 : decode cX6_learn 1 = .ok (.istore_n 3, 1) := by decide +kernel
theorem dX6_learn_2 : decode cX6_learn 2 = .ok (.iload_n 3, 1) := by decide +kernel
theorem dX6_learn_3 : decode cX6_learn 3 = .ok (.bipush 100, 2) := by decide +kernel
theorem dX6_learn_5 : decode cX6_learn 5 = .ok (.if_icmp .ge 32, 3) := by decide +kernel
theorem dX6_learn_8 : decode cX6_learn 8 = .ok (.aload_n 0, 1) := by decide +kernel
theorem dX6_learn_9 : decode cX6_learn 9 = .ok (.getfield 30, 3) := by decide +kernel
theorem dX6_learn_12 : decode cX6_learn 12 = .ok (.iload_n 3, 1) := by decide +kernel
theorem dX6_learn_13 : decode cX6_learn 13 = .ok (.iload_n 3, 1) := by decide +kernel
theorem dX6_learn_14 : decode cX6_learn 14 = .ok (.bipush 10, 2) := by decide +kernel
theorem dX6_learn_16 : decode cX6_learn 16 = .ok (.idiv, 1) := by decide +kernel
theorem dX6_learn_17 : decode cX6_learn 17 = .ok (.iload_n 3, 1) := by decide +kernel
theorem dX6_learn_18 : decode cX6_learn 18 = .ok (.bipush 10, 2) := by decide +kernel
theorem dX6_learn_20 : decode cX6_learn 20 = .ok (.irem, 1) := by decide +kernel
theorem dX6_learn_21 : decode cX6_learn 21 = .ok (.if_icmp .ne 7, 3) := by decide +kernel
theorem dX6_learn_24 : decode cX6_learn 24 = .ok (.iconst 0, 1) := by decide +kernel
theorem dX6_learn_25 : decode cX6_learn 25 = .ok (.goto 5, 3) := by decide +kernel
theorem dX6_learn_28 : decode cX6_learn 28 = .ok (.ldc 57, 2) := by decide +kernel
theorem dX6_learn_30 : decode cX6_learn 30 = .ok (.iastore, 1) := by decide +kernel
theorem dX6_learn_31 : decode cX6_learn 31 = .ok (.iinc 3 1, 3) := by decide +kernel
theorem dX6_learn_34 : decode cX6_learn 34 = .ok (.goto (-32), 3) := by decide +kernel
theorem dX6_learn_37 : decode cX6_learn 37 = .ok (.iconst 0, 1) := by decide +kernel
theorem dX6_learn_38 : decode cX6_learn 38 = .ok (.istore_n 3, 1) := by decide +kernel
theorem dX6_learn_39 : decode cX6_learn 39 = .ok (.iload_n 3, 1) := by decide +kernel
theorem dX6_learn_40 : decode cX6_learn 40 = .ok (.aload_n 0, 1) := by decide +kernel
theorem dX6_learn_41 : decode cX6_learn 41 = .ok (.getfield 54, 3) := by decide +kernel
theorem dX6_learn_44 : decode cX6_learn 44 = .ok (.if_icmp .ge 163, 3) := by decide +kernel
theorem dX6_learn_47 : decode cX6_learn 47 = .ok (.aload_n 0, 1) := by decide +kernel
theorem dX6_learn_48 : decode cX6_learn 48 = .ok (.getfield 27, 3) := by decide +kernel
theorem dX6_learn_51 : decode cX6_learn 51 = .ok (.iload_n 3, 1) := by decide +kernel
theorem dX6_learn_52 : decode cX6_learn 52 = .ok (.baload, 1) := by decide +kernel
theorem dX6_learn_53 : decode cX6_learn 53 = .ok (.ifCond .eq 148, 3) := by decide +kernel
theorem dX6_learn_56 : decode cX6_learn 56 = .ok (.iload_n 3, 1) := by decide +kernel
theorem dX6_learn_57 : decode cX6_learn 57 = .ok (.iload_n 1, 1) := by decide +kernel
theorem dX6_learn_58 : decode cX6_learn 58 = .ok (.if_icmp .eq 143, 3) := by decide +kernel
theorem dX6_learn_61 : decode cX6_learn 61 = .ok (.aload_n 0, 1) := by decide +kernel
theorem dX6_learn_62 : decode cX6_learn 62 = .ok (.getfield 13, 3) := by decide +kernel
theorem dX6_learn_65 : decode cX6_learn 65 = .ok (.iload_n 3, 1) := by decide +kernel
theorem dX6_learn_66 : decode cX6_learn 66 = .ok (.iaload, 1) := by decide +kernel
theorem dX6_learn_67 : decode cX6_learn 67 = .ok (.iload_n 2, 1) := by decide +kernel
theorem dX6_learn_68 : decode cX6_learn 68 = .ok (.if_icmp .eq 133, 3) := by decide +kernel
theorem dX6_learn_71 : decode cX6_learn 71 = .ok (.aload_n 0, 1) := by decide +kernel
theorem dX6_learn_72 : decode cX6_learn 72 = .ok (.getfield 17, 3) := by decide +kernel
theorem dX6_learn_75 : decode cX6_learn 75 = .ok (.iload_n 3, 1) := by decide +kernel
theorem dX6_learn_76 : decode cX6_learn 76 = .ok (.iaload, 1) := by decide +kernel
theorem dX6_learn_77 : decode cX6_learn 77 = .ok (.iload_n 2, 1) := by decide +kernel
theorem dX6_learn_78 : decode cX6_learn 78 = .ok (.if_icmp .eq 123, 3) := by decide +kernel
theorem dX6_learn_81 : decode cX6_learn 81 = .ok (.bipush 64, 2) := by decide +kernel
theorem dX6_learn_83 : decode cX6_learn 83 = .ok (.aload_n 0, 1) := by decide +kernel
theorem dX6_learn_84 : decode cX6_learn 84 = .ok (.getfield 20, 3) := by decide +kernel
theorem dX6_learn_87 : decode cX6_learn 87 = .ok (.iload_n 3, 1) := by decide +kernel
theorem dX6_learn_88 : decode cX6_learn 88 = .ok (.iaload, 1) := by decide +kernel
theorem dX6_learn_89 : decode cX6_learn 89 = .ok (.imul, 1) := by decide +kernel
theorem dX6_learn_90 : decode cX6_learn 90 = .ok (.iconst 1, 1) := by decide +kernel
theorem dX6_learn_91 : decode cX6_learn 91 = .ok (.iadd, 1) := by decide +kernel
theorem dX6_learn_92 : decode cX6_learn 92 = .ok (.istore 4, 2) := by decide +kernel
theorem dX6_learn_94 : decode cX6_learn 94 = .ok (.bipush 10, 2) := by decide +kernel
