theorem dX4_told_103 : decode cX4_told 103 = .ok (.getfield 85, 3) := by decide +kernel
theorem dX4_told_106 : decode cX4_told 106 = .ok (.iload_n 1, 1) := by decide +kernel
theorem dX4_told_107 : decode cX4_told 107 = .ok (.baload, 1) := by decide +kernel
theorem dX4_told_108 : decode cX4_told 108 = .ok (.invokestatic 101, 3) := by decide +kernel
theorem dX4_told_111 : decode cX4_told 111 = .ok (.ireturn, 1) := by decide +kernel
theorem dX4_told_112 : decode cX4_told 112 = .ok (.aload_n 0, 1) := by decide +kernel
theorem dX4_told_113 : decode cX4_told 113 = .ok (.getfield 12, 3) := by decide +kernel
theorem dX4_told_116 : decode cX4_told 116 = .ok (.getfield 85, 3) := by decide +kernel
theorem dX4_told_119 : decode cX4_told 119 = .ok (.iload_n 1, 1) := by decide +kernel
theorem dX4_told_120 : decode cX4_told 120 = .ok (.baload, 1) := by decide +kernel
theorem dX4_told_121 : decode cX4_told 121 = .ok (.ifCond .eq 14, 3) := by decide +kernel
theorem dX4_told_124 : decode cX4_told 124 = .ok (.aload_n 0, 1) := by decide +kernel
theorem dX4_told_125 : decode cX4_told 125 = .ok (.getfield 21, 3) := by decide +kernel
theorem dX4_told_128 : decode cX4_told 128 = .ok (.iload_n 1, 1) := by decide +kernel
theorem dX4_told_129 : decode cX4_told 129 = .ok (.invokevirtual 105, 3) := by decide +kernel
theorem dX4_told_132 : decode cX4_told 132 = .ok (.goto 6, 3) := by decide +kernel
theorem dX4_told_135 : decode cX4_told 135 = .ok (.sipush (-1000), 3) := by decide +kernel
theorem dX4_told_138 : decode cX4_told 138 = .ok (.ireturn, 1) := by decide +kernel
theorem dX4_told_139 : decode cX4_told 139 = .ok (.sipush (-1002), 3) := by decide +kernel
theorem dX4_told_142 : decode cX4_told 142 = .ok (.ireturn, 1) := by decide +kernel
theorem dX4_far_0 : decode cX4_far 0 = .ok (.aload_n 0, 1) := by decide +kernel
theorem dX4_far_1 : decode cX4_far 1 = .ok (.getfield 12, 3) := by decide +kernel
theorem dX4_far_4 : decode cX4_far 4 = .ok (.iload_n 1, 1) := by decide +kernel
theorem dX4_far_5 : decode cX4_far 5 = .ok (.iload_n 2, 1) := by decide +kernel
theorem dX4_far_6 : decode cX4_far 6 = .ok (.invokevirtual 47, 3) := by decide +kernel
theorem dX4_far_9 : decode cX4_far 9 = .ok (.ifCond .eq 15, 3) := by decide +kernel
theorem dX4_far_12 : decode cX4_far 12 = .ok (.aload_n 0, 1) := by decide +kernel
theorem dX4_far_13 : decode cX4_far 13 = .ok (.getfield 21, 3) := by decide +kernel
theorem dX4_far_16 : decode cX4_far 16 = .ok (.iload_n 1, 1) := by decide +kernel
theorem dX4_far_17 : decode cX4_far 17 = .ok (.iload_n 2, 1) := by decide +kernel
theorem dX4_far_18 : decode cX4_far 18 = .ok (.invokevirtual 109, 3) := by decide +kernel
theorem dX4_far_21 : decode cX4_far 21 = .ok (.goto 6, 3) := by decide +kernel
theorem dX4_far_24 : decode cX4_far 24 = .ok (.sipush (-1001), 3) := by decide +kernel
theorem dX4_far_27 : decode cX4_far 27 = .ok (.ireturn, 1) := by decide +kernel
theorem dX4_steps_0 : decode cX4_steps 0 = .ok (.aload_n 0, 1) := by decide +kernel
theorem dX4_steps_1 : decode cX4_steps 1 = .ok (.getfield 12, 3) := by decide +kernel
theorem dX4_steps_4 : decode cX4_steps 4 = .ok (.iload_n 1, 1) := by decide +kernel
theorem dX4_steps_5 : decode cX4_steps 5 = .ok (.iload_n 2, 1) := by decide +kernel
theorem dX4_steps_6 : decode cX4_steps 6 = .ok (.invokevirtual 47, 3) := by decide +kernel
theorem dX4_steps_9 : decode cX4_steps 9 = .ok (.ifCond .eq 15, 3) := by decide +kernel
theorem dX4_steps_12 : decode cX4_steps 12 = .ok (.aload_n 0, 1) := by decide +kernel
theorem dX4_steps_13 : decode cX4_steps 13 = .ok (.getfield 21, 3) := by decide +kernel
theorem dX4_steps_16 : decode cX4_steps 16 = .ok (.iload_n 1, 1) := by decide +kernel
theorem dX4_steps_17 : decode cX4_steps 17 = .ok (.iload_n 2, 1) := by decide +kernel
theorem dX4_steps_18 : decode cX4_steps 18 = .ok (.invokevirtual 113, 3) := by decide +kernel
theorem dX4_steps_21 : decode cX4_steps 21 = .ok (.goto 6, 3) := by decide +kernel
theorem dX4_steps_24 : decode cX4_steps 24 = .ok (.sipush (-1001), 3) := by decide +kernel
theorem dX4_steps_27 : decode cX4_steps 27 = .ok (.ireturn, 1) := by decide +kernel
theorem dX4_way_0 : decode cX4_way 0 = .ok (.aload_n 0, 1) := by decide +kernel
theorem dX4_way_1 : decode cX4_way 1 = .ok (.getfield 12, 3) := by decide +kernel
theorem dX4_way_4 : decode cX4_way 4 = .ok (.iload_n 1, 1) := by decide +kernel
theorem dX4_way_5 : decode cX4_way 5 = .ok (.iload_n 2, 1) := by decide +kernel
theorem dX4_way_6 : decode cX4_way 6 = .ok (.invokevirtual 47, 3) := by decide +kernel
theorem dX4_way_9 : decode cX4_way 9 = .ok (.ifCond .eq 16, 3) := by decide +kernel
theorem dX4_way_12 : decode cX4_way 12 = .ok (.aload_n 0, 1) := by decide +kernel
theorem dX4_way_13 : decode cX4_way 13 = .ok (.getfield 21, 3) := by decide +kernel
theorem dX4_way_16 : decode cX4_way 16 = .ok (.iload_n 1, 1) := by decide +kernel
theorem dX4_way_17 : decode cX4_way 17 = .ok (.iload_n 2, 1) := by decide +kernel
theorem dX4_way_18 : decode cX4_way 18 = .ok (.iload_n 3, 1) := by decide +kernel
theorem dX4_way_19 : decode cX4_way 19 = .ok (.invokevirtual 116, 3) := by decide +kernel
theorem dX4_way_22 : decode cX4_way 22 = .ok (.goto 6, 3) := by decide +kernel
theorem dX4_way_25 : decode cX4_way 25 = .ok (.sipush (-1001), 3) := by decide +kernel
theorem dX4_way_28 : decode cX4_way 28 = .ok (.ireturn, 1) := by decide +kernel
theorem dX4_without_0 : decode cX4_without 0 = .ok (.aload_n 0, 1) := by decide +kernel
theorem dX4_without_1 : decode cX4_without 1 = .ok (.getfield 12, 3) := by decide +kernel
theorem dX4_without_4 : decode cX4_without 4 = .ok (.iload_n 1, 1) := by decide +kernel
theorem dX4_without_5 : decode cX4_without 5 = .ok (.iload_n 2, 1) := by decide +kernel
theorem dX4_without_6 : decode cX4_without 6 = .ok (.invokevirtual 47, 3) := by decide +kernel
theorem dX4_without_9 : decode cX4_without 9 = .ok (.ifCond .eq 14, 3) := by decide +kernel
theorem dX4_without_12 : decode cX4_without 12 = .ok (.aload_n 0, 1) := by decide +kernel
theorem dX4_without_13 : decode cX4_without 13 = .ok (.getfield 12, 3) := by decide +kernel
theorem dX4_without_16 : decode cX4_without 16 = .ok (.iload_n 3, 1) := by decide +kernel
theorem dX4_without_17 : decode cX4_without 17 = .ok (.invokevirtual 73, 3) := by decide +kernel
theorem dX4_without_20 : decode cX4_without 20 = .ok (.ifCond .ne 7, 3) := by decide +kernel
theorem dX4_without_23 : decode cX4_without 23 = .ok (.sipush (-1001), 3) := by decide +kernel
theorem dX4_without_26 : decode cX4_without 26 = .ok (.ireturn, 1) := by decide +kernel
theorem dX4_without_27 : decode cX4_without 27 = .ok (.aload_n 0, 1) := by decide +kernel
theorem dX4_without_28 : decode cX4_without 28 = .ok (.getfield 21, 3) := by decide +kernel
theorem dX4_without_31 : decode cX4_without 31 = .ok (.iload_n 1, 1) := by decide +kernel
theorem dX4_without_32 : decode cX4_without 32 = .ok (.iload_n 2, 1) := by decide +kernel
theorem dX4_without_33 : decode cX4_without 33 = .ok (.iload_n 3, 1) := by decide +kernel
theorem dX4_without_34 : decode cX4_without 34 = .ok (.iconst (-1), 1) := by decide +kernel
theorem dX4_without_35 : decode cX4_without 35 = .ok (.invokevirtual 120, 3) := by decide +kernel
theorem dX4_without_38 : decode cX4_without 38 = .ok (.ireturn, 1) := by decide +kernel
theorem dX4_vital_0 : decode cX4_vital 0 = .ok (.aload_n 0, 1) := by decide +kernel
theorem dX4_vital_1 : decode cX4_vital 1 = .ok (.getfield 12, 3) := by decide +kernel
theorem dX4_vital_4 : decode cX4_vital 4 = .ok (.iload_n 1, 1) := by decide +kernel
theorem dX4_vital_5 : decode cX4_vital 5 = .ok (.iload_n 2, 1) := by decide +kernel
theorem dX4_vital_6 : decode cX4_vital 6 = .ok (.invokevirtual 47, 3) := by decide +kernel
theorem dX4_vital_9 : decode cX4_vital 9 = .ok (.ifCond .ne 7, 3) := by decide +kernel
theorem dX4_vital_12 : decode cX4_vital 12 = .ok (.sipush (-1001), 3) := by decide +kernel
theorem dX4_vital_15 : decode cX4_vital 15 = .ok (.ireturn, 1) := by decide +kernel
theorem dX4_vital_16 : decode cX4_vital 16 = .ok (.iconst 0, 1) := by decide +kernel
theorem dX4_vital_17 : decode cX4_vital 17 = .ok (.istore 4, 2) := by decide +kernel
theorem dX4_vital_19 : decode cX4_vital 19 = .ok (.iconst 0, 1) := by decide +kernel
theorem dX4_vital_20 : decode cX4_vital 20 = .ok (.istore 5, 2) := by decide +kernel
theorem dX4_vital_22 : decode cX4_vital 22 = .ok (.iload 5, 2) := by decide +kernel
theorem dX4_vital_24 : decode cX4_vital 24 = .ok (.aload_n 0, 1) := by decide +kernel
theorem dX4_vital_25 : decode cX4_vital 25 = .ok (.getfield 12, 3) := by decide +kernel
theorem dX4_vital_28 : decode cX4_vital 28 = .ok (.getfield 59, 3) := by decide +kernel
theorem dX4_vital_31 : decode cX4_vital 31 = .ok (.if_icmp .ge 35, 3) := by decide +kernel
theorem dX4_vital_34 : decode cX4_vital 34 = .ok (.aload_n 0, 1) := by decide +kernel
theorem dX4_vital_35 : decode cX4_vital 35 = .ok (.getfield 21, 3) := by decide +kernel
theorem dX4_vital_38 : decode cX4_vital 38 = .ok (.iload_n 1, 1) := by decide +kernel
theorem dX4_vital_39 : decode cX4_vital 39 = .ok (.iload_n 2, 1) := by decide +kernel
theorem dX4_vital_40 : decode cX4_vital 40 = .ok (.iload 5, 2) := by decide +kernel
theorem dX4_vital_42 : decode cX4_vital 42 = .ok (.invokevirtual 124, 3) := by decide +kernel
theorem dX4_vital_45 : decode cX4_vital 45 = .ok (.ifCond .eq 15, 3) := by decide +kernel
theorem dX4_vital_48 : decode cX4_vital 48 = .ok (.iload 4, 2) := by decide +kernel
theorem dX4_vital_50 : decode cX4_vital 50 = .ok (.iload_n 3, 1) := by decide +kernel
theorem dX4_vital_51 : decode cX4_vital 51 = .ok (.if_icmp .ne 6, 3) := by decide +kernel
theorem dX4_vital_54 : decode cX4_vital 54 = .ok (.iload 5, 2) := by decide +kernel
theorem dX4_vital_56 : decode cX4_vital 56 = .ok (.ireturn, 1) := by decide +kernel
theorem dX4_vital_57 : decode cX4_vital 57 = .ok (.iinc 4 1, 3) := by decide +kernel
theorem dX4_vital_60 : decode cX4_vital 60 = .ok (.iinc 5 1, 3) := by decide +kernel
theorem dX4_vital_63 : decode cX4_vital 63 = .ok (.goto (-41), 3) := by decide +kernel
theorem dX4_vital_66 : decode cX4_vital 66 = .ok (.sipush (-1000), 3) := by decide +kernel
theorem dX4_vital_69 : decode cX4_vital 69 = .ok (.ireturn, 1) := by decide +kernel
theorem dX4_about_0 : decode cX4_about 0 = .ok (.aload_n 0, 1) := by decide +kernel
theorem dX4_about_1 : decode cX4_about 1 = .ok (.getfield 12, 3) := by decide +kernel
theorem dX4_about_4 : decode cX4_about 4 = .ok (.iload_n 1, 1) := by decide +kernel
theorem dX4_about_5 : decode cX4_about 5 = .ok (.iload_n 2, 1) := by decide +kernel
theorem dX4_about_6 : decode cX4_about 6 = .ok (.invokevirtual 47, 3) := by decide +kernel
theorem dX4_about_9 : decode cX4_about 9 = .ok (.ifCond .eq 14, 3) := by decide +kernel
theorem dX4_about_12 : decode cX4_about 12 = .ok (.aload_n 0, 1) := by decide +kernel
theorem dX4_about_13 : decode cX4_about 13 = .ok (.getfield 12, 3) := by decide +kernel
theorem dX4_about_16 : decode cX4_about 16 = .ok (.iload_n 3, 1) := by decide +kernel
theorem dX4_about_17 : decode cX4_about 17 = .ok (.invokevirtual 128, 3) := by decide +kernel
theorem dX4_about_20 : decode cX4_about 20 = .ok (.ifCond .ne 7, 3) := by decide +kernel
theorem dX4_about_23 : decode cX4_about 23 = .ok (.sipush (-1001), 3) := by decide +kernel
theorem dX4_about_26 : decode cX4_about 26 = .ok (.ireturn, 1) := by decide +kernel
theorem dX4_about_27 : decode cX4_about 27 = .ok (.iload_n 3, 1) := by decide +kernel
theorem dX4_about_28 : decode cX4_about 28 = .ok (.iload_n 1, 1) := by decide +kernel
theorem dX4_about_29 : decode cX4_about 29 = .ok (.if_icmp .eq 8, 3) := by decide +kernel
theorem dX4_about_32 : decode cX4_about 32 = .ok (.iload_n 3, 1) := by decide +kernel
theorem dX4_about_33 : decode cX4_about 33 = .ok (.iload_n 2, 1) := by decide +kernel
theorem dX4_about_34 : decode cX4_about 34 = .ok (.if_icmp .ne 7, 3) := by decide +kernel
theorem dX4_about_37 : decode cX4_about 37 = .ok (.sipush (-1003), 3) := by decide +kernel
theorem dX4_about_40 : decode cX4_about 40 = .ok (.ireturn, 1) := by decide +kernel
theorem dX4_about_41 : decode cX4_about 41 = .ok (.aload_n 0, 1) := by decide +kernel
theorem dX4_about_42 : decode cX4_about 42 = .ok (.getfield 21, 3) := by decide +kernel
theorem dX4_about_45 : decode cX4_about 45 = .ok (.iload_n 1, 1) := by decide +kernel
theorem dX4_about_46 : decode cX4_about 46 = .ok (.iload_n 2, 1) := by decide +kernel
theorem dX4_about_47 : decode cX4_about 47 = .ok (.iconst (-1), 1) := by decide +kernel
theorem dX4_about_48 : decode cX4_about 48 = .ok (.iload_n 3, 1) := by decide +kernel
theorem dX4_about_49 : decode cX4_about 49 = .ok (.invokevirtual 120, 3) := by decide +kernel
theorem dX4_about_52 : decode cX4_about 52 = .ok (.ireturn, 1) := by decide +kernel
theorem dX4_ring_0 : decode cX4_ring 0 = .ok (.aload_n 0, 1) := by decide +kernel
theorem dX4_ring_1 : decode cX4_ring 1 = .ok (.getfield 21, 3) := by decide +kernel
theorem dX4_ring_4 : decode cX4_ring 4 = .ok (.invokevirtual 131, 3) := by decide +kernel
theorem dX4_ring_7 : decode cX4_ring 7 = .ok (.ireturn, 1) := by decide +kernel
theorem dX4_height_0 : decode cX4_height 0 = .ok (.aload_n 0, 1) := by decide +kernel
theorem dX4_height_1 : decode cX4_height 1 = .ok (.getfield 12, 3) := by decide +kernel
theorem dX4_height_4 : decode cX4_height 4 = .ok (.iload_n 1, 1) := by decide +kernel
theorem dX4_height_5 : decode cX4_height 5 = .ok (.invokevirtual 128, 3) := by decide +kernel
theorem dX4_height_8 : decode cX4_height 8 = .ok (.ifCond .eq 14, 3) := by decide +kernel
theorem dX4_height_11 : decode cX4_height 11 = .ok (.aload_n 0, 1) := by decide +kernel
theorem dX4_height_12 : decode cX4_height 12 = .ok (.getfield 21, 3) := by decide +kernel
theorem dX4_height_15 : decode cX4_height 15 = .ok (.iload_n 1, 1) := by decide +kernel
theorem dX4_height_16 : decode cX4_height 16 = .ok (.invokevirtual 134, 3) := by decide +kernel
theorem dX4_height_19 : decode cX4_height 19 = .ok (.goto 6, 3) := by decide +kernel
theorem dX4_height_22 : decode cX4_height 22 = .ok (.sipush (-1001), 3) := by decide +kernel
theorem dX4_height_25 : decode cX4_height 25 = .ok (.ireturn, 1) := by decide +kernel
theorem dX4_acts_0 : decode cX4_acts 0 = .ok (.aload_n 0, 1) := by decide +kernel
theorem dX4_acts_1 : decode cX4_acts 1 = .ok (.getfield 28, 3) := by decide +kernel
theorem dX4_acts_4 : decode cX4_acts 4 = .ok (.invokevirtual 137, 3) := by decide +kernel
theorem dX4_acts_7 : decode cX4_acts 7 = .ok (.ireturn, 1) := by decide +kernel
theorem dX4_moved_0 : decode cX4_moved 0 = .ok (.aload_n 0, 1) := by decide +kernel
theorem dX4_moved_1 : decode cX4_moved 1 = .ok (.getfield 28, 3) := by decide +kernel
theorem dX4_moved_4 : decode cX4_moved 4 = .ok (.iload_n 1, 1) := by decide +kernel
theorem dX4_moved_5 : decode cX4_moved 5 = .ok (.invokevirtual 140, 3) := by decide +kernel
theorem dX4_moved_8 : decode cX4_moved 8 = .ok (.ifCond .eq 14, 3) := by decide +kernel
theorem dX4_moved_11 : decode cX4_moved 11 = .ok (.aload_n 0, 1) := by decide +kernel
theorem dX4_moved_12 : decode cX4_moved 12 = .ok (.getfield 28, 3) := by decide +kernel
theorem dX4_moved_15 : decode cX4_moved 15 = .ok (.iload_n 1, 1) := by decide +kernel
theorem dX4_moved_16 : decode cX4_moved 16 = .ok (.invokevirtual 143, 3) := by decide +kernel
theorem dX4_moved_19 : decode cX4_moved 19 = .ok (.goto 6, 3) := by decide +kernel
theorem dX4_moved_22 : decode cX4_moved 22 = .ok (.sipush (-1001), 3) := by decide +kernel
theorem dX4_moved_25 : decode cX4_moved 25 = .ok (.ireturn, 1) := by decide +kernel
theorem dX4_pair_0 : decode cX4_pair 0 = .ok (.aload_n 0, 1) := by decide +kernel
theorem dX4_pair_1 : decode cX4_pair 1 = .ok (.getfield 28, 3) := by decide +kernel
theorem dX4_pair_4 : decode cX4_pair 4 = .ok (.iload_n 1, 1) := by decide +kernel
theorem dX4_pair_5 : decode cX4_pair 5 = .ok (.invokevirtual 140, 3) := by decide +kernel
theorem dX4_pair_8 : decode cX4_pair 8 = .ok (.ifCond .eq 15, 3) := by decide +kernel
theorem dX4_pair_11 : decode cX4_pair 11 = .ok (.aload_n 0, 1) := by decide +kernel
theorem dX4_pair_12 : decode cX4_pair 12 = .ok (.getfield 28, 3) := by decide +kernel
theorem dX4_pair_15 : decode cX4_pair 15 = .ok (.iload_n 1, 1) := by decide +kernel
theorem dX4_pair_16 : decode cX4_pair 16 = .ok (.iload_n 2, 1) := by decide +kernel
theorem dX4_pair_17 : decode cX4_pair 17 = .ok (.invokevirtual 146, 3) := by decide +kernel
theorem dX4_pair_20 : decode cX4_pair 20 = .ok (.goto 6, 3) := by decide +kernel
theorem dX4_pair_23 : decode cX4_pair 23 = .ok (.sipush (-1001), 3) := by decide +kernel
theorem dX4_pair_26 : decode cX4_pair 26 = .ok (.ireturn, 1) := by decide +kernel
theorem dX4_then_0 : decode cX4_then 0 = .ok (.aload_n 0, 1) := by decide +kernel
theorem dX4_then_1 : decode cX4_then 1 = .ok (.getfield 12, 3) := by decide +kernel
theorem dX4_then_4 : decode cX4_then 4 = .ok (.iload_n 2, 1) := by decide +kernel
theorem dX4_then_5 : decode cX4_then 5 = .ok (.iload_n 3, 1) := by decide +kernel
theorem dX4_then_6 : decode cX4_then 6 = .ok (.invokevirtual 47, 3) := by decide +kernel
theorem dX4_then_9 : decode cX4_then 9 = .ok (.ifCond .eq 18, 3) := by decide +kernel
theorem dX4_then_12 : decode cX4_then 12 = .ok (.iload_n 1, 1) := by decide +kernel
theorem dX4_then_13 : decode cX4_then 13 = .ok (.ifCond .eq 18, 3) := by decide +kernel
theorem dX4_then_16 : decode cX4_then 16 = .ok (.aload_n 0, 1) := by decide +kernel
theorem dX4_then_17 : decode cX4_then 17 = .ok (.getfield 28, 3) := by decide +kernel
theorem dX4_then_20 : decode cX4_then 20 = .ok (.iload_n 1, 1) := by decide +kernel
theorem dX4_then_21 : decode cX4_then 21 = .ok (.invokevirtual 140, 3) := by decide +kernel
theorem dX4_then_24 : decode cX4_then 24 = .ok (.ifCond .ne 7, 3) := by decide +kernel
theorem dX4_then_27 : decode cX4_then 27 = .ok (.sipush (-1001), 3) := by decide +kernel
theorem dX4_then_30 : decode cX4_then 30 = .ok (.ireturn, 1) := by decide +kernel
theorem dX4_then_31 : decode cX4_then 31 = .ok (.aload_n 0, 1) := by decide +kernel
theorem dX4_then_32 : decode cX4_then 32 = .ok (.getfield 28, 3) := by decide +kernel
theorem dX4_then_35 : decode cX4_then 35 = .ok (.iload_n 1, 1) := by decide +kernel
theorem dX4_then_36 : decode cX4_then 36 = .ok (.iload_n 2, 1) := by decide +kernel
theorem dX4_then_37 : decode cX4_then 37 = .ok (.iload_n 3, 1) := by decide +kernel
theorem dX4_then_38 : decode cX4_then 38 = .ok (.invokestatic 149, 3) := by decide +kernel
theorem dX4_then_41 : decode cX4_then 41 = .ok (.invokevirtual 152, 3) := by decide +kernel
theorem dX4_then_44 : decode cX4_then 44 = .ok (.ireturn, 1) := by decide +kernel
theorem dX4_since_0 : decode cX4_since 0 = .ok (.aload_n 0, 1) := by decide +kernel
theorem dX4_since_1 : decode cX4_since 1 = .ok (.getfield 12, 3) := by decide +kernel
theorem dX4_since_4 : decode cX4_since 4 = .ok (.iload_n 2, 1) := by decide +kernel
theorem dX4_since_5 : decode cX4_since 5 = .ok (.iload_n 3, 1) := by decide +kernel
theorem dX4_since_6 : decode cX4_since 6 = .ok (.invokevirtual 47, 3) := by decide +kernel
theorem dX4_since_9 : decode cX4_since 9 = .ok (.ifCond .eq 14, 3) := by decide +kernel
theorem dX4_since_12 : decode cX4_since 12 = .ok (.aload_n 0, 1) := by decide +kernel
theorem dX4_since_13 : decode cX4_since 13 = .ok (.getfield 28, 3) := by decide +kernel
theorem dX4_since_16 : decode cX4_since 16 = .ok (.iload_n 1, 1) := by decide +kernel
theorem dX4_since_17 : decode cX4_since 17 = .ok (.invokevirtual 140, 3) := by decide +kernel
theorem dX4_since_20 : decode cX4_since 20 = .ok (.ifCond .ne 7, 3) := by decide +kernel
theorem dX4_since_23 : decode cX4_since 23 = .ok (.sipush (-1001), 3) := by decide +kernel
theorem dX4_since_26 : decode cX4_since 26 = .ok (.ireturn, 1) := by decide +kernel
theorem dX4_since_27 : decode cX4_since 27 = .ok (.iload 4, 2) := by decide +kernel
theorem dX4_since_29 : decode cX4_since 29 = .ok (.sipush (-500), 3) := by decide +kernel
theorem dX4_since_32 : decode cX4_since 32 = .ok (.if_icmp .lt 11, 3) := by decide +kernel
theorem dX4_since_35 : decode cX4_since 35 = .ok (.iload 4, 2) := by decide +kernel
theorem dX4_since_37 : decode cX4_since 37 = .ok (.sipush 1000, 3) := by decide +kernel
theorem dX4_since_40 : decode cX4_since 40 = .ok (.if_icmp .le 7, 3) := by decide +kernel
theorem dX4_since_43 : decode cX4_since 43 = .ok (.sipush (-1002), 3) := by decide +kernel
theorem dX4_since_46 : decode cX4_since 46 = .ok (.ireturn, 1) := by decide +kernel
theorem dX4_since_47 : decode cX4_since 47 = .ok (.aload_n 0, 1) := by decide +kernel
theorem dX4_since_48 : decode cX4_since 48 = .ok (.getfield 28, 3) := by decide +kernel
theorem dX4_since_51 : decode cX4_since 51 = .ok (.iload_n 1, 1) := by decide +kernel
theorem dX4_since_52 : decode cX4_since 52 = .ok (.iload_n 2, 1) := by decide +kernel
theorem dX4_since_53 : decode cX4_since 53 = .ok (.iload_n 3, 1) := by decide +kernel
theorem dX4_since_54 : decode cX4_since 54 = .ok (.invokestatic 149, 3) := by decide +kernel
theorem dX4_since_57 : decode cX4_since 57 = .ok (.iload 4, 2) := by decide +kernel
theorem dX4_since_59 : decode cX4_since 59 = .ok (.invokevirtual 155, 3) := by decide +kernel
theorem dX4_since_62 : decode cX4_since 62 = .ok (.ireturn, 1) := by decide +kernel
theorem dX4_marks_0 : decode cX4_marks 0 = .ok (.iload_n 1, 1) := by decide +kernel
theorem dX4_marks_1 : decode cX4_marks 1 = .ok (.ifCond .lt 16, 3) := by decide +kernel
theorem dX4_marks_4 : decode cX4_marks 4 = .ok (.iload_n 1, 1) := by decide +kernel
theorem dX4_marks_5 : decode cX4_marks 5 = .ok (.iconst 1, 1) := by decide +kernel
theorem dX4_marks_6 : decode cX4_marks 6 = .ok (.aload_n 0, 1) := by decide +kernel
theorem dX4_marks_7 : decode cX4_marks 7 = .ok (.getfield 12, 3) := by decide +kernel
theorem dX4_marks_10 : decode cX4_marks 10 = .ok (.getfield 43, 3) := by decide +kernel
theorem dX4_marks_13 : decode cX4_marks 13 = .ok (.ishl, 1) := by decide +kernel
theorem dX4_marks_14 : decode cX4_marks 14 = .ok (.if_icmp .lt 7, 3) := by decide +kernel
theorem dX4_marks_17 : decode cX4_marks 17 = .ok (.sipush (-1002), 3) := by decide +kernel
theorem dX4_marks_20 : decode cX4_marks 20 = .ok (.ireturn, 1) := by decide +kernel
theorem dX4_marks_21 : decode cX4_marks 21 = .ok (.aload_n 0, 1) := by decide +kernel
theorem dX4_marks_22 : decode cX4_marks 22 = .ok (.getfield 158, 3) := by decide +kernel
theorem dX4_marks_25 : decode cX4_marks 25 = .ok (.istore_n 2, 1) := by decide +kernel
theorem dX4_marks_26 : decode cX4_marks 26 = .ok (.aload_n 0, 1) := by decide +kernel
theorem dX4_marks_27 : decode cX4_marks 27 = .ok (.iload_n 1, 1) := by decide +kernel
theorem dX4_marks_28 : decode cX4_marks 28 = .ok (.putfield 158, 3) := by decide +kernel
theorem dX4_marks_31 : decode cX4_marks 31 = .ok (.iload_n 2, 1) := by decide +kernel
theorem dX4_marks_32 : decode cX4_marks 32 = .ok (.ireturn, 1) := by decide +kernel
theorem dX4_near_0 : decode cX4_near 0 = .ok (.aload_n 0, 1) := by decide +kernel
theorem dX4_near_1 : decode cX4_near 1 = .ok (.getfield 12, 3) := by decide +kernel
theorem dX4_near_4 : decode cX4_near 4 = .ok (.iload_n 1, 1) := by decide +kernel
theorem dX4_near_5 : decode cX4_near 5 = .ok (.iload_n 2, 1) := by decide +kernel
theorem dX4_near_6 : decode cX4_near 6 = .ok (.invokevirtual 47, 3) := by decide +kernel
theorem dX4_near_9 : decode cX4_near 9 = .ok (.ifCond .eq 19, 3) := by decide +kernel
theorem dX4_near_12 : decode cX4_near 12 = .ok (.aload_n 0, 1) := by decide +kernel
theorem dX4_near_13 : decode cX4_near 13 = .ok (.getfield 21, 3) := by decide +kernel
theorem dX4_near_16 : decode cX4_near 16 = .ok (.iload_n 1, 1) := by decide +kernel
theorem dX4_near_17 : decode cX4_near 17 = .ok (.iload_n 2, 1) := by decide +kernel
theorem dX4_near_18 : decode cX4_near 18 = .ok (.aload_n 0, 1) := by decide +kernel
theorem dX4_near_19 : decode cX4_near 19 = .ok (.getfield 158, 3) := by decide +kernel
theorem dX4_near_22 : decode cX4_near 22 = .ok (.invokevirtual 161, 3) := by decide +kernel
theorem dX4_near_25 : decode cX4_near 25 = .ok (.goto 6, 3) := by decide +kernel
theorem dX4_near_28 : decode cX4_near 28 = .ok (.sipush (-1001), 3) := by decide +kernel
theorem dX4_near_31 : decode cX4_near 31 = .ok (.ireturn, 1) := by decide +kernel
theorem dX4_worst_0 : decode cX4_worst 0 = .ok (.iconst 0, 1) := by decide +kernel
theorem dX4_worst_1 : decode cX4_worst 1 = .ok (.istore_n 1, 1) := by decide +kernel
theorem dX4_worst_2 : decode cX4_worst 2 = .ok (.iconst 0, 1) := by decide +kernel
theorem dX4_worst_3 : decode cX4_worst 3 = .ok (.istore_n 2, 1) := by decide +kernel
theorem dX4_worst_4 : decode cX4_worst 4 = .ok (.iload_n 2, 1) := by decide +kernel
theorem dX4_worst_5 : decode cX4_worst 5 = .ok (.aload_n 0, 1) := by decide +kernel
theorem dX4_worst_6 : decode cX4_worst 6 = .ok (.getfield 12, 3) := by decide +kernel
theorem dX4_worst_9 : decode cX4_worst 9 = .ok (.getfield 43, 3) := by decide +kernel
theorem dX4_worst_12 : decode cX4_worst 12 = .ok (.if_icmp .ge 84, 3) := by decide +kernel
theorem dX4_worst_15 : decode cX4_worst 15 = .ok (.iconst 0, 1) := by decide +kernel
theorem dX4_worst_16 : decode cX4_worst 16 = .ok (.istore_n 3, 1) := by decide +kernel
theorem dX4_worst_17 : decode cX4_worst 17 = .ok (.iload_n 3, 1) := by decide +kernel
theorem dX4_worst_18 : decode cX4_worst 18 = .ok (.aload_n 0, 1) := by decide +kernel
theorem dX4_worst_19 : decode cX4_worst 19 = .ok (.getfield 12, 3) := by decide +kernel
theorem dX4_worst_22 : decode cX4_worst 22 = .ok (.getfield 43, 3) := by decide +kernel
theorem dX4_worst_25 : decode cX4_worst 25 = .ok (.if_icmp .ge 65, 3) := by decide +kernel
theorem dX4_worst_28 : decode cX4_worst 28 = .ok (.aload_n 0, 1) := by decide +kernel
theorem dX4_worst_29 : decode cX4_worst 29 = .ok (.getfield 21, 3) := by decide +kernel
theorem dX4_worst_32 : decode cX4_worst 32 = .ok (.iload_n 2, 1) := by decide +kernel
theorem dX4_worst_33 : decode cX4_worst 33 = .ok (.iload_n 3, 1) := by decide +kernel
theorem dX4_worst_34 : decode cX4_worst 34 = .ok (.invokevirtual 164, 3) := by decide +kernel
theorem dX4_worst_37 : decode cX4_worst 37 = .ok (.ifCond .eq 47, 3) := by decide +kernel
theorem dX4_worst_40 : decode cX4_worst 40 = .ok (.aload_n 0, 1) := by decide +kernel
theorem dX4_worst_41 : decode cX4_worst 41 = .ok (.getfield 21, 3) := by decide +kernel
theorem dX4_worst_44 : decode cX4_worst 44 = .ok (.iload_n 2, 1) := by decide +kernel
theorem dX4_worst_45 : decode cX4_worst 45 = .ok (.iload_n 3, 1) := by decide +kernel
theorem dX4_worst_46 : decode cX4_worst 46 = .ok (.aload_n 0, 1) := by decide +kernel
theorem dX4_worst_47 : decode cX4_worst 47 = .ok (.getfield 158, 3) := by decide +kernel
theorem dX4_worst_50 : decode cX4_worst 50 = .ok (.invokevirtual 161, 3) := by decide +kernel
theorem dX4_worst_53 : decode cX4_worst 53 = .ok (.istore 4, 2) := by decide +kernel
theorem dX4_worst_55 : decode cX4_worst 55 = .ok (.iload 4, 2) := by decide +kernel
theorem dX4_worst_57 : decode cX4_worst 57 = .ok (.sipush (-1000), 3) := by decide +kernel
theorem dX4_worst_60 : decode cX4_worst 60 = .ok (.if_icmp .ne 7, 3) := by decide +kernel
theorem dX4_worst_63 : decode cX4_worst 63 = .ok (.sipush (-1000), 3) := by decide +kernel
theorem dX4_worst_66 : decode cX4_worst 66 = .ok (.ireturn, 1) := by decide +kernel
theorem dX4_worst_67 : decode cX4_worst 67 = .ok (.iload_n 1, 1) := by decide +kernel
theorem dX4_worst_68 : decode cX4_worst 68 = .ok (.iload 4, 2) := by decide +kernel
theorem dX4_worst_70 : decode cX4_worst 70 = .ok (.aload_n 0, 1) := by decide +kernel
theorem dX4_worst_71 : decode cX4_worst 71 = .ok (.getfield 21, 3) := by decide +kernel
theorem dX4_worst_74 : decode cX4_worst 74 = .ok (.iload_n 2, 1) := by decide +kernel
theorem dX4_worst_75 : decode cX4_worst 75 = .ok (.iload_n 3, 1) := by decide +kernel
theorem dX4_worst_76 : decode cX4_worst 76 = .ok (.invokevirtual 109, 3) := by decide +kernel
theorem dX4_worst_79 : decode cX4_worst 79 = .ok (.isub, 1) := by decide +kernel
theorem dX4_worst_80 : decode cX4_worst 80 = .ok (.invokestatic 167, 3) := by decide +kernel
theorem dX4_worst_83 : decode cX4_worst 83 = .ok (.istore_n 1, 1) := by decide +kernel
theorem dX4_worst_84 : decode cX4_worst 84 = .ok (.iinc 3 1, 3) := by decide +kernel
theorem dX4_worst_87 : decode cX4_worst 87 = .ok (.goto (-70), 3) := by decide +kernel
theorem dX4_worst_90 : decode cX4_worst 90 = .ok (.iinc 2 1, 3) := by decide +kernel
theorem dX4_worst_93 : decode cX4_worst 93 = .ok (.goto (-89), 3) := by decide +kernel
theorem dX4_worst_96 : decode cX4_worst 96 = .ok (.iload_n 1, 1) := by decide +kernel
theorem dX4_worst_97 : decode cX4_worst 97 = .ok (.ireturn, 1) := by decide +kernel
theorem dX4_hits_0 : decode cX4_hits 0 = .ok (.iload_n 1, 1) := by decide +kernel
theorem dX4_hits_1 : decode cX4_hits 1 = .ok (.iconst 1, 1) := by decide +kernel
theorem dX4_hits_2 : decode cX4_hits 2 = .ok (.if_icmp .lt 9, 3) := by decide +kernel
theorem dX4_hits_5 : decode cX4_hits 5 = .ok (.iload_n 1, 1) := by decide +kernel
theorem dX4_hits_6 : decode cX4_hits 6 = .ok (.bipush 9, 2) := by decide +kernel
theorem dX4_hits_8 : decode cX4_hits 8 = .ok (.if_icmp .le 7, 3) := by decide +kernel
theorem dX4_hits_11 : decode cX4_hits 11 = .ok (.sipush (-1002), 3) := by decide +kernel
theorem dX4_hits_14 : decode cX4_hits 14 = .ok (.ireturn, 1) := by decide +kernel
theorem dX4_hits_15 : decode cX4_hits 15 = .ok (.aload_n 0, 1) := by decide +kernel
theorem dX4_hits_16 : decode cX4_hits 16 = .ok (.getfield 35, 3) := by decide +kernel
theorem dX4_hits_19 : decode cX4_hits 19 = .ok (.aload_n 0, 1) := by decide +kernel
theorem dX4_hits_20 : decode cX4_hits 20 = .ok (.getfield 21, 3) := by decide +kernel
theorem dX4_hits_23 : decode cX4_hits 23 = .ok (.aload_n 0, 1) := by decide +kernel
theorem dX4_hits_24 : decode cX4_hits 24 = .ok (.getfield 12, 3) := by decide +kernel
theorem dX4_hits_27 : decode cX4_hits 27 = .ok (.getfield 43, 3) := by decide +kernel
theorem dX4_hits_30 : decode cX4_hits 30 = .ok (.iload_n 1, 1) := by decide +kernel
theorem dX4_hits_31 : decode cX4_hits 31 = .ok (.invokevirtual 172, 3) := by decide +kernel
theorem dX4_hits_34 : decode cX4_hits 34 = .ok (.aload_n 0, 1) := by decide +kernel
theorem dX4_hits_35 : decode cX4_hits 35 = .ok (.getfield 35, 3) := by decide +kernel
theorem dX4_hits_38 : decode cX4_hits 38 = .ok (.aload_n 0, 1) := by decide +kernel
theorem dX4_hits_39 : decode cX4_hits 39 = .ok (.getfield 12, 3) := by decide +kernel
theorem dX4_hits_42 : decode cX4_hits 42 = .ok (.getfield 43, 3) := by decide +kernel
theorem dX4_hits_45 : decode cX4_hits 45 = .ok (.invokevirtual 176, 3) := by decide +kernel
theorem dX4_hits_48 : decode cX4_hits 48 = .ok (.ireturn, 1) := by decide +kernel
theorem dX4_count_0 : decode cX4_count 0 = .ok (.iload_n 1, 1) := by decide +kernel
theorem dX4_count_1 : decode cX4_count 1 = .ok (.tableswitch 75 0 4 #[35, 43, 51, 59, 67], 35) := by decide +kernel
theorem dX4_count_36 : decode cX4_count 36 = .ok (.aload_n 0, 1) := by decide +kernel
theorem dX4_count_37 : decode cX4_count 37 = .ok (.getfield 12, 3) := by decide +kernel
theorem dX4_count_40 : decode cX4_count 40 = .ok (.getfield 43, 3) := by decide +kernel
theorem dX4_count_43 : decode cX4_count 43 = .ok (.ireturn, 1) := by decide +kernel
theorem dX4_count_44 : decode cX4_count 44 = .ok (.aload_n 0, 1) := by decide +kernel
theorem dX4_count_45 : decode cX4_count 45 = .ok (.getfield 12, 3) := by decide +kernel
theorem dX4_count_48 : decode cX4_count 48 = .ok (.getfield 59, 3) := by decide +kernel
theorem dX4_count_51 : decode cX4_count 51 = .ok (.ireturn, 1) := by decide +kernel
theorem dX4_count_52 : decode cX4_count 52 = .ok (.aload_n 0, 1) := by decide +kernel
theorem dX4_count_53 : decode cX4_count 53 = .ok (.getfield 12, 3) := by decide +kernel
theorem dX4_count_56 : decode cX4_count 56 = .ok (.invokevirtual 91, 3) := by decide +kernel
theorem dX4_count_59 : decode cX4_count 59 = .ok (.ireturn, 1) := by decide +kernel
theorem dX4_count_60 : decode cX4_count 60 = .ok (.aload_n 0, 1) := by decide +kernel
theorem dX4_count_61 : decode cX4_count 61 = .ok (.getfield 21, 3) := by decide +kernel
theorem dX4_count_64 : decode cX4_count 64 = .ok (.invokevirtual 179, 3) := by decide +kernel
theorem dX4_count_67 : decode cX4_count 67 = .ok (.ireturn, 1) := by decide +kernel
theorem dX4_count_68 : decode cX4_count 68 = .ok (.aload_n 0, 1) := by decide +kernel
theorem dX4_count_69 : decode cX4_count 69 = .ok (.getfield 158, 3) := by decide +kernel
theorem dX4_count_72 : decode cX4_count 72 = .ok (.invokestatic 182, 3) := by decide +kernel
theorem dX4_count_75 : decode cX4_count 75 = .ok (.ireturn, 1) := by decide +kernel
theorem dX4_count_76 : decode cX4_count 76 = .ok (.sipush (-1002), 3) := by decide +kernel
theorem dX4_count_79 : decode cX4_count 79 = .ok (.ireturn, 1) := by decide +kernel
theorem dX4_restart_0 : decode cX4_restart 0 = .ok (.aload_n 0, 1) := by decide +kernel
theorem dX4_restart_1 : decode cX4_restart 1 = .ok (.getfield 12, 3) := by decide +kernel
theorem dX4_restart_4 : decode cX4_restart 4 = .ok (.iload_n 1, 1) := by decide +kernel
theorem dX4_restart_5 : decode cX4_restart 5 = .ok (.invokevirtual 187, 3) := by decide +kernel
theorem dX4_restart_8 : decode cX4_restart 8 = .ok (.aload_n 0, 1) := by decide +kernel
theorem dX4_restart_9 : decode cX4_restart 9 = .ok (.getfield 28, 3) := by decide +kernel
theorem dX4_restart_12 : decode cX4_restart 12 = .ok (.invokevirtual 190, 3) := by decide +kernel
theorem dX4_restart_15 : decode cX4_restart 15 = .ok (.aload_n 0, 1) := by decide +kernel
theorem dX4_restart_16 : decode cX4_restart 16 = .ok (.iconst 0, 1) := by decide +kernel
theorem dX4_restart_17 : decode cX4_restart 17 = .ok (.putfield 158, 3) := by decide +kernel
theorem dX4_restart_20 : decode cX4_restart 20 = .ok (.aload_n 0, 1) := by decide +kernel
theorem dX4_restart_21 : decode cX4_restart 21 = .ok (.invokevirtual 70, 3) := by decide +kernel
theorem dX4_restart_24 : decode cX4_restart 24 = .ok (.return_, 1) := by decide +kernel
theorem dX4_keepAct_0 : decode cX4_keepAct 0 = .ok (.aload_n 0, 1) := by decide +kernel
theorem dX4_keepAct_1 : decode cX4_keepAct 1 = .ok (.getfield 21, 3) := by decide +kernel
theorem dX4_keepAct_4 : decode cX4_keepAct 4 = .ok (.invokevirtual 192, 3) := by decide +kernel
theorem dX4_keepAct_7 : decode cX4_keepAct 7 = .ok (.aload_n 0, 1) := by decide +kernel
theorem dX4_keepAct_8 : decode cX4_keepAct 8 = .ok (.getfield 28, 3) := by decide +kernel
theorem dX4_keepAct_11 : decode cX4_keepAct 11 = .ok (.aload_n 0, 1) := by decide +kernel
theorem dX4_keepAct_12 : decode cX4_keepAct 12 = .ok (.getfield 21, 3) := by decide +kernel
theorem dX4_keepAct_15 : decode cX4_keepAct 15 = .ok (.invokevirtual 195, 3) := by decide +kernel
theorem dX4_keepAct_18 : decode cX4_keepAct 18 = .ok (.return_, 1) := by decide +kernel
theorem dX4_wouldSinkAt_0 : decode cX4_wouldSinkAt 0 = .ok (.aload_n 0, 1) := by decide +kernel
theorem dX4_wouldSinkAt_1 : decode cX4_wouldSinkAt 1 = .ok (.getfield 21, 3) := by decide +kernel
theorem dX4_wouldSinkAt_4 : decode cX4_wouldSinkAt 4 = .ok (.aload_n 0, 1) := by decide +kernel
theorem dX4_wouldSinkAt_5 : decode cX4_wouldSinkAt 5 = .ok (.getfield 12, 3) := by decide +kernel
theorem dX4_wouldSinkAt_8 : decode cX4_wouldSinkAt 8 = .ok (.getfield 95, 3) := by decide +kernel
theorem dX4_wouldSinkAt_11 : decode cX4_wouldSinkAt 11 = .ok (.iload_n 1, 1) := by decide +kernel
theorem dX4_wouldSinkAt_12 : decode cX4_wouldSinkAt 12 = .ok (.iaload, 1) := by decide +kernel
theorem dX4_wouldSinkAt_13 : decode cX4_wouldSinkAt 13 = .ok (.aload_n 0, 1) := by decide +kernel
theorem dX4_wouldSinkAt_14 : decode cX4_wouldSinkAt 14 = .ok (.getfield 12, 3) := by decide +kernel
theorem dX4_wouldSinkAt_17 : decode cX4_wouldSinkAt 17 = .ok (.getfield 98, 3) := by decide +kernel
theorem dX4_wouldSinkAt_20 : decode cX4_wouldSinkAt 20 = .ok (.iload_n 1, 1) := by decide +kernel
theorem dX4_wouldSinkAt_21 : decode cX4_wouldSinkAt 21 = .ok (.iaload, 1) := by decide +kernel
theorem dX4_wouldSinkAt_22 : decode cX4_wouldSinkAt 22 = .ok (.iload_n 2, 1) := by decide +kernel
theorem dX4_wouldSinkAt_23 : decode cX4_wouldSinkAt 23 = .ok (.aload_n 0, 1) := by decide +kernel
theorem dX4_wouldSinkAt_24 : decode cX4_wouldSinkAt 24 = .ok (.getfield 12, 3) := by decide +kernel
theorem dX4_wouldSinkAt_27 : decode cX4_wouldSinkAt 27 = .ok (.getfield 77, 3) := by decide +kernel
theorem dX4_wouldSinkAt_30 : decode cX4_wouldSinkAt 30 = .ok (.iload_n 1, 1) := by decide +kernel
theorem dX4_wouldSinkAt_31 : decode cX4_wouldSinkAt 31 = .ok (.baload, 1) := by decide +kernel
theorem dX4_wouldSinkAt_32 : decode cX4_wouldSinkAt 32 = .ok (.iload_n 1, 1) := by decide +kernel
theorem dX4_wouldSinkAt_33 : decode cX4_wouldSinkAt 33 = .ok (.invokevirtual 55, 3) := by decide +kernel
theorem dX4_wouldSinkAt_36 : decode cX4_wouldSinkAt 36 = .ok (.ireturn, 1) := by decide +kernel
theorem dX4_mayCost_0 : decode cX4_mayCost 0 = .ok (.iload_n 0, 1) := by decide +kernel
theorem dX4_mayCost_1 : decode cX4_mayCost 1 = .ok (.iload_n 1, 1) := by decide +kernel
theorem dX4_mayCost_2 : decode cX4_mayCost 2 = .ok (.ifCond .eq 7, 3) := by decide +kernel
theorem dX4_mayCost_5 : decode cX4_mayCost 5 = .ok (.iconst 0, 1) := by decide +kernel
theorem dX4_mayCost_6 : decode cX4_mayCost 6 = .ok (.goto 5, 3) := by decide +kernel
theorem dX4_mayCost_9 : decode cX4_mayCost 9 = .ok (.bipush (-50), 2) := by decide +kernel
theorem dX4_mayCost_11 : decode cX4_mayCost 11 = .ok (.if_icmp .lt 13, 3) := by decide +kernel
theorem dX4_mayCost_14 : decode cX4_mayCost 14 = .ok (.iload_n 0, 1) := by decide +kernel
theorem dX4_mayCost_15 : decode cX4_mayCost 15 = .ok (.bipush 99, 2) := by decide +kernel
theorem dX4_mayCost_17 : decode cX4_mayCost 17 = .ok (.if_icmp .gt 7, 3) := by decide +kernel
theorem dX4_mayCost_20 : decode cX4_mayCost 20 = .ok (.iconst 1, 1) := by decide +kernel
theorem dX4_mayCost_21 : decode cX4_mayCost 21 = .ok (.goto 4, 3) := by decide +kernel
theorem dX4_mayCost_24 : decode cX4_mayCost 24 = .ok (.iconst 0, 1) := by decide +kernel
theorem dX4_mayCost_25 : decode cX4_mayCost 25 = .ok (.ireturn, 1) := by decide +kernel
theorem dX4_asNumber_0 : decode cX4_asNumber 0 = .ok (.iload_n 0, 1) := by decide +kernel
theorem dX4_asNumber_1 : decode cX4_asNumber 1 = .ok (.ifCond .eq 7, 3) := by decide +kernel
theorem dX4_asNumber_4 : decode cX4_asNumber 4 = .ok (.iconst 1, 1) := by decide +kernel
theorem dX4_asNumber_5 : decode cX4_asNumber 5 = .ok (.goto 4, 3) := by decide +kernel
theorem dX4_asNumber_8 : decode cX4_asNumber 8 = .ok (.iconst 0, 1) := by decide +kernel
theorem dX4_asNumber_9 : decode cX4_asNumber 9 = .ok (.ireturn, 1) := by decide +kernel
theorem dX4_pairOf_0 : decode cX4_pairOf 0 = .ok (.iload_n 0, 1) := by decide +kernel
theorem dX4_pairOf_1 : decode cX4_pairOf 1 = .ok (.bipush 10, 2) := by decide +kernel
theorem dX4_pairOf_3 : decode cX4_pairOf 3 = .ok (.imul, 1) := by decide +kernel
theorem dX4_pairOf_4 : decode cX4_pairOf 4 = .ok (.iload_n 1, 1) := by decide +kernel
theorem dX4_pairOf_5 : decode cX4_pairOf 5 = .ok (.iadd, 1) := by decide +kernel
theorem dX4_pairOf_6 : decode cX4_pairOf 6 = .ok (.ireturn, 1) := by decide +kernel
theorem dJ6_bitCount_0f7a4_0 : decode cJ6_bitCount_0f7a4 0 = .ok (.iload_n 0, 1) := by decide +kernel
theorem dJ6_bitCount_0f7a4_1 : decode cJ6_bitCount_0f7a4 1 = .ok (.iload_n 0, 1) := by decide +kernel
theorem dJ6_bitCount_0f7a4_2 : decode cJ6_bitCount_0f7a4 2 = .ok (.iconst 1, 1) := by decide +kernel
theorem dJ6_bitCount_0f7a4_3 : decode cJ6_bitCount_0f7a4 3 = .ok (.iushr, 1) := by decide +kernel
theorem dJ6_bitCount_0f7a4_4 : decode cJ6_bitCount_0f7a4 4 = .ok (.ldc_w 265, 3) := by decide +kernel
theorem dJ6_bitCount_0f7a4_7 : decode cJ6_bitCount_0f7a4 7 = .ok (.iand, 1) := by decide +kernel
theorem dJ6_bitCount_0f7a4_8 : decode cJ6_bitCount_0f7a4 8 = .ok (.isub, 1) := by decide +kernel
theorem dJ6_bitCount_0f7a4_9 : decode cJ6_bitCount_0f7a4 9 = .ok (.istore_n 0, 1) := by decide +kernel
theorem dJ6_bitCount_0f7a4_10 : decode cJ6_bitCount_0f7a4 10 = .ok (.iload_n 0, 1) := by decide +kernel
theorem dJ6_bitCount_0f7a4_11 : decode cJ6_bitCount_0f7a4 11 = .ok (.ldc_w 266, 3) := by decide +kernel
theorem dJ6_bitCount_0f7a4_14 : decode cJ6_bitCount_0f7a4 14 = .ok (.iand, 1) := by decide +kernel
theorem dJ6_bitCount_0f7a4_15 : decode cJ6_bitCount_0f7a4 15 = .ok (.iload_n 0, 1) := by decide +kernel
theorem dJ6_bitCount_0f7a4_16 : decode cJ6_bitCount_0f7a4 16 = .ok (.iconst 2, 1) := by decide +kernel
theorem dJ6_bitCount_0f7a4_17 : decode cJ6_bitCount_0f7a4 17 = .ok (.iushr, 1) := by decide +kernel
theorem dJ6_bitCount_0f7a4_18 : decode cJ6_bitCount_0f7a4 18 = .ok (.ldc_w 266, 3) := by decide +kernel
theorem dJ6_bitCount_0f7a4_21 : decode cJ6_bitCount_0f7a4 21 = .ok (.iand, 1) := by decide +kernel
theorem dJ6_bitCount_0f7a4_22 : decode cJ6_bitCount_0f7a4 22 = .ok (.iadd, 1) := by decide +kernel
theorem dJ6_bitCount_0f7a4_23 : decode cJ6_bitCount_0f7a4 23 = .ok (.istore_n 0, 1) := by decide +kernel
theorem dJ6_bitCount_0f7a4_24 : decode cJ6_bitCount_0f7a4 24 = .ok (.iload_n 0, 1) := by decide +kernel
theorem dJ6_bitCount_0f7a4_25 : decode cJ6_bitCount_0f7a4 25 = .ok (.iload_n 0, 1) := by decide +kernel
theorem dJ6_bitCount_0f7a4_26 : decode cJ6_bitCount_0f7a4 26 = .ok (.iconst 4, 1) := by decide +kernel
theorem dJ6_bitCount_0f7a4_27 : decode cJ6_bitCount_0f7a4 27 = .ok (.iushr, 1) := by decide +kernel
theorem dJ6_bitCount_0f7a4_28 : decode cJ6_bitCount_0f7a4 28 = .ok (.iadd, 1) := by decide +kernel
theorem dJ6_bitCount_0f7a4_29 : decode cJ6_bitCount_0f7a4 29 = .ok (.ldc_w 267, 3) := by decide +kernel
theorem dJ6_bitCount_0f7a4_32 : decode cJ6_bitCount_0f7a4 32 = .ok (.iand, 1) := by decide +kernel
theorem dJ6_bitCount_0f7a4_33 : decode cJ6_bitCount_0f7a4 33 = .ok (.istore_n 0, 1) := by decide +kernel
theorem dJ6_bitCount_0f7a4_34 : decode cJ6_bitCount_0f7a4 34 = .ok (.iload_n 0, 1) := by decide +kernel
theorem dJ6_bitCount_0f7a4_35 : decode cJ6_bitCount_0f7a4 35 = .ok (.iload_n 0, 1) := by decide +kernel
theorem dJ6_bitCount_0f7a4_36 : decode cJ6_bitCount_0f7a4 36 = .ok (.bipush 8, 2) := by decide +kernel
theorem dJ6_bitCount_0f7a4_38 : decode cJ6_bitCount_0f7a4 38 = .ok (.iushr, 1) := by decide +kernel
theorem dJ6_bitCount_0f7a4_39 : decode cJ6_bitCount_0f7a4 39 = .ok (.iadd, 1) := by decide +kernel
theorem dJ6_bitCount_0f7a4_40 : decode cJ6_bitCount_0f7a4 40 = .ok (.istore_n 0, 1) := by decide +kernel
theorem dJ6_bitCount_0f7a4_41 : decode cJ6_bitCount_0f7a4 41 = .ok (.iload_n 0, 1) := by decide +kernel
theorem dJ6_bitCount_0f7a4_42 : decode cJ6_bitCount_0f7a4 42 = .ok (.iload_n 0, 1) := by decide +kernel
theorem dJ6_bitCount_0f7a4_43 : decode cJ6_bitCount_0f7a4 43 = .ok (.bipush 16, 2) := by decide +kernel
theorem dJ6_bitCount_0f7a4_45 : decode cJ6_bitCount_0f7a4 45 = .ok (.iushr, 1) := by decide +kernel
theorem dJ6_bitCount_0f7a4_46 : decode cJ6_bitCount_0f7a4 46 = .ok (.iadd, 1) := by decide +kernel
theorem dJ6_bitCount_0f7a4_47 : decode cJ6_bitCount_0f7a4 47 = .ok (.istore_n 0, 1) := by decide +kernel
theorem dJ6_bitCount_0f7a4_48 : decode cJ6_bitCount_0f7a4 48 = .ok (.iload_n 0, 1) := by decide +kernel
theorem dJ6_bitCount_0f7a4_49 : decode cJ6_bitCount_0f7a4 49 = .ok (.bipush 63, 2) := by decide +kernel
theorem dJ6_bitCount_0f7a4_51 : decode cJ6_bitCount_0f7a4 51 = .ok (.iand, 1) := by decide +kernel
theorem dJ6_bitCount_0f7a4_52 : decode cJ6_bitCount_0f7a4 52 = .ok (.ireturn, 1) := by decide +kernel
theorem dJ9_floorDiv_7cf53_0 : decode cJ9_floorDiv_7cf53 0 = .ok (.iload_n 0, 1) := by decide +kernel
theorem dJ9_floorDiv_7cf53_1 : decode cJ9_floorDiv_7cf53 1 = .ok (.iload_n 1, 1) := by decide +kernel
theorem dJ9_floorDiv_7cf53_2 : decode cJ9_floorDiv_7cf53 2 = .ok (.idiv, 1) := by decide +kernel
theorem dJ9_floorDiv_7cf53_3 : decode cJ9_floorDiv_7cf53 3 = .ok (.istore_n 2, 1) := by decide +kernel
theorem dJ9_floorDiv_7cf53_4 : decode cJ9_floorDiv_7cf53 4 = .ok (.iload_n 0, 1) := by decide +kernel
theorem dJ9_floorDiv_7cf53_5 : decode cJ9_floorDiv_7cf53 5 = .ok (.iload_n 1, 1) := by decide +kernel
theorem dJ9_floorDiv_7cf53_6 : decode cJ9_floorDiv_7cf53 6 = .ok (.ixor, 1) := by decide +kernel
theorem dJ9_floorDiv_7cf53_7 : decode cJ9_floorDiv_7cf53 7 = .ok (.ifCond .ge 14, 3) := by decide +kernel
theorem dJ9_floorDiv_7cf53_10 : decode cJ9_floorDiv_7cf53 10 = .ok (.iload_n 2, 1) := by decide +kernel
theorem dJ9_floorDiv_7cf53_11 : decode cJ9_floorDiv_7cf53 11 = .ok (.iload_n 1, 1) := by decide +kernel
theorem dJ9_floorDiv_7cf53_12 : decode cJ9_floorDiv_7cf53 12 = .ok (.imul, 1) := by decide +kernel
theorem dJ9_floorDiv_7cf53_13 : decode cJ9_floorDiv_7cf53 13 = .ok (.iload_n 0, 1) := by decide +kernel
theorem dJ9_floorDiv_7cf53_14 : decode cJ9_floorDiv_7cf53 14 = .ok (.if_icmp .eq 7, 3) := by decide +kernel
theorem dJ9_floorDiv_7cf53_17 : decode cJ9_floorDiv_7cf53 17 = .ok (.iload_n 2, 1) := by decide +kernel
theorem dJ9_floorDiv_7cf53_18 : decode cJ9_floorDiv_7cf53 18 = .ok (.iconst 1, 1) := by decide +kernel
theorem dJ9_floorDiv_7cf53_19 : decode cJ9_floorDiv_7cf53 19 = .ok (.isub, 1) := by decide +kernel
theorem dJ9_floorDiv_7cf53_20 : decode cJ9_floorDiv_7cf53 20 = .ok (.ireturn, 1) := by decide +kernel
theorem dJ9_floorDiv_7cf53_21 : decode cJ9_floorDiv_7cf53 21 = .ok (.iload_n 2, 1) := by decide +kernel
theorem dJ9_floorDiv_7cf53_22 : decode cJ9_floorDiv_7cf53 22 = .ok (.ireturn, 1) := by decide +kernel
theorem dJ9_floorMod_7cf53_0 : decode cJ9_floorMod_7cf53 0 = .ok (.iload_n 0, 1) := by decide +kernel
theorem dJ9_floorMod_7cf53_1 : decode cJ9_floorMod_7cf53 1 = .ok (.iload_n 1, 1) := by decide +kernel
theorem dJ9_floorMod_7cf53_2 : decode cJ9_floorMod_7cf53 2 = .ok (.irem, 1) := by decide +kernel
theorem dJ9_floorMod_7cf53_3 : decode cJ9_floorMod_7cf53 3 = .ok (.istore_n 2, 1) := by decide +kernel
theorem dJ9_floorMod_7cf53_4 : decode cJ9_floorMod_7cf53 4 = .ok (.iload_n 0, 1) := by decide +kernel
theorem dJ9_floorMod_7cf53_5 : decode cJ9_floorMod_7cf53 5 = .ok (.iload_n 1, 1) := by decide +kernel
theorem dJ9_floorMod_7cf53_6 : decode cJ9_floorMod_7cf53 6 = .ok (.ixor, 1) := by decide +kernel
theorem dJ9_floorMod_7cf53_7 : decode cJ9_floorMod_7cf53 7 = .ok (.ifCond .ge 11, 3) := by decide +kernel
theorem dJ9_floorMod_7cf53_10 : decode cJ9_floorMod_7cf53 10 = .ok (.iload_n 2, 1) := by decide +kernel
theorem dJ9_floorMod_7cf53_11 : decode cJ9_floorMod_7cf53 11 = .ok (.ifCond .eq 7, 3) := by decide +kernel
theorem dJ9_floorMod_7cf53_14 : decode cJ9_floorMod_7cf53 14 = .ok (.iload_n 2, 1) := by decide +kernel
theorem dJ9_floorMod_7cf53_15 : decode cJ9_floorMod_7cf53 15 = .ok (.iload_n 1, 1) := by decide +kernel
theorem dJ9_floorMod_7cf53_16 : decode cJ9_floorMod_7cf53 16 = .ok (.iadd, 1) := by decide +kernel
theorem dJ9_floorMod_7cf53_17 : decode cJ9_floorMod_7cf53 17 = .ok (.ireturn, 1) := by decide +kernel
theorem dJ9_floorMod_7cf53_18 : decode cJ9_floorMod_7cf53 18 = .ok (.iload_n 2, 1) := by decide +kernel
theorem dJ9_floorMod_7cf53_19 : decode cJ9_floorMod_7cf53 19 = .ok (.ireturn, 1) := by decide +kernel
theorem dJ9_max_7cf53_0 : decode cJ9_max_7cf53 0 = .ok (.iload_n 0, 1) := by decide +kernel
theorem dJ9_max_7cf53_1 : decode cJ9_max_7cf53 1 = .ok (.iload_n 1, 1) := by decide +kernel
theorem dJ9_max_7cf53_2 : decode cJ9_max_7cf53 2 = .ok (.if_icmp .lt 7, 3) := by decide +kernel
theorem dJ9_max_7cf53_5 : decode cJ9_max_7cf53 5 = .ok (.iload_n 0, 1) := by decide +kernel
theorem dJ9_max_7cf53_6 : decode cJ9_max_7cf53 6 = .ok (.goto 4, 3) := by decide +kernel
theorem dJ9_max_7cf53_9 : decode cJ9_max_7cf53 9 = .ok (.iload_n 1, 1) := by decide +kernel
theorem dJ9_max_7cf53_10 : decode cJ9_max_7cf53 10 = .ok (.ireturn, 1) := by decide +kernel
theorem dJ9_min_7cf53_0 : decode cJ9_min_7cf53 0 = .ok (.iload_n 0, 1) := by decide +kernel
theorem dJ9_min_7cf53_1 : decode cJ9_min_7cf53 1 = .ok (.iload_n 1, 1) := by decide +kernel
theorem dJ9_min_7cf53_2 : decode cJ9_min_7cf53 2 = .ok (.if_icmp .gt 7, 3) := by decide +kernel
theorem dJ9_min_7cf53_5 : decode cJ9_min_7cf53 5 = .ok (.iload_n 0, 1) := by decide +kernel
theorem dJ9_min_7cf53_6 : decode cJ9_min_7cf53 6 = .ok (.goto 4, 3) := by decide +kernel
theorem dJ9_min_7cf53_9 : decode cJ9_min_7cf53 9 = .ok (.iload_n 1, 1) := by decide +kernel
theorem dJ9_min_7cf53_10 : decode cJ9_min_7cf53 10 = .ok (.ireturn, 1) := by decide +kernel
theorem dJ7_fill_53178_0 : decode cJ7_fill_53178 0 = .ok (.iconst 0, 1) := by decide +kernel
theorem dJ7_fill_53178_1 : decode cJ7_fill_53178 1 = .ok (.istore_n 2, 1) := by decide +kernel
theorem dJ7_fill_53178_2 : decode cJ7_fill_53178 2 = .ok (.aload_n 0, 1) := by decide +kernel
theorem dJ7_fill_53178_3 : decode cJ7_fill_53178 3 = .ok (.arraylength, 1) := by decide +kernel
theorem dJ7_fill_53178_4 : decode cJ7_fill_53178 4 = .ok (.istore_n 3, 1) := by decide +kernel
theorem dJ7_fill_53178_5 : decode cJ7_fill_53178 5 = .ok (.iload_n 2, 1) := by decide +kernel
theorem dJ7_fill_53178_6 : decode cJ7_fill_53178 6 = .ok (.iload_n 3, 1) := by decide +kernel
theorem dJ7_fill_53178_7 : decode cJ7_fill_53178 7 = .ok (.if_icmp .ge 13, 3) := by decide +kernel
theorem dJ7_fill_53178_10 : decode cJ7_fill_53178 10 = .ok (.aload_n 0, 1) := by decide +kernel
theorem dJ7_fill_53178_11 : decode cJ7_fill_53178 11 = .ok (.iload_n 2, 1) := by decide +kernel
theorem dJ7_fill_53178_12 : decode cJ7_fill_53178 12 = .ok (.iload_n 1, 1) := by decide +kernel
theorem dJ7_fill_53178_13 : decode cJ7_fill_53178 13 = .ok (.iastore, 1) := by decide +kernel
theorem dJ7_fill_53178_14 : decode cJ7_fill_53178 14 = .ok (.iinc 2 1, 3) := by decide +kernel
theorem dJ7_fill_53178_17 : decode cJ7_fill_53178 17 = .ok (.goto (-12), 3) := by decide +kernel
theorem dJ7_fill_53178_20 : decode cJ7_fill_53178 20 = .ok (.return_, 1) := by decide +kernel
theorem dJ7_copyOf_59c91_0 : decode cJ7_copyOf_59c91 0 = .ok (.iload_n 1, 1) := by decide +kernel
theorem dJ7_copyOf_59c91_1 : decode cJ7_copyOf_59c91 1 = .ok (.aload_n 0, 1) := by decide +kernel
theorem dJ7_copyOf_59c91_2 : decode cJ7_copyOf_59c91 2 = .ok (.arraylength, 1) := by decide +kernel
theorem dJ7_copyOf_59c91_3 : decode cJ7_copyOf_59c91 3 = .ok (.if_icmp .ne 11, 3) := by decide +kernel
theorem dJ7_copyOf_59c91_6 : decode cJ7_copyOf_59c91 6 = .ok (.aload_n 0, 1) := by decide +kernel
theorem dJ7_copyOf_59c91_7 : decode cJ7_copyOf_59c91 7 = .ok (.invokevirtual 316, 3) := by decide +kernel
theorem dJ7_copyOf_59c91_10 : decode cJ7_copyOf_59c91 10 = .ok (.checkcast 317, 3) := by decide +kernel
theorem dJ7_copyOf_59c91_13 : decode cJ7_copyOf_59c91 13 = .ok (.areturn, 1) := by decide +kernel
theorem dJ7_copyOf_59c91_14 : decode cJ7_copyOf_59c91 14 = .ok (.iload_n 1, 1) := by decide +kernel
theorem dJ7_copyOf_59c91_15 : decode cJ7_copyOf_59c91 15 = .ok (.newarray .int, 2) := by decide +kernel
theorem dJ7_copyOf_59c91_17 : decode cJ7_copyOf_59c91 17 = .ok (.astore_n 2, 1) := by decide +kernel
theorem dJ7_copyOf_59c91_18 : decode cJ7_copyOf_59c91 18 = .ok (.aload_n 0, 1) := by decide +kernel
theorem dJ7_copyOf_59c91_19 : decode cJ7_copyOf_59c91 19 = .ok (.iconst 0, 1) := by decide +kernel
theorem dJ7_copyOf_59c91_20 : decode cJ7_copyOf_59c91 20 = .ok (.aload_n 2, 1) := by decide +kernel
theorem dJ7_copyOf_59c91_21 : decode cJ7_copyOf_59c91 21 = .ok (.iconst 0, 1) := by decide +kernel
theorem dJ7_copyOf_59c91_22 : decode cJ7_copyOf_59c91 22 = .ok (.aload_n 0, 1) := by decide +kernel
theorem dJ7_copyOf_59c91_23 : decode cJ7_copyOf_59c91 23 = .ok (.arraylength, 1) := by decide +kernel
theorem dJ7_copyOf_59c91_24 : decode cJ7_copyOf_59c91 24 = .ok (.iload_n 1, 1) := by decide +kernel
theorem dJ7_copyOf_59c91_25 : decode cJ7_copyOf_59c91 25 = .ok (.invokestatic 304, 3) := by decide +kernel
theorem dJ7_copyOf_59c91_28 : decode cJ7_copyOf_59c91 28 = .ok (.invokestatic 150, 3) := by decide +kernel
theorem dJ7_copyOf_59c91_31 : decode cJ7_copyOf_59c91 31 = .ok (.aload_n 2, 1) := by decide +kernel
theorem dJ7_copyOf_59c91_32 : decode cJ7_copyOf_59c91 32 = .ok (.areturn, 1) := by decide +kernel
theorem dX5_init_0 : decode cX5_init 0 = .ok (.aload_n 0, 1) := by decide +kernel
theorem dX5_init_1 : decode cX5_init 1 = .ok (.invokespecial 1, 3) := by decide +kernel
theorem dX5_init_4 : decode cX5_init 4 = .ok (.aload_n 0, 1) := by decide +kernel
theorem dX5_init_5 : decode cX5_init 5 = .ok (.iconst 2, 1) := by decide +kernel
theorem dX5_init_6 : decode cX5_init 6 = .ok (.putfield 7, 3) := by decide +kernel
theorem dX5_init_9 : decode cX5_init 9 = .ok (.aload_n 0, 1) := by decide +kernel
theorem dX5_init_10 : decode cX5_init 10 = .ok (.bipush 40, 2) := by decide +kernel
theorem dX5_init_12 : decode cX5_init 12 = .ok (.newarray .int, 2) := by decide +kernel
theorem dX5_init_14 : decode cX5_init 14 = .ok (.putfield 13, 3) := by decide +kernel
theorem dX5_init_17 : decode cX5_init 17 = .ok (.aload_n 0, 1) := by decide +kernel
theorem dX5_init_18 : decode cX5_init 18 = .ok (.bipush 40, 2) := by decide +kernel
theorem dX5_init_20 : decode cX5_init 20 = .ok (.newarray .int, 2) := by decide +kernel
theorem dX5_init_22 : decode cX5_init 22 = .ok (.putfield 17, 3) := by decide +kernel
theorem dX5_init_25 : decode cX5_init 25 = .ok (.aload_n 0, 1) := by decide +kernel
theorem dX5_init_26 : decode cX5_init 26 = .ok (.bipush 40, 2) := by decide +kernel
theorem dX5_init_28 : decode cX5_init 28 = .ok (.newarray .int, 2) := by decide +kernel
theorem dX5_init_30 : decode cX5_init 30 = .ok (.putfield 20, 3) := by decide +kernel
theorem dX5_init_33 : decode cX5_init 33 = .ok (.aload_n 0, 1) := by decide +kernel
theorem dX5_init_34 : decode cX5_init 34 = .ok (.bipush 40, 2) := by decide +kernel
theorem dX5_init_36 : decode cX5_init 36 = .ok (.newarray .boolean, 2) := by decide +kernel
theorem dX5_init_38 : decode cX5_init 38 = .ok (.putfield 23, 3) := by decide +kernel
theorem dX5_init_41 : decode cX5_init 41 = .ok (.aload_n 0, 1) := by decide +kernel
theorem dX5_init_42 : decode cX5_init 42 = .ok (.bipush 40, 2) := by decide +kernel
theorem dX5_init_44 : decode cX5_init 44 = .ok (.newarray .boolean, 2) := by decide +kernel
theorem dX5_init_46 : decode cX5_init 46 = .ok (.putfield 27, 3) := by decide +kernel
theorem dX5_init_49 : decode cX5_init 49 = .ok (.aload_n 0, 1) := by decide +kernel
theorem dX5_init_50 : decode cX5_init 50 = .ok (.bipush 100, 2) := by decide +kernel
theorem dX5_init_52 : decode cX5_init 52 = .ok (.newarray .int, 2) := by decide +kernel
theorem dX5_init_54 : decode cX5_init 54 = .ok (.putfield 30, 3) := by decide +kernel
theorem dX5_init_57 : decode cX5_init 57 = .ok (.aload_n 0, 1) := by decide +kernel
theorem dX5_init_58 : decode cX5_init 58 = .ok (.ldc 33, 2) := by decide +kernel
theorem dX5_init_60 : decode cX5_init 60 = .ok (.newarray .int, 2) := by decide +kernel
theorem dX5_init_62 : decode cX5_init 62 = .ok (.putfield 34, 3) := by decide +kernel
theorem dX5_init_65 : decode cX5_init 65 = .ok (.aload_n 0, 1) := by decide +kernel
theorem dX5_init_66 : decode cX5_init 66 = .ok (.bipush 100, 2) := by decide +kernel
theorem dX5_init_68 : decode cX5_init 68 = .ok (.newarray .int, 2) := by decide +kernel
theorem dX5_init_70 : decode cX5_init 70 = .ok (.putfield 37, 3) := by decide +kernel
theorem dX5_init_73 : decode cX5_init 73 = .ok (.aload_n 0, 1) := by decide +kernel
theorem dX5_init_74 : decode cX5_init 74 = .ok (.sipush (-1000), 3) := by decide +kernel
theorem dX5_init_77 : decode cX5_init 77 = .ok (.sipush (-1000), 3) := by decide +kernel
theorem dX5_init_80 : decode cX5_init 80 = .ok (.invokevirtual 40, 3) := by decide +kernel
theorem dX5_init_83 : decode cX5_init 83 = .ok (.pop, 1) := by decide +kernel
theorem dX5_init_84 : decode cX5_init 84 = .ok (.aload_n 0, 1) := by decide +kernel
theorem dX5_init_85 : decode cX5_init 85 = .ok (.invokevirtual 44, 3) := by decide +kernel
theorem dX5_init_88 : decode cX5_init 88 = .ok (.return_, 1) := by decide +kernel
theorem dX5_in_0 : decode cX5_in 0 = .ok (.lload_n 0, 1) := by decide +kernel
theorem dX5_in_1 : decode cX5_in 1 = .ok (.lload_n 2, 1) := by decide +kernel
theorem dX5_in_2 : decode cX5_in 2 = .ok (.lcmp, 1) := by decide +kernel
theorem dX5_in_3 : decode cX5_in 3 = .ok (.ifCond .lt 14, 3) := by decide +kernel
theorem dX5_in_6 : decode cX5_in 6 = .ok (.lload_n 0, 1) := by decide +kernel
theorem dX5_in_7 : decode cX5_in 7 = .ok (.lload 4, 2) := by decide +kernel
theorem dX5_in_9 : decode cX5_in 9 = .ok (.lcmp, 1) := by decide +kernel
theorem dX5_in_10 : decode cX5_in 10 = .ok (.ifCond .gt 7, 3) := by decide +kernel
theorem dX5_in_13 : decode cX5_in 13 = .ok (.iconst 1, 1) := by decide +kernel
theorem dX5_in_14 : decode cX5_in 14 = .ok (.goto 4, 3) := by decide +kernel
theorem dX5_in_17 : decode cX5_in 17 = .ok (.iconst 0, 1) := by decide +kernel
theorem dX5_in_18 : decode cX5_in 18 = .ok (.ireturn, 1) := by decide +kernel
theorem dX5_noPost_0 : decode cX5_noPost 0 = .ok (.iload_n 1, 1) := by decide +kernel
theorem dX5_noPost_1 : decode cX5_noPost 1 = .ok (.i2l, 1) := by decide +kernel
theorem dX5_noPost_2 : decode cX5_noPost 2 = .ok (.lconst 0, 1) := by decide +kernel
theorem dX5_noPost_3 : decode cX5_noPost 3 = .ok (.aload_n 0, 1) := by decide +kernel
theorem dX5_noPost_4 : decode cX5_noPost 4 = .ok (.getfield 7, 3) := by decide +kernel
theorem dX5_noPost_7 : decode cX5_noPost 7 = .ok (.iconst 1, 1) := by decide +kernel
theorem dX5_noPost_8 : decode cX5_noPost 8 = .ok (.isub, 1) := by decide +kernel
theorem dX5_noPost_9 : decode cX5_noPost 9 = .ok (.i2l, 1) := by decide +kernel
theorem dX5_noPost_10 : decode cX5_noPost 10 = .ok (.invokestatic 50, 3) := by decide +kernel
theorem dX5_noPost_13 : decode cX5_noPost 13 = .ok (.ifCond .ne 7, 3) := by decide +kernel
theorem dX5_noPost_16 : decode cX5_noPost 16 = .ok (.iconst 1, 1) := by decide +kernel
theorem dX5_noPost_17 : decode cX5_noPost 17 = .ok (.goto 4, 3) := by decide +kernel
theorem dX5_noPost_20 : decode cX5_noPost 20 = .ok (.iconst 0, 1) := by decide +kernel
theorem dX5_noPost_21 : decode cX5_noPost 21 = .ok (.ireturn, 1) := by decide +kernel
theorem dX5_noLine_0 : decode cX5_noLine 0 = .ok (.iload_n 1, 1) := by decide +kernel
theorem dX5_noLine_1 : decode cX5_noLine 1 = .ok (.i2l, 1) := by decide +kernel
theorem dX5_noLine_2 : decode cX5_noLine 2 = .ok (.lconst 0, 1) := by decide +kernel
theorem dX5_noLine_3 : decode cX5_noLine 3 = .ok (.aload_n 0, 1) := by decide +kernel
theorem dX5_noLine_4 : decode cX5_noLine 4 = .ok (.getfield 54, 3) := by decide +kernel
theorem dX5_noLine_7 : decode cX5_noLine 7 = .ok (.iconst 1, 1) := by decide +kernel
theorem dX5_noLine_8 : decode cX5_noLine 8 = .ok (.isub, 1) := by decide +kernel
theorem dX5_noLine_9 : decode cX5_noLine 9 = .ok (.i2l, 1) := by decide +kernel
theorem dX5_noLine_10 : decode cX5_noLine 10 = .ok (.invokestatic 50, 3) := by decide +kernel
theorem dX5_noLine_13 : decode cX5_noLine 13 = .ok (.ifCond .ne 7, 3) := by decide +kernel
theorem dX5_noLine_16 : decode cX5_noLine 16 = .ok (.iconst 1, 1) := by decide +kernel
theorem dX5_noLine_17 : decode cX5_noLine 17 = .ok (.goto 4, 3) := by decide +kernel
theorem dX5_noLine_20 : decode cX5_noLine 20 = .ok (.iconst 0, 1) := by decide +kernel
theorem dX5_noLine_21 : decode cX5_noLine 21 = .ok (.ireturn, 1) := by decide +kernel
theorem dX5_learn_0 : decode cX5_learn 0 = .ok (.iconst 0, 1) := by decide +kernel
theorem dX5_learn_1 : decode cX5_learn 1 = .ok (.istore_n 3, 1) := by decide +kernel
theorem dX5_learn_2 : decode cX5_learn 2 = .ok (.iload_n 3, 1) := by decide +kernel
theorem dX5_learn_3 : decode cX5_learn 3 = .ok (.bipush 100, 2) := by decide +kernel
theorem dX5_learn_5 : decode cX5_learn 5 = .ok (.if_icmp .ge 32, 3) := by decide +kernel
theorem dX5_learn_8 : decode cX5_learn 8 = .ok (.aload_n 0, 1) := by decide +kernel
theorem dX5_learn_9 : decode cX5_learn 9 = .ok (.getfield 30, 3) := by decide +kernel
theorem dX5_learn_12 : decode cX5_learn 12 = .ok (.iload_n 3, 1) := by decide +kernel
theorem dX5_learn_13 : decode cX5_learn 13 = .ok (.iload_n 3, 1) := by decide +kernel
theorem dX5_learn_14 : decode cX5_learn 14 = .ok (.bipush 10, 2) := by decide +kernel
theorem dX5_learn_16 : decode cX5_learn 16 = .ok (.idiv, 1) := by decide +kernel
theorem dX5_learn_17 : decode cX5_learn 17 = .ok (.iload_n 3, 1) := by decide +kernel
theorem dX5_learn_18 : decode cX5_learn 18 = .ok (.bipush 10, 2) := by decide +kernel
theorem dX5_learn_20 : decode cX5_learn 20 = .ok (.irem, 1) := by decide +kernel
theorem dX5_learn_21 : decode cX5_learn 21 = .ok (.if_icmp .ne 7, 3) := by decide +kernel
theorem dX5_learn_24 : decode cX5_learn 24 = .ok (.iconst 0, 1) := by decide +kernel
theorem dX5_learn_25 : decode cX5_learn 25 = .ok (.goto 5, 3) := by decide +kernel
theorem dX5_learn_28 : decode cX5_learn 28 = .ok (.ldc 57, 2) := by decide +kernel
theorem dX5_learn_30 : decode cX5_learn 30 = .ok (.iastore, 1) := by decide +kernel
theorem dX5_learn_31 : decode cX5_learn 31 = .ok (.iinc 3 1, 3) := by decide +kernel
theorem dX5_learn_34 : decode cX5_learn 34 = .ok (.goto (-32), 3) := by decide +kernel
theorem dX5_learn_37 : decode cX5_learn 37 = .ok (.iconst 0, 1) := by decide +kernel
theorem dX5_learn_38 : decode cX5_learn 38 = .ok (.istore_n 3, 1) := by decide +kernel
theorem dX5_learn_39 : decode cX5_learn 39 = .ok (.iload_n 3, 1) := by decide +kernel
theorem dX5_learn_40 : decode cX5_learn 40 = .ok (.aload_n 0, 1) := by decide +kernel
theorem dX5_learn_41 : decode cX5_learn 41 = .ok (.getfield 54, 3) := by decide +kernel
theorem dX5_learn_44 : decode cX5_learn 44 = .ok (.if_icmp .ge 163, 3) := by decide +kernel
theorem dX5_learn_47 : decode cX5_learn 47 = .ok (.aload_n 0, 1) := by decide +kernel
theorem dX5_learn_48 : decode cX5_learn 48 = .ok (.getfield 27, 3) := by decide +kernel
theorem dX5_learn_51 : decode cX5_learn 51 = .ok (.iload_n 3, 1) := by decide +kernel
theorem dX5_learn_52 : decode cX5_learn 52 = .ok (.baload, 1) := by decide +kernel
theorem dX5_learn_53 : decode cX5_learn 53 = .ok (.ifCond .eq 148, 3) := by decide +kernel
theorem dX5_learn_56 : decode cX5_learn 56 = .ok (.iload_n 3, 1) := by decide +kernel
theorem dX5_learn_57 : decode cX5_learn 57 = .ok (.iload_n 1, 1) := by decide +kernel
theorem dX5_learn_58 : decode cX5_learn 58 = .ok (.if_icmp .eq 143, 3) := by decide +kernel
theorem dX5_learn_61 : decode cX5_learn 61 = .ok (.aload_n 0, 1) := by decide +kernel
theorem dX5_learn_62 : decode cX5_learn 62 = .ok (.getfield 13, 3) := by decide +kernel
theorem dX5_learn_65 : decode cX5_learn 65 = .ok (.iload_n 3, 1) := by decide +kernel
theorem dX5_learn_66 : decode cX5_learn 66 = .ok (.iaload, 1) := by decide +kernel
