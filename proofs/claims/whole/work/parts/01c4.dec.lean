theorem dX6_told_179 : decode cX6_told 179 = .ok (.iload_n 3, 1) := by decide +kernel
theorem dX6_told_180 : decode cX6_told 180 = .ok (.iadd, 1) := by decide +kernel
theorem dX6_told_181 : decode cX6_told 181 = .ok (.ireturn, 1) := by decide +kernel
theorem dX6_told_182 : decode cX6_told 182 = .ok (.sipush (-1002), 3) := by decide +kernel
theorem dX6_told_185 : decode cX6_told 185 = .ok (.ireturn, 1) := by decide +kernel
theorem dX6_far_0 : decode cX6_far 0 = .ok (.aload_n 0, 1) := by decide +kernel
theorem dX6_far_1 : decode cX6_far 1 = .ok (.iconst 0, 1) := by decide +kernel
theorem dX6_far_2 : decode cX6_far 2 = .ok (.putfield 47, 3) := by decide +kernel
theorem dX6_far_5 : decode cX6_far 5 = .ok (.aload_n 0, 1) := by decide +kernel
theorem dX6_far_6 : decode cX6_far 6 = .ok (.iload_n 1, 1) := by decide +kernel
theorem dX6_far_7 : decode cX6_far 7 = .ok (.invokevirtual 72, 3) := by decide +kernel
theorem dX6_far_10 : decode cX6_far 10 = .ok (.ifCond .ne 11, 3) := by decide +kernel
theorem dX6_far_13 : decode cX6_far 13 = .ok (.aload_n 0, 1) := by decide +kernel
theorem dX6_far_14 : decode cX6_far 14 = .ok (.iload_n 2, 1) := by decide +kernel
theorem dX6_far_15 : decode cX6_far 15 = .ok (.invokevirtual 72, 3) := by decide +kernel
theorem dX6_far_18 : decode cX6_far 18 = .ok (.ifCond .eq 7, 3) := by decide +kernel
theorem dX6_far_21 : decode cX6_far 21 = .ok (.sipush (-1001), 3) := by decide +kernel
theorem dX6_far_24 : decode cX6_far 24 = .ok (.ireturn, 1) := by decide +kernel
theorem dX6_far_25 : decode cX6_far 25 = .ok (.aload_n 0, 1) := by decide +kernel
theorem dX6_far_26 : decode cX6_far 26 = .ok (.sipush (-1000), 3) := by decide +kernel
theorem dX6_far_29 : decode cX6_far 29 = .ok (.sipush (-1000), 3) := by decide +kernel
theorem dX6_far_32 : decode cX6_far 32 = .ok (.invokevirtual 40, 3) := by decide +kernel
theorem dX6_far_35 : decode cX6_far 35 = .ok (.pop, 1) := by decide +kernel
theorem dX6_far_36 : decode cX6_far 36 = .ok (.aload_n 0, 1) := by decide +kernel
theorem dX6_far_37 : decode cX6_far 37 = .ok (.iload_n 1, 1) := by decide +kernel
theorem dX6_far_38 : decode cX6_far 38 = .ok (.iload_n 2, 1) := by decide +kernel
theorem dX6_far_39 : decode cX6_far 39 = .ok (.invokevirtual 80, 3) := by decide +kernel
theorem dX6_far_42 : decode cX6_far 42 = .ok (.ireturn, 1) := by decide +kernel
theorem dX6_steps_0 : decode cX6_steps 0 = .ok (.aload_n 0, 1) := by decide +kernel
theorem dX6_steps_1 : decode cX6_steps 1 = .ok (.iconst 0, 1) := by decide +kernel
theorem dX6_steps_2 : decode cX6_steps 2 = .ok (.putfield 47, 3) := by decide +kernel
theorem dX6_steps_5 : decode cX6_steps 5 = .ok (.aload_n 0, 1) := by decide +kernel
theorem dX6_steps_6 : decode cX6_steps 6 = .ok (.iload_n 1, 1) := by decide +kernel
theorem dX6_steps_7 : decode cX6_steps 7 = .ok (.invokevirtual 72, 3) := by decide +kernel
theorem dX6_steps_10 : decode cX6_steps 10 = .ok (.ifCond .ne 11, 3) := by decide +kernel
theorem dX6_steps_13 : decode cX6_steps 13 = .ok (.aload_n 0, 1) := by decide +kernel
theorem dX6_steps_14 : decode cX6_steps 14 = .ok (.iload_n 2, 1) := by decide +kernel
theorem dX6_steps_15 : decode cX6_steps 15 = .ok (.invokevirtual 72, 3) := by decide +kernel
theorem dX6_steps_18 : decode cX6_steps 18 = .ok (.ifCond .eq 7, 3) := by decide +kernel
theorem dX6_steps_21 : decode cX6_steps 21 = .ok (.sipush (-1001), 3) := by decide +kernel
theorem dX6_steps_24 : decode cX6_steps 24 = .ok (.ireturn, 1) := by decide +kernel
theorem dX6_steps_25 : decode cX6_steps 25 = .ok (.aload_n 0, 1) := by decide +kernel
theorem dX6_steps_26 : decode cX6_steps 26 = .ok (.sipush (-1000), 3) := by decide +kernel
theorem dX6_steps_29 : decode cX6_steps 29 = .ok (.sipush (-1000), 3) := by decide +kernel
theorem dX6_steps_32 : decode cX6_steps 32 = .ok (.invokevirtual 40, 3) := by decide +kernel
theorem dX6_steps_35 : decode cX6_steps 35 = .ok (.pop, 1) := by decide +kernel
theorem dX6_steps_36 : decode cX6_steps 36 = .ok (.aload_n 0, 1) := by decide +kernel
theorem dX6_steps_37 : decode cX6_steps 37 = .ok (.getfield 30, 3) := by decide +kernel
theorem dX6_steps_40 : decode cX6_steps 40 = .ok (.bipush 10, 2) := by decide +kernel
theorem dX6_steps_42 : decode cX6_steps 42 = .ok (.iload_n 1, 1) := by decide +kernel
theorem dX6_steps_43 : decode cX6_steps 43 = .ok (.imul, 1) := by decide +kernel
theorem dX6_steps_44 : decode cX6_steps 44 = .ok (.iload_n 2, 1) := by decide +kernel
theorem dX6_steps_45 : decode cX6_steps 45 = .ok (.iadd, 1) := by decide +kernel
theorem dX6_steps_46 : decode cX6_steps 46 = .ok (.iaload, 1) := by decide +kernel
theorem dX6_steps_47 : decode cX6_steps 47 = .ok (.istore_n 3, 1) := by decide +kernel
theorem dX6_steps_48 : decode cX6_steps 48 = .ok (.iload_n 3, 1) := by decide +kernel
theorem dX6_steps_49 : decode cX6_steps 49 = .ok (.ldc 57, 2) := by decide +kernel
theorem dX6_steps_51 : decode cX6_steps 51 = .ok (.if_icmp .lt 9, 3) := by decide +kernel
theorem dX6_steps_54 : decode cX6_steps 54 = .ok (.sipush (-1000), 3) := by decide +kernel
theorem dX6_steps_57 : decode cX6_steps 57 = .ok (.goto 12, 3) := by decide +kernel
theorem dX6_steps_60 : decode cX6_steps 60 = .ok (.iload_n 3, 1) := by decide +kernel
theorem dX6_steps_61 : decode cX6_steps 61 = .ok (.bipush 64, 2) := by decide +kernel
theorem dX6_steps_63 : decode cX6_steps 63 = .ok (.iload_n 3, 1) := by decide +kernel
theorem dX6_steps_64 : decode cX6_steps 64 = .ok (.invokestatic 58, 3) := by decide +kernel
theorem dX6_steps_67 : decode cX6_steps 67 = .ok (.imul, 1) := by decide +kernel
theorem dX6_steps_68 : decode cX6_steps 68 = .ok (.isub, 1) := by decide +kernel
theorem dX6_steps_69 : decode cX6_steps 69 = .ok (.ireturn, 1) := by decide +kernel
theorem dX6_nextOf_0 : decode cX6_nextOf 0 = .ok (.iconst 0, 1) := by decide +kernel
theorem dX6_nextOf_1 : decode cX6_nextOf 1 = .ok (.istore_n 3, 1) := by decide +kernel
theorem dX6_nextOf_2 : decode cX6_nextOf 2 = .ok (.iload_n 3, 1) := by decide +kernel
theorem dX6_nextOf_3 : decode cX6_nextOf 3 = .ok (.aload_n 0, 1) := by decide +kernel
theorem dX6_nextOf_4 : decode cX6_nextOf 4 = .ok (.getfield 54, 3) := by decide +kernel
theorem dX6_nextOf_7 : decode cX6_nextOf 7 = .ok (.if_icmp .ge 135, 3) := by decide +kernel
theorem dX6_nextOf_10 : decode cX6_nextOf 10 = .ok (.aload_n 0, 1) := by decide +kernel
theorem dX6_nextOf_11 : decode cX6_nextOf 11 = .ok (.getfield 13, 3) := by decide +kernel
theorem dX6_nextOf_14 : decode cX6_nextOf 14 = .ok (.iload_n 3, 1) := by decide +kernel
theorem dX6_nextOf_15 : decode cX6_nextOf 15 = .ok (.iaload, 1) := by decide +kernel
theorem dX6_nextOf_16 : decode cX6_nextOf 16 = .ok (.iload_n 1, 1) := by decide +kernel
theorem dX6_nextOf_17 : decode cX6_nextOf 17 = .ok (.if_icmp .ne 12, 3) := by decide +kernel
theorem dX6_nextOf_20 : decode cX6_nextOf 20 = .ok (.aload_n 0, 1) := by decide +kernel
theorem dX6_nextOf_21 : decode cX6_nextOf 21 = .ok (.getfield 17, 3) := by decide +kernel
theorem dX6_nextOf_24 : decode cX6_nextOf 24 = .ok (.iload_n 3, 1) := by decide +kernel
theorem dX6_nextOf_25 : decode cX6_nextOf 25 = .ok (.iaload, 1) := by decide +kernel
theorem dX6_nextOf_26 : decode cX6_nextOf 26 = .ok (.goto 34, 3) := by decide +kernel
theorem dX6_nextOf_29 : decode cX6_nextOf 29 = .ok (.aload_n 0, 1) := by decide +kernel
theorem dX6_nextOf_30 : decode cX6_nextOf 30 = .ok (.getfield 23, 3) := by decide +kernel
theorem dX6_nextOf_33 : decode cX6_nextOf 33 = .ok (.iload_n 3, 1) := by decide +kernel
theorem dX6_nextOf_34 : decode cX6_nextOf 34 = .ok (.baload, 1) := by decide +kernel
theorem dX6_nextOf_35 : decode cX6_nextOf 35 = .ok (.ifCond .eq 22, 3) := by decide +kernel
theorem dX6_nextOf_38 : decode cX6_nextOf 38 = .ok (.aload_n 0, 1) := by decide +kernel
theorem dX6_nextOf_39 : decode cX6_nextOf 39 = .ok (.getfield 17, 3) := by decide +kernel
theorem dX6_nextOf_42 : decode cX6_nextOf 42 = .ok (.iload_n 3, 1) := by decide +kernel
theorem dX6_nextOf_43 : decode cX6_nextOf 43 = .ok (.iaload, 1) := by decide +kernel
theorem dX6_nextOf_44 : decode cX6_nextOf 44 = .ok (.iload_n 1, 1) := by decide +kernel
theorem dX6_nextOf_45 : decode cX6_nextOf 45 = .ok (.if_icmp .ne 12, 3) := by decide +kernel
theorem dX6_nextOf_48 : decode cX6_nextOf 48 = .ok (.aload_n 0, 1) := by decide +kernel
theorem dX6_nextOf_49 : decode cX6_nextOf 49 = .ok (.getfield 13, 3) := by decide +kernel
theorem dX6_nextOf_52 : decode cX6_nextOf 52 = .ok (.iload_n 3, 1) := by decide +kernel
theorem dX6_nextOf_53 : decode cX6_nextOf 53 = .ok (.iaload, 1) := by decide +kernel
theorem dX6_nextOf_54 : decode cX6_nextOf 54 = .ok (.goto 6, 3) := by decide +kernel
theorem dX6_nextOf_57 : decode cX6_nextOf 57 = .ok (.sipush (-1000), 3) := by decide +kernel
theorem dX6_nextOf_60 : decode cX6_nextOf 60 = .ok (.istore 4, 2) := by decide +kernel
theorem dX6_nextOf_62 : decode cX6_nextOf 62 = .ok (.aload_n 0, 1) := by decide +kernel
theorem dX6_nextOf_63 : decode cX6_nextOf 63 = .ok (.getfield 27, 3) := by decide +kernel
theorem dX6_nextOf_66 : decode cX6_nextOf 66 = .ok (.iload_n 3, 1) := by decide +kernel
theorem dX6_nextOf_67 : decode cX6_nextOf 67 = .ok (.baload, 1) := by decide +kernel
theorem dX6_nextOf_68 : decode cX6_nextOf 68 = .ok (.ifCond .eq 68, 3) := by decide +kernel
theorem dX6_nextOf_71 : decode cX6_nextOf 71 = .ok (.iload 4, 2) := by decide +kernel
theorem dX6_nextOf_73 : decode cX6_nextOf 73 = .ok (.sipush (-1000), 3) := by decide +kernel
theorem dX6_nextOf_76 : decode cX6_nextOf 76 = .ok (.if_icmp .eq 60, 3) := by decide +kernel
theorem dX6_nextOf_79 : decode cX6_nextOf 79 = .ok (.aload_n 0, 1) := by decide +kernel
theorem dX6_nextOf_80 : decode cX6_nextOf 80 = .ok (.getfield 30, 3) := by decide +kernel
theorem dX6_nextOf_83 : decode cX6_nextOf 83 = .ok (.bipush 10, 2) := by decide +kernel
theorem dX6_nextOf_85 : decode cX6_nextOf 85 = .ok (.iload 4, 2) := by decide +kernel
theorem dX6_nextOf_87 : decode cX6_nextOf 87 = .ok (.imul, 1) := by decide +kernel
theorem dX6_nextOf_88 : decode cX6_nextOf 88 = .ok (.iload_n 2, 1) := by decide +kernel
theorem dX6_nextOf_89 : decode cX6_nextOf 89 = .ok (.iadd, 1) := by decide +kernel
theorem dX6_nextOf_90 : decode cX6_nextOf 90 = .ok (.iaload, 1) := by decide +kernel
theorem dX6_nextOf_91 : decode cX6_nextOf 91 = .ok (.ldc 57, 2) := by decide +kernel
theorem dX6_nextOf_93 : decode cX6_nextOf 93 = .ok (.if_icmp .ge 43, 3) := by decide +kernel
theorem dX6_nextOf_96 : decode cX6_nextOf 96 = .ok (.bipush 64, 2) := by decide +kernel
theorem dX6_nextOf_98 : decode cX6_nextOf 98 = .ok (.aload_n 0, 1) := by decide +kernel
theorem dX6_nextOf_99 : decode cX6_nextOf 99 = .ok (.getfield 20, 3) := by decide +kernel
theorem dX6_nextOf_102 : decode cX6_nextOf 102 = .ok (.iload_n 3, 1) := by decide +kernel
theorem dX6_nextOf_103 : decode cX6_nextOf 103 = .ok (.iaload, 1) := by decide +kernel
theorem dX6_nextOf_104 : decode cX6_nextOf 104 = .ok (.imul, 1) := by decide +kernel
theorem dX6_nextOf_105 : decode cX6_nextOf 105 = .ok (.iconst 1, 1) := by decide +kernel
theorem dX6_nextOf_106 : decode cX6_nextOf 106 = .ok (.iadd, 1) := by decide +kernel
theorem dX6_nextOf_107 : decode cX6_nextOf 107 = .ok (.aload_n 0, 1) := by decide +kernel
theorem dX6_nextOf_108 : decode cX6_nextOf 108 = .ok (.getfield 30, 3) := by decide +kernel
theorem dX6_nextOf_111 : decode cX6_nextOf 111 = .ok (.bipush 10, 2) := by decide +kernel
theorem dX6_nextOf_113 : decode cX6_nextOf 113 = .ok (.iload 4, 2) := by decide +kernel
theorem dX6_nextOf_115 : decode cX6_nextOf 115 = .ok (.imul, 1) := by decide +kernel
theorem dX6_nextOf_116 : decode cX6_nextOf 116 = .ok (.iload_n 2, 1) := by decide +kernel
theorem dX6_nextOf_117 : decode cX6_nextOf 117 = .ok (.iadd, 1) := by decide +kernel
theorem dX6_nextOf_118 : decode cX6_nextOf 118 = .ok (.iaload, 1) := by decide +kernel
theorem dX6_nextOf_119 : decode cX6_nextOf 119 = .ok (.iadd, 1) := by decide +kernel
theorem dX6_nextOf_120 : decode cX6_nextOf 120 = .ok (.aload_n 0, 1) := by decide +kernel
theorem dX6_nextOf_121 : decode cX6_nextOf 121 = .ok (.getfield 30, 3) := by decide +kernel
theorem dX6_nextOf_124 : decode cX6_nextOf 124 = .ok (.bipush 10, 2) := by decide +kernel
theorem dX6_nextOf_126 : decode cX6_nextOf 126 = .ok (.iload_n 1, 1) := by decide +kernel
theorem dX6_nextOf_127 : decode cX6_nextOf 127 = .ok (.imul, 1) := by decide +kernel
theorem dX6_nextOf_128 : decode cX6_nextOf 128 = .ok (.iload_n 2, 1) := by decide +kernel
theorem dX6_nextOf_129 : decode cX6_nextOf 129 = .ok (.iadd, 1) := by decide +kernel
theorem dX6_nextOf_130 : decode cX6_nextOf 130 = .ok (.iaload, 1) := by decide +kernel
theorem dX6_nextOf_131 : decode cX6_nextOf 131 = .ok (.if_icmp .ne 5, 3) := by decide +kernel
theorem dX6_nextOf_134 : decode cX6_nextOf 134 = .ok (.iload_n 3, 1) := by decide +kernel
theorem dX6_nextOf_135 : decode cX6_nextOf 135 = .ok (.ireturn, 1) := by decide +kernel
theorem dX6_nextOf_136 : decode cX6_nextOf 136 = .ok (.iinc 3 1, 3) := by decide +kernel
theorem dX6_nextOf_139 : decode cX6_nextOf 139 = .ok (.goto (-137), 3) := by decide +kernel
theorem dX6_nextOf_142 : decode cX6_nextOf 142 = .ok (.sipush (-1000), 3) := by decide +kernel
theorem dX6_nextOf_145 : decode cX6_nextOf 145 = .ok (.ireturn, 1) := by decide +kernel
theorem dX6_other_0 : decode cX6_other 0 = .ok (.aload_n 0, 1) := by decide +kernel
theorem dX6_other_1 : decode cX6_other 1 = .ok (.getfield 13, 3) := by decide +kernel
theorem dX6_other_4 : decode cX6_other 4 = .ok (.iload_n 1, 1) := by decide +kernel
theorem dX6_other_5 : decode cX6_other 5 = .ok (.iaload, 1) := by decide +kernel
theorem dX6_other_6 : decode cX6_other 6 = .ok (.iload_n 2, 1) := by decide +kernel
theorem dX6_other_7 : decode cX6_other 7 = .ok (.if_icmp .ne 12, 3) := by decide +kernel
theorem dX6_other_10 : decode cX6_other 10 = .ok (.aload_n 0, 1) := by decide +kernel
theorem dX6_other_11 : decode cX6_other 11 = .ok (.getfield 17, 3) := by decide +kernel
theorem dX6_other_14 : decode cX6_other 14 = .ok (.iload_n 1, 1) := by decide +kernel
theorem dX6_other_15 : decode cX6_other 15 = .ok (.iaload, 1) := by decide +kernel
theorem dX6_other_16 : decode cX6_other 16 = .ok (.goto 9, 3) := by decide +kernel
theorem dX6_other_19 : decode cX6_other 19 = .ok (.aload_n 0, 1) := by decide +kernel
theorem dX6_other_20 : decode cX6_other 20 = .ok (.getfield 13, 3) := by decide +kernel
theorem dX6_other_23 : decode cX6_other 23 = .ok (.iload_n 1, 1) := by decide +kernel
theorem dX6_other_24 : decode cX6_other 24 = .ok (.iaload, 1) := by decide +kernel
theorem dX6_other_25 : decode cX6_other 25 = .ok (.ireturn, 1) := by decide +kernel
theorem dX6_way_0 : decode cX6_way 0 = .ok (.aload_n 0, 1) := by decide +kernel
theorem dX6_way_1 : decode cX6_way 1 = .ok (.iconst 0, 1) := by decide +kernel
theorem dX6_way_2 : decode cX6_way 2 = .ok (.putfield 47, 3) := by decide +kernel
theorem dX6_way_5 : decode cX6_way 5 = .ok (.aload_n 0, 1) := by decide +kernel
theorem dX6_way_6 : decode cX6_way 6 = .ok (.iload_n 1, 1) := by decide +kernel
theorem dX6_way_7 : decode cX6_way 7 = .ok (.invokevirtual 72, 3) := by decide +kernel
theorem dX6_way_10 : decode cX6_way 10 = .ok (.ifCond .ne 11, 3) := by decide +kernel
theorem dX6_way_13 : decode cX6_way 13 = .ok (.aload_n 0, 1) := by decide +kernel
theorem dX6_way_14 : decode cX6_way 14 = .ok (.iload_n 2, 1) := by decide +kernel
theorem dX6_way_15 : decode cX6_way 15 = .ok (.invokevirtual 72, 3) := by decide +kernel
theorem dX6_way_18 : decode cX6_way 18 = .ok (.ifCond .eq 7, 3) := by decide +kernel
theorem dX6_way_21 : decode cX6_way 21 = .ok (.sipush (-1001), 3) := by decide +kernel
theorem dX6_way_24 : decode cX6_way 24 = .ok (.ireturn, 1) := by decide +kernel
theorem dX6_way_25 : decode cX6_way 25 = .ok (.aload_n 0, 1) := by decide +kernel
theorem dX6_way_26 : decode cX6_way 26 = .ok (.sipush (-1000), 3) := by decide +kernel
theorem dX6_way_29 : decode cX6_way 29 = .ok (.sipush (-1000), 3) := by decide +kernel
theorem dX6_way_32 : decode cX6_way 32 = .ok (.invokevirtual 40, 3) := by decide +kernel
theorem dX6_way_35 : decode cX6_way 35 = .ok (.pop, 1) := by decide +kernel
theorem dX6_way_36 : decode cX6_way 36 = .ok (.aload_n 0, 1) := by decide +kernel
theorem dX6_way_37 : decode cX6_way 37 = .ok (.getfield 30, 3) := by decide +kernel
theorem dX6_way_40 : decode cX6_way 40 = .ok (.bipush 10, 2) := by decide +kernel
theorem dX6_way_42 : decode cX6_way 42 = .ok (.iload_n 1, 1) := by decide +kernel
theorem dX6_way_43 : decode cX6_way 43 = .ok (.imul, 1) := by decide +kernel
theorem dX6_way_44 : decode cX6_way 44 = .ok (.iload_n 2, 1) := by decide +kernel
theorem dX6_way_45 : decode cX6_way 45 = .ok (.iadd, 1) := by decide +kernel
theorem dX6_way_46 : decode cX6_way 46 = .ok (.iaload, 1) := by decide +kernel
theorem dX6_way_47 : decode cX6_way 47 = .ok (.istore 4, 2) := by decide +kernel
theorem dX6_way_49 : decode cX6_way 49 = .ok (.iload 4, 2) := by decide +kernel
theorem dX6_way_51 : decode cX6_way 51 = .ok (.ldc 57, 2) := by decide +kernel
theorem dX6_way_53 : decode cX6_way 53 = .ok (.if_icmp .ge 26, 3) := by decide +kernel
theorem dX6_way_56 : decode cX6_way 56 = .ok (.iload_n 3, 1) := by decide +kernel
theorem dX6_way_57 : decode cX6_way 57 = .ok (.i2l, 1) := by decide +kernel
theorem dX6_way_58 : decode cX6_way 58 = .ok (.lconst 0, 1) := by decide +kernel
theorem dX6_way_59 : decode cX6_way 59 = .ok (.iload 4, 2) := by decide +kernel
theorem dX6_way_61 : decode cX6_way 61 = .ok (.bipush 64, 2) := by decide +kernel
theorem dX6_way_63 : decode cX6_way 63 = .ok (.iload 4, 2) := by decide +kernel
theorem dX6_way_65 : decode cX6_way 65 = .ok (.invokestatic 58, 3) := by decide +kernel
theorem dX6_way_68 : decode cX6_way 68 = .ok (.imul, 1) := by decide +kernel
theorem dX6_way_69 : decode cX6_way 69 = .ok (.isub, 1) := by decide +kernel
theorem dX6_way_70 : decode cX6_way 70 = .ok (.iconst 1, 1) := by decide +kernel
theorem dX6_way_71 : decode cX6_way 71 = .ok (.isub, 1) := by decide +kernel
theorem dX6_way_72 : decode cX6_way 72 = .ok (.i2l, 1) := by decide +kernel
theorem dX6_way_73 : decode cX6_way 73 = .ok (.invokestatic 50, 3) := by decide +kernel
theorem dX6_way_76 : decode cX6_way 76 = .ok (.ifCond .ne 7, 3) := by decide +kernel
theorem dX6_way_79 : decode cX6_way 79 = .ok (.sipush (-1000), 3) := by decide +kernel
theorem dX6_way_82 : decode cX6_way 82 = .ok (.ireturn, 1) := by decide +kernel
theorem dX6_way_83 : decode cX6_way 83 = .ok (.iload_n 1, 1) := by decide +kernel
theorem dX6_way_84 : decode cX6_way 84 = .ok (.istore 5, 2) := by decide +kernel
theorem dX6_way_86 : decode cX6_way 86 = .ok (.aload_n 0, 1) := by decide +kernel
theorem dX6_way_87 : decode cX6_way 87 = .ok (.iload 5, 2) := by decide +kernel
theorem dX6_way_89 : decode cX6_way 89 = .ok (.iload_n 2, 1) := by decide +kernel
theorem dX6_way_90 : decode cX6_way 90 = .ok (.invokevirtual 97, 3) := by decide +kernel
theorem dX6_way_93 : decode cX6_way 93 = .ok (.istore 6, 2) := by decide +kernel
theorem dX6_way_95 : decode cX6_way 95 = .ok (.iconst 0, 1) := by decide +kernel
theorem dX6_way_96 : decode cX6_way 96 = .ok (.istore 7, 2) := by decide +kernel
theorem dX6_way_98 : decode cX6_way 98 = .ok (.iload 7, 2) := by decide +kernel
theorem dX6_way_100 : decode cX6_way 100 = .ok (.iload_n 3, 1) := by decide +kernel
theorem dX6_way_101 : decode cX6_way 101 = .ok (.if_icmp .ge 28, 3) := by decide +kernel
theorem dX6_way_104 : decode cX6_way 104 = .ok (.aload_n 0, 1) := by decide +kernel
theorem dX6_way_105 : decode cX6_way 105 = .ok (.iload 6, 2) := by decide +kernel
theorem dX6_way_107 : decode cX6_way 107 = .ok (.iload 5, 2) := by decide +kernel
theorem dX6_way_109 : decode cX6_way 109 = .ok (.invokevirtual 100, 3) := by decide +kernel
theorem dX6_way_112 : decode cX6_way 112 = .ok (.istore 5, 2) := by decide +kernel
theorem dX6_way_114 : decode cX6_way 114 = .ok (.aload_n 0, 1) := by decide +kernel
theorem dX6_way_115 : decode cX6_way 115 = .ok (.iload 5, 2) := by decide +kernel
theorem dX6_way_117 : decode cX6_way 117 = .ok (.iload_n 2, 1) := by decide +kernel
theorem dX6_way_118 : decode cX6_way 118 = .ok (.invokevirtual 97, 3) := by decide +kernel
theorem dX6_way_121 : decode cX6_way 121 = .ok (.istore 6, 2) := by decide +kernel
theorem dX6_way_123 : decode cX6_way 123 = .ok (.iinc 7 1, 3) := by decide +kernel
theorem dX6_way_126 : decode cX6_way 126 = .ok (.goto (-28), 3) := by decide +kernel
theorem dX6_way_129 : decode cX6_way 129 = .ok (.iload 6, 2) := by decide +kernel
theorem dX6_way_131 : decode cX6_way 131 = .ok (.ireturn, 1) := by decide +kernel
theorem dX6_without_0 : decode cX6_without 0 = .ok (.aload_n 0, 1) := by decide +kernel
theorem dX6_without_1 : decode cX6_without 1 = .ok (.iconst 0, 1) := by decide +kernel
theorem dX6_without_2 : decode cX6_without 2 = .ok (.putfield 47, 3) := by decide +kernel
theorem dX6_without_5 : decode cX6_without 5 = .ok (.aload_n 0, 1) := by decide +kernel
theorem dX6_without_6 : decode cX6_without 6 = .ok (.iload_n 1, 1) := by decide +kernel
theorem dX6_without_7 : decode cX6_without 7 = .ok (.invokevirtual 72, 3) := by decide +kernel
theorem dX6_without_10 : decode cX6_without 10 = .ok (.ifCond .ne 19, 3) := by decide +kernel
theorem dX6_without_13 : decode cX6_without 13 = .ok (.aload_n 0, 1) := by decide +kernel
theorem dX6_without_14 : decode cX6_without 14 = .ok (.iload_n 2, 1) := by decide +kernel
theorem dX6_without_15 : decode cX6_without 15 = .ok (.invokevirtual 72, 3) := by decide +kernel
theorem dX6_without_18 : decode cX6_without 18 = .ok (.ifCond .ne 11, 3) := by decide +kernel
theorem dX6_without_21 : decode cX6_without 21 = .ok (.aload_n 0, 1) := by decide +kernel
theorem dX6_without_22 : decode cX6_without 22 = .ok (.iload_n 3, 1) := by decide +kernel
theorem dX6_without_23 : decode cX6_without 23 = .ok (.invokevirtual 87, 3) := by decide +kernel
theorem dX6_without_26 : decode cX6_without 26 = .ok (.ifCond .eq 7, 3) := by decide +kernel
theorem dX6_without_29 : decode cX6_without 29 = .ok (.sipush (-1001), 3) := by decide +kernel
theorem dX6_without_32 : decode cX6_without 32 = .ok (.ireturn, 1) := by decide +kernel
theorem dX6_without_33 : decode cX6_without 33 = .ok (.aload_n 0, 1) := by decide +kernel
theorem dX6_without_34 : decode cX6_without 34 = .ok (.iload_n 3, 1) := by decide +kernel
theorem dX6_without_35 : decode cX6_without 35 = .ok (.sipush (-1000), 3) := by decide +kernel
theorem dX6_without_38 : decode cX6_without 38 = .ok (.invokevirtual 40, 3) := by decide +kernel
theorem dX6_without_41 : decode cX6_without 41 = .ok (.pop, 1) := by decide +kernel
theorem dX6_without_42 : decode cX6_without 42 = .ok (.aload_n 0, 1) := by decide +kernel
theorem dX6_without_43 : decode cX6_without 43 = .ok (.iload_n 1, 1) := by decide +kernel
theorem dX6_without_44 : decode cX6_without 44 = .ok (.iload_n 2, 1) := by decide +kernel
theorem dX6_without_45 : decode cX6_without 45 = .ok (.invokevirtual 80, 3) := by decide +kernel
theorem dX6_without_48 : decode cX6_without 48 = .ok (.ireturn, 1) := by decide +kernel
theorem dX6_vital_0 : decode cX6_vital 0 = .ok (.aload_n 0, 1) := by decide +kernel
theorem dX6_vital_1 : decode cX6_vital 1 = .ok (.iconst 0, 1) := by decide +kernel
theorem dX6_vital_2 : decode cX6_vital 2 = .ok (.putfield 47, 3) := by decide +kernel
theorem dX6_vital_5 : decode cX6_vital 5 = .ok (.aload_n 0, 1) := by decide +kernel
theorem dX6_vital_6 : decode cX6_vital 6 = .ok (.iload_n 1, 1) := by decide +kernel
theorem dX6_vital_7 : decode cX6_vital 7 = .ok (.invokevirtual 72, 3) := by decide +kernel
theorem dX6_vital_10 : decode cX6_vital 10 = .ok (.ifCond .ne 11, 3) := by decide +kernel
theorem dX6_vital_13 : decode cX6_vital 13 = .ok (.aload_n 0, 1) := by decide +kernel
theorem dX6_vital_14 : decode cX6_vital 14 = .ok (.iload_n 2, 1) := by decide +kernel
theorem dX6_vital_15 : decode cX6_vital 15 = .ok (.invokevirtual 72, 3) := by decide +kernel
theorem dX6_vital_18 : decode cX6_vital 18 = .ok (.ifCond .eq 7, 3) := by decide +kernel
theorem dX6_vital_21 : decode cX6_vital 21 = .ok (.sipush (-1001), 3) := by decide +kernel
theorem dX6_vital_24 : decode cX6_vital 24 = .ok (.ireturn, 1) := by decide +kernel
theorem dX6_vital_25 : decode cX6_vital 25 = .ok (.aload_n 0, 1) := by decide +kernel
theorem dX6_vital_26 : decode cX6_vital 26 = .ok (.sipush (-1000), 3) := by decide +kernel
theorem dX6_vital_29 : decode cX6_vital 29 = .ok (.sipush (-1000), 3) := by decide +kernel
theorem dX6_vital_32 : decode cX6_vital 32 = .ok (.invokevirtual 40, 3) := by decide +kernel
theorem dX6_vital_35 : decode cX6_vital 35 = .ok (.pop, 1) := by decide +kernel
theorem dX6_vital_36 : decode cX6_vital 36 = .ok (.aload_n 0, 1) := by decide +kernel
theorem dX6_vital_37 : decode cX6_vital 37 = .ok (.iload_n 1, 1) := by decide +kernel
theorem dX6_vital_38 : decode cX6_vital 38 = .ok (.iload_n 2, 1) := by decide +kernel
theorem dX6_vital_39 : decode cX6_vital 39 = .ok (.invokevirtual 80, 3) := by decide +kernel
theorem dX6_vital_42 : decode cX6_vital 42 = .ok (.istore 4, 2) := by decide +kernel
theorem dX6_vital_44 : decode cX6_vital 44 = .ok (.iconst 0, 1) := by decide +kernel
theorem dX6_vital_45 : decode cX6_vital 45 = .ok (.istore 5, 2) := by decide +kernel
theorem dX6_vital_47 : decode cX6_vital 47 = .ok (.iconst 0, 1) := by decide +kernel
theorem dX6_vital_48 : decode cX6_vital 48 = .ok (.istore 6, 2) := by decide +kernel
theorem dX6_vital_50 : decode cX6_vital 50 = .ok (.iload 6, 2) := by decide +kernel
theorem dX6_vital_52 : decode cX6_vital 52 = .ok (.aload_n 0, 1) := by decide +kernel
theorem dX6_vital_53 : decode cX6_vital 53 = .ok (.getfield 54, 3) := by decide +kernel
theorem dX6_vital_56 : decode cX6_vital 56 = .ok (.if_icmp .ge 50, 3) := by decide +kernel
theorem dX6_vital_59 : decode cX6_vital 59 = .ok (.iload 4, 2) := by decide +kernel
theorem dX6_vital_61 : decode cX6_vital 61 = .ok (.sipush (-1000), 3) := by decide +kernel
theorem dX6_vital_64 : decode cX6_vital 64 = .ok (.if_icmp .eq 42, 3) := by decide +kernel
theorem dX6_vital_67 : decode cX6_vital 67 = .ok (.aload_n 0, 1) := by decide +kernel
theorem dX6_vital_68 : decode cX6_vital 68 = .ok (.iload 6, 2) := by decide +kernel
theorem dX6_vital_70 : decode cX6_vital 70 = .ok (.sipush (-1000), 3) := by decide +kernel
theorem dX6_vital_73 : decode cX6_vital 73 = .ok (.invokevirtual 40, 3) := by decide +kernel
theorem dX6_vital_76 : decode cX6_vital 76 = .ok (.pop, 1) := by decide +kernel
theorem dX6_vital_77 : decode cX6_vital 77 = .ok (.aload_n 0, 1) := by decide +kernel
theorem dX6_vital_78 : decode cX6_vital 78 = .ok (.iload_n 1, 1) := by decide +kernel
theorem dX6_vital_79 : decode cX6_vital 79 = .ok (.iload_n 2, 1) := by decide +kernel
theorem dX6_vital_80 : decode cX6_vital 80 = .ok (.invokevirtual 80, 3) := by decide +kernel
theorem dX6_vital_83 : decode cX6_vital 83 = .ok (.iload 4, 2) := by decide +kernel
theorem dX6_vital_85 : decode cX6_vital 85 = .ok (.if_icmp .eq 15, 3) := by decide +kernel
theorem dX6_vital_88 : decode cX6_vital 88 = .ok (.iload 5, 2) := by decide +kernel
theorem dX6_vital_90 : decode cX6_vital 90 = .ok (.iload_n 3, 1) := by decide +kernel
theorem dX6_vital_91 : decode cX6_vital 91 = .ok (.if_icmp .ne 6, 3) := by decide +kernel
theorem dX6_vital_94 : decode cX6_vital 94 = .ok (.iload 6, 2) := by decide +kernel
theorem dX6_vital_96 : decode cX6_vital 96 = .ok (.ireturn, 1) := by decide +kernel
theorem dX6_vital_97 : decode cX6_vital 97 = .ok (.iinc 5 1, 3) := by decide +kernel
theorem dX6_vital_100 : decode cX6_vital 100 = .ok (.iinc 6 1, 3) := by decide +kernel
theorem dX6_vital_103 : decode cX6_vital 103 = .ok (.goto (-53), 3) := by decide +kernel
theorem dX6_vital_106 : decode cX6_vital 106 = .ok (.sipush (-1000), 3) := by decide +kernel
theorem dX6_vital_109 : decode cX6_vital 109 = .ok (.ireturn, 1) := by decide +kernel
theorem dX6_about_0 : decode cX6_about 0 = .ok (.aload_n 0, 1) := by decide +kernel
theorem dX6_about_1 : decode cX6_about 1 = .ok (.iconst 0, 1) := by decide +kernel
theorem dX6_about_2 : decode cX6_about 2 = .ok (.putfield 47, 3) := by decide +kernel
theorem dX6_about_5 : decode cX6_about 5 = .ok (.aload_n 0, 1) := by decide +kernel
theorem dX6_about_6 : decode cX6_about 6 = .ok (.iload_n 1, 1) := by decide +kernel
theorem dX6_about_7 : decode cX6_about 7 = .ok (.invokevirtual 72, 3) := by decide +kernel
theorem dX6_about_10 : decode cX6_about 10 = .ok (.ifCond .ne 19, 3) := by decide +kernel
theorem dX6_about_13 : decode cX6_about 13 = .ok (.aload_n 0, 1) := by decide +kernel
theorem dX6_about_14 : decode cX6_about 14 = .ok (.iload_n 2, 1) := by decide +kernel
theorem dX6_about_15 : decode cX6_about 15 = .ok (.invokevirtual 72, 3) := by decide +kernel
theorem dX6_about_18 : decode cX6_about 18 = .ok (.ifCond .ne 11, 3) := by decide +kernel
theorem dX6_about_21 : decode cX6_about 21 = .ok (.aload_n 0, 1) := by decide +kernel
theorem dX6_about_22 : decode cX6_about 22 = .ok (.iload_n 3, 1) := by decide +kernel
theorem dX6_about_23 : decode cX6_about 23 = .ok (.invokevirtual 72, 3) := by decide +kernel
theorem dX6_about_26 : decode cX6_about 26 = .ok (.ifCond .eq 7, 3) := by decide +kernel
theorem dX6_about_29 : decode cX6_about 29 = .ok (.sipush (-1001), 3) := by decide +kernel
theorem dX6_about_32 : decode cX6_about 32 = .ok (.ireturn, 1) := by decide +kernel
theorem dX6_about_33 : decode cX6_about 33 = .ok (.iload_n 3, 1) := by decide +kernel
theorem dX6_about_34 : decode cX6_about 34 = .ok (.iload_n 1, 1) := by decide +kernel
theorem dX6_about_35 : decode cX6_about 35 = .ok (.if_icmp .eq 8, 3) := by decide +kernel
theorem dX6_about_38 : decode cX6_about 38 = .ok (.iload_n 3, 1) := by decide +kernel
theorem dX6_about_39 : decode cX6_about 39 = .ok (.iload_n 2, 1) := by decide +kernel
theorem dX6_about_40 : decode cX6_about 40 = .ok (.if_icmp .ne 7, 3) := by decide +kernel
theorem dX6_about_43 : decode cX6_about 43 = .ok (.sipush (-1003), 3) := by decide +kernel
theorem dX6_about_46 : decode cX6_about 46 = .ok (.ireturn, 1) := by decide +kernel
theorem dX6_about_47 : decode cX6_about 47 = .ok (.aload_n 0, 1) := by decide +kernel
theorem dX6_about_48 : decode cX6_about 48 = .ok (.sipush (-1000), 3) := by decide +kernel
theorem dX6_about_51 : decode cX6_about 51 = .ok (.iload_n 3, 1) := by decide +kernel
theorem dX6_about_52 : decode cX6_about 52 = .ok (.invokevirtual 40, 3) := by decide +kernel
theorem dX6_about_55 : decode cX6_about 55 = .ok (.pop, 1) := by decide +kernel
theorem dX6_about_56 : decode cX6_about 56 = .ok (.aload_n 0, 1) := by decide +kernel
theorem dX6_about_57 : decode cX6_about 57 = .ok (.iload_n 1, 1) := by decide +kernel
theorem dX6_about_58 : decode cX6_about 58 = .ok (.iload_n 2, 1) := by decide +kernel
theorem dX6_about_59 : decode cX6_about 59 = .ok (.invokevirtual 80, 3) := by decide +kernel
theorem dX6_about_62 : decode cX6_about 62 = .ok (.ireturn, 1) := by decide +kernel
theorem dX6_ring_0 : decode cX6_ring 0 = .ok (.aload_n 0, 1) := by decide +kernel
theorem dX6_ring_1 : decode cX6_ring 1 = .ok (.iconst 0, 1) := by decide +kernel
theorem dX6_ring_2 : decode cX6_ring 2 = .ok (.putfield 47, 3) := by decide +kernel
theorem dX6_ring_5 : decode cX6_ring 5 = .ok (.aload_n 0, 1) := by decide +kernel
theorem dX6_ring_6 : decode cX6_ring 6 = .ok (.sipush (-1000), 3) := by decide +kernel
theorem dX6_ring_9 : decode cX6_ring 9 = .ok (.sipush (-1000), 3) := by decide +kernel
theorem dX6_ring_12 : decode cX6_ring 12 = .ok (.invokevirtual 40, 3) := by decide +kernel
theorem dX6_ring_15 : decode cX6_ring 15 = .ok (.pop, 1) := by decide +kernel
theorem dX6_ring_16 : decode cX6_ring 16 = .ok (.sipush (-1000), 3) := by decide +kernel
theorem dX6_ring_19 : decode cX6_ring 19 = .ok (.istore_n 1, 1) := by decide +kernel
theorem dX6_ring_20 : decode cX6_ring 20 = .ok (.iconst 0, 1) := by decide +kernel
theorem dX6_ring_21 : decode cX6_ring 21 = .ok (.istore_n 2, 1) := by decide +kernel
theorem dX6_ring_22 : decode cX6_ring 22 = .ok (.iload_n 2, 1) := by decide +kernel
theorem dX6_ring_23 : decode cX6_ring 23 = .ok (.aload_n 0, 1) := by decide +kernel
theorem dX6_ring_24 : decode cX6_ring 24 = .ok (.getfield 54, 3) := by decide +kernel
theorem dX6_ring_27 : decode cX6_ring 27 = .ok (.if_icmp .ge 123, 3) := by decide +kernel
theorem dX6_ring_30 : decode cX6_ring 30 = .ok (.iconst 0, 1) := by decide +kernel
theorem dX6_ring_31 : decode cX6_ring 31 = .ok (.istore_n 3, 1) := by decide +kernel
theorem dX6_ring_32 : decode cX6_ring 32 = .ok (.iload_n 3, 1) := by decide +kernel
theorem dX6_ring_33 : decode cX6_ring 33 = .ok (.aload_n 0, 1) := by decide +kernel
theorem dX6_ring_34 : decode cX6_ring 34 = .ok (.getfield 23, 3) := by decide +kernel
theorem dX6_ring_37 : decode cX6_ring 37 = .ok (.iload_n 2, 1) := by decide +kernel
theorem dX6_ring_38 : decode cX6_ring 38 = .ok (.baload, 1) := by decide +kernel
theorem dX6_ring_39 : decode cX6_ring 39 = .ok (.ifCond .eq 7, 3) := by decide +kernel
theorem dX6_ring_42 : decode cX6_ring 42 = .ok (.iconst 2, 1) := by decide +kernel
theorem dX6_ring_43 : decode cX6_ring 43 = .ok (.goto 4, 3) := by decide +kernel
theorem dX6_ring_46 : decode cX6_ring 46 = .ok (.iconst 1, 1) := by decide +kernel
theorem dX6_ring_47 : decode cX6_ring 47 = .ok (.if_icmp .ge 97, 3) := by decide +kernel
theorem dX6_ring_50 : decode cX6_ring 50 = .ok (.iload_n 3, 1) := by decide +kernel
theorem dX6_ring_51 : decode cX6_ring 51 = .ok (.ifCond .ne 22, 3) := by decide +kernel
theorem dX6_ring_54 : decode cX6_ring 54 = .ok (.aload_n 0, 1) := by decide +kernel
theorem dX6_ring_55 : decode cX6_ring 55 = .ok (.aload_n 0, 1) := by decide +kernel
theorem dX6_ring_56 : decode cX6_ring 56 = .ok (.getfield 17, 3) := by decide +kernel
theorem dX6_ring_59 : decode cX6_ring 59 = .ok (.iload_n 2, 1) := by decide +kernel
theorem dX6_ring_60 : decode cX6_ring 60 = .ok (.iaload, 1) := by decide +kernel
theorem dX6_ring_61 : decode cX6_ring 61 = .ok (.aload_n 0, 1) := by decide +kernel
theorem dX6_ring_62 : decode cX6_ring 62 = .ok (.getfield 13, 3) := by decide +kernel
theorem dX6_ring_65 : decode cX6_ring 65 = .ok (.iload_n 2, 1) := by decide +kernel
theorem dX6_ring_66 : decode cX6_ring 66 = .ok (.iaload, 1) := by decide +kernel
theorem dX6_ring_67 : decode cX6_ring 67 = .ok (.invokevirtual 80, 3) := by decide +kernel
theorem dX6_ring_70 : decode cX6_ring 70 = .ok (.goto 19, 3) := by decide +kernel
theorem dX6_ring_73 : decode cX6_ring 73 = .ok (.aload_n 0, 1) := by decide +kernel
theorem dX6_ring_74 : decode cX6_ring 74 = .ok (.aload_n 0, 1) := by decide +kernel
theorem dX6_ring_75 : decode cX6_ring 75 = .ok (.getfield 13, 3) := by decide +kernel
theorem dX6_ring_78 : decode cX6_ring 78 = .ok (.iload_n 2, 1) := by decide +kernel
theorem dX6_ring_79 : decode cX6_ring 79 = .ok (.iaload, 1) := by decide +kernel
theorem dX6_ring_80 : decode cX6_ring 80 = .ok (.aload_n 0, 1) := by decide +kernel
theorem dX6_ring_81 : decode cX6_ring 81 = .ok (.getfield 17, 3) := by decide +kernel
theorem dX6_ring_84 : decode cX6_ring 84 = .ok (.iload_n 2, 1) := by decide +kernel
theorem dX6_ring_85 : decode cX6_ring 85 = .ok (.iaload, 1) := by decide +kernel
theorem dX6_ring_86 : decode cX6_ring 86 = .ok (.invokevirtual 80, 3) := by decide +kernel
theorem dX6_ring_89 : decode cX6_ring 89 = .ok (.istore 4, 2) := by decide +kernel
theorem dX6_ring_91 : decode cX6_ring 91 = .ok (.aload_n 0, 1) := by decide +kernel
theorem dX6_ring_92 : decode cX6_ring 92 = .ok (.getfield 27, 3) := by decide +kernel
theorem dX6_ring_95 : decode cX6_ring 95 = .ok (.iload_n 2, 1) := by decide +kernel
theorem dX6_ring_96 : decode cX6_ring 96 = .ok (.baload, 1) := by decide +kernel
theorem dX6_ring_97 : decode cX6_ring 97 = .ok (.ifCond .eq 41, 3) := by decide +kernel
theorem dX6_ring_100 : decode cX6_ring 100 = .ok (.iload 4, 2) := by decide +kernel
theorem dX6_ring_102 : decode cX6_ring 102 = .ok (.sipush (-1000), 3) := by decide +kernel
theorem dX6_ring_105 : decode cX6_ring 105 = .ok (.if_icmp .eq 33, 3) := by decide +kernel
theorem dX6_ring_108 : decode cX6_ring 108 = .ok (.iload_n 1, 1) := by decide +kernel
theorem dX6_ring_109 : decode cX6_ring 109 = .ok (.sipush (-1000), 3) := by decide +kernel
theorem dX6_ring_112 : decode cX6_ring 112 = .ok (.if_icmp .eq 16, 3) := by decide +kernel
theorem dX6_ring_115 : decode cX6_ring 115 = .ok (.aload_n 0, 1) := by decide +kernel
theorem dX6_ring_116 : decode cX6_ring 116 = .ok (.getfield 20, 3) := by decide +kernel
theorem dX6_ring_119 : decode cX6_ring 119 = .ok (.iload_n 2, 1) := by decide +kernel
theorem dX6_ring_120 : decode cX6_ring 120 = .ok (.iaload, 1) := by decide +kernel
theorem dX6_ring_121 : decode cX6_ring 121 = .ok (.iload 4, 2) := by decide +kernel
theorem dX6_ring_123 : decode cX6_ring 123 = .ok (.iadd, 1) := by decide +kernel
theorem dX6_ring_124 : decode cX6_ring 124 = .ok (.iload_n 1, 1) := by decide +kernel
theorem dX6_ring_125 : decode cX6_ring 125 = .ok (.if_icmp .ge 13, 3) := by decide +kernel
theorem dX6_ring_128 : decode cX6_ring 128 = .ok (.aload_n 0, 1) := by decide +kernel
theorem dX6_ring_129 : decode cX6_ring 129 = .ok (.getfield 20, 3) := by decide +kernel
theorem dX6_ring_132 : decode cX6_ring 132 = .ok (.iload_n 2, 1) := by decide +kernel
theorem dX6_ring_133 : decode cX6_ring 133 = .ok (.iaload, 1) := by decide +kernel
theorem dX6_ring_134 : decode cX6_ring 134 = .ok (.iload 4, 2) := by decide +kernel
theorem dX6_ring_136 : decode cX6_ring 136 = .ok (.iadd, 1) := by decide +kernel
theorem dX6_ring_137 : decode cX6_ring 137 = .ok (.istore_n 1, 1) := by decide +kernel
theorem dX6_ring_138 : decode cX6_ring 138 = .ok (.iinc 3 1, 3) := by decide +kernel
theorem dX6_ring_141 : decode cX6_ring 141 = .ok (.goto (-109), 3) := by decide +kernel
theorem dX6_ring_144 : decode cX6_ring 144 = .ok (.iinc 2 1, 3) := by decide +kernel
theorem dX6_ring_147 : decode cX6_ring 147 = .ok (.goto (-125), 3) := by decide +kernel
theorem dX6_ring_150 : decode cX6_ring 150 = .ok (.iload_n 1, 1) := by decide +kernel
theorem dX6_ring_151 : decode cX6_ring 151 = .ok (.ireturn, 1) := by decide +kernel
theorem dX6_height_0 : decode cX6_height 0 = .ok (.aload_n 0, 1) := by decide +kernel
theorem dX6_height_1 : decode cX6_height 1 = .ok (.iconst 0, 1) := by decide +kernel
theorem dX6_height_2 : decode cX6_height 2 = .ok (.putfield 47, 3) := by decide +kernel
theorem dX6_height_5 : decode cX6_height 5 = .ok (.aload_n 0, 1) := by decide +kernel
theorem dX6_height_6 : decode cX6_height 6 = .ok (.iload_n 1, 1) := by decide +kernel
theorem dX6_height_7 : decode cX6_height 7 = .ok (.invokevirtual 72, 3) := by decide +kernel
theorem dX6_height_10 : decode cX6_height 10 = .ok (.ifCond .eq 7, 3) := by decide +kernel
theorem dX6_height_13 : decode cX6_height 13 = .ok (.sipush (-1001), 3) := by decide +kernel
theorem dX6_height_16 : decode cX6_height 16 = .ok (.ireturn, 1) := by decide +kernel
theorem dX6_height_17 : decode cX6_height 17 = .ok (.aload_n 0, 1) := by decide +kernel
theorem dX6_height_18 : decode cX6_height 18 = .ok (.sipush (-1000), 3) := by decide +kernel
theorem dX6_height_21 : decode cX6_height 21 = .ok (.sipush (-1000), 3) := by decide +kernel
theorem dX6_height_24 : decode cX6_height 24 = .ok (.invokevirtual 40, 3) := by decide +kernel
theorem dX6_height_27 : decode cX6_height 27 = .ok (.pop, 1) := by decide +kernel
theorem dX6_height_28 : decode cX6_height 28 = .ok (.aload_n 0, 1) := by decide +kernel
theorem dX6_height_29 : decode cX6_height 29 = .ok (.iload_n 1, 1) := by decide +kernel
theorem dX6_height_30 : decode cX6_height 30 = .ok (.invokevirtual 94, 3) := by decide +kernel
theorem dX6_height_33 : decode cX6_height 33 = .ok (.ireturn, 1) := by decide +kernel
theorem dX6_acts_0 : decode cX6_acts 0 = .ok (.aload_n 0, 1) := by decide +kernel
theorem dX6_acts_1 : decode cX6_acts 1 = .ok (.iconst 0, 1) := by decide +kernel
theorem dX6_acts_2 : decode cX6_acts 2 = .ok (.putfield 47, 3) := by decide +kernel
theorem dX6_acts_5 : decode cX6_acts 5 = .ok (.aload_n 0, 1) := by decide +kernel
theorem dX6_acts_6 : decode cX6_acts 6 = .ok (.getfield 62, 3) := by decide +kernel
theorem dX6_acts_9 : decode cX6_acts 9 = .ok (.ireturn, 1) := by decide +kernel
theorem dX6_isMoved_0 : decode cX6_isMoved 0 = .ok (.iload_n 2, 1) := by decide +kernel
theorem dX6_isMoved_1 : decode cX6_isMoved 1 = .ok (.bipush 10, 2) := by decide +kernel
theorem dX6_isMoved_3 : decode cX6_isMoved 3 = .ok (.idiv, 1) := by decide +kernel
theorem dX6_isMoved_4 : decode cX6_isMoved 4 = .ok (.aload_n 0, 1) := by decide +kernel
theorem dX6_isMoved_5 : decode cX6_isMoved 5 = .ok (.getfield 7, 3) := by decide +kernel
theorem dX6_isMoved_8 : decode cX6_isMoved 8 = .ok (.if_icmp .ge 46, 3) := by decide +kernel
theorem dX6_isMoved_11 : decode cX6_isMoved 11 = .ok (.iload_n 2, 1) := by decide +kernel
theorem dX6_isMoved_12 : decode cX6_isMoved 12 = .ok (.bipush 10, 2) := by decide +kernel
theorem dX6_isMoved_14 : decode cX6_isMoved 14 = .ok (.irem, 1) := by decide +kernel
theorem dX6_isMoved_15 : decode cX6_isMoved 15 = .ok (.aload_n 0, 1) := by decide +kernel
theorem dX6_isMoved_16 : decode cX6_isMoved 16 = .ok (.getfield 7, 3) := by decide +kernel
theorem dX6_isMoved_19 : decode cX6_isMoved 19 = .ok (.if_icmp .ge 35, 3) := by decide +kernel
theorem dX6_isMoved_22 : decode cX6_isMoved 22 = .ok (.aload_n 0, 1) := by decide +kernel
theorem dX6_isMoved_23 : decode cX6_isMoved 23 = .ok (.getfield 34, 3) := by decide +kernel
theorem dX6_isMoved_26 : decode cX6_isMoved 26 = .ok (.bipush 100, 2) := by decide +kernel
theorem dX6_isMoved_28 : decode cX6_isMoved 28 = .ok (.iload_n 1, 1) := by decide +kernel
theorem dX6_isMoved_29 : decode cX6_isMoved 29 = .ok (.imul, 1) := by decide +kernel
theorem dX6_isMoved_30 : decode cX6_isMoved 30 = .ok (.iload_n 2, 1) := by decide +kernel
theorem dX6_isMoved_31 : decode cX6_isMoved 31 = .ok (.iadd, 1) := by decide +kernel
theorem dX6_isMoved_32 : decode cX6_isMoved 32 = .ok (.iaload, 1) := by decide +kernel
theorem dX6_isMoved_33 : decode cX6_isMoved 33 = .ok (.aload_n 0, 1) := by decide +kernel
theorem dX6_isMoved_34 : decode cX6_isMoved 34 = .ok (.getfield 34, 3) := by decide +kernel
theorem dX6_isMoved_37 : decode cX6_isMoved 37 = .ok (.bipush 100, 2) := by decide +kernel
theorem dX6_isMoved_39 : decode cX6_isMoved 39 = .ok (.iload_n 1, 1) := by decide +kernel
theorem dX6_isMoved_40 : decode cX6_isMoved 40 = .ok (.imul, 1) := by decide +kernel
theorem dX6_isMoved_41 : decode cX6_isMoved 41 = .ok (.bipush 100, 2) := by decide +kernel
theorem dX6_isMoved_43 : decode cX6_isMoved 43 = .ok (.isub, 1) := by decide +kernel
theorem dX6_isMoved_44 : decode cX6_isMoved 44 = .ok (.iload_n 2, 1) := by decide +kernel
theorem dX6_isMoved_45 : decode cX6_isMoved 45 = .ok (.iadd, 1) := by decide +kernel
theorem dX6_isMoved_46 : decode cX6_isMoved 46 = .ok (.iaload, 1) := by decide +kernel
theorem dX6_isMoved_47 : decode cX6_isMoved 47 = .ok (.if_icmp .eq 7, 3) := by decide +kernel
theorem dX6_isMoved_50 : decode cX6_isMoved 50 = .ok (.iconst 1, 1) := by decide +kernel
theorem dX6_isMoved_51 : decode cX6_isMoved 51 = .ok (.goto 4, 3) := by decide +kernel
theorem dX6_isMoved_54 : decode cX6_isMoved 54 = .ok (.iconst 0, 1) := by decide +kernel
theorem dX6_isMoved_55 : decode cX6_isMoved 55 = .ok (.ireturn, 1) := by decide +kernel
theorem dX6_moved_0 : decode cX6_moved 0 = .ok (.aload_n 0, 1) := by decide +kernel
theorem dX6_moved_1 : decode cX6_moved 1 = .ok (.iconst 0, 1) := by decide +kernel
theorem dX6_moved_2 : decode cX6_moved 2 = .ok (.putfield 47, 3) := by decide +kernel
theorem dX6_moved_5 : decode cX6_moved 5 = .ok (.iload_n 1, 1) := by decide +kernel
theorem dX6_moved_6 : decode cX6_moved 6 = .ok (.i2l, 1) := by decide +kernel
theorem dX6_moved_7 : decode cX6_moved 7 = .ok (.lconst 1, 1) := by decide +kernel
theorem dX6_moved_8 : decode cX6_moved 8 = .ok (.aload_n 0, 1) := by decide +kernel
theorem dX6_moved_9 : decode cX6_moved 9 = .ok (.getfield 62, 3) := by decide +kernel
theorem dX6_moved_12 : decode cX6_moved 12 = .ok (.i2l, 1) := by decide +kernel
theorem dX6_moved_13 : decode cX6_moved 13 = .ok (.invokestatic 50, 3) := by decide +kernel
theorem dX6_moved_16 : decode cX6_moved 16 = .ok (.ifCond .ne 7, 3) := by decide +kernel
theorem dX6_moved_19 : decode cX6_moved 19 = .ok (.sipush (-1001), 3) := by decide +kernel
theorem dX6_moved_22 : decode cX6_moved 22 = .ok (.ireturn, 1) := by decide +kernel
theorem dX6_moved_23 : decode cX6_moved 23 = .ok (.iconst 0, 1) := by decide +kernel
theorem dX6_moved_24 : decode cX6_moved 24 = .ok (.istore_n 2, 1) := by decide +kernel
theorem dX6_moved_25 : decode cX6_moved 25 = .ok (.iconst 0, 1) := by decide +kernel
theorem dX6_moved_26 : decode cX6_moved 26 = .ok (.istore_n 3, 1) := by decide +kernel
theorem dX6_moved_27 : decode cX6_moved 27 = .ok (.iload_n 3, 1) := by decide +kernel
theorem dX6_moved_28 : decode cX6_moved 28 = .ok (.bipush 100, 2) := by decide +kernel
theorem dX6_moved_30 : decode cX6_moved 30 = .ok (.if_icmp .ge 26, 3) := by decide +kernel
theorem dX6_moved_33 : decode cX6_moved 33 = .ok (.iload_n 2, 1) := by decide +kernel
theorem dX6_moved_34 : decode cX6_moved 34 = .ok (.aload_n 0, 1) := by decide +kernel
theorem dX6_moved_35 : decode cX6_moved 35 = .ok (.iload_n 1, 1) := by decide +kernel
theorem dX6_moved_36 : decode cX6_moved 36 = .ok (.iload_n 3, 1) := by decide +kernel
theorem dX6_moved_37 : decode cX6_moved 37 = .ok (.invokevirtual 103, 3) := by decide +kernel
theorem dX6_moved_40 : decode cX6_moved 40 = .ok (.ifCond .eq 7, 3) := by decide +kernel
theorem dX6_moved_43 : decode cX6_moved 43 = .ok (.iconst 1, 1) := by decide +kernel
theorem dX6_moved_44 : decode cX6_moved 44 = .ok (.goto 4, 3) := by decide +kernel
theorem dX6_moved_47 : decode cX6_moved 47 = .ok (.iconst 0, 1) := by decide +kernel
theorem dX6_moved_48 : decode cX6_moved 48 = .ok (.iadd, 1) := by decide +kernel
theorem dX6_moved_49 : decode cX6_moved 49 = .ok (.istore_n 2, 1) := by decide +kernel
theorem dX6_moved_50 : decode cX6_moved 50 = .ok (.iinc 3 1, 3) := by decide +kernel
theorem dX6_moved_53 : decode cX6_moved 53 = .ok (.goto (-26), 3) := by decide +kernel
theorem dX6_moved_56 : decode cX6_moved 56 = .ok (.iload_n 2, 1) := by decide +kernel
theorem dX6_moved_57 : decode cX6_moved 57 = .ok (.ireturn, 1) := by decide +kernel
theorem dX6_pair_0 : decode cX6_pair 0 = .ok (.aload_n 0, 1) := by decide +kernel
theorem dX6_pair_1 : decode cX6_pair 1 = .ok (.iconst 0, 1) := by decide +kernel
theorem dX6_pair_2 : decode cX6_pair 2 = .ok (.putfield 47, 3) := by decide +kernel
theorem dX6_pair_5 : decode cX6_pair 5 = .ok (.iload_n 1, 1) := by decide +kernel
theorem dX6_pair_6 : decode cX6_pair 6 = .ok (.i2l, 1) := by decide +kernel
theorem dX6_pair_7 : decode cX6_pair 7 = .ok (.lconst 1, 1) := by decide +kernel
theorem dX6_pair_8 : decode cX6_pair 8 = .ok (.aload_n 0, 1) := by decide +kernel
theorem dX6_pair_9 : decode cX6_pair 9 = .ok (.getfield 62, 3) := by decide +kernel
theorem dX6_pair_12 : decode cX6_pair 12 = .ok (.i2l, 1) := by decide +kernel
theorem dX6_pair_13 : decode cX6_pair 13 = .ok (.invokestatic 50, 3) := by decide +kernel
theorem dX6_pair_16 : decode cX6_pair 16 = .ok (.ifCond .ne 7, 3) := by decide +kernel
theorem dX6_pair_19 : decode cX6_pair 19 = .ok (.sipush (-1001), 3) := by decide +kernel
theorem dX6_pair_22 : decode cX6_pair 22 = .ok (.ireturn, 1) := by decide +kernel
theorem dX6_pair_23 : decode cX6_pair 23 = .ok (.iconst 0, 1) := by decide +kernel
theorem dX6_pair_24 : decode cX6_pair 24 = .ok (.istore_n 3, 1) := by decide +kernel
theorem dX6_pair_25 : decode cX6_pair 25 = .ok (.iconst 0, 1) := by decide +kernel
theorem dX6_pair_26 : decode cX6_pair 26 = .ok (.istore 4, 2) := by decide +kernel
theorem dX6_pair_28 : decode cX6_pair 28 = .ok (.iload 4, 2) := by decide +kernel
theorem dX6_pair_30 : decode cX6_pair 30 = .ok (.bipush 100, 2) := by decide +kernel
theorem dX6_pair_32 : decode cX6_pair 32 = .ok (.if_icmp .ge 30, 3) := by decide +kernel
theorem dX6_pair_35 : decode cX6_pair 35 = .ok (.aload_n 0, 1) := by decide +kernel
theorem dX6_pair_36 : decode cX6_pair 36 = .ok (.iload_n 1, 1) := by decide +kernel
theorem dX6_pair_37 : decode cX6_pair 37 = .ok (.iload 4, 2) := by decide +kernel
theorem dX6_pair_39 : decode cX6_pair 39 = .ok (.invokevirtual 103, 3) := by decide +kernel
theorem dX6_pair_42 : decode cX6_pair 42 = .ok (.ifCond .eq 14, 3) := by decide +kernel
theorem dX6_pair_45 : decode cX6_pair 45 = .ok (.iload_n 3, 1) := by decide +kernel
theorem dX6_pair_46 : decode cX6_pair 46 = .ok (.iload_n 2, 1) := by decide +kernel
theorem dX6_pair_47 : decode cX6_pair 47 = .ok (.if_icmp .ne 6, 3) := by decide +kernel
theorem dX6_pair_50 : decode cX6_pair 50 = .ok (.iload 4, 2) := by decide +kernel
theorem dX6_pair_52 : decode cX6_pair 52 = .ok (.ireturn, 1) := by decide +kernel
theorem dX6_pair_53 : decode cX6_pair 53 = .ok (.iinc 3 1, 3) := by decide +kernel
theorem dX6_pair_56 : decode cX6_pair 56 = .ok (.iinc 4 1, 3) := by decide +kernel
theorem dX6_pair_59 : decode cX6_pair 59 = .ok (.goto (-31), 3) := by decide +kernel
theorem dX6_pair_62 : decode cX6_pair 62 = .ok (.sipush (-1000), 3) := by decide +kernel
theorem dX6_pair_65 : decode cX6_pair 65 = .ok (.ireturn, 1) := by decide +kernel
theorem dX6_then_0 : decode cX6_then 0 = .ok (.aload_n 0, 1) := by decide +kernel
theorem dX6_then_1 : decode cX6_then 1 = .ok (.iconst 0, 1) := by decide +kernel
theorem dX6_then_2 : decode cX6_then 2 = .ok (.putfield 47, 3) := by decide +kernel
theorem dX6_then_5 : decode cX6_then 5 = .ok (.aload_n 0, 1) := by decide +kernel
theorem dX6_then_6 : decode cX6_then 6 = .ok (.iload_n 2, 1) := by decide +kernel
theorem dX6_then_7 : decode cX6_then 7 = .ok (.invokevirtual 72, 3) := by decide +kernel
theorem dX6_then_10 : decode cX6_then 10 = .ok (.ifCond .ne 25, 3) := by decide +kernel
theorem dX6_then_13 : decode cX6_then 13 = .ok (.aload_n 0, 1) := by decide +kernel
theorem dX6_then_14 : decode cX6_then 14 = .ok (.iload_n 3, 1) := by decide +kernel
theorem dX6_then_15 : decode cX6_then 15 = .ok (.invokevirtual 72, 3) := by decide +kernel
theorem dX6_then_18 : decode cX6_then 18 = .ok (.ifCond .ne 17, 3) := by decide +kernel
theorem dX6_then_21 : decode cX6_then 21 = .ok (.iload_n 1, 1) := by decide +kernel
theorem dX6_then_22 : decode cX6_then 22 = .ok (.i2l, 1) := by decide +kernel
theorem dX6_then_23 : decode cX6_then 23 = .ok (.lconst 0, 1) := by decide +kernel
theorem dX6_then_24 : decode cX6_then 24 = .ok (.aload_n 0, 1) := by decide +kernel
theorem dX6_then_25 : decode cX6_then 25 = .ok (.getfield 62, 3) := by decide +kernel
theorem dX6_then_28 : decode cX6_then 28 = .ok (.i2l, 1) := by decide +kernel
theorem dX6_then_29 : decode cX6_then 29 = .ok (.invokestatic 50, 3) := by decide +kernel
theorem dX6_then_32 : decode cX6_then 32 = .ok (.ifCond .ne 9, 3) := by decide +kernel
theorem dX6_then_35 : decode cX6_then 35 = .ok (.sipush (-1001), 3) := by decide +kernel
theorem dX6_then_38 : decode cX6_then 38 = .ok (.goto 19, 3) := by decide +kernel
theorem dX6_then_41 : decode cX6_then 41 = .ok (.aload_n 0, 1) := by decide +kernel
theorem dX6_then_42 : decode cX6_then 42 = .ok (.getfield 34, 3) := by decide +kernel
theorem dX6_then_45 : decode cX6_then 45 = .ok (.bipush 100, 2) := by decide +kernel
theorem dX6_then_47 : decode cX6_then 47 = .ok (.iload_n 1, 1) := by decide +kernel
theorem dX6_then_48 : decode cX6_then 48 = .ok (.imul, 1) := by decide +kernel
theorem dX6_then_49 : decode cX6_then 49 = .ok (.bipush 10, 2) := by decide +kernel
theorem dX6_then_51 : decode cX6_then 51 = .ok (.iload_n 2, 1) := by decide +kernel
theorem dX6_then_52 : decode cX6_then 52 = .ok (.imul, 1) := by decide +kernel
theorem dX6_then_53 : decode cX6_then 53 = .ok (.iadd, 1) := by decide +kernel
theorem dX6_then_54 : decode cX6_then 54 = .ok (.iload_n 3, 1) := by decide +kernel
theorem dX6_then_55 : decode cX6_then 55 = .ok (.iadd, 1) := by decide +kernel
theorem dX6_then_56 : decode cX6_then 56 = .ok (.iaload, 1) := by decide +kernel
theorem dX6_then_57 : decode cX6_then 57 = .ok (.ireturn, 1) := by decide +kernel
theorem dX6_since_0 : decode cX6_since 0 = .ok (.aload_n 0, 1) := by decide +kernel
theorem dX6_since_1 : decode cX6_since 1 = .ok (.iconst 0, 1) := by decide +kernel
theorem dX6_since_2 : decode cX6_since 2 = .ok (.putfield 47, 3) := by decide +kernel
theorem dX6_since_5 : decode cX6_since 5 = .ok (.aload_n 0, 1) := by decide +kernel
theorem dX6_since_6 : decode cX6_since 6 = .ok (.iload_n 2, 1) := by decide +kernel
theorem dX6_since_7 : decode cX6_since 7 = .ok (.invokevirtual 72, 3) := by decide +kernel
theorem dX6_since_10 : decode cX6_since 10 = .ok (.ifCond .ne 25, 3) := by decide +kernel
theorem dX6_since_13 : decode cX6_since 13 = .ok (.aload_n 0, 1) := by decide +kernel
theorem dX6_since_14 : decode cX6_since 14 = .ok (.iload_n 3, 1) := by decide +kernel
theorem dX6_since_15 : decode cX6_since 15 = .ok (.invokevirtual 72, 3) := by decide +kernel
theorem dX6_since_18 : decode cX6_since 18 = .ok (.ifCond .ne 17, 3) := by decide +kernel
theorem dX6_since_21 : decode cX6_since 21 = .ok (.iload_n 1, 1) := by decide +kernel
theorem dX6_since_22 : decode cX6_since 22 = .ok (.i2l, 1) := by decide +kernel
theorem dX6_since_23 : decode cX6_since 23 = .ok (.lconst 1, 1) := by decide +kernel
theorem dX6_since_24 : decode cX6_since 24 = .ok (.aload_n 0, 1) := by decide +kernel
theorem dX6_since_25 : decode cX6_since 25 = .ok (.getfield 62, 3) := by decide +kernel
theorem dX6_since_28 : decode cX6_since 28 = .ok (.i2l, 1) := by decide +kernel
theorem dX6_since_29 : decode cX6_since 29 = .ok (.invokestatic 50, 3) := by decide +kernel
theorem dX6_since_32 : decode cX6_since 32 = .ok (.ifCond .ne 7, 3) := by decide +kernel
theorem dX6_since_35 : decode cX6_since 35 = .ok (.sipush (-1001), 3) := by decide +kernel
theorem dX6_since_38 : decode cX6_since 38 = .ok (.ireturn, 1) := by decide +kernel
theorem dX6_since_39 : decode cX6_since 39 = .ok (.iload 4, 2) := by decide +kernel
theorem dX6_since_41 : decode cX6_since 41 = .ok (.i2l, 1) := by decide +kernel
theorem dX6_since_42 : decode cX6_since 42 = .ok (.ldc2_w 106, 3) := by decide +kernel
theorem dX6_since_45 : decode cX6_since 45 = .ok (.ldc2_w 108, 3) := by decide +kernel
theorem dX6_since_48 : decode cX6_since 48 = .ok (.invokestatic 50, 3) := by decide +kernel
theorem dX6_since_51 : decode cX6_since 51 = .ok (.ifCond .ne 7, 3) := by decide +kernel
theorem dX6_since_54 : decode cX6_since 54 = .ok (.sipush (-1002), 3) := by decide +kernel
theorem dX6_since_57 : decode cX6_since 57 = .ok (.ireturn, 1) := by decide +kernel
theorem dX6_since_58 : decode cX6_since 58 = .ok (.iload_n 1, 1) := by decide +kernel
theorem dX6_since_59 : decode cX6_since 59 = .ok (.istore 5, 2) := by decide +kernel
theorem dX6_since_61 : decode cX6_since 61 = .ok (.iload 5, 2) := by decide +kernel
theorem dX6_since_63 : decode cX6_since 63 = .ok (.aload_n 0, 1) := by decide +kernel
theorem dX6_since_64 : decode cX6_since 64 = .ok (.getfield 62, 3) := by decide +kernel
theorem dX6_since_67 : decode cX6_since 67 = .ok (.if_icmp .gt 46, 3) := by decide +kernel
theorem dX6_since_70 : decode cX6_since 70 = .ok (.aload_n 0, 1) := by decide +kernel
theorem dX6_since_71 : decode cX6_since 71 = .ok (.getfield 34, 3) := by decide +kernel
theorem dX6_since_74 : decode cX6_since 74 = .ok (.bipush 100, 2) := by decide +kernel
theorem dX6_since_76 : decode cX6_since 76 = .ok (.iload 5, 2) := by decide +kernel
theorem dX6_since_78 : decode cX6_since 78 = .ok (.imul, 1) := by decide +kernel
theorem dX6_since_79 : decode cX6_since 79 = .ok (.bipush 10, 2) := by decide +kernel
theorem dX6_since_81 : decode cX6_since 81 = .ok (.iload_n 2, 1) := by decide +kernel
theorem dX6_since_82 : decode cX6_since 82 = .ok (.imul, 1) := by decide +kernel
theorem dX6_since_83 : decode cX6_since 83 = .ok (.iadd, 1) := by decide +kernel
theorem dX6_since_84 : decode cX6_since 84 = .ok (.iload_n 3, 1) := by decide +kernel
theorem dX6_since_85 : decode cX6_since 85 = .ok (.iadd, 1) := by decide +kernel
theorem dX6_since_86 : decode cX6_since 86 = .ok (.iaload, 1) := by decide +kernel
theorem dX6_since_87 : decode cX6_since 87 = .ok (.istore 6, 2) := by decide +kernel
theorem dX6_since_89 : decode cX6_since 89 = .ok (.iload 6, 2) := by decide +kernel
theorem dX6_since_91 : decode cX6_since 91 = .ok (.sipush (-1000), 3) := by decide +kernel
theorem dX6_since_94 : decode cX6_since 94 = .ok (.if_icmp .eq 13, 3) := by decide +kernel
theorem dX6_since_97 : decode cX6_since 97 = .ok (.iload 6, 2) := by decide +kernel
theorem dX6_since_99 : decode cX6_since 99 = .ok (.iload 4, 2) := by decide +kernel
theorem dX6_since_101 : decode cX6_since 101 = .ok (.if_icmp .gt 6, 3) := by decide +kernel
theorem dX6_since_104 : decode cX6_since 104 = .ok (.iload 5, 2) := by decide +kernel
theorem dX6_since_106 : decode cX6_since 106 = .ok (.ireturn, 1) := by decide +kernel
theorem dX6_since_107 : decode cX6_since 107 = .ok (.iinc 5 1, 3) := by decide +kernel
theorem dX6_since_110 : decode cX6_since 110 = .ok (.goto (-49), 3) := by decide +kernel
theorem dX6_since_113 : decode cX6_since 113 = .ok (.sipush (-1000), 3) := by decide +kernel
theorem dX6_since_116 : decode cX6_since 116 = .ok (.ireturn, 1) := by decide +kernel
theorem dX6_marks_0 : decode cX6_marks 0 = .ok (.aload_n 0, 1) := by decide +kernel
theorem dX6_marks_1 : decode cX6_marks 1 = .ok (.iconst 0, 1) := by decide +kernel
theorem dX6_marks_2 : decode cX6_marks 2 = .ok (.putfield 47, 3) := by decide +kernel
theorem dX6_marks_5 : decode cX6_marks 5 = .ok (.iload_n 1, 1) := by decide +kernel
theorem dX6_marks_6 : decode cX6_marks 6 = .ok (.ifCond .lt 12, 3) := by decide +kernel
theorem dX6_marks_9 : decode cX6_marks 9 = .ok (.iload_n 1, 1) := by decide +kernel
theorem dX6_marks_10 : decode cX6_marks 10 = .ok (.aload_n 0, 1) := by decide +kernel
theorem dX6_marks_11 : decode cX6_marks 11 = .ok (.getfield 7, 3) := by decide +kernel
theorem dX6_marks_14 : decode cX6_marks 14 = .ok (.ishr, 1) := by decide +kernel
theorem dX6_marks_15 : decode cX6_marks 15 = .ok (.ifCond .eq 7, 3) := by decide +kernel
theorem dX6_marks_18 : decode cX6_marks 18 = .ok (.sipush (-1002), 3) := by decide +kernel
theorem dX6_marks_21 : decode cX6_marks 21 = .ok (.ireturn, 1) := by decide +kernel
theorem dX6_marks_22 : decode cX6_marks 22 = .ok (.aload_n 0, 1) := by decide +kernel
theorem dX6_marks_23 : decode cX6_marks 23 = .ok (.getfield 69, 3) := by decide +kernel
theorem dX6_marks_26 : decode cX6_marks 26 = .ok (.istore_n 2, 1) := by decide +kernel
theorem dX6_marks_27 : decode cX6_marks 27 = .ok (.aload_n 0, 1) := by decide +kernel
theorem dX6_marks_28 : decode cX6_marks 28 = .ok (.iload_n 1, 1) := by decide +kernel
theorem dX6_marks_29 : decode cX6_marks 29 = .ok (.putfield 69, 3) := by decide +kernel
theorem dX6_marks_32 : decode cX6_marks 32 = .ok (.iload_n 2, 1) := by decide +kernel
theorem dX6_marks_33 : decode cX6_marks 33 = .ok (.ireturn, 1) := by decide +kernel
theorem dX6_nearOf_0 : decode cX6_nearOf 0 = .ok (.sipush (-1000), 3) := by decide +kernel
theorem dX6_nearOf_3 : decode cX6_nearOf 3 = .ok (.istore_n 3, 1) := by decide +kernel
theorem dX6_nearOf_4 : decode cX6_nearOf 4 = .ok (.iconst 0, 1) := by decide +kernel
theorem dX6_nearOf_5 : decode cX6_nearOf 5 = .ok (.istore 4, 2) := by decide +kernel
theorem dX6_nearOf_7 : decode cX6_nearOf 7 = .ok (.iload 4, 2) := by decide +kernel
theorem dX6_nearOf_9 : decode cX6_nearOf 9 = .ok (.aload_n 0, 1) := by decide +kernel
theorem dX6_nearOf_10 : decode cX6_nearOf 10 = .ok (.getfield 7, 3) := by decide +kernel
theorem dX6_nearOf_13 : decode cX6_nearOf 13 = .ok (.if_icmp .ge 85, 3) := by decide +kernel
theorem dX6_nearOf_16 : decode cX6_nearOf 16 = .ok (.aload_n 0, 1) := by decide +kernel
theorem dX6_nearOf_17 : decode cX6_nearOf 17 = .ok (.getfield 69, 3) := by decide +kernel
theorem dX6_nearOf_20 : decode cX6_nearOf 20 = .ok (.iload 4, 2) := by decide +kernel
theorem dX6_nearOf_22 : decode cX6_nearOf 22 = .ok (.ishr, 1) := by decide +kernel
theorem dX6_nearOf_23 : decode cX6_nearOf 23 = .ok (.iconst 1, 1) := by decide +kernel
theorem dX6_nearOf_24 : decode cX6_nearOf 24 = .ok (.iand, 1) := by decide +kernel
theorem dX6_nearOf_25 : decode cX6_nearOf 25 = .ok (.iconst 1, 1) := by decide +kernel
theorem dX6_nearOf_26 : decode cX6_nearOf 26 = .ok (.if_icmp .ne 66, 3) := by decide +kernel
