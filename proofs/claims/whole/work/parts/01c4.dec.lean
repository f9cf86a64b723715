theorem dX5_told_145 : decode cX5_told 145 = .ok (.baload, 1) := by decide +kernel
theorem dX5_told_146 : decode cX5_told 146 = .ok (.ifCond .ne 9, 3) := by decide +kernel
theorem dX5_told_149 : decode cX5_told 149 = .ok (.sipush (-1000), 3) := by decide +kernel
theorem dX5_told_152 : decode cX5_told 152 = .ok (.goto 29, 3) := by decide +kernel
theorem dX5_told_155 : decode cX5_told 155 = .ok (.aload_n 0, 1) := by decide +kernel
theorem dX5_told_156 : decode cX5_told 156 = .ok (.getfield 20, 3) := by decide +kernel
theorem dX5_told_159 : decode cX5_told 159 = .ok (.iload_n 1, 1) := by decide +kernel
theorem dX5_told_160 : decode cX5_told 160 = .ok (.iaload, 1) := by decide +kernel
theorem dX5_told_161 : decode cX5_told 161 = .ok (.aload_n 0, 1) := by decide +kernel
theorem dX5_told_162 : decode cX5_told 162 = .ok (.getfield 23, 3) := by decide +kernel
theorem dX5_told_165 : decode cX5_told 165 = .ok (.iload_n 1, 1) := by decide +kernel
theorem dX5_told_166 : decode cX5_told 166 = .ok (.baload, 1) := by decide +kernel
theorem dX5_told_167 : decode cX5_told 167 = .ok (.ifCond .eq 12, 3) := by decide +kernel
theorem dX5_told_170 : decode cX5_told 170 = .ok (.iload_n 3, 1) := by decide +kernel
theorem dX5_told_171 : decode cX5_told 171 = .ok (.ifCond .le 8, 3) := by decide +kernel
theorem dX5_told_174 : decode cX5_told 174 = .ok (.iload_n 3, 1) := by decide +kernel
theorem dX5_told_175 : decode cX5_told 175 = .ok (.ineg, 1) := by decide +kernel
theorem dX5_told_176 : decode cX5_told 176 = .ok (.goto 4, 3) := by decide +kernel
theorem dX5_told_179 : decode cX5_told 179 = .ok (.iload_n 3, 1) := by decide +kernel
theorem dX5_told_180 : decode cX5_told 180 = .ok (.iadd, 1) := by decide +kernel
theorem dX5_told_181 : decode cX5_told 181 = .ok (.ireturn, 1) := by decide +kernel
theorem dX5_told_182 : decode cX5_told 182 = .ok (.sipush (-1002), 3) := by decide +kernel
theorem dX5_told_185 : decode cX5_told 185 = .ok (.ireturn, 1) := by decide +kernel
theorem dX5_far_0 : decode cX5_far 0 = .ok (.aload_n 0, 1) := by decide +kernel
theorem dX5_far_1 : decode cX5_far 1 = .ok (.iconst 0, 1) := by decide +kernel
theorem dX5_far_2 : decode cX5_far 2 = .ok (.putfield 47, 3) := by decide +kernel
theorem dX5_far_5 : decode cX5_far 5 = .ok (.aload_n 0, 1) := by decide +kernel
theorem dX5_far_6 : decode cX5_far 6 = .ok (.iload_n 1, 1) := by decide +kernel
theorem dX5_far_7 : decode cX5_far 7 = .ok (.invokevirtual 72, 3) := by decide +kernel
theorem dX5_far_10 : decode cX5_far 10 = .ok (.ifCond .ne 11, 3) := by decide +kernel
theorem dX5_far_13 : decode cX5_far 13 = .ok (.aload_n 0, 1) := by decide +kernel
theorem dX5_far_14 : decode cX5_far 14 = .ok (.iload_n 2, 1) := by decide +kernel
theorem dX5_far_15 : decode cX5_far 15 = .ok (.invokevirtual 72, 3) := by decide +kernel
theorem dX5_far_18 : decode cX5_far 18 = .ok (.ifCond .eq 7, 3) := by decide +kernel
theorem dX5_far_21 : decode cX5_far 21 = .ok (.sipush (-1001), 3) := by decide +kernel
theorem dX5_far_24 : decode cX5_far 24 = .ok (.ireturn, 1) := by decide +kernel
theorem dX5_far_25 : decode cX5_far 25 = .ok (.aload_n 0, 1) := by decide +kernel
theorem dX5_far_26 : decode cX5_far 26 = .ok (.sipush (-1000), 3) := by decide +kernel
theorem dX5_far_29 : decode cX5_far 29 = .ok (.sipush (-1000), 3) := by decide +kernel
theorem dX5_far_32 : decode cX5_far 32 = .ok (.invokevirtual 40, 3) := by decide +kernel
theorem dX5_far_35 : decode cX5_far 35 = .ok (.pop, 1) := by decide +kernel
theorem dX5_far_36 : decode cX5_far 36 = .ok (.aload_n 0, 1) := by decide +kernel
theorem dX5_far_37 : decode cX5_far 37 = .ok (.iload_n 1, 1) := by decide +kernel
theorem dX5_far_38 : decode cX5_far 38 = .ok (.iload_n 2, 1) := by decide +kernel
theorem dX5_far_39 : decode cX5_far 39 = .ok (.invokevirtual 80, 3) := by decide +kernel
theorem dX5_far_42 : decode cX5_far 42 = .ok (.ireturn, 1) := by decide +kernel
theorem dX5_steps_0 : decode cX5_steps 0 = .ok (.aload_n 0, 1) := by decide +kernel
theorem dX5_steps_1 : decode cX5_steps 1 = .ok (.iconst 0, 1) := by decide +kernel
theorem dX5_steps_2 : decode cX5_steps 2 = .ok (.putfield 47, 3) := by decide +kernel
theorem dX5_steps_5 : decode cX5_steps 5 = .ok (.aload_n 0, 1) := by decide +kernel
theorem dX5_steps_6 : decode cX5_steps 6 = .ok (.iload_n 1, 1) := by decide +kernel
theorem dX5_steps_7 : decode cX5_steps 7 = .ok (.invokevirtual 72, 3) := by decide +kernel
theorem dX5_steps_10 : decode cX5_steps 10 = .ok (.ifCond .ne 11, 3) := by decide +kernel
theorem dX5_steps_13 : decode cX5_steps 13 = .ok (.aload_n 0, 1) := by decide +kernel
theorem dX5_steps_14 : decode cX5_steps 14 = .ok (.iload_n 2, 1) := by decide +kernel
theorem dX5_steps_15 : decode cX5_steps 15 = .ok (.invokevirtual 72, 3) := by decide +kernel
theorem dX5_steps_18 : decode cX5_steps 18 = .ok (.ifCond .eq 7, 3) := by decide +kernel
theorem dX5_steps_21 : decode cX5_steps 21 = .ok (.sipush (-1001), 3) := by decide +kernel
theorem dX5_steps_24 : decode cX5_steps 24 = .ok (.ireturn, 1) := by decide +kernel
theorem dX5_steps_25 : decode cX5_steps 25 = .ok (.aload_n 0, 1) := by decide +kernel
theorem dX5_steps_26 : decode cX5_steps 26 = .ok (.sipush (-1000), 3) := by decide +kernel
theorem dX5_steps_29 : decode cX5_steps 29 = .ok (.sipush (-1000), 3) := by decide +kernel
theorem dX5_steps_32 : decode cX5_steps 32 = .ok (.invokevirtual 40, 3) := by decide +kernel
theorem dX5_steps_35 : decode cX5_steps 35 = .ok (.pop, 1) := by decide +kernel
theorem dX5_steps_36 : decode cX5_steps 36 = .ok (.aload_n 0, 1) := by decide +kernel
theorem dX5_steps_37 : decode cX5_steps 37 = .ok (.getfield 30, 3) := by decide +kernel
theorem dX5_steps_40 : decode cX5_steps 40 = .ok (.bipush 10, 2) := by decide +kernel
theorem dX5_steps_42 : decode cX5_steps 42 = .ok (.iload_n 1, 1) := by decide +kernel
theorem dX5_steps_43 : decode cX5_steps 43 = .ok (.imul, 1) := by decide +kernel
theorem dX5_steps_44 : decode cX5_steps 44 = .ok (.iload_n 2, 1) := by decide +kernel
theorem dX5_steps_45 : decode cX5_steps 45 = .ok (.iadd, 1) := by decide +kernel
theorem dX5_steps_46 : decode cX5_steps 46 = .ok (.iaload, 1) := by decide +kernel
theorem dX5_steps_47 : decode cX5_steps 47 = .ok (.istore_n 3, 1) := by decide +kernel
theorem dX5_steps_48 : decode cX5_steps 48 = .ok (.iload_n 3, 1) := by decide +kernel
theorem dX5_steps_49 : decode cX5_steps 49 = .ok (.ldc 57, 2) := by decide +kernel
theorem dX5_steps_51 : decode cX5_steps 51 = .ok (.if_icmp .lt 9, 3) := by decide +kernel
theorem dX5_steps_54 : decode cX5_steps 54 = .ok (.sipush (-1000), 3) := by decide +kernel
theorem dX5_steps_57 : decode cX5_steps 57 = .ok (.goto 12, 3) := by decide +kernel
theorem dX5_steps_60 : decode cX5_steps 60 = .ok (.iload_n 3, 1) := by decide +kernel
theorem dX5_steps_61 : decode cX5_steps 61 = .ok (.bipush 64, 2) := by decide +kernel
theorem dX5_steps_63 : decode cX5_steps 63 = .ok (.iload_n 3, 1) := by decide +kernel
theorem dX5_steps_64 : decode cX5_steps 64 = .ok (.invokestatic 58, 3) := by decide +kernel
theorem dX5_steps_67 : decode cX5_steps 67 = .ok (.imul, 1) := by decide +kernel
theorem dX5_steps_68 : decode cX5_steps 68 = .ok (.isub, 1) := by decide +kernel
theorem dX5_steps_69 : decode cX5_steps 69 = .ok (.ireturn, 1) := by decide +kernel
theorem dX5_nextOf_0 : decode cX5_nextOf 0 = .ok (.iconst 0, 1) := by decide +kernel
theorem dX5_nextOf_1 : decode cX5_nextOf 1 = .ok (.istore_n 3, 1) := by decide +kernel
theorem dX5_nextOf_2 : decode cX5_nextOf 2 = .ok (.iload_n 3, 1) := by decide +kernel
theorem dX5_nextOf_3 : decode cX5_nextOf 3 = .ok (.aload_n 0, 1) := by decide +kernel
theorem dX5_nextOf_4 : decode cX5_nextOf 4 = .ok (.getfield 54, 3) := by decide +kernel
theorem dX5_nextOf_7 : decode cX5_nextOf 7 = .ok (.if_icmp .ge 135, 3) := by decide +kernel
theorem dX5_nextOf_10 : decode cX5_nextOf 10 = .ok (.aload_n 0, 1) := by decide +kernel
theorem dX5_nextOf_11 : decode cX5_nextOf 11 = .ok (.getfield 13, 3) := by decide +kernel
theorem dX5_nextOf_14 : decode cX5_nextOf 14 = .ok (.iload_n 3, 1) := by decide +kernel
theorem dX5_nextOf_15 : decode cX5_nextOf 15 = .ok (.iaload, 1) := by decide +kernel
theorem dX5_nextOf_16 : decode cX5_nextOf 16 = .ok (.iload_n 1, 1) := by decide +kernel
theorem dX5_nextOf_17 : decode cX5_nextOf 17 = .ok (.if_icmp .ne 12, 3) := by decide +kernel
theorem dX5_nextOf_20 : decode cX5_nextOf 20 = .ok (.aload_n 0, 1) := by decide +kernel
theorem dX5_nextOf_21 : decode cX5_nextOf 21 = .ok (.getfield 17, 3) := by decide +kernel
theorem dX5_nextOf_24 : decode cX5_nextOf 24 = .ok (.iload_n 3, 1) := by decide +kernel
theorem dX5_nextOf_25 : decode cX5_nextOf 25 = .ok (.iaload, 1) := by decide +kernel
theorem dX5_nextOf_26 : decode cX5_nextOf 26 = .ok (.goto 34, 3) := by decide +kernel
theorem dX5_nextOf_29 : decode cX5_nextOf 29 = .ok (.aload_n 0, 1) := by decide +kernel
theorem dX5_nextOf_30 : decode cX5_nextOf 30 = .ok (.getfield 23, 3) := by decide +kernel
theorem dX5_nextOf_33 : decode cX5_nextOf 33 = .ok (.iload_n 3, 1) := by decide +kernel
theorem dX5_nextOf_34 : decode cX5_nextOf 34 = .ok (.baload, 1) := by decide +kernel
theorem dX5_nextOf_35 : decode cX5_nextOf 35 = .ok (.ifCond .eq 22, 3) := by decide +kernel
theorem dX5_nextOf_38 : decode cX5_nextOf 38 = .ok (.aload_n 0, 1) := by decide +kernel
theorem dX5_nextOf_39 : decode cX5_nextOf 39 = .ok (.getfield 17, 3) := by decide +kernel
theorem dX5_nextOf_42 : decode cX5_nextOf 42 = .ok (.iload_n 3, 1) := by decide +kernel
theorem dX5_nextOf_43 : decode cX5_nextOf 43 = .ok (.iaload, 1) := by decide +kernel
theorem dX5_nextOf_44 : decode cX5_nextOf 44 = .ok (.iload_n 1, 1) := by decide +kernel
theorem dX5_nextOf_45 : decode cX5_nextOf 45 = .ok (.if_icmp .ne 12, 3) := by decide +kernel
theorem dX5_nextOf_48 : decode cX5_nextOf 48 = .ok (.aload_n 0, 1) := by decide +kernel
theorem dX5_nextOf_49 : decode cX5_nextOf 49 = .ok (.getfield 13, 3) := by decide +kernel
theorem dX5_nextOf_52 : decode cX5_nextOf 52 = .ok (.iload_n 3, 1) := by decide +kernel
theorem dX5_nextOf_53 : decode cX5_nextOf 53 = .ok (.iaload, 1) := by decide +kernel
theorem dX5_nextOf_54 : decode cX5_nextOf 54 = .ok (.goto 6, 3) := by decide +kernel
theorem dX5_nextOf_57 : decode cX5_nextOf 57 = .ok (.sipush (-1000), 3) := by decide +kernel
theorem dX5_nextOf_60 : decode cX5_nextOf 60 = .ok (.istore 4, 2) := by decide +kernel
theorem dX5_nextOf_62 : decode cX5_nextOf 62 = .ok (.aload_n 0, 1) := by decide +kernel
theorem dX5_nextOf_63 : decode cX5_nextOf 63 = .ok (.getfield 27, 3) := by decide +kernel
theorem dX5_nextOf_66 : decode cX5_nextOf 66 = .ok (.iload_n 3, 1) := by decide +kernel
theorem dX5_nextOf_67 : decode cX5_nextOf 67 = .ok (.baload, 1) := by decide +kernel
theorem dX5_nextOf_68 : decode cX5_nextOf 68 = .ok (.ifCond .eq 68, 3) := by decide +kernel
theorem dX5_nextOf_71 : decode cX5_nextOf 71 = .ok (.iload 4, 2) := by decide +kernel
theorem dX5_nextOf_73 : decode cX5_nextOf 73 = .ok (.sipush (-1000), 3) := by decide +kernel
theorem dX5_nextOf_76 : decode cX5_nextOf 76 = .ok (.if_icmp .eq 60, 3) := by decide +kernel
theorem dX5_nextOf_79 : decode cX5_nextOf 79 = .ok (.aload_n 0, 1) := by decide +kernel
theorem dX5_nextOf_80 : decode cX5_nextOf 80 = .ok (.getfield 30, 3) := by decide +kernel
theorem dX5_nextOf_83 : decode cX5_nextOf 83 = .ok (.bipush 10, 2) := by decide +kernel
theorem dX5_nextOf_85 : decode cX5_nextOf 85 = .ok (.iload 4, 2) := by decide +kernel
theorem dX5_nextOf_87 : decode cX5_nextOf 87 = .ok (.imul, 1) := by decide +kernel
theorem dX5_nextOf_88 : decode cX5_nextOf 88 = .ok (.iload_n 2, 1) := by decide +kernel
theorem dX5_nextOf_89 : decode cX5_nextOf 89 = .ok (.iadd, 1) := by decide +kernel
theorem dX5_nextOf_90 : decode cX5_nextOf 90 = .ok (.iaload, 1) := by decide +kernel
theorem dX5_nextOf_91 : decode cX5_nextOf 91 = .ok (.ldc 57, 2) := by decide +kernel
theorem dX5_nextOf_93 : decode cX5_nextOf 93 = .ok (.if_icmp .ge 43, 3) := by decide +kernel
theorem dX5_nextOf_96 : decode cX5_nextOf 96 = .ok (.bipush 64, 2) := by decide +kernel
theorem dX5_nextOf_98 : decode cX5_nextOf 98 = .ok (.aload_n 0, 1) := by decide +kernel
theorem dX5_nextOf_99 : decode cX5_nextOf 99 = .ok (.getfield 20, 3) := by decide +kernel
theorem dX5_nextOf_102 : decode cX5_nextOf 102 = .ok (.iload_n 3, 1) := by decide +kernel
theorem dX5_nextOf_103 : decode cX5_nextOf 103 = .ok (.iaload, 1) := by decide +kernel
theorem dX5_nextOf_104 : decode cX5_nextOf 104 = .ok (.imul, 1) := by decide +kernel
theorem dX5_nextOf_105 : decode cX5_nextOf 105 = .ok (.iconst 1, 1) := by decide +kernel
theorem dX5_nextOf_106 : decode cX5_nextOf 106 = .ok (.iadd, 1) := by decide +kernel
theorem dX5_nextOf_107 : decode cX5_nextOf 107 = .ok (.aload_n 0, 1) := by decide +kernel
theorem dX5_nextOf_108 : decode cX5_nextOf 108 = .ok (.getfield 30, 3) := by decide +kernel
theorem dX5_nextOf_111 : decode cX5_nextOf 111 = .ok (.bipush 10, 2) := by decide +kernel
theorem dX5_nextOf_113 : decode cX5_nextOf 113 = .ok (.iload 4, 2) := by decide +kernel
theorem dX5_nextOf_115 : decode cX5_nextOf 115 = .ok (.imul, 1) := by decide +kernel
theorem dX5_nextOf_116 : decode cX5_nextOf 116 = .ok (.iload_n 2, 1) := by decide +kernel
theorem dX5_nextOf_117 : decode cX5_nextOf 117 = .ok (.iadd, 1) := by decide +kernel
theorem dX5_nextOf_118 : decode cX5_nextOf 118 = .ok (.iaload, 1) := by decide +kernel
theorem dX5_nextOf_119 : decode cX5_nextOf 119 = .ok (.iadd, 1) := by decide +kernel
theorem dX5_nextOf_120 : decode cX5_nextOf 120 = .ok (.aload_n 0, 1) := by decide +kernel
theorem dX5_nextOf_121 : decode cX5_nextOf 121 = .ok (.getfield 30, 3) := by decide +kernel
theorem dX5_nextOf_124 : decode cX5_nextOf 124 = .ok (.bipush 10, 2) := by decide +kernel
theorem dX5_nextOf_126 : decode cX5_nextOf 126 = .ok (.iload_n 1, 1) := by decide +kernel
theorem dX5_nextOf_127 : decode cX5_nextOf 127 = .ok (.imul, 1) := by decide +kernel
theorem dX5_nextOf_128 : decode cX5_nextOf 128 = .ok (.iload_n 2, 1) := by decide +kernel
theorem dX5_nextOf_129 : decode cX5_nextOf 129 = .ok (.iadd, 1) := by decide +kernel
theorem dX5_nextOf_130 : decode cX5_nextOf 130 = .ok (.iaload, 1) := by decide +kernel
theorem dX5_nextOf_131 : decode cX5_nextOf 131 = .ok (.if_icmp .ne 5, 3) := by decide +kernel
theorem dX5_nextOf_134 : decode cX5_nextOf 134 = .ok (.iload_n 3, 1) := by decide +kernel
theorem dX5_nextOf_135 : decode cX5_nextOf 135 = .ok (.ireturn, 1) := by decide +kernel
theorem dX5_nextOf_136 : decode cX5_nextOf 136 = .ok (.iinc 3 1, 3) := by decide +kernel
theorem dX5_nextOf_139 : decode cX5_nextOf 139 = .ok (.goto (-137), 3) := by decide +kernel
theorem dX5_nextOf_142 : decode cX5_nextOf 142 = .ok (.sipush (-1000), 3) := by decide +kernel
theorem dX5_nextOf_145 : decode cX5_nextOf 145 = .ok (.ireturn, 1) := by decide +kernel
theorem dX5_other_0 : decode cX5_other 0 = .ok (.aload_n 0, 1) := by decide +kernel
theorem dX5_other_1 : decode cX5_other 1 = .ok (.getfield 13, 3) := by decide +kernel
theorem dX5_other_4 : decode cX5_other 4 = .ok (.iload_n 1, 1) := by decide +kernel
theorem dX5_other_5 : decode cX5_other 5 = .ok (.iaload, 1) := by decide +kernel
theorem dX5_other_6 : decode cX5_other 6 = .ok (.iload_n 2, 1) := by decide +kernel
theorem dX5_other_7 : decode cX5_other 7 = .ok (.if_icmp .ne 12, 3) := by decide +kernel
theorem dX5_other_10 : decode cX5_other 10 = .ok (.aload_n 0, 1) := by decide +kernel
theorem dX5_other_11 : decode cX5_other 11 = .ok (.getfield 17, 3) := by decide +kernel
theorem dX5_other_14 : decode cX5_other 14 = .ok (.iload_n 1, 1) := by decide +kernel
theorem dX5_other_15 : decode cX5_other 15 = .ok (.iaload, 1) := by decide +kernel
theorem dX5_other_16 : decode cX5_other 16 = .ok (.goto 9, 3) := by decide +kernel
theorem dX5_other_19 : decode cX5_other 19 = .ok (.aload_n 0, 1) := by decide +kernel
theorem dX5_other_20 : decode cX5_other 20 = .ok (.getfield 13, 3) := by decide +kernel
theorem dX5_other_23 : decode cX5_other 23 = .ok (.iload_n 1, 1) := by decide +kernel
theorem dX5_other_24 : decode cX5_other 24 = .ok (.iaload, 1) := by decide +kernel
theorem dX5_other_25 : decode cX5_other 25 = .ok (.ireturn, 1) := by decide +kernel
theorem dX5_way_0 : decode cX5_way 0 = .ok (.aload_n 0, 1) := by decide +kernel
theorem dX5_way_1 : decode cX5_way 1 = .ok (.iconst 0, 1) := by decide +kernel
theorem dX5_way_2 : decode cX5_way 2 = .ok (.putfield 47, 3) := by decide +kernel
theorem dX5_way_5 : decode cX5_way 5 = .ok (.aload_n 0, 1) := by decide +kernel
theorem dX5_way_6 : decode cX5_way 6 = .ok (.iload_n 1, 1) := by decide +kernel
theorem dX5_way_7 : decode cX5_way 7 = .ok (.invokevirtual 72, 3) := by decide +kernel
theorem dX5_way_10 : decode cX5_way 10 = .ok (.ifCond .ne 11, 3) := by decide +kernel
theorem dX5_way_13 : decode cX5_way 13 = .ok (.aload_n 0, 1) := by decide +kernel
theorem dX5_way_14 : decode cX5_way 14 = .ok (.iload_n 2, 1) := by decide +kernel
theorem dX5_way_15 : decode cX5_way 15 = .ok (.invokevirtual 72, 3) := by decide +kernel
theorem dX5_way_18 : decode cX5_way 18 = .ok (.ifCond .eq 7, 3) := by decide +kernel
theorem dX5_way_21 : decode cX5_way 21 = .ok (.sipush (-1001), 3) := by decide +kernel
theorem dX5_way_24 : decode cX5_way 24 = .ok (.ireturn, 1) := by decide +kernel
theorem dX5_way_25 : decode cX5_way 25 = .ok (.aload_n 0, 1) := by decide +kernel
theorem dX5_way_26 : decode cX5_way 26 = .ok (.sipush (-1000), 3) := by decide +kernel
theorem dX5_way_29 : decode cX5_way 29 = .ok (.sipush (-1000), 3) := by decide +kernel
theorem dX5_way_32 : decode cX5_way 32 = .ok (.invokevirtual 40, 3) := by decide +kernel
theorem dX5_way_35 : decode cX5_way 35 = .ok (.pop, 1) := by decide +kernel
theorem dX5_way_36 : decode cX5_way 36 = .ok (.aload_n 0, 1) := by decide +kernel
theorem dX5_way_37 : decode cX5_way 37 = .ok (.getfield 30, 3) := by decide +kernel
theorem dX5_way_40 : decode cX5_way 40 = .ok (.bipush 10, 2) := by decide +kernel
theorem dX5_way_42 : decode cX5_way 42 = .ok (.iload_n 1, 1) := by decide +kernel
theorem dX5_way_43 : decode cX5_way 43 = .ok (.imul, 1) := by decide +kernel
theorem dX5_way_44 : decode cX5_way 44 = .ok (.iload_n 2, 1) := by decide +kernel
theorem dX5_way_45 : decode cX5_way 45 = .ok (.iadd, 1) := by decide +kernel
theorem dX5_way_46 : decode cX5_way 46 = .ok (.iaload, 1) := by decide +kernel
theorem dX5_way_47 : decode cX5_way 47 = .ok (.istore 4, 2) := by decide +kernel
theorem dX5_way_49 : decode cX5_way 49 = .ok (.iload 4, 2) := by decide +kernel
theorem dX5_way_51 : decode cX5_way 51 = .ok (.ldc 57, 2) := by decide +kernel
theorem dX5_way_53 : decode cX5_way 53 = .ok (.if_icmp .ge 26, 3) := by decide +kernel
theorem dX5_way_56 : decode cX5_way 56 = .ok (.iload_n 3, 1) := by decide +kernel
theorem dX5_way_57 : decode cX5_way 57 = .ok (.i2l, 1) := by decide +kernel
theorem dX5_way_58 : decode cX5_way 58 = .ok (.lconst 0, 1) := by decide +kernel
theorem dX5_way_59 : decode cX5_way 59 = .ok (.iload 4, 2) := by decide +kernel
theorem dX5_way_61 : decode cX5_way 61 = .ok (.bipush 64, 2) := by decide +kernel
theorem dX5_way_63 : decode cX5_way 63 = .ok (.iload 4, 2) := by decide +kernel
theorem dX5_way_65 : decode cX5_way 65 = .ok (.invokestatic 58, 3) := by decide +kernel
theorem dX5_way_68 : decode cX5_way 68 = .ok (.imul, 1) := by decide +kernel
theorem dX5_way_69 : decode cX5_way 69 = .ok (.isub, 1) := by decide +kernel
theorem dX5_way_70 : decode cX5_way 70 = .ok (.iconst 1, 1) := by decide +kernel
theorem dX5_way_71 : decode cX5_way 71 = .ok (.isub, 1) := by decide +kernel
theorem dX5_way_72 : decode cX5_way 72 = .ok (.i2l, 1) := by decide +kernel
theorem dX5_way_73 : decode cX5_way 73 = .ok (.invokestatic 50, 3) := by decide +kernel
theorem dX5_way_76 : decode cX5_way 76 = .ok (.ifCond .ne 7, 3) := by decide +kernel
theorem dX5_way_79 : decode cX5_way 79 = .ok (.sipush (-1000), 3) := by decide +kernel
theorem dX5_way_82 : decode cX5_way 82 = .ok (.ireturn, 1) := by decide +kernel
theorem dX5_way_83 : decode cX5_way 83 = .ok (.iload_n 1, 1) := by decide +kernel
theorem dX5_way_84 : decode cX5_way 84 = .ok (.istore 5, 2) := by decide +kernel
theorem dX5_way_86 : decode cX5_way 86 = .ok (.aload_n 0, 1) := by decide +kernel
theorem dX5_way_87 : decode cX5_way 87 = .ok (.iload 5, 2) := by decide +kernel
theorem dX5_way_89 : decode cX5_way 89 = .ok (.iload_n 2, 1) := by decide +kernel
theorem dX5_way_90 : decode cX5_way 90 = .ok (.invokevirtual 97, 3) := by decide +kernel
theorem dX5_way_93 : decode cX5_way 93 = .ok (.istore 6, 2) := by decide +kernel
theorem dX5_way_95 : decode cX5_way 95 = .ok (.iconst 0, 1) := by decide +kernel
theorem dX5_way_96 : decode cX5_way 96 = .ok (.istore 7, 2) := by decide +kernel
theorem dX5_way_98 : decode cX5_way 98 = .ok (.iload 7, 2) := by decide +kernel
theorem dX5_way_100 : decode cX5_way 100 = .ok (.iload_n 3, 1) := by decide +kernel
theorem dX5_way_101 : decode cX5_way 101 = .ok (.if_icmp .ge 28, 3) := by decide +kernel
theorem dX5_way_104 : decode cX5_way 104 = .ok (.aload_n 0, 1) := by decide +kernel
theorem dX5_way_105 : decode cX5_way 105 = .ok (.iload 6, 2) := by decide +kernel
theorem dX5_way_107 : decode cX5_way 107 = .ok (.iload 5, 2) := by decide +kernel
theorem dX5_way_109 : decode cX5_way 109 = .ok (.invokevirtual 100, 3) := by decide +kernel
theorem dX5_way_112 : decode cX5_way 112 = .ok (.istore 5, 2) := by decide +kernel
theorem dX5_way_114 : decode cX5_way 114 = .ok (.aload_n 0, 1) := by decide +kernel
theorem dX5_way_115 : decode cX5_way 115 = .ok (.iload 5, 2) := by decide +kernel
theorem dX5_way_117 : decode cX5_way 117 = .ok (.iload_n 2, 1) := by decide +kernel
theorem dX5_way_118 : decode cX5_way 118 = .ok (.invokevirtual 97, 3) := by decide +kernel
theorem dX5_way_121 : decode cX5_way 121 = .ok (.istore 6, 2) := by decide +kernel
theorem dX5_way_123 : decode cX5_way 123 = .ok (.iinc 7 1, 3) := by decide +kernel
theorem dX5_way_126 : decode cX5_way 126 = .ok (.goto (-28), 3) := by decide +kernel
theorem dX5_way_129 : decode cX5_way 129 = .ok (.iload 6, 2) := by decide +kernel
theorem dX5_way_131 : decode cX5_way 131 = .ok (.ireturn, 1) := by decide +kernel
theorem dX5_without_0 : decode cX5_without 0 = .ok (.aload_n 0, 1) := by decide +kernel
theorem dX5_without_1 : decode cX5_without 1 = .ok (.iconst 0, 1) := by decide +kernel
theorem dX5_without_2 : decode cX5_without 2 = .ok (.putfield 47, 3) := by decide +kernel
theorem dX5_without_5 : decode cX5_without 5 = .ok (.aload_n 0, 1) := by decide +kernel
theorem dX5_without_6 : decode cX5_without 6 = .ok (.iload_n 1, 1) := by decide +kernel
theorem dX5_without_7 : decode cX5_without 7 = .ok (.invokevirtual 72, 3) := by decide +kernel
theorem dX5_without_10 : decode cX5_without 10 = .ok (.ifCond .ne 19, 3) := by decide +kernel
theorem dX5_without_13 : decode cX5_without 13 = .ok (.aload_n 0, 1) := by decide +kernel
theorem dX5_without_14 : decode cX5_without 14 = .ok (.iload_n 2, 1) := by decide +kernel
theorem dX5_without_15 : decode cX5_without 15 = .ok (.invokevirtual 72, 3) := by decide +kernel
theorem dX5_without_18 : decode cX5_without 18 = .ok (.ifCond .ne 11, 3) := by decide +kernel
theorem dX5_without_21 : decode cX5_without 21 = .ok (.aload_n 0, 1) := by decide +kernel
theorem dX5_without_22 : decode cX5_without 22 = .ok (.iload_n 3, 1) := by decide +kernel
theorem dX5_without_23 : decode cX5_without 23 = .ok (.invokevirtual 87, 3) := by decide +kernel
theorem dX5_without_26 : decode cX5_without 26 = .ok (.ifCond .eq 7, 3) := by decide +kernel
theorem dX5_without_29 : decode cX5_without 29 = .ok (.sipush (-1001), 3) := by decide +kernel
theorem dX5_without_32 : decode cX5_without 32 = .ok (.ireturn, 1) := by decide +kernel
theorem dX5_without_33 : decode cX5_without 33 = .ok (.aload_n 0, 1) := by decide +kernel
theorem dX5_without_34 : decode cX5_without 34 = .ok (.iload_n 3, 1) := by decide +kernel
theorem dX5_without_35 : decode cX5_without 35 = .ok (.sipush (-1000), 3) := by decide +kernel
theorem dX5_without_38 : decode cX5_without 38 = .ok (.invokevirtual 40, 3) := by decide +kernel
theorem dX5_without_41 : decode cX5_without 41 = .ok (.pop, 1) := by decide +kernel
theorem dX5_without_42 : decode cX5_without 42 = .ok (.aload_n 0, 1) := by decide +kernel
theorem dX5_without_43 : decode cX5_without 43 = .ok (.iload_n 1, 1) := by decide +kernel
theorem dX5_without_44 : decode cX5_without 44 = .ok (.iload_n 2, 1) := by decide +kernel
theorem dX5_without_45 : decode cX5_without 45 = .ok (.invokevirtual 80, 3) := by decide +kernel
theorem dX5_without_48 : decode cX5_without 48 = .ok (.ireturn, 1) := by decide +kernel
theorem dX5_vital_0 : decode cX5_vital 0 = .ok (.aload_n 0, 1) := by decide +kernel
theorem dX5_vital_1 : decode cX5_vital 1 = .ok (.iconst 0, 1) := by decide +kernel
theorem dX5_vital_2 : decode cX5_vital 2 = .ok (.putfield 47, 3) := by decide +kernel
theorem dX5_vital_5 : decode cX5_vital 5 = .ok (.aload_n 0, 1) := by decide +kernel
theorem dX5_vital_6 : decode cX5_vital 6 = .ok (.iload_n 1, 1) := by decide +kernel
theorem dX5_vital_7 : decode cX5_vital 7 = .ok (.invokevirtual 72, 3) := by decide +kernel
theorem dX5_vital_10 : decode cX5_vital 10 = .ok (.ifCond .ne 11, 3) := by decide +kernel
theorem dX5_vital_13 : decode cX5_vital 13 = .ok (.aload_n 0, 1) := by decide +kernel
theorem dX5_vital_14 : decode cX5_vital 14 = .ok (.iload_n 2, 1) := by decide +kernel
theorem dX5_vital_15 : decode cX5_vital 15 = .ok (.invokevirtual 72, 3) := by decide +kernel
theorem dX5_vital_18 : decode cX5_vital 18 = .ok (.ifCond .eq 7, 3) := by decide +kernel
theorem dX5_vital_21 : decode cX5_vital 21 = .ok (.sipush (-1001), 3) := by decide +kernel
theorem dX5_vital_24 : decode cX5_vital 24 = .ok (.ireturn, 1) := by decide +kernel
theorem dX5_vital_25 : decode cX5_vital 25 = .ok (.aload_n 0, 1) := by decide +kernel
theorem dX5_vital_26 : decode cX5_vital 26 = .ok (.sipush (-1000), 3) := by decide +kernel
theorem dX5_vital_29 : decode cX5_vital 29 = .ok (.sipush (-1000), 3) := by decide +kernel
theorem dX5_vital_32 : decode cX5_vital 32 = .ok (.invokevirtual 40, 3) := by decide +kernel
theorem dX5_vital_35 : decode cX5_vital 35 = .ok (.pop, 1) := by decide +kernel
theorem dX5_vital_36 : decode cX5_vital 36 = .ok (.aload_n 0, 1) := by decide +kernel
theorem dX5_vital_37 : decode cX5_vital 37 = .ok (.iload_n 1, 1) := by decide +kernel
theorem dX5_vital_38 : decode cX5_vital 38 = .ok (.iload_n 2, 1) := by decide +kernel
theorem dX5_vital_39 : decode cX5_vital 39 = .ok (.invokevirtual 80, 3) := by decide +kernel
theorem dX5_vital_42 : decode cX5_vital 42 = .ok (.istore 4, 2) := by decide +kernel
theorem dX5_vital_44 : decode cX5_vital 44 = .ok (.iconst 0, 1) := by decide +kernel
theorem dX5_vital_45 : decode cX5_vital 45 = .ok (.istore 5, 2) := by decide +kernel
theorem dX5_vital_47 : decode cX5_vital 47 = .ok (.iconst 0, 1) := by decide +kernel
theorem dX5_vital_48 : decode cX5_vital 48 = .ok (.istore 6, 2) := by decide +kernel
theorem dX5_vital_50 : decode cX5_vital 50 = .ok (.iload 6, 2) := by decide +kernel
theorem dX5_vital_52 : decode cX5_vital 52 = .ok (.aload_n 0, 1) := by decide +kernel
theorem dX5_vital_53 : decode cX5_vital 53 = .ok (.getfield 54, 3) := by decide +kernel
theorem dX5_vital_56 : decode cX5_vital 56 = .ok (.if_icmp .ge 50, 3) := by decide +kernel
theorem dX5_vital_59 : decode cX5_vital 59 = .ok (.iload 4, 2) := by decide +kernel
theorem dX5_vital_61 : decode cX5_vital 61 = .ok (.sipush (-1000), 3) := by decide +kernel
theorem dX5_vital_64 : decode cX5_vital 64 = .ok (.if_icmp .eq 42, 3) := by decide +kernel
theorem dX5_vital_67 : decode cX5_vital 67 = .ok (.aload_n 0, 1) := by decide +kernel
theorem dX5_vital_68 : decode cX5_vital 68 = .ok (.iload 6, 2) := by decide +kernel
theorem dX5_vital_70 : decode cX5_vital 70 = .ok (.sipush (-1000), 3) := by decide +kernel
theorem dX5_vital_73 : decode cX5_vital 73 = .ok (.invokevirtual 40, 3) := by decide +kernel
theorem dX5_vital_76 : decode cX5_vital 76 = .ok (.pop, 1) := by decide +kernel
theorem dX5_vital_77 : decode cX5_vital 77 = .ok (.aload_n 0, 1) := by decide +kernel
theorem dX5_vital_78 : decode cX5_vital 78 = .ok (.iload_n 1, 1) := by decide +kernel
theorem dX5_vital_79 : decode cX5_vital 79 = .ok (.iload_n 2, 1) := by decide +kernel
theorem dX5_vital_80 : decode cX5_vital 80 = .ok (.invokevirtual 80, 3) := by decide +kernel
theorem dX5_vital_83 : decode cX5_vital 83 = .ok (.iload 4, 2) := by decide +kernel
theorem dX5_vital_85 : decode cX5_vital 85 = .ok (.if_icmp .eq 15, 3) := by decide +kernel
theorem dX5_vital_88 : decode cX5_vital 88 = .ok (.iload 5, 2) := by decide +kernel
theorem dX5_vital_90 : decode cX5_vital 90 = .ok (.iload_n 3, 1) := by decide +kernel
theorem dX5_vital_91 : decode cX5_vital 91 = .ok (.if_icmp .ne 6, 3) := by decide +kernel
theorem dX5_vital_94 : decode cX5_vital 94 = .ok (.iload 6, 2) := by decide +kernel
theorem dX5_vital_96 : decode cX5_vital 96 = .ok (.ireturn, 1) := by decide +kernel
theorem dX5_vital_97 : decode cX5_vital 97 = .ok (.iinc 5 1, 3) := by decide +kernel
theorem dX5_vital_100 : decode cX5_vital 100 = .ok (.iinc 6 1, 3) := by decide +kernel
theorem dX5_vital_103 : decode cX5_vital 103 = .ok (.goto (-53), 3) := by decide +kernel
theorem dX5_vital_106 : decode cX5_vital 106 = .ok (.sipush (-1000), 3) := by decide +kernel
theorem dX5_vital_109 : decode cX5_vital 109 = .ok (.ireturn, 1) := by decide +kernel
theorem dX5_about_0 : decode cX5_about 0 = .ok (.aload_n 0, 1) := by decide +kernel
theorem dX5_about_1 : decode cX5_about 1 = .ok (.iconst 0, 1) := by decide +kernel
theorem dX5_about_2 : decode cX5_about 2 = .ok (.putfield 47, 3) := by decide +kernel
theorem dX5_about_5 : decode cX5_about 5 = .ok (.aload_n 0, 1) := by decide +kernel
theorem dX5_about_6 : decode cX5_about 6 = .ok (.iload_n 1, 1) := by decide +kernel
theorem dX5_about_7 : decode cX5_about 7 = .ok (.invokevirtual 72, 3) := by decide +kernel
theorem dX5_about_10 : decode cX5_about 10 = .ok (.ifCond .ne 19, 3) := by decide +kernel
theorem dX5_about_13 : decode cX5_about 13 = .ok (.aload_n 0, 1) := by decide +kernel
theorem dX5_about_14 : decode cX5_about 14 = .ok (.iload_n 2, 1) := by decide +kernel
theorem dX5_about_15 : decode cX5_about 15 = .ok (.invokevirtual 72, 3) := by decide +kernel
theorem dX5_about_18 : decode cX5_about 18 = .ok (.ifCond .ne 11, 3) := by decide +kernel
theorem dX5_about_21 : decode cX5_about 21 = .ok (.aload_n 0, 1) := by decide +kernel
theorem dX5_about_22 : decode cX5_about 22 = .ok (.iload_n 3, 1) := by decide +kernel
theorem dX5_about_23 : decode cX5_about 23 = .ok (.invokevirtual 72, 3) := by decide +kernel
theorem dX5_about_26 : decode cX5_about 26 = .ok (.ifCond .eq 7, 3) := by decide +kernel
theorem dX5_about_29 : decode cX5_about 29 = .ok (.sipush (-1001), 3) := by decide +kernel
theorem dX5_about_32 : decode cX5_about 32 = .ok (.ireturn, 1) := by decide +kernel
theorem dX5_about_33 : decode cX5_about 33 = .ok (.iload_n 3, 1) := by decide +kernel
theorem dX5_about_34 : decode cX5_about 34 = .ok (.iload_n 1, 1) := by decide +kernel
theorem dX5_about_35 : decode cX5_about 35 = .ok (.if_icmp .eq 8, 3) := by decide +kernel
theorem dX5_about_38 : decode cX5_about 38 = .ok (.iload_n 3, 1) := by decide +kernel
theorem dX5_about_39 : decode cX5_about 39 = .ok (.iload_n 2, 1) := by decide +kernel
theorem dX5_about_40 : decode cX5_about 40 = .ok (.if_icmp .ne 7, 3) := by decide +kernel
theorem dX5_about_43 : decode cX5_about 43 = .ok (.sipush (-1003), 3) := by decide +kernel
theorem dX5_about_46 : decode cX5_about 46 = .ok (.ireturn, 1) := by decide +kernel
theorem dX5_about_47 : decode cX5_about 47 = .ok (.aload_n 0, 1) := by decide +kernel
theorem dX5_about_48 : decode cX5_about 48 = .ok (.sipush (-1000), 3) := by decide +kernel
theorem dX5_about_51 : decode cX5_about 51 = .ok (.iload_n 3, 1) := by decide +kernel
theorem dX5_about_52 : decode cX5_about 52 = .ok (.invokevirtual 40, 3) := by decide +kernel
theorem dX5_about_55 : decode cX5_about 55 = .ok (.pop, 1) := by decide +kernel
theorem dX5_about_56 : decode cX5_about 56 = .ok (.aload_n 0, 1) := by decide +kernel
theorem dX5_about_57 : decode cX5_about 57 = .ok (.iload_n 1, 1) := by decide +kernel
theorem dX5_about_58 : decode cX5_about 58 = .ok (.iload_n 2, 1) := by decide +kernel
theorem dX5_about_59 : decode cX5_about 59 = .ok (.invokevirtual 80, 3) := by decide +kernel
theorem dX5_about_62 : decode cX5_about 62 = .ok (.ireturn, 1) := by decide +kernel
theorem dX5_ring_0 : decode cX5_ring 0 = .ok (.aload_n 0, 1) := by decide +kernel
theorem dX5_ring_1 : decode cX5_ring 1 = .ok (.iconst 0, 1) := by decide +kernel
theorem dX5_ring_2 : decode cX5_ring 2 = .ok (.putfield 47, 3) := by decide +kernel
theorem dX5_ring_5 : decode cX5_ring 5 = .ok (.aload_n 0, 1) := by decide +kernel
theorem dX5_ring_6 : decode cX5_ring 6 = .ok (.sipush (-1000), 3) := by decide +kernel
theorem dX5_ring_9 : decode cX5_ring 9 = .ok (.sipush (-1000), 3) := by decide +kernel
theorem dX5_ring_12 : decode cX5_ring 12 = .ok (.invokevirtual 40, 3) := by decide +kernel
theorem dX5_ring_15 : decode cX5_ring 15 = .ok (.pop, 1) := by decide +kernel
theorem dX5_ring_16 : decode cX5_ring 16 = .ok (.sipush (-1000), 3) := by decide +kernel
theorem dX5_ring_19 : decode cX5_ring 19 = .ok (.istore_n 1, 1) := by decide +kernel
theorem dX5_ring_20 : decode cX5_ring 20 = .ok (.iconst 0, 1) := by decide +kernel
theorem dX5_ring_21 : decode cX5_ring 21 = .ok (.istore_n 2, 1) := by decide +kernel
theorem dX5_ring_22 : decode cX5_ring 22 = .ok (.iload_n 2, 1) := by decide +kernel
theorem dX5_ring_23 : decode cX5_ring 23 = .ok (.aload_n 0, 1) := by decide +kernel
theorem dX5_ring_24 : decode cX5_ring 24 = .ok (.getfield 54, 3) := by decide +kernel
theorem dX5_ring_27 : decode cX5_ring 27 = .ok (.if_icmp .ge 123, 3) := by decide +kernel
theorem dX5_ring_30 : decode cX5_ring 30 = .ok (.iconst 0, 1) := by decide +kernel
theorem dX5_ring_31 : decode cX5_ring 31 = .ok (.istore_n 3, 1) := by decide +kernel
theorem dX5_ring_32 : decode cX5_ring 32 = .ok (.iload_n 3, 1) := by decide +kernel
theorem dX5_ring_33 : decode cX5_ring 33 = .ok (.aload_n 0, 1) := by decide +kernel
theorem dX5_ring_34 : decode cX5_ring 34 = .ok (.getfield 23, 3) := by decide +kernel
theorem dX5_ring_37 : decode cX5_ring 37 = .ok (.iload_n 2, 1) := by decide +kernel
theorem dX5_ring_38 : decode cX5_ring 38 = .ok (.baload, 1) := by decide +kernel
theorem dX5_ring_39 : decode cX5_ring 39 = .ok (.ifCond .eq 7, 3) := by decide +kernel
theorem dX5_ring_42 : decode cX5_ring 42 = .ok (.iconst 2, 1) := by decide +kernel
theorem dX5_ring_43 : decode cX5_ring 43 = .ok (.goto 4, 3) := by decide +kernel
theorem dX5_ring_46 : decode cX5_ring 46 = .ok (.iconst 1, 1) := by decide +kernel
theorem dX5_ring_47 : decode cX5_ring 47 = .ok (.if_icmp .ge 97, 3) := by decide +kernel
theorem dX5_ring_50 : decode cX5_ring 50 = .ok (.iload_n 3, 1) := by decide +kernel
theorem dX5_ring_51 : decode cX5_ring 51 = .ok (.ifCond .ne 22, 3) := by decide +kernel
theorem dX5_ring_54 : decode cX5_ring 54 = .ok (.aload_n 0, 1) := by decide +kernel
theorem dX5_ring_55 : decode cX5_ring 55 = .ok (.aload_n 0, 1) := by decide +kernel
theorem dX5_ring_56 : decode cX5_ring 56 = .ok (.getfield 17, 3) := by decide +kernel
theorem dX5_ring_59 : decode cX5_ring 59 = .ok (.iload_n 2, 1) := by decide +kernel
theorem dX5_ring_60 : decode cX5_ring 60 = .ok (.iaload, 1) := by decide +kernel
theorem dX5_ring_61 : decode cX5_ring 61 = .ok (.aload_n 0, 1) := by decide +kernel
theorem dX5_ring_62 : decode cX5_ring 62 = .ok (.getfield 13, 3) := by decide +kernel
theorem dX5_ring_65 : decode cX5_ring 65 = .ok (.iload_n 2, 1) := by decide +kernel
theorem dX5_ring_66 : decode cX5_ring 66 = .ok (.iaload, 1) := by decide +kernel
theorem dX5_ring_67 : decode cX5_ring 67 = .ok (.invokevirtual 80, 3) := by decide +kernel
theorem dX5_ring_70 : decode cX5_ring 70 = .ok (.goto 19, 3) := by decide +kernel
theorem dX5_ring_73 : decode cX5_ring 73 = .ok (.aload_n 0, 1) := by decide +kernel
theorem dX5_ring_74 : decode cX5_ring 74 = .ok (.aload_n 0, 1) := by decide +kernel
theorem dX5_ring_75 : decode cX5_ring 75 = .ok (.getfield 13, 3) := by decide +kernel
theorem dX5_ring_78 : decode cX5_ring 78 = .ok (.iload_n 2, 1) := by decide +kernel
theorem dX5_ring_79 : decode cX5_ring 79 = .ok (.iaload, 1) := by decide +kernel
theorem dX5_ring_80 : decode cX5_ring 80 = .ok (.aload_n 0, 1) := by decide +kernel
theorem dX5_ring_81 : decode cX5_ring 81 = .ok (.getfield 17, 3) := by decide +kernel
theorem dX5_ring_84 : decode cX5_ring 84 = .ok (.iload_n 2, 1) := by decide +kernel
theorem dX5_ring_85 : decode cX5_ring 85 = .ok (.iaload, 1) := by decide +kernel
theorem dX5_ring_86 : decode cX5_ring 86 = .ok (.invokevirtual 80, 3) := by decide +kernel
theorem dX5_ring_89 : decode cX5_ring 89 = .ok (.istore 4, 2) := by decide +kernel
theorem dX5_ring_91 : decode cX5_ring 91 = .ok (.aload_n 0, 1) := by decide +kernel
theorem dX5_ring_92 : decode cX5_ring 92 = .ok (.getfield 27, 3) := by decide +kernel
theorem dX5_ring_95 : decode cX5_ring 95 = .ok (.iload_n 2, 1) := by decide +kernel
theorem dX5_ring_96 : decode cX5_ring 96 = .ok (.baload, 1) := by decide +kernel
theorem dX5_ring_97 : decode cX5_ring 97 = .ok (.ifCond .eq 41, 3) := by decide +kernel
theorem dX5_ring_100 : decode cX5_ring 100 = .ok (.iload 4, 2) := by decide +kernel
theorem dX5_ring_102 : decode cX5_ring 102 = .ok (.sipush (-1000), 3) := by decide +kernel
theorem dX5_ring_105 : decode cX5_ring 105 = .ok (.if_icmp .eq 33, 3) := by decide +kernel
theorem dX5_ring_108 : decode cX5_ring 108 = .ok (.iload_n 1, 1) := by decide +kernel
theorem dX5_ring_109 : decode cX5_ring 109 = .ok (.sipush (-1000), 3) := by decide +kernel
theorem dX5_ring_112 : decode cX5_ring 112 = .ok (.if_icmp .eq 16, 3) := by decide +kernel
theorem dX5_ring_115 : decode cX5_ring 115 = .ok (.aload_n 0, 1) := by decide +kernel
theorem dX5_ring_116 : decode cX5_ring 116 = .ok (.getfield 20, 3) := by decide +kernel
theorem dX5_ring_119 : decode cX5_ring 119 = .ok (.iload_n 2, 1) := by decide +kernel
theorem dX5_ring_120 : decode cX5_ring 120 = .ok (.iaload, 1) := by decide +kernel
theorem dX5_ring_121 : decode cX5_ring 121 = .ok (.iload 4, 2) := by decide +kernel
theorem dX5_ring_123 : decode cX5_ring 123 = .ok (.iadd, 1) := by decide +kernel
theorem dX5_ring_124 : decode cX5_ring 124 = .ok (.iload_n 1, 1) := by decide +kernel
theorem dX5_ring_125 : decode cX5_ring 125 = .ok (.if_icmp .ge 13, 3) := by decide +kernel
theorem dX5_ring_128 : decode cX5_ring 128 = .ok (.aload_n 0, 1) := by decide +kernel
theorem dX5_ring_129 : decode cX5_ring 129 = .ok (.getfield 20, 3) := by decide +kernel
theorem dX5_ring_132 : decode cX5_ring 132 = .ok (.iload_n 2, 1) := by decide +kernel
theorem dX5_ring_133 : decode cX5_ring 133 = .ok (.iaload, 1) := by decide +kernel
theorem dX5_ring_134 : decode cX5_ring 134 = .ok (.iload 4, 2) := by decide +kernel
theorem dX5_ring_136 : decode cX5_ring 136 = .ok (.iadd, 1) := by decide +kernel
theorem dX5_ring_137 : decode cX5_ring 137 = .ok (.istore_n 1, 1) := by decide +kernel
theorem dX5_ring_138 : decode cX5_ring 138 = .ok (.iinc 3 1, 3) := by decide +kernel
theorem dX5_ring_141 : decode cX5_ring 141 = .ok (.goto (-109), 3) := by decide +kernel
theorem dX5_ring_144 : decode cX5_ring 144 = .ok (.iinc 2 1, 3) := by decide +kernel
theorem dX5_ring_147 : decode cX5_ring 147 = .ok (.goto (-125), 3) := by decide +kernel
theorem dX5_ring_150 : decode cX5_ring 150 = .ok (.iload_n 1, 1) := by decide +kernel
theorem dX5_ring_151 : decode cX5_ring 151 = .ok (.ireturn, 1) := by decide +kernel
theorem dX5_height_0 : decode cX5_height 0 = .ok (.aload_n 0, 1) := by decide +kernel
theorem dX5_height_1 : decode cX5_height 1 = .ok (.iconst 0, 1) := by decide +kernel
theorem dX5_height_2 : decode cX5_height 2 = .ok (.putfield 47, 3) := by decide +kernel
theorem dX5_height_5 : decode cX5_height 5 = .ok (.aload_n 0, 1) := by decide +kernel
theorem dX5_height_6 : decode cX5_height 6 = .ok (.iload_n 1, 1) := by decide +kernel
theorem dX5_height_7 : decode cX5_height 7 = .ok (.invokevirtual 72, 3) := by decide +kernel
theorem dX5_height_10 : decode cX5_height 10 = .ok (.ifCond .eq 7, 3) := by decide +kernel
theorem dX5_height_13 : decode cX5_height 13 = .ok (.sipush (-1001), 3) := by decide +kernel
theorem dX5_height_16 : decode cX5_height 16 = .ok (.ireturn, 1) := by decide +kernel
theorem dX5_height_17 : decode cX5_height 17 = .ok (.aload_n 0, 1) := by decide +kernel
theorem dX5_height_18 : decode cX5_height 18 = .ok (.sipush (-1000), 3) := by decide +kernel
theorem dX5_height_21 : decode cX5_height 21 = .ok (.sipush (-1000), 3) := by decide +kernel
theorem dX5_height_24 : decode cX5_height 24 = .ok (.invokevirtual 40, 3) := by decide +kernel
theorem dX5_height_27 : decode cX5_height 27 = .ok (.pop, 1) := by decide +kernel
theorem dX5_height_28 : decode cX5_height 28 = .ok (.aload_n 0, 1) := by decide +kernel
theorem dX5_height_29 : decode cX5_height 29 = .ok (.iload_n 1, 1) := by decide +kernel
theorem dX5_height_30 : decode cX5_height 30 = .ok (.invokevirtual 94, 3) := by decide +kernel
theorem dX5_height_33 : decode cX5_height 33 = .ok (.ireturn, 1) := by decide +kernel
theorem dX5_acts_0 : decode cX5_acts 0 = .ok (.aload_n 0, 1) := by decide +kernel
theorem dX5_acts_1 : decode cX5_acts 1 = .ok (.iconst 0, 1) := by decide +kernel
theorem dX5_acts_2 : decode cX5_acts 2 = .ok (.putfield 47, 3) := by decide +kernel
theorem dX5_acts_5 : decode cX5_acts 5 = .ok (.aload_n 0, 1) := by decide +kernel
theorem dX5_acts_6 : decode cX5_acts 6 = .ok (.getfield 62, 3) := by decide +kernel
theorem dX5_acts_9 : decode cX5_acts 9 = .ok (.ireturn, 1) := by decide +kernel
theorem dX5_isMoved_0 : decode cX5_isMoved 0 = .ok (.iload_n 2, 1) := by decide +kernel
theorem dX5_isMoved_1 : decode cX5_isMoved 1 = .ok (.bipush 10, 2) := by decide +kernel
theorem dX5_isMoved_3 : decode cX5_isMoved 3 = .ok (.idiv, 1) := by decide +kernel
theorem dX5_isMoved_4 : decode cX5_isMoved 4 = .ok (.aload_n 0, 1) := by decide +kernel
theorem dX5_isMoved_5 : decode cX5_isMoved 5 = .ok (.getfield 7, 3) := by decide +kernel
theorem dX5_isMoved_8 : decode cX5_isMoved 8 = .ok (.if_icmp .ge 46, 3) := by decide +kernel
theorem dX5_isMoved_11 : decode cX5_isMoved 11 = .ok (.iload_n 2, 1) := by decide +kernel
theorem dX5_isMoved_12 : decode cX5_isMoved 12 = .ok (.bipush 10, 2) := by decide +kernel
theorem dX5_isMoved_14 : decode cX5_isMoved 14 = .ok (.irem, 1) := by decide +kernel
theorem dX5_isMoved_15 : decode cX5_isMoved 15 = .ok (.aload_n 0, 1) := by decide +kernel
theorem dX5_isMoved_16 : decode cX5_isMoved 16 = .ok (.getfield 7, 3) := by decide +kernel
theorem dX5_isMoved_19 : decode cX5_isMoved 19 = .ok (.if_icmp .ge 35, 3) := by decide +kernel
theorem dX5_isMoved_22 : decode cX5_isMoved 22 = .ok (.aload_n 0, 1) := by decide +kernel
theorem dX5_isMoved_23 : decode cX5_isMoved 23 = .ok (.getfield 34, 3) := by decide +kernel
theorem dX5_isMoved_26 : decode cX5_isMoved 26 = .ok (.bipush 100, 2) := by decide +kernel
theorem dX5_isMoved_28 : decode cX5_isMoved 28 = .ok (.iload_n 1, 1) := by decide +kernel
theorem dX5_isMoved_29 : decode cX5_isMoved 29 = .ok (.imul, 1) := by decide +kernel
theorem dX5_isMoved_30 : decode cX5_isMoved 30 = .ok (.iload_n 2, 1) := by decide +kernel
theorem dX5_isMoved_31 : decode cX5_isMoved 31 = .ok (.iadd, 1) := by decide +kernel
theorem dX5_isMoved_32 : decode cX5_isMoved 32 = .ok (.iaload, 1) := by decide +kernel
theorem dX5_isMoved_33 : decode cX5_isMoved 33 = .ok (.aload_n 0, 1) := by decide +kernel
theorem dX5_isMoved_34 : decode cX5_isMoved 34 = .ok (.getfield 34, 3) := by decide +kernel
theorem dX5_isMoved_37 : decode cX5_isMoved 37 = .ok (.bipush 100, 2) := by decide +kernel
theorem dX5_isMoved_39 : decode cX5_isMoved 39 = .ok (.iload_n 1, 1) := by decide +kernel
theorem dX5_isMoved_40 : decode cX5_isMoved 40 = .ok (.imul, 1) := by decide +kernel
theorem dX5_isMoved_41 : decode cX5_isMoved 41 = .ok (.bipush 100, 2) := by decide +kernel
theorem dX5_isMoved_43 : decode cX5_isMoved 43 = .ok (.isub, 1) := by decide +kernel
theorem dX5_isMoved_44 : decode cX5_isMoved 44 = .ok (.iload_n 2, 1) := by decide +kernel
theorem dX5_isMoved_45 : decode cX5_isMoved 45 = .ok (.iadd, 1) := by decide +kernel
theorem dX5_isMoved_46 : decode cX5_isMoved 46 = .ok (.iaload, 1) := by decide +kernel
theorem dX5_isMoved_47 : decode cX5_isMoved 47 = .ok (.if_icmp .eq 7, 3) := by decide +kernel
theorem dX5_isMoved_50 : decode cX5_isMoved 50 = .ok (.iconst 1, 1) := by decide +kernel
theorem dX5_isMoved_51 : decode cX5_isMoved 51 = .ok (.goto 4, 3) := by decide +kernel
theorem dX5_isMoved_54 : decode cX5_isMoved 54 = .ok (.iconst 0, 1) := by decide +kernel
theorem dX5_isMoved_55 : decode cX5_isMoved 55 = .ok (.ireturn, 1) := by decide +kernel
theorem dX5_moved_0 : decode cX5_moved 0 = .ok (.aload_n 0, 1) := by decide +kernel
theorem dX5_moved_1 : decode cX5_moved 1 = .ok (.iconst 0, 1) := by decide +kernel
theorem dX5_moved_2 : decode cX5_moved 2 = .ok (.putfield 47, 3) := by decide +kernel
theorem dX5_moved_5 : decode cX5_moved 5 = .ok (.iload_n 1, 1) := by decide +kernel
theorem dX5_moved_6 : decode cX5_moved 6 = .ok (.i2l, 1) := by decide +kernel
theorem dX5_moved_7 : decode cX5_moved 7 = .ok (.lconst 1, 1) := by decide +kernel
theorem dX5_moved_8 : decode cX5_moved 8 = .ok (.aload_n 0, 1) := by decide +kernel
theorem dX5_moved_9 : decode cX5_moved 9 = .ok (.getfield 62, 3) := by decide +kernel
theorem dX5_moved_12 : decode cX5_moved 12 = .ok (.i2l, 1) := by decide +kernel
theorem dX5_moved_13 : decode cX5_moved 13 = .ok (.invokestatic 50, 3) := by decide +kernel
theorem dX5_moved_16 : decode cX5_moved 16 = .ok (.ifCond .ne 7, 3) := by decide +kernel
theorem dX5_moved_19 : decode cX5_moved 19 = .ok (.sipush (-1001), 3) := by decide +kernel
theorem dX5_moved_22 : decode cX5_moved 22 = .ok (.ireturn, 1) := by decide +kernel
theorem dX5_moved_23 : decode cX5_moved 23 = .ok (.iconst 0, 1) := by decide +kernel
theorem dX5_moved_24 : decode cX5_moved 24 = .ok (.istore_n 2, 1) := by decide +kernel
theorem dX5_moved_25 : decode cX5_moved 25 = .ok (.iconst 0, 1) := by decide +kernel
theorem dX5_moved_26 : decode cX5_moved 26 = .ok (.istore_n 3, 1) := by decide +kernel
theorem dX5_moved_27 : decode cX5_moved 27 = .ok (.iload_n 3, 1) := by decide +kernel
theorem dX5_moved_28 : decode cX5_moved 28 = .ok (.bipush 100, 2) := by decide +kernel
theorem dX5_moved_30 : decode cX5_moved 30 = .ok (.if_icmp .ge 26, 3) := by decide +kernel
theorem dX5_moved_33 : decode cX5_moved 33 = .ok (.iload_n 2, 1) := by decide +kernel
theorem dX5_moved_34 : decode cX5_moved 34 = .ok (.aload_n 0, 1) := by decide +kernel
theorem dX5_moved_35 : decode cX5_moved 35 = .ok (.iload_n 1, 1) := by decide +kernel
theorem dX5_moved_36 : decode cX5_moved 36 = .ok (.iload_n 3, 1) := by decide +kernel
theorem dX5_moved_37 : decode cX5_moved 37 = .ok (.invokevirtual 103, 3) := by decide +kernel
theorem dX5_moved_40 : decode cX5_moved 40 = .ok (.ifCond .eq 7, 3) := by decide +kernel
theorem dX5_moved_43 : decode cX5_moved 43 = .ok (.iconst 1, 1) := by decide +kernel
theorem dX5_moved_44 : decode cX5_moved 44 = .ok (.goto 4, 3) := by decide +kernel
theorem dX5_moved_47 : decode cX5_moved 47 = .ok (.iconst 0, 1) := by decide +kernel
theorem dX5_moved_48 : decode cX5_moved 48 = .ok (.iadd, 1) := by decide +kernel
theorem dX5_moved_49 : decode cX5_moved 49 = .ok (.istore_n 2, 1) := by decide +kernel
theorem dX5_moved_50 : decode cX5_moved 50 = .ok (.iinc 3 1, 3) := by decide +kernel
theorem dX5_moved_53 : decode cX5_moved 53 = .ok (.goto (-26), 3) := by decide +kernel
theorem dX5_moved_56 : decode cX5_moved 56 = .ok (.iload_n 2, 1) := by decide +kernel
theorem dX5_moved_57 : decode cX5_moved 57 = .ok (.ireturn, 1) := by decide +kernel
theorem dX5_pair_0 : decode cX5_pair 0 = .ok (.aload_n 0, 1) := by decide +kernel
theorem dX5_pair_1 : decode cX5_pair 1 = .ok (.iconst 0, 1) := by decide +kernel
theorem dX5_pair_2 : decode cX5_pair 2 = .ok (.putfield 47, 3) := by decide +kernel
theorem dX5_pair_5 : decode cX5_pair 5 = .ok (.iload_n 1, 1) := by decide +kernel
theorem dX5_pair_6 : decode cX5_pair 6 = .ok (.i2l, 1) := by decide +kernel
theorem dX5_pair_7 : decode cX5_pair 7 = .ok (.lconst 1, 1) := by decide +kernel
theorem dX5_pair_8 : decode cX5_pair 8 = .ok (.aload_n 0, 1) := by decide +kernel
theorem dX5_pair_9 : decode cX5_pair 9 = .ok (.getfield 62, 3) := by decide +kernel
theorem dX5_pair_12 : decode cX5_pair 12 = .ok (.i2l, 1) := by decide +kernel
theorem dX5_pair_13 : decode cX5_pair 13 = .ok (.invokestatic 50, 3) := by decide +kernel
theorem dX5_pair_16 : decode cX5_pair 16 = .ok (.ifCond .ne 7, 3) := by decide +kernel
theorem dX5_pair_19 : decode cX5_pair 19 = .ok (.sipush (-1001), 3) := by decide +kernel
theorem dX5_pair_22 : decode cX5_pair 22 = .ok (.ireturn, 1) := by decide +kernel
theorem dX5_pair_23 : decode cX5_pair 23 = .ok (.iconst 0, 1) := by decide +kernel
theorem dX5_pair_24 : decode cX5_pair 24 = .ok (.istore_n 3, 1) := by decide +kernel
theorem dX5_pair_25 : decode cX5_pair 25 = .ok (.iconst 0, 1) := by decide +kernel
theorem dX5_pair_26 : decode cX5_pair 26 = .ok (.istore 4, 2) := by decide +kernel
theorem dX5_pair_28 : decode cX5_pair 28 = .ok (.iload 4, 2) := by decide +kernel
theorem dX5_pair_30 : decode cX5_pair 30 = .ok (.bipush 100, 2) := by decide +kernel
theorem dX5_pair_32 : decode cX5_pair 32 = .ok (.if_icmp .ge 30, 3) := by decide +kernel
theorem dX5_pair_35 : decode cX5_pair 35 = .ok (.aload_n 0, 1) := by decide +kernel
theorem dX5_pair_36 : decode cX5_pair 36 = .ok (.iload_n 1, 1) := by decide +kernel
theorem dX5_pair_37 : decode cX5_pair 37 = .ok (.iload 4, 2) := by decide +kernel
theorem dX5_pair_39 : decode cX5_pair 39 = .ok (.invokevirtual 103, 3) := by decide +kernel
theorem dX5_pair_42 : decode cX5_pair 42 = .ok (.ifCond .eq 14, 3) := by decide +kernel
theorem dX5_pair_45 : decode cX5_pair 45 = .ok (.iload_n 3, 1) := by decide +kernel
theorem dX5_pair_46 : decode cX5_pair 46 = .ok (.iload_n 2, 1) := by decide +kernel
theorem dX5_pair_47 : decode cX5_pair 47 = .ok (.if_icmp .ne 6, 3) := by decide +kernel
theorem dX5_pair_50 : decode cX5_pair 50 = .ok (.iload 4, 2) := by decide +kernel
theorem dX5_pair_52 : decode cX5_pair 52 = .ok (.ireturn, 1) := by decide +kernel
theorem dX5_pair_53 : decode cX5_pair 53 = .ok (.iinc 3 1, 3) := by decide +kernel
theorem dX5_pair_56 : decode cX5_pair 56 = .ok (.iinc 4 1, 3) := by decide +kernel
theorem dX5_pair_59 : decode cX5_pair 59 = .ok (.goto (-31), 3) := by decide +kernel
theorem dX5_pair_62 : decode cX5_pair 62 = .ok (.sipush (-1000), 3) := by decide +kernel
theorem dX5_pair_65 : decode cX5_pair 65 = .ok (.ireturn, 1) := by decide +kernel
theorem dX5_then_0 : decode cX5_then 0 = .ok (.aload_n 0, 1) := by decide +kernel
theorem dX5_then_1 : decode cX5_then 1 = .ok (.iconst 0, 1) := by decide +kernel
theorem dX5_then_2 : decode cX5_then 2 = .ok (.putfield 47, 3) := by decide +kernel
theorem dX5_then_5 : decode cX5_then 5 = .ok (.aload_n 0, 1) := by decide +kernel
theorem dX5_then_6 : decode cX5_then 6 = .ok (.iload_n 2, 1) := by decide +kernel
theorem dX5_then_7 : decode cX5_then 7 = .ok (.invokevirtual 72, 3) := by decide +kernel
theorem dX5_then_10 : decode cX5_then 10 = .ok (.ifCond .ne 25, 3) := by decide +kernel
theorem dX5_then_13 : decode cX5_then 13 = .ok (.aload_n 0, 1) := by decide +kernel
theorem dX5_then_14 : decode cX5_then 14 = .ok (.iload_n 3, 1) := by decide +kernel
theorem dX5_then_15 : decode cX5_then 15 = .ok (.invokevirtual 72, 3) := by decide +kernel
theorem dX5_then_18 : decode cX5_then 18 = .ok (.ifCond .ne 17, 3) := by decide +kernel
theorem dX5_then_21 : decode cX5_then 21 = .ok (.iload_n 1, 1) := by decide +kernel
theorem dX5_then_22 : decode cX5_then 22 = .ok (.i2l, 1) := by decide +kernel
theorem dX5_then_23 : decode cX5_then 23 = .ok (.lconst 0, 1) := by decide +kernel
theorem dX5_then_24 : decode cX5_then 24 = .ok (.aload_n 0, 1) := by decide +kernel
theorem dX5_then_25 : decode cX5_then 25 = .ok (.getfield 62, 3) := by decide +kernel
theorem dX5_then_28 : decode cX5_then 28 = .ok (.i2l, 1) := by decide +kernel
theorem dX5_then_29 : decode cX5_then 29 = .ok (.invokestatic 50, 3) := by decide +kernel
theorem dX5_then_32 : decode cX5_then 32 = .ok (.ifCond .ne 9, 3) := by decide +kernel
theorem dX5_then_35 : decode cX5_then 35 = .ok (.sipush (-1001), 3) := by decide +kernel
theorem dX5_then_38 : decode cX5_then 38 = .ok (.goto 19, 3) := by decide +kernel
theorem dX5_then_41 : decode cX5_then 41 = .ok (.aload_n 0, 1) := by decide +kernel
theorem dX5_then_42 : decode cX5_then 42 = .ok (.getfield 34, 3) := by decide +kernel
theorem dX5_then_45 : decode cX5_then 45 = .ok (.bipush 100, 2) := by decide +kernel
theorem dX5_then_47 : decode cX5_then 47 = .ok (.iload_n 1, 1) := by decide +kernel
theorem dX5_then_48 : decode cX5_then 48 = .ok (.imul, 1) := by decide +kernel
theorem dX5_then_49 : decode cX5_then 49 = .ok (.bipush 10, 2) := by decide +kernel
theorem dX5_then_51 : decode cX5_then 51 = .ok (.iload_n 2, 1) := by decide +kernel
theorem dX5_then_52 : decode cX5_then 52 = .ok (.imul, 1) := by decide +kernel
theorem dX5_then_53 : decode cX5_then 53 = .ok (.iadd, 1) := by decide +kernel
theorem dX5_then_54 : decode cX5_then 54 = .ok (.iload_n 3, 1) := by decide +kernel
theorem dX5_then_55 : decode cX5_then 55 = .ok (.iadd, 1) := by decide +kernel
theorem dX5_then_56 : decode cX5_then 56 = .ok (.iaload, 1) := by decide +kernel
theorem dX5_then_57 : decode cX5_then 57 = .ok (.ireturn, 1) := by decide +kernel
theorem dX5_since_0 : decode cX5_since 0 = .ok (.aload_n 0, 1) := by decide +kernel
theorem dX5_since_1 : decode cX5_since 1 = .ok (.iconst 0, 1) := by decide +kernel
theorem dX5_since_2 : decode cX5_since 2 = .ok (.putfield 47, 3) := by decide +kernel
theorem dX5_since_5 : decode cX5_since 5 = .ok (.aload_n 0, 1) := by decide +kernel
theorem dX5_since_6 : decode cX5_since 6 = .ok (.iload_n 2, 1) := by decide +kernel
theorem dX5_since_7 : decode cX5_since 7 = .ok (.invokevirtual 72, 3) := by decide +kernel
theorem dX5_since_10 : decode cX5_since 10 = .ok (.ifCond .ne 25, 3) := by decide +kernel
theorem dX5_since_13 : decode cX5_since 13 = .ok (.aload_n 0, 1) := by decide +kernel
theorem dX5_since_14 : decode cX5_since 14 = .ok (.iload_n 3, 1) := by decide +kernel
theorem dX5_since_15 : decode cX5_since 15 = .ok (.invokevirtual 72, 3) := by decide +kernel
theorem dX5_since_18 : decode cX5_since 18 = .ok (.ifCond .ne 17, 3) := by decide +kernel
theorem dX5_since_21 : decode cX5_since 21 = .ok (.iload_n 1, 1) := by decide +kernel
theorem dX5_since_22 : decode cX5_since 22 = .ok (.i2l, 1) := by decide +kernel
theorem dX5_since_23 : decode cX5_since 23 = .ok (.lconst 1, 1) := by decide +kernel
theorem dX5_since_24 : decode cX5_since 24 = .ok (.aload_n 0, 1) := by decide +kernel
theorem dX5_since_25 : decode cX5_since 25 = .ok (.getfield 62, 3) := by decide +kernel
theorem dX5_since_28 : decode cX5_since 28 = .ok (.i2l, 1) := by decide +kernel
theorem dX5_since_29 : decode cX5_since 29 = .ok (.invokestatic 50, 3) := by decide +kernel
theorem dX5_since_32 : decode cX5_since 32 = .ok (.ifCond .ne 7, 3) := by decide +kernel
theorem dX5_since_35 : decode cX5_since 35 = .ok (.sipush (-1001), 3) := by decide +kernel
theorem dX5_since_38 : decode cX5_since 38 = .ok (.ireturn, 1) := by decide +kernel
theorem dX5_since_39 : decode cX5_since 39 = .ok (.iload 4, 2) := by decide +kernel
theorem dX5_since_41 : decode cX5_since 41 = .ok (.i2l, 1) := by decide +kernel
theorem dX5_since_42 : decode cX5_since 42 = .ok (.ldc2_w 106, 3) := by decide +kernel
theorem dX5_since_45 : decode cX5_since 45 = .ok (.ldc2_w 108, 3) := by decide +kernel
theorem dX5_since_48 : decode cX5_since 48 = .ok (.invokestatic 50, 3) := by decide +kernel
theorem dX5_since_51 : decode cX5_since 51 = .ok (.ifCond .ne 7, 3) := by decide +kernel
theorem dX5_since_54 : decode cX5_since 54 = .ok (.sipush (-1002), 3) := by decide +kernel
theorem dX5_since_57 : decode cX5_since 57 = .ok (.ireturn, 1) := by decide +kernel
theorem dX5_since_58 : decode cX5_since 58 = .ok (.iload_n 1, 1) := by decide +kernel
theorem dX5_since_59 : decode cX5_since 59 = .ok (.istore 5, 2) := by decide +kernel
theorem dX5_since_61 : decode cX5_since 61 = .ok (.iload 5, 2) := by decide +kernel
theorem dX5_since_63 : decode cX5_since 63 = .ok (.aload_n 0, 1) := by decide +kernel
theorem dX5_since_64 : decode cX5_since 64 = .ok (.getfield 62, 3) := by decide +kernel
theorem dX5_since_67 : decode cX5_since 67 = .ok (.if_icmp .gt 46, 3) := by decide +kernel
theorem dX5_since_70 : decode cX5_since 70 = .ok (.aload_n 0, 1) := by decide +kernel
theorem dX5_since_71 : decode cX5_since 71 = .ok (.getfield 34, 3) := by decide +kernel
theorem dX5_since_74 : decode cX5_since 74 = .ok (.bipush 100, 2) := by decide +kernel
theorem dX5_since_76 : decode cX5_since 76 = .ok (.iload 5, 2) := by decide +kernel
theorem dX5_since_78 : decode cX5_since 78 = .ok (.imul, 1) := by decide +kernel
theorem dX5_since_79 : decode cX5_since 79 = .ok (.bipush 10, 2) := by decide +kernel
theorem dX5_since_81 : decode cX5_since 81 = .ok (.iload_n 2, 1) := by decide +kernel
theorem dX5_since_82 : decode cX5_since 82 = .ok (.imul, 1) := by decide +kernel
theorem dX5_since_83 : decode cX5_since 83 = .ok (.iadd, 1) := by decide +kernel
theorem dX5_since_84 : decode cX5_since 84 = .ok (.iload_n 3, 1) := by decide +kernel
theorem dX5_since_85 : decode cX5_since 85 = .ok (.iadd, 1) := by decide +kernel
theorem dX5_since_86 : decode cX5_since 86 = .ok (.iaload, 1) := by decide +kernel
theorem dX5_since_87 : decode cX5_since 87 = .ok (.istore 6, 2) := by decide +kernel
theorem dX5_since_89 : decode cX5_since 89 = .ok (.iload 6, 2) := by decide +kernel
theorem dX5_since_91 : decode cX5_since 91 = .ok (.sipush (-1000), 3) := by decide +kernel
theorem dX5_since_94 : decode cX5_since 94 = .ok (.if_icmp .eq 13, 3) := by decide +kernel
theorem dX5_since_97 : decode cX5_since 97 = .ok (.iload 6, 2) := by decide +kernel
theorem dX5_since_99 : decode cX5_since 99 = .ok (.iload 4, 2) := by decide +kernel
theorem dX5_since_101 : decode cX5_since 101 = .ok (.if_icmp .gt 6, 3) := by decide +kernel
theorem dX5_since_104 : decode cX5_since 104 = .ok (.iload 5, 2) := by decide +kernel
theorem dX5_since_106 : decode cX5_since 106 = .ok (.ireturn, 1) := by decide +kernel
theorem dX5_since_107 : decode cX5_since 107 = .ok (.iinc 5 1, 3) := by decide +kernel
theorem dX5_since_110 : decode cX5_since 110 = .ok (.goto (-49), 3) := by decide +kernel
theorem dX5_since_113 : decode cX5_since 113 = .ok (.sipush (-1000), 3) := by decide +kernel
theorem dX5_since_116 : decode cX5_since 116 = .ok (.ireturn, 1) := by decide +kernel
theorem dX5_marks_0 : decode cX5_marks 0 = .ok (.aload_n 0, 1) := by decide +kernel
theorem dX5_marks_1 : decode cX5_marks 1 = .ok (.iconst 0, 1) := by decide +kernel
theorem dX5_marks_2 : decode cX5_marks 2 = .ok (.putfield 47, 3) := by decide +kernel
theorem dX5_marks_5 : decode cX5_marks 5 = .ok (.iload_n 1, 1) := by decide +kernel
theorem dX5_marks_6 : decode cX5_marks 6 = .ok (.ifCond .lt 12, 3) := by decide +kernel
theorem dX5_marks_9 : decode cX5_marks 9 = .ok (.iload_n 1, 1) := by decide +kernel
theorem dX5_marks_10 : decode cX5_marks 10 = .ok (.aload_n 0, 1) := by decide +kernel
theorem dX5_marks_11 : decode cX5_marks 11 = .ok (.getfield 7, 3) := by decide +kernel
theorem dX5_marks_14 : decode cX5_marks 14 = .ok (.ishr, 1) := by decide +kernel
theorem dX5_marks_15 : decode cX5_marks 15 = .ok (.ifCond .eq 7, 3) := by decide +kernel
theorem dX5_marks_18 : decode cX5_marks 18 = .ok (.sipush (-1002), 3) := by decide +kernel
theorem dX5_marks_21 : decode cX5_marks 21 = .ok (.ireturn, 1) := by decide +kernel
theorem dX5_marks_22 : decode cX5_marks 22 = .ok (.aload_n 0, 1) := by decide +kernel
theorem dX5_marks_23 : decode cX5_marks 23 = .ok (.getfield 69, 3) := by decide +kernel
theorem dX5_marks_26 : decode cX5_marks 26 = .ok (.istore_n 2, 1) := by decide +kernel
theorem dX5_marks_27 : decode cX5_marks 27 = .ok (.aload_n 0, 1) := by decide +kernel
theorem dX5_marks_28 : decode cX5_marks 28 = .ok (.iload_n 1, 1) := by decide +kernel
theorem dX5_marks_29 : decode cX5_marks 29 = .ok (.putfield 69, 3) := by decide +kernel
