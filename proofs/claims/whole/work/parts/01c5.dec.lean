theorem dX6_nearOf_29 : decode cX6_nearOf 29 = .ok (.aload_n 0, 1) := by decide +kernel
theorem dX6_nearOf_30 : decode cX6_nearOf 30 = .ok (.iload_n 1, 1) := by decide +kernel
theorem dX6_nearOf_31 : decode cX6_nearOf 31 = .ok (.iload 4, 2) := by decide +kernel
theorem dX6_nearOf_33 : decode cX6_nearOf 33 = .ok (.invokevirtual 80, 3) := by decide +kernel
theorem dX6_nearOf_36 : decode cX6_nearOf 36 = .ok (.sipush (-1000), 3) := by decide +kernel
theorem dX6_nearOf_39 : decode cX6_nearOf 39 = .ok (.if_icmp .eq 53, 3) := by decide +kernel
theorem dX6_nearOf_42 : decode cX6_nearOf 42 = .ok (.aload_n 0, 1) := by decide +kernel
theorem dX6_nearOf_43 : decode cX6_nearOf 43 = .ok (.iload 4, 2) := by decide +kernel
theorem dX6_nearOf_45 : decode cX6_nearOf 45 = .ok (.iload_n 2, 1) := by decide +kernel
theorem dX6_nearOf_46 : decode cX6_nearOf 46 = .ok (.invokevirtual 80, 3) := by decide +kernel
theorem dX6_nearOf_49 : decode cX6_nearOf 49 = .ok (.sipush (-1000), 3) := by decide +kernel
theorem dX6_nearOf_52 : decode cX6_nearOf 52 = .ok (.if_icmp .eq 40, 3) := by decide +kernel
theorem dX6_nearOf_55 : decode cX6_nearOf 55 = .ok (.aload_n 0, 1) := by decide +kernel
theorem dX6_nearOf_56 : decode cX6_nearOf 56 = .ok (.iload_n 1, 1) := by decide +kernel
theorem dX6_nearOf_57 : decode cX6_nearOf 57 = .ok (.iload 4, 2) := by decide +kernel
theorem dX6_nearOf_59 : decode cX6_nearOf 59 = .ok (.invokevirtual 80, 3) := by decide +kernel
theorem dX6_nearOf_62 : decode cX6_nearOf 62 = .ok (.aload_n 0, 1) := by decide +kernel
theorem dX6_nearOf_63 : decode cX6_nearOf 63 = .ok (.iload 4, 2) := by decide +kernel
theorem dX6_nearOf_65 : decode cX6_nearOf 65 = .ok (.iload_n 2, 1) := by decide +kernel
theorem dX6_nearOf_66 : decode cX6_nearOf 66 = .ok (.invokevirtual 80, 3) := by decide +kernel
theorem dX6_nearOf_69 : decode cX6_nearOf 69 = .ok (.iadd, 1) := by decide +kernel
theorem dX6_nearOf_70 : decode cX6_nearOf 70 = .ok (.istore 5, 2) := by decide +kernel
theorem dX6_nearOf_72 : decode cX6_nearOf 72 = .ok (.iload_n 3, 1) := by decide +kernel
theorem dX6_nearOf_73 : decode cX6_nearOf 73 = .ok (.sipush (-1000), 3) := by decide +kernel
theorem dX6_nearOf_76 : decode cX6_nearOf 76 = .ok (.if_icmp .eq 9, 3) := by decide +kernel
theorem dX6_nearOf_79 : decode cX6_nearOf 79 = .ok (.iload 5, 2) := by decide +kernel
theorem dX6_nearOf_81 : decode cX6_nearOf 81 = .ok (.iload_n 3, 1) := by decide +kernel
theorem dX6_nearOf_82 : decode cX6_nearOf 82 = .ok (.if_icmp .ge 8, 3) := by decide +kernel
theorem dX6_nearOf_85 : decode cX6_nearOf 85 = .ok (.iload 5, 2) := by decide +kernel
theorem dX6_nearOf_87 : decode cX6_nearOf 87 = .ok (.goto 4, 3) := by decide +kernel
theorem dX6_nearOf_90 : decode cX6_nearOf 90 = .ok (.iload_n 3, 1) := by decide +kernel
theorem dX6_nearOf_91 : decode cX6_nearOf 91 = .ok (.istore_n 3, 1) := by decide +kernel
theorem dX6_nearOf_92 : decode cX6_nearOf 92 = .ok (.iinc 4 1, 3) := by decide +kernel
theorem dX6_nearOf_95 : decode cX6_nearOf 95 = .ok (.goto (-88), 3) := by decide +kernel
theorem dX6_nearOf_98 : decode cX6_nearOf 98 = .ok (.iload_n 3, 1) := by decide +kernel
theorem dX6_nearOf_99 : decode cX6_nearOf 99 = .ok (.ireturn, 1) := by decide +kernel
theorem dX6_near_0 : decode cX6_near 0 = .ok (.aload_n 0, 1) := by decide +kernel
theorem dX6_near_1 : decode cX6_near 1 = .ok (.iconst 0, 1) := by decide +kernel
theorem dX6_near_2 : decode cX6_near 2 = .ok (.putfield 47, 3) := by decide +kernel
theorem dX6_near_5 : decode cX6_near 5 = .ok (.aload_n 0, 1) := by decide +kernel
theorem dX6_near_6 : decode cX6_near 6 = .ok (.iload_n 1, 1) := by decide +kernel
theorem dX6_near_7 : decode cX6_near 7 = .ok (.invokevirtual 72, 3) := by decide +kernel
theorem dX6_near_10 : decode cX6_near 10 = .ok (.ifCond .ne 11, 3) := by decide +kernel
theorem dX6_near_13 : decode cX6_near 13 = .ok (.aload_n 0, 1) := by decide +kernel
theorem dX6_near_14 : decode cX6_near 14 = .ok (.iload_n 2, 1) := by decide +kernel
theorem dX6_near_15 : decode cX6_near 15 = .ok (.invokevirtual 72, 3) := by decide +kernel
theorem dX6_near_18 : decode cX6_near 18 = .ok (.ifCond .eq 7, 3) := by decide +kernel
theorem dX6_near_21 : decode cX6_near 21 = .ok (.sipush (-1001), 3) := by decide +kernel
theorem dX6_near_24 : decode cX6_near 24 = .ok (.ireturn, 1) := by decide +kernel
theorem dX6_near_25 : decode cX6_near 25 = .ok (.aload_n 0, 1) := by decide +kernel
theorem dX6_near_26 : decode cX6_near 26 = .ok (.sipush (-1000), 3) := by decide +kernel
theorem dX6_near_29 : decode cX6_near 29 = .ok (.sipush (-1000), 3) := by decide +kernel
theorem dX6_near_32 : decode cX6_near 32 = .ok (.invokevirtual 40, 3) := by decide +kernel
theorem dX6_near_35 : decode cX6_near 35 = .ok (.pop, 1) := by decide +kernel
theorem dX6_near_36 : decode cX6_near 36 = .ok (.aload_n 0, 1) := by decide +kernel
theorem dX6_near_37 : decode cX6_near 37 = .ok (.iload_n 1, 1) := by decide +kernel
theorem dX6_near_38 : decode cX6_near 38 = .ok (.iload_n 2, 1) := by decide +kernel
theorem dX6_near_39 : decode cX6_near 39 = .ok (.invokevirtual 110, 3) := by decide +kernel
theorem dX6_near_42 : decode cX6_near 42 = .ok (.ireturn, 1) := by decide +kernel
theorem dX6_worst_0 : decode cX6_worst 0 = .ok (.aload_n 0, 1) := by decide +kernel
theorem dX6_worst_1 : decode cX6_worst 1 = .ok (.iconst 0, 1) := by decide +kernel
theorem dX6_worst_2 : decode cX6_worst 2 = .ok (.putfield 47, 3) := by decide +kernel
theorem dX6_worst_5 : decode cX6_worst 5 = .ok (.aload_n 0, 1) := by decide +kernel
theorem dX6_worst_6 : decode cX6_worst 6 = .ok (.sipush (-1000), 3) := by decide +kernel
theorem dX6_worst_9 : decode cX6_worst 9 = .ok (.sipush (-1000), 3) := by decide +kernel
theorem dX6_worst_12 : decode cX6_worst 12 = .ok (.invokevirtual 40, 3) := by decide +kernel
theorem dX6_worst_15 : decode cX6_worst 15 = .ok (.pop, 1) := by decide +kernel
theorem dX6_worst_16 : decode cX6_worst 16 = .ok (.iconst 0, 1) := by decide +kernel
theorem dX6_worst_17 : decode cX6_worst 17 = .ok (.istore_n 1, 1) := by decide +kernel
theorem dX6_worst_18 : decode cX6_worst 18 = .ok (.iconst 0, 1) := by decide +kernel
theorem dX6_worst_19 : decode cX6_worst 19 = .ok (.istore_n 2, 1) := by decide +kernel
theorem dX6_worst_20 : decode cX6_worst 20 = .ok (.iload_n 2, 1) := by decide +kernel
theorem dX6_worst_21 : decode cX6_worst 21 = .ok (.aload_n 0, 1) := by decide +kernel
theorem dX6_worst_22 : decode cX6_worst 22 = .ok (.getfield 7, 3) := by decide +kernel
theorem dX6_worst_25 : decode cX6_worst 25 = .ok (.if_icmp .ge 88, 3) := by decide +kernel
theorem dX6_worst_28 : decode cX6_worst 28 = .ok (.iconst 0, 1) := by decide +kernel
theorem dX6_worst_29 : decode cX6_worst 29 = .ok (.istore_n 3, 1) := by decide +kernel
theorem dX6_worst_30 : decode cX6_worst 30 = .ok (.iload_n 3, 1) := by decide +kernel
theorem dX6_worst_31 : decode cX6_worst 31 = .ok (.aload_n 0, 1) := by decide +kernel
theorem dX6_worst_32 : decode cX6_worst 32 = .ok (.getfield 7, 3) := by decide +kernel
theorem dX6_worst_35 : decode cX6_worst 35 = .ok (.if_icmp .ge 72, 3) := by decide +kernel
theorem dX6_worst_38 : decode cX6_worst 38 = .ok (.aload_n 0, 1) := by decide +kernel
theorem dX6_worst_39 : decode cX6_worst 39 = .ok (.iload_n 2, 1) := by decide +kernel
theorem dX6_worst_40 : decode cX6_worst 40 = .ok (.iload_n 3, 1) := by decide +kernel
theorem dX6_worst_41 : decode cX6_worst 41 = .ok (.invokevirtual 80, 3) := by decide +kernel
theorem dX6_worst_44 : decode cX6_worst 44 = .ok (.sipush (-1000), 3) := by decide +kernel
theorem dX6_worst_47 : decode cX6_worst 47 = .ok (.if_icmp .eq 54, 3) := by decide +kernel
theorem dX6_worst_50 : decode cX6_worst 50 = .ok (.aload_n 0, 1) := by decide +kernel
theorem dX6_worst_51 : decode cX6_worst 51 = .ok (.iload_n 2, 1) := by decide +kernel
theorem dX6_worst_52 : decode cX6_worst 52 = .ok (.iload_n 3, 1) := by decide +kernel
theorem dX6_worst_53 : decode cX6_worst 53 = .ok (.invokevirtual 110, 3) := by decide +kernel
theorem dX6_worst_56 : decode cX6_worst 56 = .ok (.sipush (-1000), 3) := by decide +kernel
theorem dX6_worst_59 : decode cX6_worst 59 = .ok (.if_icmp .ne 7, 3) := by decide +kernel
theorem dX6_worst_62 : decode cX6_worst 62 = .ok (.sipush (-1000), 3) := by decide +kernel
theorem dX6_worst_65 : decode cX6_worst 65 = .ok (.ireturn, 1) := by decide +kernel
theorem dX6_worst_66 : decode cX6_worst 66 = .ok (.aload_n 0, 1) := by decide +kernel
theorem dX6_worst_67 : decode cX6_worst 67 = .ok (.iload_n 2, 1) := by decide +kernel
theorem dX6_worst_68 : decode cX6_worst 68 = .ok (.iload_n 3, 1) := by decide +kernel
theorem dX6_worst_69 : decode cX6_worst 69 = .ok (.invokevirtual 110, 3) := by decide +kernel
theorem dX6_worst_72 : decode cX6_worst 72 = .ok (.aload_n 0, 1) := by decide +kernel
theorem dX6_worst_73 : decode cX6_worst 73 = .ok (.iload_n 2, 1) := by decide +kernel
theorem dX6_worst_74 : decode cX6_worst 74 = .ok (.iload_n 3, 1) := by decide +kernel
theorem dX6_worst_75 : decode cX6_worst 75 = .ok (.invokevirtual 80, 3) := by decide +kernel
theorem dX6_worst_78 : decode cX6_worst 78 = .ok (.isub, 1) := by decide +kernel
theorem dX6_worst_79 : decode cX6_worst 79 = .ok (.iload_n 1, 1) := by decide +kernel
theorem dX6_worst_80 : decode cX6_worst 80 = .ok (.if_icmp .le 19, 3) := by decide +kernel
theorem dX6_worst_83 : decode cX6_worst 83 = .ok (.aload_n 0, 1) := by decide +kernel
theorem dX6_worst_84 : decode cX6_worst 84 = .ok (.iload_n 2, 1) := by decide +kernel
theorem dX6_worst_85 : decode cX6_worst 85 = .ok (.iload_n 3, 1) := by decide +kernel
theorem dX6_worst_86 : decode cX6_worst 86 = .ok (.invokevirtual 110, 3) := by decide +kernel
theorem dX6_worst_89 : decode cX6_worst 89 = .ok (.aload_n 0, 1) := by decide +kernel
theorem dX6_worst_90 : decode cX6_worst 90 = .ok (.iload_n 2, 1) := by decide +kernel
theorem dX6_worst_91 : decode cX6_worst 91 = .ok (.iload_n 3, 1) := by decide +kernel
theorem dX6_worst_92 : decode cX6_worst 92 = .ok (.invokevirtual 80, 3) := by decide +kernel
theorem dX6_worst_95 : decode cX6_worst 95 = .ok (.isub, 1) := by decide +kernel
theorem dX6_worst_96 : decode cX6_worst 96 = .ok (.goto 4, 3) := by decide +kernel
theorem dX6_worst_99 : decode cX6_worst 99 = .ok (.iload_n 1, 1) := by decide +kernel
theorem dX6_worst_100 : decode cX6_worst 100 = .ok (.istore_n 1, 1) := by decide +kernel
theorem dX6_worst_101 : decode cX6_worst 101 = .ok (.iinc 3 1, 3) := by decide +kernel
theorem dX6_worst_104 : decode cX6_worst 104 = .ok (.goto (-74), 3) := by decide +kernel
theorem dX6_worst_107 : decode cX6_worst 107 = .ok (.iinc 2 1, 3) := by decide +kernel
theorem dX6_worst_110 : decode cX6_worst 110 = .ok (.goto (-90), 3) := by decide +kernel
theorem dX6_worst_113 : decode cX6_worst 113 = .ok (.iload_n 1, 1) := by decide +kernel
theorem dX6_worst_114 : decode cX6_worst 114 = .ok (.ireturn, 1) := by decide +kernel
theorem dX6_bits_0 : decode cX6_bits 0 = .ok (.iconst 0, 1) := by decide +kernel
theorem dX6_bits_1 : decode cX6_bits 1 = .ok (.istore_n 1, 1) := by decide +kernel
theorem dX6_bits_2 : decode cX6_bits 2 = .ok (.iconst 0, 1) := by decide +kernel
theorem dX6_bits_3 : decode cX6_bits 3 = .ok (.istore_n 2, 1) := by decide +kernel
theorem dX6_bits_4 : decode cX6_bits 4 = .ok (.iload_n 2, 1) := by decide +kernel
theorem dX6_bits_5 : decode cX6_bits 5 = .ok (.bipush 10, 2) := by decide +kernel
theorem dX6_bits_7 : decode cX6_bits 7 = .ok (.if_icmp .ge 17, 3) := by decide +kernel
theorem dX6_bits_10 : decode cX6_bits 10 = .ok (.iload_n 1, 1) := by decide +kernel
theorem dX6_bits_11 : decode cX6_bits 11 = .ok (.iload_n 0, 1) := by decide +kernel
theorem dX6_bits_12 : decode cX6_bits 12 = .ok (.iload_n 2, 1) := by decide +kernel
theorem dX6_bits_13 : decode cX6_bits 13 = .ok (.ishr, 1) := by decide +kernel
theorem dX6_bits_14 : decode cX6_bits 14 = .ok (.iconst 1, 1) := by decide +kernel
theorem dX6_bits_15 : decode cX6_bits 15 = .ok (.iand, 1) := by decide +kernel
theorem dX6_bits_16 : decode cX6_bits 16 = .ok (.iadd, 1) := by decide +kernel
theorem dX6_bits_17 : decode cX6_bits 17 = .ok (.istore_n 1, 1) := by decide +kernel
theorem dX6_bits_18 : decode cX6_bits 18 = .ok (.iinc 2 1, 3) := by decide +kernel
theorem dX6_bits_21 : decode cX6_bits 21 = .ok (.goto (-17), 3) := by decide +kernel
theorem dX6_bits_24 : decode cX6_bits 24 = .ok (.iload_n 1, 1) := by decide +kernel
theorem dX6_bits_25 : decode cX6_bits 25 = .ok (.ireturn, 1) := by decide +kernel
theorem dX6_hits_0 : decode cX6_hits 0 = .ok (.aload_n 0, 1) := by decide +kernel
theorem dX6_hits_1 : decode cX6_hits 1 = .ok (.iconst 0, 1) := by decide +kernel
theorem dX6_hits_2 : decode cX6_hits 2 = .ok (.putfield 47, 3) := by decide +kernel
theorem dX6_hits_5 : decode cX6_hits 5 = .ok (.iload_n 1, 1) := by decide +kernel
theorem dX6_hits_6 : decode cX6_hits 6 = .ok (.i2l, 1) := by decide +kernel
theorem dX6_hits_7 : decode cX6_hits 7 = .ok (.lconst 1, 1) := by decide +kernel
theorem dX6_hits_8 : decode cX6_hits 8 = .ok (.ldc2_w 113, 3) := by decide +kernel
theorem dX6_hits_11 : decode cX6_hits 11 = .ok (.invokestatic 50, 3) := by decide +kernel
theorem dX6_hits_14 : decode cX6_hits 14 = .ok (.ifCond .ne 7, 3) := by decide +kernel
theorem dX6_hits_17 : decode cX6_hits 17 = .ok (.sipush (-1002), 3) := by decide +kernel
theorem dX6_hits_20 : decode cX6_hits 20 = .ok (.ireturn, 1) := by decide +kernel
theorem dX6_hits_21 : decode cX6_hits 21 = .ok (.aload_n 0, 1) := by decide +kernel
theorem dX6_hits_22 : decode cX6_hits 22 = .ok (.sipush (-1000), 3) := by decide +kernel
theorem dX6_hits_25 : decode cX6_hits 25 = .ok (.sipush (-1000), 3) := by decide +kernel
theorem dX6_hits_28 : decode cX6_hits 28 = .ok (.invokevirtual 40, 3) := by decide +kernel
theorem dX6_hits_31 : decode cX6_hits 31 = .ok (.pop, 1) := by decide +kernel
theorem dX6_hits_32 : decode cX6_hits 32 = .ok (.iconst 0, 1) := by decide +kernel
theorem dX6_hits_33 : decode cX6_hits 33 = .ok (.istore_n 2, 1) := by decide +kernel
theorem dX6_hits_34 : decode cX6_hits 34 = .ok (.iconst 0, 1) := by decide +kernel
theorem dX6_hits_35 : decode cX6_hits 35 = .ok (.istore_n 3, 1) := by decide +kernel
theorem dX6_hits_36 : decode cX6_hits 36 = .ok (.iload_n 3, 1) := by decide +kernel
theorem dX6_hits_37 : decode cX6_hits 37 = .ok (.aload_n 0, 1) := by decide +kernel
theorem dX6_hits_38 : decode cX6_hits 38 = .ok (.getfield 7, 3) := by decide +kernel
theorem dX6_hits_41 : decode cX6_hits 41 = .ok (.if_icmp .ge 136, 3) := by decide +kernel
theorem dX6_hits_44 : decode cX6_hits 44 = .ok (.iconst 0, 1) := by decide +kernel
theorem dX6_hits_45 : decode cX6_hits 45 = .ok (.istore 4, 2) := by decide +kernel
theorem dX6_hits_47 : decode cX6_hits 47 = .ok (.iload 4, 2) := by decide +kernel
theorem dX6_hits_49 : decode cX6_hits 49 = .ok (.aload_n 0, 1) := by decide +kernel
theorem dX6_hits_50 : decode cX6_hits 50 = .ok (.getfield 7, 3) := by decide +kernel
theorem dX6_hits_53 : decode cX6_hits 53 = .ok (.if_icmp .ge 118, 3) := by decide +kernel
theorem dX6_hits_56 : decode cX6_hits 56 = .ok (.aload_n 0, 1) := by decide +kernel
theorem dX6_hits_57 : decode cX6_hits 57 = .ok (.getfield 30, 3) := by decide +kernel
theorem dX6_hits_60 : decode cX6_hits 60 = .ok (.bipush 10, 2) := by decide +kernel
theorem dX6_hits_62 : decode cX6_hits 62 = .ok (.iload_n 3, 1) := by decide +kernel
theorem dX6_hits_63 : decode cX6_hits 63 = .ok (.imul, 1) := by decide +kernel
theorem dX6_hits_64 : decode cX6_hits 64 = .ok (.iload 4, 2) := by decide +kernel
theorem dX6_hits_66 : decode cX6_hits 66 = .ok (.iadd, 1) := by decide +kernel
theorem dX6_hits_67 : decode cX6_hits 67 = .ok (.iaload, 1) := by decide +kernel
theorem dX6_hits_68 : decode cX6_hits 68 = .ok (.istore 5, 2) := by decide +kernel
theorem dX6_hits_70 : decode cX6_hits 70 = .ok (.iload_n 3, 1) := by decide +kernel
theorem dX6_hits_71 : decode cX6_hits 71 = .ok (.iload 4, 2) := by decide +kernel
theorem dX6_hits_73 : decode cX6_hits 73 = .ok (.if_icmp .eq 92, 3) := by decide +kernel
theorem dX6_hits_76 : decode cX6_hits 76 = .ok (.iload 5, 2) := by decide +kernel
theorem dX6_hits_78 : decode cX6_hits 78 = .ok (.ldc 57, 2) := by decide +kernel
theorem dX6_hits_80 : decode cX6_hits 80 = .ok (.if_icmp .ge 85, 3) := by decide +kernel
theorem dX6_hits_83 : decode cX6_hits 83 = .ok (.iload 5, 2) := by decide +kernel
theorem dX6_hits_85 : decode cX6_hits 85 = .ok (.bipush 64, 2) := by decide +kernel
theorem dX6_hits_87 : decode cX6_hits 87 = .ok (.iload 5, 2) := by decide +kernel
theorem dX6_hits_89 : decode cX6_hits 89 = .ok (.invokestatic 58, 3) := by decide +kernel
theorem dX6_hits_92 : decode cX6_hits 92 = .ok (.imul, 1) := by decide +kernel
theorem dX6_hits_93 : decode cX6_hits 93 = .ok (.isub, 1) := by decide +kernel
theorem dX6_hits_94 : decode cX6_hits 94 = .ok (.iload_n 1, 1) := by decide +kernel
theorem dX6_hits_95 : decode cX6_hits 95 = .ok (.if_icmp .lt 70, 3) := by decide +kernel
theorem dX6_hits_98 : decode cX6_hits 98 = .ok (.iconst 0, 1) := by decide +kernel
theorem dX6_hits_99 : decode cX6_hits 99 = .ok (.istore 6, 2) := by decide +kernel
theorem dX6_hits_101 : decode cX6_hits 101 = .ok (.iload_n 3, 1) := by decide +kernel
theorem dX6_hits_102 : decode cX6_hits 102 = .ok (.istore 7, 2) := by decide +kernel
theorem dX6_hits_104 : decode cX6_hits 104 = .ok (.iconst 1, 1) := by decide +kernel
theorem dX6_hits_105 : decode cX6_hits 105 = .ok (.istore 8, 2) := by decide +kernel
theorem dX6_hits_107 : decode cX6_hits 107 = .ok (.iload 8, 2) := by decide +kernel
theorem dX6_hits_109 : decode cX6_hits 109 = .ok (.iload 5, 2) := by decide +kernel
theorem dX6_hits_111 : decode cX6_hits 111 = .ok (.bipush 64, 2) := by decide +kernel
theorem dX6_hits_113 : decode cX6_hits 113 = .ok (.iload 5, 2) := by decide +kernel
theorem dX6_hits_115 : decode cX6_hits 115 = .ok (.invokestatic 58, 3) := by decide +kernel
theorem dX6_hits_118 : decode cX6_hits 118 = .ok (.imul, 1) := by decide +kernel
theorem dX6_hits_119 : decode cX6_hits 119 = .ok (.isub, 1) := by decide +kernel
theorem dX6_hits_120 : decode cX6_hits 120 = .ok (.if_icmp .ge 34, 3) := by decide +kernel
theorem dX6_hits_123 : decode cX6_hits 123 = .ok (.aload_n 0, 1) := by decide +kernel
theorem dX6_hits_124 : decode cX6_hits 124 = .ok (.aload_n 0, 1) := by decide +kernel
theorem dX6_hits_125 : decode cX6_hits 125 = .ok (.iload 7, 2) := by decide +kernel
theorem dX6_hits_127 : decode cX6_hits 127 = .ok (.iload 4, 2) := by decide +kernel
theorem dX6_hits_129 : decode cX6_hits 129 = .ok (.invokevirtual 97, 3) := by decide +kernel
theorem dX6_hits_132 : decode cX6_hits 132 = .ok (.iload 7, 2) := by decide +kernel
theorem dX6_hits_134 : decode cX6_hits 134 = .ok (.invokevirtual 100, 3) := by decide +kernel
theorem dX6_hits_137 : decode cX6_hits 137 = .ok (.istore 7, 2) := by decide +kernel
theorem dX6_hits_139 : decode cX6_hits 139 = .ok (.iload 6, 2) := by decide +kernel
theorem dX6_hits_141 : decode cX6_hits 141 = .ok (.iconst 1, 1) := by decide +kernel
theorem dX6_hits_142 : decode cX6_hits 142 = .ok (.iload 7, 2) := by decide +kernel
theorem dX6_hits_144 : decode cX6_hits 144 = .ok (.ishl, 1) := by decide +kernel
theorem dX6_hits_145 : decode cX6_hits 145 = .ok (.ior, 1) := by decide +kernel
theorem dX6_hits_146 : decode cX6_hits 146 = .ok (.istore 6, 2) := by decide +kernel
theorem dX6_hits_148 : decode cX6_hits 148 = .ok (.iinc 8 1, 3) := by decide +kernel
theorem dX6_hits_151 : decode cX6_hits 151 = .ok (.goto (-44), 3) := by decide +kernel
theorem dX6_hits_154 : decode cX6_hits 154 = .ok (.aload_n 0, 1) := by decide +kernel
theorem dX6_hits_155 : decode cX6_hits 155 = .ok (.getfield 37, 3) := by decide +kernel
theorem dX6_hits_158 : decode cX6_hits 158 = .ok (.iload_n 2, 1) := by decide +kernel
theorem dX6_hits_159 : decode cX6_hits 159 = .ok (.iload 6, 2) := by decide +kernel
theorem dX6_hits_161 : decode cX6_hits 161 = .ok (.iastore, 1) := by decide +kernel
theorem dX6_hits_162 : decode cX6_hits 162 = .ok (.iinc 2 1, 3) := by decide +kernel
theorem dX6_hits_165 : decode cX6_hits 165 = .ok (.iinc 4 1, 3) := by decide +kernel
theorem dX6_hits_168 : decode cX6_hits 168 = .ok (.goto (-121), 3) := by decide +kernel
theorem dX6_hits_171 : decode cX6_hits 171 = .ok (.iinc 3 1, 3) := by decide +kernel
theorem dX6_hits_174 : decode cX6_hits 174 = .ok (.goto (-138), 3) := by decide +kernel
theorem dX6_hits_177 : decode cX6_hits 177 = .ok (.sipush (-1000), 3) := by decide +kernel
theorem dX6_hits_180 : decode cX6_hits 180 = .ok (.istore_n 3, 1) := by decide +kernel
theorem dX6_hits_181 : decode cX6_hits 181 = .ok (.iconst 0, 1) := by decide +kernel
theorem dX6_hits_182 : decode cX6_hits 182 = .ok (.istore 4, 2) := by decide +kernel
theorem dX6_hits_184 : decode cX6_hits 184 = .ok (.iload 4, 2) := by decide +kernel
theorem dX6_hits_186 : decode cX6_hits 186 = .ok (.iconst 1, 1) := by decide +kernel
theorem dX6_hits_187 : decode cX6_hits 187 = .ok (.aload_n 0, 1) := by decide +kernel
theorem dX6_hits_188 : decode cX6_hits 188 = .ok (.getfield 7, 3) := by decide +kernel
theorem dX6_hits_191 : decode cX6_hits 191 = .ok (.ishl, 1) := by decide +kernel
theorem dX6_hits_192 : decode cX6_hits 192 = .ok (.if_icmp .ge 87, 3) := by decide +kernel
theorem dX6_hits_195 : decode cX6_hits 195 = .ok (.iload_n 3, 1) := by decide +kernel
theorem dX6_hits_196 : decode cX6_hits 196 = .ok (.sipush (-1000), 3) := by decide +kernel
theorem dX6_hits_199 : decode cX6_hits 199 = .ok (.if_icmp .eq 15, 3) := by decide +kernel
theorem dX6_hits_202 : decode cX6_hits 202 = .ok (.iload 4, 2) := by decide +kernel
theorem dX6_hits_204 : decode cX6_hits 204 = .ok (.invokestatic 115, 3) := by decide +kernel
theorem dX6_hits_207 : decode cX6_hits 207 = .ok (.iload_n 3, 1) := by decide +kernel
theorem dX6_hits_208 : decode cX6_hits 208 = .ok (.invokestatic 115, 3) := by decide +kernel
theorem dX6_hits_211 : decode cX6_hits 211 = .ok (.if_icmp .ge 7, 3) := by decide +kernel
theorem dX6_hits_214 : decode cX6_hits 214 = .ok (.iconst 1, 1) := by decide +kernel
theorem dX6_hits_215 : decode cX6_hits 215 = .ok (.goto 4, 3) := by decide +kernel
theorem dX6_hits_218 : decode cX6_hits 218 = .ok (.iconst 0, 1) := by decide +kernel
theorem dX6_hits_219 : decode cX6_hits 219 = .ok (.istore 5, 2) := by decide +kernel
theorem dX6_hits_221 : decode cX6_hits 221 = .ok (.iconst 0, 1) := by decide +kernel
theorem dX6_hits_222 : decode cX6_hits 222 = .ok (.istore 6, 2) := by decide +kernel
theorem dX6_hits_224 : decode cX6_hits 224 = .ok (.iload 6, 2) := by decide +kernel
theorem dX6_hits_226 : decode cX6_hits 226 = .ok (.iload_n 2, 1) := by decide +kernel
theorem dX6_hits_227 : decode cX6_hits 227 = .ok (.if_icmp .ge 34, 3) := by decide +kernel
theorem dX6_hits_230 : decode cX6_hits 230 = .ok (.iload 5, 2) := by decide +kernel
theorem dX6_hits_232 : decode cX6_hits 232 = .ok (.ifCond .eq 29, 3) := by decide +kernel
theorem dX6_hits_235 : decode cX6_hits 235 = .ok (.aload_n 0, 1) := by decide +kernel
theorem dX6_hits_236 : decode cX6_hits 236 = .ok (.getfield 37, 3) := by decide +kernel
theorem dX6_hits_239 : decode cX6_hits 239 = .ok (.iload 6, 2) := by decide +kernel
theorem dX6_hits_241 : decode cX6_hits 241 = .ok (.iaload, 1) := by decide +kernel
theorem dX6_hits_242 : decode cX6_hits 242 = .ok (.iload 4, 2) := by decide +kernel
theorem dX6_hits_244 : decode cX6_hits 244 = .ok (.iand, 1) := by decide +kernel
theorem dX6_hits_245 : decode cX6_hits 245 = .ok (.ifCond .eq 7, 3) := by decide +kernel
theorem dX6_hits_248 : decode cX6_hits 248 = .ok (.iconst 1, 1) := by decide +kernel
theorem dX6_hits_249 : decode cX6_hits 249 = .ok (.goto 4, 3) := by decide +kernel
theorem dX6_hits_252 : decode cX6_hits 252 = .ok (.iconst 0, 1) := by decide +kernel
theorem dX6_hits_253 : decode cX6_hits 253 = .ok (.istore 5, 2) := by decide +kernel
theorem dX6_hits_255 : decode cX6_hits 255 = .ok (.iinc 6 1, 3) := by decide +kernel
theorem dX6_hits_258 : decode cX6_hits 258 = .ok (.goto (-34), 3) := by decide +kernel
theorem dX6_hits_261 : decode cX6_hits 261 = .ok (.iload 5, 2) := by decide +kernel
theorem dX6_hits_263 : decode cX6_hits 263 = .ok (.ifCond .eq 8, 3) := by decide +kernel
theorem dX6_hits_266 : decode cX6_hits 266 = .ok (.iload 4, 2) := by decide +kernel
theorem dX6_hits_268 : decode cX6_hits 268 = .ok (.goto 4, 3) := by decide +kernel
theorem dX6_hits_271 : decode cX6_hits 271 = .ok (.iload_n 3, 1) := by decide +kernel
theorem dX6_hits_272 : decode cX6_hits 272 = .ok (.istore_n 3, 1) := by decide +kernel
theorem dX6_hits_273 : decode cX6_hits 273 = .ok (.iinc 4 1, 3) := by decide +kernel
theorem dX6_hits_276 : decode cX6_hits 276 = .ok (.goto (-92), 3) := by decide +kernel
theorem dX6_hits_279 : decode cX6_hits 279 = .ok (.iload_n 3, 1) := by decide +kernel
theorem dX6_hits_280 : decode cX6_hits 280 = .ok (.ireturn, 1) := by decide +kernel
theorem dX6_count_0 : decode cX6_count 0 = .ok (.aload_n 0, 1) := by decide +kernel
theorem dX6_count_1 : decode cX6_count 1 = .ok (.iconst 0, 1) := by decide +kernel
theorem dX6_count_2 : decode cX6_count 2 = .ok (.putfield 47, 3) := by decide +kernel
theorem dX6_count_5 : decode cX6_count 5 = .ok (.aload_n 0, 1) := by decide +kernel
theorem dX6_count_6 : decode cX6_count 6 = .ok (.sipush (-1000), 3) := by decide +kernel
theorem dX6_count_9 : decode cX6_count 9 = .ok (.sipush (-1000), 3) := by decide +kernel
theorem dX6_count_12 : decode cX6_count 12 = .ok (.invokevirtual 40, 3) := by decide +kernel
theorem dX6_count_15 : decode cX6_count 15 = .ok (.pop, 1) := by decide +kernel
theorem dX6_count_16 : decode cX6_count 16 = .ok (.iconst 0, 1) := by decide +kernel
theorem dX6_count_17 : decode cX6_count 17 = .ok (.istore_n 2, 1) := by decide +kernel
theorem dX6_count_18 : decode cX6_count 18 = .ok (.iconst 0, 1) := by decide +kernel
theorem dX6_count_19 : decode cX6_count 19 = .ok (.istore_n 3, 1) := by decide +kernel
theorem dX6_count_20 : decode cX6_count 20 = .ok (.iload_n 3, 1) := by decide +kernel
theorem dX6_count_21 : decode cX6_count 21 = .ok (.aload_n 0, 1) := by decide +kernel
theorem dX6_count_22 : decode cX6_count 22 = .ok (.getfield 7, 3) := by decide +kernel
theorem dX6_count_25 : decode cX6_count 25 = .ok (.if_icmp .ge 54, 3) := by decide +kernel
theorem dX6_count_28 : decode cX6_count 28 = .ok (.iconst 0, 1) := by decide +kernel
theorem dX6_count_29 : decode cX6_count 29 = .ok (.istore 4, 2) := by decide +kernel
theorem dX6_count_31 : decode cX6_count 31 = .ok (.iload 4, 2) := by decide +kernel
theorem dX6_count_33 : decode cX6_count 33 = .ok (.aload_n 0, 1) := by decide +kernel
theorem dX6_count_34 : decode cX6_count 34 = .ok (.getfield 7, 3) := by decide +kernel
theorem dX6_count_37 : decode cX6_count 37 = .ok (.if_icmp .ge 36, 3) := by decide +kernel
theorem dX6_count_40 : decode cX6_count 40 = .ok (.iload_n 2, 1) := by decide +kernel
theorem dX6_count_41 : decode cX6_count 41 = .ok (.iload_n 3, 1) := by decide +kernel
theorem dX6_count_42 : decode cX6_count 42 = .ok (.iload 4, 2) := by decide +kernel
theorem dX6_count_44 : decode cX6_count 44 = .ok (.if_icmp .eq 20, 3) := by decide +kernel
theorem dX6_count_47 : decode cX6_count 47 = .ok (.aload_n 0, 1) := by decide +kernel
theorem dX6_count_48 : decode cX6_count 48 = .ok (.iload_n 3, 1) := by decide +kernel
theorem dX6_count_49 : decode cX6_count 49 = .ok (.iload 4, 2) := by decide +kernel
theorem dX6_count_51 : decode cX6_count 51 = .ok (.invokevirtual 80, 3) := by decide +kernel
theorem dX6_count_54 : decode cX6_count 54 = .ok (.sipush (-1000), 3) := by decide +kernel
theorem dX6_count_57 : decode cX6_count 57 = .ok (.if_icmp .eq 7, 3) := by decide +kernel
theorem dX6_count_60 : decode cX6_count 60 = .ok (.iconst 1, 1) := by decide +kernel
theorem dX6_count_61 : decode cX6_count 61 = .ok (.goto 4, 3) := by decide +kernel
theorem dX6_count_64 : decode cX6_count 64 = .ok (.iconst 0, 1) := by decide +kernel
theorem dX6_count_65 : decode cX6_count 65 = .ok (.iadd, 1) := by decide +kernel
theorem dX6_count_66 : decode cX6_count 66 = .ok (.istore_n 2, 1) := by decide +kernel
theorem dX6_count_67 : decode cX6_count 67 = .ok (.iinc 4 1, 3) := by decide +kernel
theorem dX6_count_70 : decode cX6_count 70 = .ok (.goto (-39), 3) := by decide +kernel
theorem dX6_count_73 : decode cX6_count 73 = .ok (.iinc 3 1, 3) := by decide +kernel
theorem dX6_count_76 : decode cX6_count 76 = .ok (.goto (-56), 3) := by decide +kernel
theorem dX6_count_79 : decode cX6_count 79 = .ok (.iload_n 1, 1) := by decide +kernel
theorem dX6_count_80 : decode cX6_count 80 = .ok (.ifCond .ne 10, 3) := by decide +kernel
theorem dX6_count_83 : decode cX6_count 83 = .ok (.aload_n 0, 1) := by decide +kernel
theorem dX6_count_84 : decode cX6_count 84 = .ok (.getfield 7, 3) := by decide +kernel
theorem dX6_count_87 : decode cX6_count 87 = .ok (.goto 54, 3) := by decide +kernel
theorem dX6_count_90 : decode cX6_count 90 = .ok (.iload_n 1, 1) := by decide +kernel
theorem dX6_count_91 : decode cX6_count 91 = .ok (.iconst 1, 1) := by decide +kernel
theorem dX6_count_92 : decode cX6_count 92 = .ok (.if_icmp .ne 10, 3) := by decide +kernel
theorem dX6_count_95 : decode cX6_count 95 = .ok (.aload_n 0, 1) := by decide +kernel
theorem dX6_count_96 : decode cX6_count 96 = .ok (.getfield 54, 3) := by decide +kernel
theorem dX6_count_99 : decode cX6_count 99 = .ok (.goto 42, 3) := by decide +kernel
theorem dX6_count_102 : decode cX6_count 102 = .ok (.iload_n 1, 1) := by decide +kernel
theorem dX6_count_103 : decode cX6_count 103 = .ok (.iconst 2, 1) := by decide +kernel
theorem dX6_count_104 : decode cX6_count 104 = .ok (.if_icmp .ne 10, 3) := by decide +kernel
theorem dX6_count_107 : decode cX6_count 107 = .ok (.aload_n 0, 1) := by decide +kernel
theorem dX6_count_108 : decode cX6_count 108 = .ok (.invokevirtual 90, 3) := by decide +kernel
theorem dX6_count_111 : decode cX6_count 111 = .ok (.goto 30, 3) := by decide +kernel
theorem dX6_count_114 : decode cX6_count 114 = .ok (.iload_n 1, 1) := by decide +kernel
theorem dX6_count_115 : decode cX6_count 115 = .ok (.iconst 3, 1) := by decide +kernel
theorem dX6_count_116 : decode cX6_count 116 = .ok (.if_icmp .ne 7, 3) := by decide +kernel
theorem dX6_count_119 : decode cX6_count 119 = .ok (.iload_n 2, 1) := by decide +kernel
theorem dX6_count_120 : decode cX6_count 120 = .ok (.goto 21, 3) := by decide +kernel
theorem dX6_count_123 : decode cX6_count 123 = .ok (.iload_n 1, 1) := by decide +kernel
theorem dX6_count_124 : decode cX6_count 124 = .ok (.iconst 4, 1) := by decide +kernel
theorem dX6_count_125 : decode cX6_count 125 = .ok (.if_icmp .ne 13, 3) := by decide +kernel
theorem dX6_count_128 : decode cX6_count 128 = .ok (.aload_n 0, 1) := by decide +kernel
theorem dX6_count_129 : decode cX6_count 129 = .ok (.getfield 69, 3) := by decide +kernel
theorem dX6_count_132 : decode cX6_count 132 = .ok (.invokestatic 115, 3) := by decide +kernel
theorem dX6_count_135 : decode cX6_count 135 = .ok (.goto 6, 3) := by decide +kernel
theorem dX6_count_138 : decode cX6_count 138 = .ok (.sipush (-1002), 3) := by decide +kernel
theorem dX6_count_141 : decode cX6_count 141 = .ok (.ireturn, 1) := by decide +kernel
