theorem dX5_marks_32 : decode cX5_marks 32 = .ok (.iload_n 2, 1) := by decide +kernel
theorem dX5_marks_33 : decode cX5_marks 33 = .ok (.ireturn, 1) := by decide +kernel
theorem dX5_nearOf_0 : decode cX5_nearOf 0 = .ok (.sipush (-1000), 3) := by decide +kernel
theorem dX5_nearOf_3 : decode cX5_nearOf 3 = .ok (.istore_n 3, 1) := by decide +kernel
theorem dX5_nearOf_4 : decode cX5_nearOf 4 = .ok (.iconst 0, 1) := by decide +kernel
theorem dX5_nearOf_5 : decode cX5_nearOf 5 = .ok (.istore 4, 2) := by decide +kernel
theorem dX5_nearOf_7 : decode cX5_nearOf 7 = .ok (.iload 4, 2) := by decide +kernel
theorem dX5_nearOf_9 : decode cX5_nearOf 9 = .ok (.aload_n 0, 1) := by decide +kernel
theorem dX5_nearOf_10 : decode cX5_nearOf 10 = .ok (.getfield 7, 3) := by decide +kernel
theorem dX5_nearOf_13 : decode cX5_nearOf 13 = .ok (.if_icmp .ge 85, 3) := by decide +kernel
theorem dX5_nearOf_16 : decode cX5_nearOf 16 = .ok (.aload_n 0, 1) := by decide +kernel
theorem dX5_nearOf_17 : decode cX5_nearOf 17 = .ok (.getfield 69, 3) := by decide +kernel
theorem dX5_nearOf_20 : decode cX5_nearOf 20 = .ok (.iload 4, 2) := by decide +kernel
theorem dX5_nearOf_22 : decode cX5_nearOf 22 = .ok (.ishr, 1) := by decide +kernel
theorem dX5_nearOf_23 : decode cX5_nearOf 23 = .ok (.iconst 1, 1) := by decide +kernel
theorem dX5_nearOf_24 : decode cX5_nearOf 24 = .ok (.iand, 1) := by decide +kernel
theorem dX5_nearOf_25 : decode cX5_nearOf 25 = .ok (.iconst 1, 1) := by decide +kernel
theorem dX5_nearOf_26 : decode cX5_nearOf 26 = .ok (.if_icmp .ne 66, 3) := by decide +kernel
theorem dX5_nearOf_29 : decode cX5_nearOf 29 = .ok (.aload_n 0, 1) := by decide +kernel
theorem dX5_nearOf_30 : decode cX5_nearOf 30 = .ok (.iload_n 1, 1) := by decide +kernel
theorem dX5_nearOf_31 : decode cX5_nearOf 31 = .ok (.iload 4, 2) := by decide +kernel
theorem dX5_nearOf_33 : decode cX5_nearOf 33 = .ok (.invokevirtual 80, 3) := by decide +kernel
theorem dX5_nearOf_36 : decode cX5_nearOf 36 = .ok (.sipush (-1000), 3) := by decide +kernel
theorem dX5_nearOf_39 : decode cX5_nearOf 39 = .ok (.if_icmp .eq 53, 3) := by decide +kernel
theorem dX5_nearOf_42 : decode cX5_nearOf 42 = .ok (.aload_n 0, 1) := by decide +kernel
theorem dX5_nearOf_43 : decode cX5_nearOf 43 = .ok (.iload 4, 2) := by decide +kernel
theorem dX5_nearOf_45 : decode cX5_nearOf 45 = .ok (.iload_n 2, 1) := by decide +kernel
theorem dX5_nearOf_46 : decode cX5_nearOf 46 = .ok (.invokevirtual 80, 3) := by decide +kernel
theorem dX5_nearOf_49 : decode cX5_nearOf 49 = .ok (.sipush (-1000), 3) := by decide +kernel
theorem dX5_nearOf_52 : decode cX5_nearOf 52 = .ok (.if_icmp .eq 40, 3) := by decide +kernel
theorem dX5_nearOf_55 : decode cX5_nearOf 55 = .ok (.aload_n 0, 1) := by decide +kernel
theorem dX5_nearOf_56 : decode cX5_nearOf 56 = .ok (.iload_n 1, 1) := by decide +kernel
theorem dX5_nearOf_57 : decode cX5_nearOf 57 = .ok (.iload 4, 2) := by decide +kernel
theorem dX5_nearOf_59 : decode cX5_nearOf 59 = .ok (.invokevirtual 80, 3) := by decide +kernel
theorem dX5_nearOf_62 : decode cX5_nearOf 62 = .ok (.aload_n 0, 1) := by decide +kernel
theorem dX5_nearOf_63 : decode cX5_nearOf 63 = .ok (.iload 4, 2) := by decide +kernel
theorem dX5_nearOf_65 : decode cX5_nearOf 65 = .ok (.iload_n 2, 1) := by decide +kernel
theorem dX5_nearOf_66 : decode cX5_nearOf 66 = .ok (.invokevirtual 80, 3) := by decide +kernel
theorem dX5_nearOf_69 : decode cX5_nearOf 69 = .ok (.iadd, 1) := by decide +kernel
theorem dX5_nearOf_70 : decode cX5_nearOf 70 = .ok (.istore 5, 2) := by decide +kernel
theorem dX5_nearOf_72 : decode cX5_nearOf 72 = .ok (.iload_n 3, 1) := by decide +kernel
theorem dX5_nearOf_73 : decode cX5_nearOf 73 = .ok (.sipush (-1000), 3) := by decide +kernel
theorem dX5_nearOf_76 : decode cX5_nearOf 76 = .ok (.if_icmp .eq 9, 3) := by decide +kernel
theorem dX5_nearOf_79 : decode cX5_nearOf 79 = .ok (.iload 5, 2) := by decide +kernel
theorem dX5_nearOf_81 : decode cX5_nearOf 81 = .ok (.iload_n 3, 1) := by decide +kernel
theorem dX5_nearOf_82 : decode cX5_nearOf 82 = .ok (.if_icmp .ge 8, 3) := by decide +kernel
theorem dX5_nearOf_85 : decode cX5_nearOf 85 = .ok (.iload 5, 2) := by decide +kernel
theorem dX5_nearOf_87 : decode cX5_nearOf 87 = .ok (.goto 4, 3) := by decide +kernel
theorem dX5_nearOf_90 : decode cX5_nearOf 90 = .ok (.iload_n 3, 1) := by decide +kernel
theorem dX5_nearOf_91 : decode cX5_nearOf 91 = .ok (.istore_n 3, 1) := by decide +kernel
theorem dX5_nearOf_92 : decode cX5_nearOf 92 = .ok (.iinc 4 1, 3) := by decide +kernel
theorem dX5_nearOf_95 : decode cX5_nearOf 95 = .ok (.goto (-88), 3) := by decide +kernel
theorem dX5_nearOf_98 : decode cX5_nearOf 98 = .ok (.iload_n 3, 1) := by decide +kernel
theorem dX5_nearOf_99 : decode cX5_nearOf 99 = .ok (.ireturn, 1) := by decide +kernel
theorem dX5_near_0 : decode cX5_near 0 = .ok (.aload_n 0, 1) := by decide +kernel
theorem dX5_near_1 : decode cX5_near 1 = .ok (.iconst 0, 1) := by decide +kernel
theorem dX5_near_2 : decode cX5_near 2 = .ok (.putfield 47, 3) := by decide +kernel
theorem dX5_near_5 : decode cX5_near 5 = .ok (.aload_n 0, 1) := by decide +kernel
theorem dX5_near_6 : decode cX5_near 6 = .ok (.iload_n 1, 1) := by decide +kernel
theorem dX5_near_7 : decode cX5_near 7 = .ok (.invokevirtual 72, 3) := by decide +kernel
theorem dX5_near_10 : decode cX5_near 10 = .ok (.ifCond .ne 11, 3) := by decide +kernel
theorem dX5_near_13 : decode cX5_near 13 = .ok (.aload_n 0, 1) := by decide +kernel
theorem dX5_near_14 : decode cX5_near 14 = .ok (.iload_n 2, 1) := by decide +kernel
theorem dX5_near_15 : decode cX5_near 15 = .ok (.invokevirtual 72, 3) := by decide +kernel
theorem dX5_near_18 : decode cX5_near 18 = .ok (.ifCond .eq 7, 3) := by decide +kernel
theorem dX5_near_21 : decode cX5_near 21 = .ok (.sipush (-1001), 3) := by decide +kernel
theorem dX5_near_24 : decode cX5_near 24 = .ok (.ireturn, 1) := by decide +kernel
theorem dX5_near_25 : decode cX5_near 25 = .ok (.aload_n 0, 1) := by decide +kernel
theorem dX5_near_26 : decode cX5_near 26 = .ok (.sipush (-1000), 3) := by decide +kernel
theorem dX5_near_29 : decode cX5_near 29 = .ok (.sipush (-1000), 3) := by decide +kernel
theorem dX5_near_32 : decode cX5_near 32 = .ok (.invokevirtual 40, 3) := by decide +kernel
theorem dX5_near_35 : decode cX5_near 35 = .ok (.pop, 1) := by decide +kernel
theorem dX5_near_36 : decode cX5_near 36 = .ok (.aload_n 0, 1) := by decide +kernel
theorem dX5_near_37 : decode cX5_near 37 = .ok (.iload_n 1, 1) := by decide +kernel
theorem dX5_near_38 : decode cX5_near 38 = .ok (.iload_n 2, 1) := by decide +kernel
theorem dX5_near_39 : decode cX5_near 39 = .ok (.invokevirtual 110, 3) := by decide +kernel
theorem dX5_near_42 : decode cX5_near 42 = .ok (.ireturn, 1) := by decide +kernel
theorem dX5_worst_0 : decode cX5_worst 0 = .ok (.aload_n 0, 1) := by decide +kernel
theorem dX5_worst_1 : decode cX5_worst 1 = .ok (.iconst 0, 1) := by decide +kernel
theorem dX5_worst_2 : decode cX5_worst 2 = .ok (.putfield 47, 3) := by decide +kernel
theorem dX5_worst_5 : decode cX5_worst 5 = .ok (.aload_n 0, 1) := by decide +kernel
theorem dX5_worst_6 : decode cX5_worst 6 = .ok (.sipush (-1000), 3) := by decide +kernel
theorem dX5_worst_9 : decode cX5_worst 9 = .ok (.sipush (-1000), 3) := by decide +kernel
theorem dX5_worst_12 : decode cX5_worst 12 = .ok (.invokevirtual 40, 3) := by decide +kernel
theorem dX5_worst_15 : decode cX5_worst 15 = .ok (.pop, 1) := by decide +kernel
theorem dX5_worst_16 : decode cX5_worst 16 = .ok (.iconst 0, 1) := by decide +kernel
theorem dX5_worst_17 : decode cX5_worst 17 = .ok (.istore_n 1, 1) := by decide +kernel
theorem dX5_worst_18 : decode cX5_worst 18 = .ok (.iconst 0, 1) := by decide +kernel
theorem dX5_worst_19 : decode cX5_worst 19 = .ok (.istore_n 2, 1) := by decide +kernel
theorem dX5_worst_20 : decode cX5_worst 20 = .ok (.iload_n 2, 1) := by decide +kernel
theorem dX5_worst_21 : decode cX5_worst 21 = .ok (.aload_n 0, 1) := by decide +kernel
theorem dX5_worst_22 : decode cX5_worst 22 = .ok (.getfield 7, 3) := by decide +kernel
theorem dX5_worst_25 : decode cX5_worst 25 = .ok (.if_icmp .ge 88, 3) := by decide +kernel
theorem dX5_worst_28 : decode cX5_worst 28 = .ok (.iconst 0, 1) := by decide +kernel
theorem dX5_worst_29 : decode cX5_worst 29 = .ok (.istore_n 3, 1) := by decide +kernel
theorem dX5_worst_30 : decode cX5_worst 30 = .ok (.iload_n 3, 1) := by decide +kernel
theorem dX5_worst_31 : decode cX5_worst 31 = .ok (.aload_n 0, 1) := by decide +kernel
theorem dX5_worst_32 : decode cX5_worst 32 = .ok (.getfield 7, 3) := by decide +kernel
theorem dX5_worst_35 : decode cX5_worst 35 = .ok (.if_icmp .ge 72, 3) := by decide +kernel
theorem dX5_worst_38 : decode cX5_worst 38 = .ok (.aload_n 0, 1) := by decide +kernel
theorem dX5_worst_39 : decode cX5_worst 39 = .ok (.iload_n 2, 1) := by decide +kernel
theorem dX5_worst_40 : decode cX5_worst 40 = .ok (.iload_n 3, 1) := by decide +kernel
theorem dX5_worst_41 : decode cX5_worst 41 = .ok (.invokevirtual 80, 3) := by decide +kernel
theorem dX5_worst_44 : decode cX5_worst 44 = .ok (.sipush (-1000), 3) := by decide +kernel
theorem dX5_worst_47 : decode cX5_worst 47 = .ok (.if_icmp .eq 54, 3) := by decide +kernel
theorem dX5_worst_50 : decode cX5_worst 50 = .ok (.aload_n 0, 1) := by decide +kernel
theorem dX5_worst_51 : decode cX5_worst 51 = .ok (.iload_n 2, 1) := by decide +kernel
theorem dX5_worst_52 : decode cX5_worst 52 = .ok (.iload_n 3, 1) := by decide +kernel
theorem dX5_worst_53 : decode cX5_worst 53 = .ok (.invokevirtual 110, 3) := by decide +kernel
theorem dX5_worst_56 : decode cX5_worst 56 = .ok (.sipush (-1000), 3) := by decide +kernel
theorem dX5_worst_59 : decode cX5_worst 59 = .ok (.if_icmp .ne 7, 3) := by decide +kernel
theorem dX5_worst_62 : decode cX5_worst 62 = .ok (.sipush (-1000), 3) := by decide +kernel
theorem dX5_worst_65 : decode cX5_worst 65 = .ok (.ireturn, 1) := by decide +kernel
theorem dX5_worst_66 : decode cX5_worst 66 = .ok (.aload_n 0, 1) := by decide +kernel
theorem dX5_worst_67 : decode cX5_worst 67 = .ok (.iload_n 2, 1) := by decide +kernel
theorem dX5_worst_68 : decode cX5_worst 68 = .ok (.iload_n 3, 1) := by decide +kernel
theorem dX5_worst_69 : decode cX5_worst 69 = .ok (.invokevirtual 110, 3) := by decide +kernel
theorem dX5_worst_72 : decode cX5_worst 72 = .ok (.aload_n 0, 1) := by decide +kernel
theorem dX5_worst_73 : decode cX5_worst 73 = .ok (.iload_n 2, 1) := by decide +kernel
theorem dX5_worst_74 : decode cX5_worst 74 = .ok (.iload_n 3, 1) := by decide +kernel
theorem dX5_worst_75 : decode cX5_worst 75 = .ok (.invokevirtual 80, 3) := by decide +kernel
theorem dX5_worst_78 : decode cX5_worst 78 = .ok (.isub, 1) := by decide +kernel
theorem dX5_worst_79 : decode cX5_worst 79 = .ok (.iload_n 1, 1) := by decide +kernel
theorem dX5_worst_80 : decode cX5_worst 80 = .ok (.if_icmp .le 19, 3) := by decide +kernel
theorem dX5_worst_83 : decode cX5_worst 83 = .ok (.aload_n 0, 1) := by decide +kernel
theorem dX5_worst_84 : decode cX5_worst 84 = .ok (.iload_n 2, 1) := by decide +kernel
theorem dX5_worst_85 : decode cX5_worst 85 = .ok (.iload_n 3, 1) := by decide +kernel
theorem dX5_worst_86 : decode cX5_worst 86 = .ok (.invokevirtual 110, 3) := by decide +kernel
theorem dX5_worst_89 : decode cX5_worst 89 = .ok (.aload_n 0, 1) := by decide +kernel
theorem dX5_worst_90 : decode cX5_worst 90 = .ok (.iload_n 2, 1) := by decide +kernel
theorem dX5_worst_91 : decode cX5_worst 91 = .ok (.iload_n 3, 1) := by decide +kernel
theorem dX5_worst_92 : decode cX5_worst 92 = .ok (.invokevirtual 80, 3) := by decide +kernel
theorem dX5_worst_95 : decode cX5_worst 95 = .ok (.isub, 1) := by decide +kernel
theorem dX5_worst_96 : decode cX5_worst 96 = .ok (.goto 4, 3) := by decide +kernel
theorem dX5_worst_99 : decode cX5_worst 99 = .ok (.iload_n 1, 1) := by decide +kernel
theorem dX5_worst_100 : decode cX5_worst 100 = .ok (.istore_n 1, 1) := by decide +kernel
theorem dX5_worst_101 : decode cX5_worst 101 = .ok (.iinc 3 1, 3) := by decide +kernel
theorem dX5_worst_104 : decode cX5_worst 104 = .ok (.goto (-74), 3) := by decide +kernel
theorem dX5_worst_107 : decode cX5_worst 107 = .ok (.iinc 2 1, 3) := by decide +kernel
theorem dX5_worst_110 : decode cX5_worst 110 = .ok (.goto (-90), 3) := by decide +kernel
theorem dX5_worst_113 : decode cX5_worst 113 = .ok (.iload_n 1, 1) := by decide +kernel
theorem dX5_worst_114 : decode cX5_worst 114 = .ok (.ireturn, 1) := by decide +kernel
theorem dX5_bits_0 : decode cX5_bits 0 = .ok (.iconst 0, 1) := by decide +kernel
theorem dX5_bits_1 : decode cX5_bits 1 = .ok (.istore_n 1, 1) := by decide +kernel
theorem dX5_bits_2 : decode cX5_bits 2 = .ok (.iconst 0, 1) := by decide +kernel
theorem dX5_bits_3 : decode cX5_bits 3 = .ok (.istore_n 2, 1) := by decide +kernel
theorem dX5_bits_4 : decode cX5_bits 4 = .ok (.iload_n 2, 1) := by decide +kernel
theorem dX5_bits_5 : decode cX5_bits 5 = .ok (.bipush 10, 2) := by decide +kernel
theorem dX5_bits_7 : decode cX5_bits 7 = .ok (.if_icmp .ge 17, 3) := by decide +kernel
theorem dX5_bits_10 : decode cX5_bits 10 = .ok (.iload_n 1, 1) := by decide +kernel
theorem dX5_bits_11 : decode cX5_bits 11 = .ok (.iload_n 0, 1) := by decide +kernel
theorem dX5_bits_12 : decode cX5_bits 12 = .ok (.iload_n 2, 1) := by decide +kernel
theorem dX5_bits_13 : decode cX5_bits 13 = .ok (.ishr, 1) := by decide +kernel
theorem dX5_bits_14 : decode cX5_bits 14 = .ok (.iconst 1, 1) := by decide +kernel
theorem dX5_bits_15 : decode cX5_bits 15 = .ok (.iand, 1) := by decide +kernel
theorem dX5_bits_16 : decode cX5_bits 16 = .ok (.iadd, 1) := by decide +kernel
theorem dX5_bits_17 : decode cX5_bits 17 = .ok (.istore_n 1, 1) := by decide +kernel
theorem dX5_bits_18 : decode cX5_bits 18 = .ok (.iinc 2 1, 3) := by decide +kernel
theorem dX5_bits_21 : decode cX5_bits 21 = .ok (.goto (-17), 3) := by decide +kernel
theorem dX5_bits_24 : decode cX5_bits 24 = .ok (.iload_n 1, 1) := by decide +kernel
theorem dX5_bits_25 : decode cX5_bits 25 = .ok (.ireturn, 1) := by decide +kernel
theorem dX5_hits_0 : decode cX5_hits 0 = .ok (.aload_n 0, 1) := by decide +kernel
theorem dX5_hits_1 : decode cX5_hits 1 = .ok (.iconst 0, 1) := by decide +kernel
theorem dX5_hits_2 : decode cX5_hits 2 = .ok (.putfield 47, 3) := by decide +kernel
theorem dX5_hits_5 : decode cX5_hits 5 = .ok (.iload_n 1, 1) := by decide +kernel
theorem dX5_hits_6 : decode cX5_hits 6 = .ok (.i2l, 1) := by decide +kernel
theorem dX5_hits_7 : decode cX5_hits 7 = .ok (.lconst 1, 1) := by decide +kernel
theorem dX5_hits_8 : decode cX5_hits 8 = .ok (.ldc2_w 113, 3) := by decide +kernel
theorem dX5_hits_11 : decode cX5_hits 11 = .ok (.invokestatic 50, 3) := by decide +kernel
theorem dX5_hits_14 : decode cX5_hits 14 = .ok (.ifCond .ne 7, 3) := by decide +kernel
theorem dX5_hits_17 : decode cX5_hits 17 = .ok (.sipush (-1002), 3) := by decide +kernel
theorem dX5_hits_20 : decode cX5_hits 20 = .ok (.ireturn, 1) := by decide +kernel
theorem dX5_hits_21 : decode cX5_hits 21 = .ok (.aload_n 0, 1) := by decide +kernel
theorem dX5_hits_22 : decode cX5_hits 22 = .ok (.sipush (-1000), 3) := by decide +kernel
theorem dX5_hits_25 : decode cX5_hits 25 = .ok (.sipush (-1000), 3) := by decide +kernel
theorem dX5_hits_28 : decode cX5_hits 28 = .ok (.invokevirtual 40, 3) := by decide +kernel
theorem dX5_hits_31 : decode cX5_hits 31 = .ok (.pop, 1) := by decide +kernel
theorem dX5_hits_32 : decode cX5_hits 32 = .ok (.iconst 0, 1) := by decide +kernel
theorem dX5_hits_33 : decode cX5_hits 33 = .ok (.istore_n 2, 1) := by decide +kernel
theorem dX5_hits_34 : decode cX5_hits 34 = .ok (.iconst 0, 1) := by decide +kernel
theorem dX5_hits_35 : decode cX5_hits 35 = .ok (.istore_n 3, 1) := by decide +kernel
theorem dX5_hits_36 : decode cX5_hits 36 = .ok (.iload_n 3, 1) := by decide +kernel
theorem dX5_hits_37 : decode cX5_hits 37 = .ok (.aload_n 0, 1) := by decide +kernel
theorem dX5_hits_38 : decode cX5_hits 38 = .ok (.getfield 7, 3) := by decide +kernel
theorem dX5_hits_41 : decode cX5_hits 41 = .ok (.if_icmp .ge 136, 3) := by decide +kernel
theorem dX5_hits_44 : decode cX5_hits 44 = .ok (.iconst 0, 1) := by decide +kernel
theorem dX5_hits_45 : decode cX5_hits 45 = .ok (.istore 4, 2) := by decide +kernel
theorem dX5_hits_47 : decode cX5_hits 47 = .ok (.iload 4, 2) := by decide +kernel
theorem dX5_hits_49 : decode cX5_hits 49 = .ok (.aload_n 0, 1) := by decide +kernel
theorem dX5_hits_50 : decode cX5_hits 50 = .ok (.getfield 7, 3) := by decide +kernel
theorem dX5_hits_53 : decode cX5_hits 53 = .ok (.if_icmp .ge 118, 3) := by decide +kernel
theorem dX5_hits_56 : decode cX5_hits 56 = .ok (.aload_n 0, 1) := by decide +kernel
theorem dX5_hits_57 : decode cX5_hits 57 = .ok (.getfield 30, 3) := by decide +kernel
theorem dX5_hits_60 : decode cX5_hits 60 = .ok (.bipush 10, 2) := by decide +kernel
theorem dX5_hits_62 : decode cX5_hits 62 = .ok (.iload_n 3, 1) := by decide +kernel
theorem dX5_hits_63 : decode cX5_hits 63 = .ok (.imul, 1) := by decide +kernel
theorem dX5_hits_64 : decode cX5_hits 64 = .ok (.iload 4, 2) := by decide +kernel
theorem dX5_hits_66 : decode cX5_hits 66 = .ok (.iadd, 1) := by decide +kernel
theorem dX5_hits_67 : decode cX5_hits 67 = .ok (.iaload, 1) := by decide +kernel
theorem dX5_hits_68 : decode cX5_hits 68 = .ok (.istore 5, 2) := by decide +kernel
theorem dX5_hits_70 : decode cX5_hits 70 = .ok (.iload_n 3, 1) := by decide +kernel
theorem dX5_hits_71 : decode cX5_hits 71 = .ok (.iload 4, 2) := by decide +kernel
theorem dX5_hits_73 : decode cX5_hits 73 = .ok (.if_icmp .eq 92, 3) := by decide +kernel
theorem dX5_hits_76 : decode cX5_hits 76 = .ok (.iload 5, 2) := by decide +kernel
theorem dX5_hits_78 : decode cX5_hits 78 = .ok (.ldc 57, 2) := by decide +kernel
theorem dX5_hits_80 : decode cX5_hits 80 = .ok (.if_icmp .ge 85, 3) := by decide +kernel
theorem dX5_hits_83 : decode cX5_hits 83 = .ok (.iload 5, 2) := by decide +kernel
theorem dX5_hits_85 : decode cX5_hits 85 = .ok (.bipush 64, 2) := by decide +kernel
theorem dX5_hits_87 : decode cX5_hits 87 = .ok (.iload 5, 2) := by decide +kernel
theorem dX5_hits_89 : decode cX5_hits 89 = .ok (.invokestatic 58, 3) := by decide +kernel
theorem dX5_hits_92 : decode cX5_hits 92 = .ok (.imul, 1) := by decide +kernel
theorem dX5_hits_93 : decode cX5_hits 93 = .ok (.isub, 1) := by decide +kernel
theorem dX5_hits_94 : decode cX5_hits 94 = .ok (.iload_n 1, 1) := by decide +kernel
theorem dX5_hits_95 : decode cX5_hits 95 = .ok (.if_icmp .lt 70, 3) := by decide +kernel
theorem dX5_hits_98 : decode cX5_hits 98 = .ok (.iconst 0, 1) := by decide +kernel
theorem dX5_hits_99 : decode cX5_hits 99 = .ok (.istore 6, 2) := by decide +kernel
theorem dX5_hits_101 : decode cX5_hits 101 = .ok (.iload_n 3, 1) := by decide +kernel
theorem dX5_hits_102 : decode cX5_hits 102 = .ok (.istore 7, 2) := by decide +kernel
theorem dX5_hits_104 : decode cX5_hits 104 = .ok (.iconst 1, 1) := by decide +kernel
theorem dX5_hits_105 : decode cX5_hits 105 = .ok (.istore 8, 2) := by decide +kernel
theorem dX5_hits_107 : decode cX5_hits 107 = .ok (.iload 8, 2) := by decide +kernel
theorem dX5_hits_109 : decode cX5_hits 109 = .ok (.iload 5, 2) := by decide +kernel
theorem dX5_hits_111 : decode cX5_hits 111 = .ok (.bipush 64, 2) := by decide +kernel
theorem dX5_hits_113 : decode cX5_hits 113 = .ok (.iload 5, 2) := by decide +kernel
theorem dX5_hits_115 : decode cX5_hits 115 = .ok (.invokestatic 58, 3) := by decide +kernel
theorem dX5_hits_118 : decode cX5_hits 118 = .ok (.imul, 1) := by decide +kernel
theorem dX5_hits_119 : decode cX5_hits 119 = .ok (.isub, 1) := by decide +kernel
theorem dX5_hits_120 : decode cX5_hits 120 = .ok (.if_icmp .ge 34, 3) := by decide +kernel
theorem dX5_hits_123 : decode cX5_hits 123 = .ok (.aload_n 0, 1) := by decide +kernel
theorem dX5_hits_124 : decode cX5_hits 124 = .ok (.aload_n 0, 1) := by decide +kernel
theorem dX5_hits_125 : decode cX5_hits 125 = .ok (.iload 7, 2) := by decide +kernel
theorem dX5_hits_127 : decode cX5_hits 127 = .ok (.iload 4, 2) := by decide +kernel
theorem dX5_hits_129 : decode cX5_hits 129 = .ok (.invokevirtual 97, 3) := by decide +kernel
theorem dX5_hits_132 : decode cX5_hits 132 = .ok (.iload 7, 2) := by decide +kernel
theorem dX5_hits_134 : decode cX5_hits 134 = .ok (.invokevirtual 100, 3) := by decide +kernel
theorem dX5_hits_137 : decode cX5_hits 137 = .ok (.istore 7, 2) := by decide +kernel
theorem dX5_hits_139 : decode cX5_hits 139 = .ok (.iload 6, 2) := by decide +kernel
theorem dX5_hits_141 : decode cX5_hits 141 = .ok (.iconst 1, 1) := by decide +kernel
theorem dX5_hits_142 : decode cX5_hits 142 = .ok (.iload 7, 2) := by decide +kernel
theorem dX5_hits_144 : decode cX5_hits 144 = .ok (.ishl, 1) := by decide +kernel
theorem dX5_hits_145 : decode cX5_hits 145 = .ok (.ior, 1) := by decide +kernel
theorem dX5_hits_146 : decode cX5_hits 146 = .ok (.istore 6, 2) := by decide +kernel
theorem dX5_hits_148 : decode cX5_hits 148 = .ok (.iinc 8 1, 3) := by decide +kernel
theorem dX5_hits_151 : decode cX5_hits 151 = .ok (.goto (-44), 3) := by decide +kernel
theorem dX5_hits_154 : decode cX5_hits 154 = .ok (.aload_n 0, 1) := by decide +kernel
theorem dX5_hits_155 : decode cX5_hits 155 = .ok (.getfield 37, 3) := by decide +kernel
theorem dX5_hits_158 : decode cX5_hits 158 = .ok (.iload_n 2, 1) := by decide +kernel
theorem dX5_hits_159 : decode cX5_hits 159 = .ok (.iload 6, 2) := by decide +kernel
theorem dX5_hits_161 : decode cX5_hits 161 = .ok (.iastore, 1) := by decide +kernel
theorem dX5_hits_162 : decode cX5_hits 162 = .ok (.iinc 2 1, 3) := by decide +kernel
theorem dX5_hits_165 : decode cX5_hits 165 = .ok (.iinc 4 1, 3) := by decide +kernel
theorem dX5_hits_168 : decode cX5_hits 168 = .ok (.goto (-121), 3) := by decide +kernel
theorem dX5_hits_171 : decode cX5_hits 171 = .ok (.iinc 3 1, 3) := by decide +kernel
theorem dX5_hits_174 : decode cX5_hits 174 = .ok (.goto (-138), 3) := by decide +kernel
theorem dX5_hits_177 : decode cX5_hits 177 = .ok (.sipush (-1000), 3) := by decide +kernel
theorem dX5_hits_180 : decode cX5_hits 180 = .ok (.istore_n 3, 1) := by decide +kernel
theorem dX5_hits_181 : decode cX5_hits 181 = .ok (.iconst 0, 1) := by decide +kernel
theorem dX5_hits_182 : decode cX5_hits 182 = .ok (.istore 4, 2) := by decide +kernel
theorem dX5_hits_184 : decode cX5_hits 184 = .ok (.iload 4, 2) := by decide +kernel
theorem dX5_hits_186 : decode cX5_hits 186 = .ok (.iconst 1, 1) := by decide +kernel
theorem dX5_hits_187 : decode cX5_hits 187 = .ok (.aload_n 0, 1) := by decide +kernel
theorem dX5_hits_188 : decode cX5_hits 188 = .ok (.getfield 7, 3) := by decide +kernel
theorem dX5_hits_191 : decode cX5_hits 191 = .ok (.ishl, 1) := by decide +kernel
theorem dX5_hits_192 : decode cX5_hits 192 = .ok (.if_icmp .ge 87, 3) := by decide +kernel
theorem dX5_hits_195 : decode cX5_hits 195 = .ok (.iload_n 3, 1) := by decide +kernel
theorem dX5_hits_196 : decode cX5_hits 196 = .ok (.sipush (-1000), 3) := by decide +kernel
theorem dX5_hits_199 : decode cX5_hits 199 = .ok (.if_icmp .eq 15, 3) := by decide +kernel
theorem dX5_hits_202 : decode cX5_hits 202 = .ok (.iload 4, 2) := by decide +kernel
theorem dX5_hits_204 : decode cX5_hits 204 = .ok (.invokestatic 115, 3) := by decide +kernel
theorem dX5_hits_207 : decode cX5_hits 207 = .ok (.iload_n 3, 1) := by decide +kernel
theorem dX5_hits_208 : decode cX5_hits 208 = .ok (.invokestatic 115, 3) := by decide +kernel
theorem dX5_hits_211 : decode cX5_hits 211 = .ok (.if_icmp .ge 7, 3) := by decide +kernel
theorem dX5_hits_214 : decode cX5_hits 214 = .ok (.iconst 1, 1) := by decide +kernel
theorem dX5_hits_215 : decode cX5_hits 215 = .ok (.goto 4, 3) := by decide +kernel
theorem dX5_hits_218 : decode cX5_hits 218 = .ok (.iconst 0, 1) := by decide +kernel
theorem dX5_hits_219 : decode cX5_hits 219 = .ok (.istore 5, 2) := by decide +kernel
theorem dX5_hits_221 : decode cX5_hits 221 = .ok (.iconst 0, 1) := by decide +kernel
theorem dX5_hits_222 : decode cX5_hits 222 = .ok (.istore 6, 2) := by decide +kernel
theorem dX5_hits_224 : decode cX5_hits 224 = .ok (.iload 6, 2) := by decide +kernel
theorem dX5_hits_226 : decode cX5_hits 226 = .ok (.iload_n 2, 1) := by decide +kernel
theorem dX5_hits_227 : decode cX5_hits 227 = .ok (.if_icmp .ge 34, 3) := by decide +kernel
theorem dX5_hits_230 : decode cX5_hits 230 = .ok (.iload 5, 2) := by decide +kernel
theorem dX5_hits_232 : decode cX5_hits 232 = .ok (.ifCond .eq 29, 3) := by decide +kernel
theorem dX5_hits_235 : decode cX5_hits 235 = .ok (.aload_n 0, 1) := by decide +kernel
theorem dX5_hits_236 : decode cX5_hits 236 = .ok (.getfield 37, 3) := by decide +kernel
theorem dX5_hits_239 : decode cX5_hits 239 = .ok (.iload 6, 2) := by decide +kernel
theorem dX5_hits_241 : decode cX5_hits 241 = .ok (.iaload, 1) := by decide +kernel
theorem dX5_hits_242 : decode cX5_hits 242 = .ok (.iload 4, 2) := by decide +kernel
theorem dX5_hits_244 : decode cX5_hits 244 = .ok (.iand, 1) := by decide +kernel
theorem dX5_hits_245 : decode cX5_hits 245 = .ok (.ifCond .eq 7, 3) := by decide +kernel
theorem dX5_hits_248 : decode cX5_hits 248 = .ok (.iconst 1, 1) := by decide +kernel
theorem dX5_hits_249 : decode cX5_hits 249 = .ok (.goto 4, 3) := by decide +kernel
theorem dX5_hits_252 : decode cX5_hits 252 = .ok (.iconst 0, 1) := by decide +kernel
theorem dX5_hits_253 : decode cX5_hits 253 = .ok (.istore 5, 2) := by decide +kernel
theorem dX5_hits_255 : decode cX5_hits 255 = .ok (.iinc 6 1, 3) := by decide +kernel
theorem dX5_hits_258 : decode cX5_hits 258 = .ok (.goto (-34), 3) := by decide +kernel
theorem dX5_hits_261 : decode cX5_hits 261 = .ok (.iload 5, 2) := by decide +kernel
theorem dX5_hits_263 : decode cX5_hits 263 = .ok (.ifCond .eq 8, 3) := by decide +kernel
theorem dX5_hits_266 : decode cX5_hits 266 = .ok (.iload 4, 2) := by decide +kernel
theorem dX5_hits_268 : decode cX5_hits 268 = .ok (.goto 4, 3) := by decide +kernel
theorem dX5_hits_271 : decode cX5_hits 271 = .ok (.iload_n 3, 1) := by decide +kernel
theorem dX5_hits_272 : decode cX5_hits 272 = .ok (.istore_n 3, 1) := by decide +kernel
theorem dX5_hits_273 : decode cX5_hits 273 = .ok (.iinc 4 1, 3) := by decide +kernel
theorem dX5_hits_276 : decode cX5_hits 276 = .ok (.goto (-92), 3) := by decide +kernel
theorem dX5_hits_279 : decode cX5_hits 279 = .ok (.iload_n 3, 1) := by decide +kernel
theorem dX5_hits_280 : decode cX5_hits 280 = .ok (.ireturn, 1) := by decide +kernel
theorem dX5_count_0 : decode cX5_count 0 = .ok (.aload_n 0, 1) := by decide +kernel
theorem dX5_count_1 : decode cX5_count 1 = .ok (.iconst 0, 1) := by decide +kernel
theorem dX5_count_2 : decode cX5_count 2 = .ok (.putfield 47, 3) := by decide +kernel
theorem dX5_count_5 : decode cX5_count 5 = .ok (.aload_n 0, 1) := by decide +kernel
theorem dX5_count_6 : decode cX5_count 6 = .ok (.sipush (-1000), 3) := by decide +kernel
theorem dX5_count_9 : decode cX5_count 9 = .ok (.sipush (-1000), 3) := by decide +kernel
theorem dX5_count_12 : decode cX5_count 12 = .ok (.invokevirtual 40, 3) := by decide +kernel
theorem dX5_count_15 : decode cX5_count 15 = .ok (.pop, 1) := by decide +kernel
theorem dX5_count_16 : decode cX5_count 16 = .ok (.iconst 0, 1) := by decide +kernel
theorem dX5_count_17 : decode cX5_count 17 = .ok (.istore_n 2, 1) := by decide +kernel
theorem dX5_count_18 : decode cX5_count 18 = .ok (.iconst 0, 1) := by decide +kernel
theorem dX5_count_19 : decode cX5_count 19 = .ok (.istore_n 3, 1) := by decide +kernel
theorem dX5_count_20 : decode cX5_count 20 = .ok (.iload_n 3, 1) := by decide +kernel
theorem dX5_count_21 : decode cX5_count 21 = .ok (.aload_n 0, 1) := by decide +kernel
theorem dX5_count_22 : decode cX5_count 22 = .ok (.getfield 7, 3) := by decide +kernel
theorem dX5_count_25 : decode cX5_count 25 = .ok (.if_icmp .ge 54, 3) := by decide +kernel
theorem dX5_count_28 : decode cX5_count 28 = .ok (.iconst 0, 1) := by decide +kernel
theorem dX5_count_29 : decode cX5_count 29 = .ok (.istore 4, 2) := by decide +kernel
theorem dX5_count_31 : decode cX5_count 31 = .ok (.iload 4, 2) := by decide +kernel
theorem dX5_count_33 : decode cX5_count 33 = .ok (.aload_n 0, 1) := by decide +kernel
theorem dX5_count_34 : decode cX5_count 34 = .ok (.getfield 7, 3) := by decide +kernel
theorem dX5_count_37 : decode cX5_count 37 = .ok (.if_icmp .ge 36, 3) := by decide +kernel
theorem dX5_count_40 : decode cX5_count 40 = .ok (.iload_n 2, 1) := by decide +kernel
theorem dX5_count_41 : decode cX5_count 41 = .ok (.iload_n 3, 1) := by decide +kernel
theorem dX5_count_42 : decode cX5_count 42 = .ok (.iload 4, 2) := by decide +kernel
theorem dX5_count_44 : decode cX5_count 44 = .ok (.if_icmp .eq 20, 3) := by decide +kernel
theorem dX5_count_47 : decode cX5_count 47 = .ok (.aload_n 0, 1) := by decide +kernel
theorem dX5_count_48 : decode cX5_count 48 = .ok (.iload_n 3, 1) := by decide +kernel
theorem dX5_count_49 : decode cX5_count 49 = .ok (.iload 4, 2) := by decide +kernel
theorem dX5_count_51 : decode cX5_count 51 = .ok (.invokevirtual 80, 3) := by decide +kernel
theorem dX5_count_54 : decode cX5_count 54 = .ok (.sipush (-1000), 3) := by decide +kernel
theorem dX5_count_57 : decode cX5_count 57 = .ok (.if_icmp .eq 7, 3) := by decide +kernel
theorem dX5_count_60 : decode cX5_count 60 = .ok (.iconst 1, 1) := by decide +kernel
theorem dX5_count_61 : decode cX5_count 61 = .ok (.goto 4, 3) := by decide +kernel
theorem dX5_count_64 : decode cX5_count 64 = .ok (.iconst 0, 1) := by decide +kernel
theorem dX5_count_65 : decode cX5_count 65 = .ok (.iadd, 1) := by decide +kernel
theorem dX5_count_66 : decode cX5_count 66 = .ok (.istore_n 2, 1) := by decide +kernel
theorem dX5_count_67 : decode cX5_count 67 = .ok (.iinc 4 1, 3) := by decide +kernel
theorem dX5_count_70 : decode cX5_count 70 = .ok (.goto (-39), 3) := by decide +kernel
theorem dX5_count_73 : decode cX5_count 73 = .ok (.iinc 3 1, 3) := by decide +kernel
theorem dX5_count_76 : decode cX5_count 76 = .ok (.goto (-56), 3) := by decide +kernel
theorem dX5_count_79 : decode cX5_count 79 = .ok (.iload_n 1, 1) := by decide +kernel
theorem dX5_count_80 : decode cX5_count 80 = .ok (.ifCond .ne 10, 3) := by decide +kernel
theorem dX5_count_83 : decode cX5_count 83 = .ok (.aload_n 0, 1) := by decide +kernel
theorem dX5_count_84 : decode cX5_count 84 = .ok (.getfield 7, 3) := by decide +kernel
theorem dX5_count_87 : decode cX5_count 87 = .ok (.goto 54, 3) := by decide +kernel
theorem dX5_count_90 : decode cX5_count 90 = .ok (.iload_n 1, 1) := by decide +kernel
theorem dX5_count_91 : decode cX5_count 91 = .ok (.iconst 1, 1) := by decide +kernel
theorem dX5_count_92 : decode cX5_count 92 = .ok (.if_icmp .ne 10, 3) := by decide +kernel
theorem dX5_count_95 : decode cX5_count 95 = .ok (.aload_n 0, 1) := by decide +kernel
theorem dX5_count_96 : decode cX5_count 96 = .ok (.getfield 54, 3) := by decide +kernel
theorem dX5_count_99 : decode cX5_count 99 = .ok (.goto 42, 3) := by decide +kernel
theorem dX5_count_102 : decode cX5_count 102 = .ok (.iload_n 1, 1) := by decide +kernel
theorem dX5_count_103 : decode cX5_count 103 = .ok (.iconst 2, 1) := by decide +kernel
theorem dX5_count_104 : decode cX5_count 104 = .ok (.if_icmp .ne 10, 3) := by decide +kernel
theorem dX5_count_107 : decode cX5_count 107 = .ok (.aload_n 0, 1) := by decide +kernel
theorem dX5_count_108 : decode cX5_count 108 = .ok (.invokevirtual 90, 3) := by decide +kernel
theorem dX5_count_111 : decode cX5_count 111 = .ok (.goto 30, 3) := by decide +kernel
theorem dX5_count_114 : decode cX5_count 114 = .ok (.iload_n 1, 1) := by decide +kernel
theorem dX5_count_115 : decode cX5_count 115 = .ok (.iconst 3, 1) := by decide +kernel
theorem dX5_count_116 : decode cX5_count 116 = .ok (.if_icmp .ne 7, 3) := by decide +kernel
theorem dX5_count_119 : decode cX5_count 119 = .ok (.iload_n 2, 1) := by decide +kernel
theorem dX5_count_120 : decode cX5_count 120 = .ok (.goto 21, 3) := by decide +kernel
theorem dX5_count_123 : decode cX5_count 123 = .ok (.iload_n 1, 1) := by decide +kernel
theorem dX5_count_124 : decode cX5_count 124 = .ok (.iconst 4, 1) := by decide +kernel
theorem dX5_count_125 : decode cX5_count 125 = .ok (.if_icmp .ne 13, 3) := by decide +kernel
theorem dX5_count_128 : decode cX5_count 128 = .ok (.aload_n 0, 1) := by decide +kernel
theorem dX5_count_129 : decode cX5_count 129 = .ok (.getfield 69, 3) := by decide +kernel
theorem dX5_count_132 : decode cX5_count 132 = .ok (.invokestatic 115, 3) := by decide +kernel
theorem dX5_count_135 : decode cX5_count 135 = .ok (.goto 6, 3) := by decide +kernel
theorem dX5_count_138 : decode cX5_count 138 = .ok (.sipush (-1002), 3) := by decide +kernel
theorem dX5_count_141 : decode cX5_count 141 = .ok (.ireturn, 1) := by decide +kernel
