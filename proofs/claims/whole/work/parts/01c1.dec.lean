theorem dX4_heightOf_15 : decode cX4_heightOf 15 = .ok (.aload_n 0, 1) := by decide +kernel
theorem dX4_heightOf_16 : decode cX4_heightOf 16 = .ok (.iload_n 3, 1) := by decide +kernel
theorem dX4_heightOf_17 : decode cX4_heightOf 17 = .ok (.iload_n 1, 1) := by decide +kernel
theorem dX4_heightOf_18 : decode cX4_heightOf 18 = .ok (.invokevirtual 88, 3) := by decide +kernel
theorem dX4_heightOf_21 : decode cX4_heightOf 21 = .ok (.ifCond .eq 14, 3) := by decide +kernel
theorem dX4_heightOf_24 : decode cX4_heightOf 24 = .ok (.iload_n 2, 1) := by decide +kernel
theorem dX4_heightOf_25 : decode cX4_heightOf 25 = .ok (.aload_n 0, 1) := by decide +kernel
theorem dX4_heightOf_26 : decode cX4_heightOf 26 = .ok (.iload_n 3, 1) := by decide +kernel
theorem dX4_heightOf_27 : decode cX4_heightOf 27 = .ok (.iload_n 1, 1) := by decide +kernel
theorem dX4_heightOf_28 : decode cX4_heightOf 28 = .ok (.invokevirtual 75, 3) := by decide +kernel
theorem dX4_heightOf_31 : decode cX4_heightOf 31 = .ok (.invokestatic 91, 3) := by decide +kernel
theorem dX4_heightOf_34 : decode cX4_heightOf 34 = .ok (.istore_n 2, 1) := by decide +kernel
theorem dX4_heightOf_35 : decode cX4_heightOf 35 = .ok (.iinc 3 1, 3) := by decide +kernel
theorem dX4_heightOf_38 : decode cX4_heightOf 38 = .ok (.goto (-34), 3) := by decide +kernel
theorem dX4_heightOf_41 : decode cX4_heightOf 41 = .ok (.iload_n 2, 1) := by decide +kernel
theorem dX4_heightOf_42 : decode cX4_heightOf 42 = .ok (.ireturn, 1) := by decide +kernel
theorem dX4_lifted_0 : decode cX4_lifted 0 = .ok (.aload_n 0, 1) := by decide +kernel
theorem dX4_lifted_1 : decode cX4_lifted 1 = .ok (.getfield 18, 3) := by decide +kernel
theorem dX4_lifted_4 : decode cX4_lifted 4 = .ok (.getfield 94, 3) := by decide +kernel
theorem dX4_lifted_7 : decode cX4_lifted 7 = .ok (.iload_n 1, 1) := by decide +kernel
theorem dX4_lifted_8 : decode cX4_lifted 8 = .ok (.iaload, 1) := by decide +kernel
theorem dX4_lifted_9 : decode cX4_lifted 9 = .ok (.istore_n 2, 1) := by decide +kernel
theorem dX4_lifted_10 : decode cX4_lifted 10 = .ok (.aload_n 0, 1) := by decide +kernel
theorem dX4_lifted_11 : decode cX4_lifted 11 = .ok (.aload_n 0, 1) := by decide +kernel
theorem dX4_lifted_12 : decode cX4_lifted 12 = .ok (.getfield 18, 3) := by decide +kernel
theorem dX4_lifted_15 : decode cX4_lifted 15 = .ok (.getfield 97, 3) := by decide +kernel
theorem dX4_lifted_18 : decode cX4_lifted 18 = .ok (.iload_n 1, 1) := by decide +kernel
theorem dX4_lifted_19 : decode cX4_lifted 19 = .ok (.iaload, 1) := by decide +kernel
theorem dX4_lifted_20 : decode cX4_lifted 20 = .ok (.invokevirtual 100, 3) := by decide +kernel
theorem dX4_lifted_23 : decode cX4_lifted 23 = .ok (.aload_n 0, 1) := by decide +kernel
theorem dX4_lifted_24 : decode cX4_lifted 24 = .ok (.aload_n 0, 1) := by decide +kernel
theorem dX4_lifted_25 : decode cX4_lifted 25 = .ok (.getfield 18, 3) := by decide +kernel
theorem dX4_lifted_28 : decode cX4_lifted 28 = .ok (.getfield 103, 3) := by decide +kernel
theorem dX4_lifted_31 : decode cX4_lifted 31 = .ok (.iload_n 1, 1) := by decide +kernel
theorem dX4_lifted_32 : decode cX4_lifted 32 = .ok (.iaload, 1) := by decide +kernel
theorem dX4_lifted_33 : decode cX4_lifted 33 = .ok (.invokevirtual 100, 3) := by decide +kernel
theorem dX4_lifted_36 : decode cX4_lifted 36 = .ok (.isub, 1) := by decide +kernel
theorem dX4_lifted_37 : decode cX4_lifted 37 = .ok (.istore_n 3, 1) := by decide +kernel
theorem dX4_lifted_38 : decode cX4_lifted 38 = .ok (.aload_n 0, 1) := by decide +kernel
theorem dX4_lifted_39 : decode cX4_lifted 39 = .ok (.getfield 18, 3) := by decide +kernel
theorem dX4_lifted_42 : decode cX4_lifted 42 = .ok (.getfield 106, 3) := by decide +kernel
theorem dX4_lifted_45 : decode cX4_lifted 45 = .ok (.iload_n 1, 1) := by decide +kernel
theorem dX4_lifted_46 : decode cX4_lifted 46 = .ok (.baload, 1) := by decide +kernel
theorem dX4_lifted_47 : decode cX4_lifted 47 = .ok (.ifCond .eq 15, 3) := by decide +kernel
theorem dX4_lifted_50 : decode cX4_lifted 50 = .ok (.iload_n 2, 1) := by decide +kernel
theorem dX4_lifted_51 : decode cX4_lifted 51 = .ok (.iload_n 3, 1) := by decide +kernel
theorem dX4_lifted_52 : decode cX4_lifted 52 = .ok (.iadd, 1) := by decide +kernel
theorem dX4_lifted_53 : decode cX4_lifted 53 = .ok (.iload_n 2, 1) := by decide +kernel
theorem dX4_lifted_54 : decode cX4_lifted 54 = .ok (.iload_n 3, 1) := by decide +kernel
theorem dX4_lifted_55 : decode cX4_lifted 55 = .ok (.isub, 1) := by decide +kernel
theorem dX4_lifted_56 : decode cX4_lifted 56 = .ok (.invokestatic 91, 3) := by decide +kernel
theorem dX4_lifted_59 : decode cX4_lifted 59 = .ok (.goto 6, 3) := by decide +kernel
theorem dX4_lifted_62 : decode cX4_lifted 62 = .ok (.iload_n 2, 1) := by decide +kernel
theorem dX4_lifted_63 : decode cX4_lifted 63 = .ok (.iload_n 3, 1) := by decide +kernel
theorem dX4_lifted_64 : decode cX4_lifted 64 = .ok (.iadd, 1) := by decide +kernel
theorem dX4_lifted_65 : decode cX4_lifted 65 = .ok (.ireturn, 1) := by decide +kernel
theorem dX4_leastThrough_0 : decode cX4_leastThrough 0 = .ok (.sipush (-1000), 3) := by decide +kernel
theorem dX4_leastThrough_3 : decode cX4_leastThrough 3 = .ok (.istore 4, 2) := by decide +kernel
theorem dX4_leastThrough_5 : decode cX4_leastThrough 5 = .ok (.iconst 0, 1) := by decide +kernel
theorem dX4_leastThrough_6 : decode cX4_leastThrough 6 = .ok (.istore 5, 2) := by decide +kernel
theorem dX4_leastThrough_8 : decode cX4_leastThrough 8 = .ok (.iload 5, 2) := by decide +kernel
theorem dX4_leastThrough_10 : decode cX4_leastThrough 10 = .ok (.aload_n 0, 1) := by decide +kernel
theorem dX4_leastThrough_11 : decode cX4_leastThrough 11 = .ok (.getfield 18, 3) := by decide +kernel
theorem dX4_leastThrough_14 : decode cX4_leastThrough 14 = .ok (.getfield 29, 3) := by decide +kernel
theorem dX4_leastThrough_17 : decode cX4_leastThrough 17 = .ok (.if_icmp .ge 77, 3) := by decide +kernel
theorem dX4_leastThrough_20 : decode cX4_leastThrough 20 = .ok (.iload_n 3, 1) := by decide +kernel
theorem dX4_leastThrough_21 : decode cX4_leastThrough 21 = .ok (.iload 5, 2) := by decide +kernel
theorem dX4_leastThrough_23 : decode cX4_leastThrough 23 = .ok (.ishr, 1) := by decide +kernel
theorem dX4_leastThrough_24 : decode cX4_leastThrough 24 = .ok (.iconst 1, 1) := by decide +kernel
theorem dX4_leastThrough_25 : decode cX4_leastThrough 25 = .ok (.iand, 1) := by decide +kernel
theorem dX4_leastThrough_26 : decode cX4_leastThrough 26 = .ok (.ifCond .eq 62, 3) := by decide +kernel
theorem dX4_leastThrough_29 : decode cX4_leastThrough 29 = .ok (.aload_n 0, 1) := by decide +kernel
theorem dX4_leastThrough_30 : decode cX4_leastThrough 30 = .ok (.iload_n 1, 1) := by decide +kernel
theorem dX4_leastThrough_31 : decode cX4_leastThrough 31 = .ok (.iload 5, 2) := by decide +kernel
theorem dX4_leastThrough_33 : decode cX4_leastThrough 33 = .ok (.invokevirtual 88, 3) := by decide +kernel
theorem dX4_leastThrough_36 : decode cX4_leastThrough 36 = .ok (.ifCond .eq 52, 3) := by decide +kernel
theorem dX4_leastThrough_39 : decode cX4_leastThrough 39 = .ok (.aload_n 0, 1) := by decide +kernel
theorem dX4_leastThrough_40 : decode cX4_leastThrough 40 = .ok (.iload 5, 2) := by decide +kernel
theorem dX4_leastThrough_42 : decode cX4_leastThrough 42 = .ok (.iload_n 2, 1) := by decide +kernel
theorem dX4_leastThrough_43 : decode cX4_leastThrough 43 = .ok (.invokevirtual 88, 3) := by decide +kernel
theorem dX4_leastThrough_46 : decode cX4_leastThrough 46 = .ok (.ifCond .eq 42, 3) := by decide +kernel
theorem dX4_leastThrough_49 : decode cX4_leastThrough 49 = .ok (.aload_n 0, 1) := by decide +kernel
theorem dX4_leastThrough_50 : decode cX4_leastThrough 50 = .ok (.iload_n 1, 1) := by decide +kernel
theorem dX4_leastThrough_51 : decode cX4_leastThrough 51 = .ok (.iload 5, 2) := by decide +kernel
theorem dX4_leastThrough_53 : decode cX4_leastThrough 53 = .ok (.invokevirtual 75, 3) := by decide +kernel
theorem dX4_leastThrough_56 : decode cX4_leastThrough 56 = .ok (.aload_n 0, 1) := by decide +kernel
theorem dX4_leastThrough_57 : decode cX4_leastThrough 57 = .ok (.iload 5, 2) := by decide +kernel
theorem dX4_leastThrough_59 : decode cX4_leastThrough 59 = .ok (.iload_n 2, 1) := by decide +kernel
theorem dX4_leastThrough_60 : decode cX4_leastThrough 60 = .ok (.invokevirtual 75, 3) := by decide +kernel
theorem dX4_leastThrough_63 : decode cX4_leastThrough 63 = .ok (.iadd, 1) := by decide +kernel
theorem dX4_leastThrough_64 : decode cX4_leastThrough 64 = .ok (.istore 6, 2) := by decide +kernel
theorem dX4_leastThrough_66 : decode cX4_leastThrough 66 = .ok (.iload 4, 2) := by decide +kernel
theorem dX4_leastThrough_68 : decode cX4_leastThrough 68 = .ok (.sipush (-1000), 3) := by decide +kernel
theorem dX4_leastThrough_71 : decode cX4_leastThrough 71 = .ok (.if_icmp .ne 8, 3) := by decide +kernel
theorem dX4_leastThrough_74 : decode cX4_leastThrough 74 = .ok (.iload 6, 2) := by decide +kernel
theorem dX4_leastThrough_76 : decode cX4_leastThrough 76 = .ok (.goto 10, 3) := by decide +kernel
theorem dX4_leastThrough_79 : decode cX4_leastThrough 79 = .ok (.iload 4, 2) := by decide +kernel
theorem dX4_leastThrough_81 : decode cX4_leastThrough 81 = .ok (.iload 6, 2) := by decide +kernel
theorem dX4_leastThrough_83 : decode cX4_leastThrough 83 = .ok (.invokestatic 91, 3) := by decide +kernel
theorem dX4_leastThrough_86 : decode cX4_leastThrough 86 = .ok (.istore 4, 2) := by decide +kernel
theorem dX4_leastThrough_88 : decode cX4_leastThrough 88 = .ok (.iinc 5 1, 3) := by decide +kernel
theorem dX4_leastThrough_91 : decode cX4_leastThrough 91 = .ok (.goto (-83), 3) := by decide +kernel
theorem dX4_leastThrough_94 : decode cX4_leastThrough 94 = .ok (.iload 4, 2) := by decide +kernel
theorem dX4_leastThrough_96 : decode cX4_leastThrough 96 = .ok (.ireturn, 1) := by decide +kernel
theorem dX4_countLinked_0 : decode cX4_countLinked 0 = .ok (.iconst 0, 1) := by decide +kernel
theorem dX4_countLinked_1 : decode cX4_countLinked 1 = .ok (.istore_n 1, 1) := by decide +kernel
theorem dX4_countLinked_2 : decode cX4_countLinked 2 = .ok (.iconst 0, 1) := by decide +kernel
theorem dX4_countLinked_3 : decode cX4_countLinked 3 = .ok (.istore_n 2, 1) := by decide +kernel
theorem dX4_countLinked_4 : decode cX4_countLinked 4 = .ok (.iload_n 2, 1) := by decide +kernel
theorem dX4_countLinked_5 : decode cX4_countLinked 5 = .ok (.aload_n 0, 1) := by decide +kernel
theorem dX4_countLinked_6 : decode cX4_countLinked 6 = .ok (.getfield 18, 3) := by decide +kernel
theorem dX4_countLinked_9 : decode cX4_countLinked 9 = .ok (.getfield 29, 3) := by decide +kernel
theorem dX4_countLinked_12 : decode cX4_countLinked 12 = .ok (.if_icmp .ge 45, 3) := by decide +kernel
theorem dX4_countLinked_15 : decode cX4_countLinked 15 = .ok (.iconst 0, 1) := by decide +kernel
theorem dX4_countLinked_16 : decode cX4_countLinked 16 = .ok (.istore_n 3, 1) := by decide +kernel
theorem dX4_countLinked_17 : decode cX4_countLinked 17 = .ok (.iload_n 3, 1) := by decide +kernel
theorem dX4_countLinked_18 : decode cX4_countLinked 18 = .ok (.aload_n 0, 1) := by decide +kernel
theorem dX4_countLinked_19 : decode cX4_countLinked 19 = .ok (.getfield 18, 3) := by decide +kernel
theorem dX4_countLinked_22 : decode cX4_countLinked 22 = .ok (.getfield 29, 3) := by decide +kernel
theorem dX4_countLinked_25 : decode cX4_countLinked 25 = .ok (.if_icmp .ge 26, 3) := by decide +kernel
theorem dX4_countLinked_28 : decode cX4_countLinked 28 = .ok (.iload_n 2, 1) := by decide +kernel
theorem dX4_countLinked_29 : decode cX4_countLinked 29 = .ok (.iload_n 3, 1) := by decide +kernel
theorem dX4_countLinked_30 : decode cX4_countLinked 30 = .ok (.if_icmp .eq 15, 3) := by decide +kernel
theorem dX4_countLinked_33 : decode cX4_countLinked 33 = .ok (.aload_n 0, 1) := by decide +kernel
theorem dX4_countLinked_34 : decode cX4_countLinked 34 = .ok (.iload_n 2, 1) := by decide +kernel
theorem dX4_countLinked_35 : decode cX4_countLinked 35 = .ok (.iload_n 3, 1) := by decide +kernel
theorem dX4_countLinked_36 : decode cX4_countLinked 36 = .ok (.invokevirtual 88, 3) := by decide +kernel
theorem dX4_countLinked_39 : decode cX4_countLinked 39 = .ok (.ifCond .eq 6, 3) := by decide +kernel
theorem dX4_countLinked_42 : decode cX4_countLinked 42 = .ok (.iinc 1 1, 3) := by decide +kernel
theorem dX4_countLinked_45 : decode cX4_countLinked 45 = .ok (.iinc 3 1, 3) := by decide +kernel
theorem dX4_countLinked_48 : decode cX4_countLinked 48 = .ok (.goto (-31), 3) := by decide +kernel
theorem dX4_countLinked_51 : decode cX4_countLinked 51 = .ok (.iinc 2 1, 3) := by decide +kernel
theorem dX4_countLinked_54 : decode cX4_countLinked 54 = .ok (.goto (-50), 3) := by decide +kernel
theorem dX4_countLinked_57 : decode cX4_countLinked 57 = .ok (.iload_n 1, 1) := by decide +kernel
theorem dX4_countLinked_58 : decode cX4_countLinked 58 = .ok (.ireturn, 1) := by decide +kernel
theorem dX4_spread_0 : decode cX4_spread 0 = .ok (.aload_n 0, 1) := by decide +kernel
theorem dX4_spread_1 : decode cX4_spread 1 = .ok (.getfield 15, 3) := by decide +kernel
theorem dX4_spread_4 : decode cX4_spread 4 = .ok (.ldc 22, 2) := by decide +kernel
theorem dX4_spread_6 : decode cX4_spread 6 = .ok (.invokestatic 23, 3) := by decide +kernel
theorem dX4_spread_9 : decode cX4_spread 9 = .ok (.aload_n 0, 1) := by decide +kernel
theorem dX4_spread_10 : decode cX4_spread 10 = .ok (.getfield 15, 3) := by decide +kernel
theorem dX4_spread_13 : decode cX4_spread 13 = .ok (.iload_n 1, 1) := by decide +kernel
theorem dX4_spread_14 : decode cX4_spread 14 = .ok (.iconst 0, 1) := by decide +kernel
theorem dX4_spread_15 : decode cX4_spread 15 = .ok (.iastore, 1) := by decide +kernel
theorem dX4_spread_16 : decode cX4_spread 16 = .ok (.iconst 1, 1) := by decide +kernel
theorem dX4_spread_17 : decode cX4_spread 17 = .ok (.istore 4, 2) := by decide +kernel
theorem dX4_spread_19 : decode cX4_spread 19 = .ok (.iconst 0, 1) := by decide +kernel
theorem dX4_spread_20 : decode cX4_spread 20 = .ok (.istore 5, 2) := by decide +kernel
theorem dX4_spread_22 : decode cX4_spread 22 = .ok (.iload 4, 2) := by decide +kernel
theorem dX4_spread_24 : decode cX4_spread 24 = .ok (.ifCond .eq 89, 3) := by decide +kernel
theorem dX4_spread_27 : decode cX4_spread 27 = .ok (.iload 5, 2) := by decide +kernel
theorem dX4_spread_29 : decode cX4_spread 29 = .ok (.aload_n 0, 1) := by decide +kernel
theorem dX4_spread_30 : decode cX4_spread 30 = .ok (.getfield 18, 3) := by decide +kernel
theorem dX4_spread_33 : decode cX4_spread 33 = .ok (.getfield 29, 3) := by decide +kernel
theorem dX4_spread_36 : decode cX4_spread 36 = .ok (.if_icmp .ge 77, 3) := by decide +kernel
theorem dX4_spread_39 : decode cX4_spread 39 = .ok (.iconst 0, 1) := by decide +kernel
theorem dX4_spread_40 : decode cX4_spread 40 = .ok (.istore 4, 2) := by decide +kernel
theorem dX4_spread_42 : decode cX4_spread 42 = .ok (.iconst 0, 1) := by decide +kernel
theorem dX4_spread_43 : decode cX4_spread 43 = .ok (.istore 6, 2) := by decide +kernel
theorem dX4_spread_45 : decode cX4_spread 45 = .ok (.iload 6, 2) := by decide +kernel
theorem dX4_spread_47 : decode cX4_spread 47 = .ok (.aload_n 0, 1) := by decide +kernel
theorem dX4_spread_48 : decode cX4_spread 48 = .ok (.getfield 18, 3) := by decide +kernel
theorem dX4_spread_51 : decode cX4_spread 51 = .ok (.getfield 82, 3) := by decide +kernel
theorem dX4_spread_54 : decode cX4_spread 54 = .ok (.if_icmp .ge 53, 3) := by decide +kernel
theorem dX4_spread_57 : decode cX4_spread 57 = .ok (.aload_n 0, 1) := by decide +kernel
theorem dX4_spread_58 : decode cX4_spread 58 = .ok (.getfield 18, 3) := by decide +kernel
theorem dX4_spread_61 : decode cX4_spread 61 = .ok (.getfield 110, 3) := by decide +kernel
theorem dX4_spread_64 : decode cX4_spread 64 = .ok (.iload 6, 2) := by decide +kernel
theorem dX4_spread_66 : decode cX4_spread 66 = .ok (.baload, 1) := by decide +kernel
theorem dX4_spread_67 : decode cX4_spread 67 = .ok (.ifCond .eq 34, 3) := by decide +kernel
theorem dX4_spread_70 : decode cX4_spread 70 = .ok (.iload 6, 2) := by decide +kernel
theorem dX4_spread_72 : decode cX4_spread 72 = .ok (.iload_n 2, 1) := by decide +kernel
theorem dX4_spread_73 : decode cX4_spread 73 = .ok (.if_icmp .eq 28, 3) := by decide +kernel
theorem dX4_spread_76 : decode cX4_spread 76 = .ok (.aload_n 0, 1) := by decide +kernel
theorem dX4_spread_77 : decode cX4_spread 77 = .ok (.getfield 18, 3) := by decide +kernel
theorem dX4_spread_80 : decode cX4_spread 80 = .ok (.iload 6, 2) := by decide +kernel
theorem dX4_spread_82 : decode cX4_spread 82 = .ok (.iload_n 3, 1) := by decide +kernel
theorem dX4_spread_83 : decode cX4_spread 83 = .ok (.invokevirtual 113, 3) := by decide +kernel
theorem dX4_spread_86 : decode cX4_spread 86 = .ok (.ifCond .ne 15, 3) := by decide +kernel
theorem dX4_spread_89 : decode cX4_spread 89 = .ok (.aload_n 0, 1) := by decide +kernel
theorem dX4_spread_90 : decode cX4_spread 90 = .ok (.iload 6, 2) := by decide +kernel
theorem dX4_spread_92 : decode cX4_spread 92 = .ok (.invokevirtual 116, 3) := by decide +kernel
theorem dX4_spread_95 : decode cX4_spread 95 = .ok (.ifCond .eq 6, 3) := by decide +kernel
theorem dX4_spread_98 : decode cX4_spread 98 = .ok (.iconst 1, 1) := by decide +kernel
theorem dX4_spread_99 : decode cX4_spread 99 = .ok (.istore 4, 2) := by decide +kernel
theorem dX4_spread_101 : decode cX4_spread 101 = .ok (.iinc 6 1, 3) := by decide +kernel
theorem dX4_spread_104 : decode cX4_spread 104 = .ok (.goto (-59), 3) := by decide +kernel
theorem dX4_spread_107 : decode cX4_spread 107 = .ok (.iinc 5 1, 3) := by decide +kernel
theorem dX4_spread_110 : decode cX4_spread 110 = .ok (.goto (-88), 3) := by decide +kernel
theorem dX4_spread_113 : decode cX4_spread 113 = .ok (.return_, 1) := by decide +kernel
theorem dX4_relax_0 : decode cX4_relax 0 = .ok (.aload_n 0, 1) := by decide +kernel
theorem dX4_relax_1 : decode cX4_relax 1 = .ok (.iload_n 1, 1) := by decide +kernel
theorem dX4_relax_2 : decode cX4_relax 2 = .ok (.invokevirtual 120, 3) := by decide +kernel
theorem dX4_relax_5 : decode cX4_relax 5 = .ok (.istore_n 2, 1) := by decide +kernel
theorem dX4_relax_6 : decode cX4_relax 6 = .ok (.aload_n 0, 1) := by decide +kernel
theorem dX4_relax_7 : decode cX4_relax 7 = .ok (.getfield 18, 3) := by decide +kernel
theorem dX4_relax_10 : decode cX4_relax 10 = .ok (.getfield 97, 3) := by decide +kernel
theorem dX4_relax_13 : decode cX4_relax 13 = .ok (.iload_n 1, 1) := by decide +kernel
theorem dX4_relax_14 : decode cX4_relax 14 = .ok (.iaload, 1) := by decide +kernel
theorem dX4_relax_15 : decode cX4_relax 15 = .ok (.istore_n 3, 1) := by decide +kernel
theorem dX4_relax_16 : decode cX4_relax 16 = .ok (.aload_n 0, 1) := by decide +kernel
theorem dX4_relax_17 : decode cX4_relax 17 = .ok (.getfield 18, 3) := by decide +kernel
theorem dX4_relax_20 : decode cX4_relax 20 = .ok (.getfield 103, 3) := by decide +kernel
theorem dX4_relax_23 : decode cX4_relax 23 = .ok (.iload_n 1, 1) := by decide +kernel
theorem dX4_relax_24 : decode cX4_relax 24 = .ok (.iaload, 1) := by decide +kernel
theorem dX4_relax_25 : decode cX4_relax 25 = .ok (.istore 4, 2) := by decide +kernel
theorem dX4_relax_27 : decode cX4_relax 27 = .ok (.aload_n 0, 1) := by decide +kernel
theorem dX4_relax_28 : decode cX4_relax 28 = .ok (.iload_n 3, 1) := by decide +kernel
theorem dX4_relax_29 : decode cX4_relax 29 = .ok (.iload 4, 2) := by decide +kernel
theorem dX4_relax_31 : decode cX4_relax 31 = .ok (.iload_n 2, 1) := by decide +kernel
theorem dX4_relax_32 : decode cX4_relax 32 = .ok (.invokevirtual 123, 3) := by decide +kernel
theorem dX4_relax_35 : decode cX4_relax 35 = .ok (.istore 5, 2) := by decide +kernel
theorem dX4_relax_37 : decode cX4_relax 37 = .ok (.aload_n 0, 1) := by decide +kernel
theorem dX4_relax_38 : decode cX4_relax 38 = .ok (.getfield 18, 3) := by decide +kernel
theorem dX4_relax_41 : decode cX4_relax 41 = .ok (.getfield 106, 3) := by decide +kernel
theorem dX4_relax_44 : decode cX4_relax 44 = .ok (.iload_n 1, 1) := by decide +kernel
theorem dX4_relax_45 : decode cX4_relax 45 = .ok (.baload, 1) := by decide +kernel
theorem dX4_relax_46 : decode cX4_relax 46 = .ok (.ifCond .eq 14, 3) := by decide +kernel
theorem dX4_relax_49 : decode cX4_relax 49 = .ok (.aload_n 0, 1) := by decide +kernel
theorem dX4_relax_50 : decode cX4_relax 50 = .ok (.iload 4, 2) := by decide +kernel
theorem dX4_relax_52 : decode cX4_relax 52 = .ok (.iload_n 3, 1) := by decide +kernel
theorem dX4_relax_53 : decode cX4_relax 53 = .ok (.iload_n 2, 1) := by decide +kernel
theorem dX4_relax_54 : decode cX4_relax 54 = .ok (.invokevirtual 123, 3) := by decide +kernel
theorem dX4_relax_57 : decode cX4_relax 57 = .ok (.ifCond .ne 8, 3) := by decide +kernel
theorem dX4_relax_60 : decode cX4_relax 60 = .ok (.iload 5, 2) := by decide +kernel
theorem dX4_relax_62 : decode cX4_relax 62 = .ok (.ifCond .eq 7, 3) := by decide +kernel
theorem dX4_relax_65 : decode cX4_relax 65 = .ok (.iconst 1, 1) := by decide +kernel
theorem dX4_relax_66 : decode cX4_relax 66 = .ok (.goto 4, 3) := by decide +kernel
theorem dX4_relax_69 : decode cX4_relax 69 = .ok (.iconst 0, 1) := by decide +kernel
theorem dX4_relax_70 : decode cX4_relax 70 = .ok (.ireturn, 1) := by decide +kernel
theorem dX4_lower_0 : decode cX4_lower 0 = .ok (.aload_n 0, 1) := by decide +kernel
theorem dX4_lower_1 : decode cX4_lower 1 = .ok (.getfield 15, 3) := by decide +kernel
theorem dX4_lower_4 : decode cX4_lower 4 = .ok (.iload_n 1, 1) := by decide +kernel
theorem dX4_lower_5 : decode cX4_lower 5 = .ok (.iaload, 1) := by decide +kernel
theorem dX4_lower_6 : decode cX4_lower 6 = .ok (.ldc 22, 2) := by decide +kernel
theorem dX4_lower_8 : decode cX4_lower 8 = .ok (.if_icmp .eq 20, 3) := by decide +kernel
theorem dX4_lower_11 : decode cX4_lower 11 = .ok (.aload_n 0, 1) := by decide +kernel
theorem dX4_lower_12 : decode cX4_lower 12 = .ok (.getfield 15, 3) := by decide +kernel
theorem dX4_lower_15 : decode cX4_lower 15 = .ok (.iload_n 1, 1) := by decide +kernel
theorem dX4_lower_16 : decode cX4_lower 16 = .ok (.iaload, 1) := by decide +kernel
theorem dX4_lower_17 : decode cX4_lower 17 = .ok (.iload_n 3, 1) := by decide +kernel
theorem dX4_lower_18 : decode cX4_lower 18 = .ok (.iadd, 1) := by decide +kernel
theorem dX4_lower_19 : decode cX4_lower 19 = .ok (.aload_n 0, 1) := by decide +kernel
theorem dX4_lower_20 : decode cX4_lower 20 = .ok (.getfield 15, 3) := by decide +kernel
theorem dX4_lower_23 : decode cX4_lower 23 = .ok (.iload_n 2, 1) := by decide +kernel
theorem dX4_lower_24 : decode cX4_lower 24 = .ok (.iaload, 1) := by decide +kernel
theorem dX4_lower_25 : decode cX4_lower 25 = .ok (.if_icmp .lt 5, 3) := by decide +kernel
theorem dX4_lower_28 : decode cX4_lower 28 = .ok (.iconst 0, 1) := by decide +kernel
theorem dX4_lower_29 : decode cX4_lower 29 = .ok (.ireturn, 1) := by decide +kernel
theorem dX4_lower_30 : decode cX4_lower 30 = .ok (.aload_n 0, 1) := by decide +kernel
theorem dX4_lower_31 : decode cX4_lower 31 = .ok (.getfield 15, 3) := by decide +kernel
theorem dX4_lower_34 : decode cX4_lower 34 = .ok (.iload_n 2, 1) := by decide +kernel
theorem dX4_lower_35 : decode cX4_lower 35 = .ok (.aload_n 0, 1) := by decide +kernel
theorem dX4_lower_36 : decode cX4_lower 36 = .ok (.getfield 15, 3) := by decide +kernel
theorem dX4_lower_39 : decode cX4_lower 39 = .ok (.iload_n 1, 1) := by decide +kernel
theorem dX4_lower_40 : decode cX4_lower 40 = .ok (.iaload, 1) := by decide +kernel
theorem dX4_lower_41 : decode cX4_lower 41 = .ok (.iload_n 3, 1) := by decide +kernel
theorem dX4_lower_42 : decode cX4_lower 42 = .ok (.iadd, 1) := by decide +kernel
theorem dX4_lower_43 : decode cX4_lower 43 = .ok (.iastore, 1) := by decide +kernel
theorem dX4_lower_44 : decode cX4_lower 44 = .ok (.iconst 1, 1) := by decide +kernel
theorem dX4_lower_45 : decode cX4_lower 45 = .ok (.ireturn, 1) := by decide +kernel
theorem dX4_lineToward_0 : decode cX4_lineToward 0 = .ok (.aload_n 0, 1) := by decide +kernel
theorem dX4_lineToward_1 : decode cX4_lineToward 1 = .ok (.getfield 18, 3) := by decide +kernel
theorem dX4_lineToward_4 : decode cX4_lineToward 4 = .ok (.iload_n 1, 1) := by decide +kernel
theorem dX4_lineToward_5 : decode cX4_lineToward 5 = .ok (.invokevirtual 126, 3) := by decide +kernel
theorem dX4_lineToward_8 : decode cX4_lineToward 8 = .ok (.ifCond .eq 12, 3) := by decide +kernel
theorem dX4_lineToward_11 : decode cX4_lineToward 11 = .ok (.aload_n 0, 1) := by decide +kernel
theorem dX4_lineToward_12 : decode cX4_lineToward 12 = .ok (.iload_n 1, 1) := by decide +kernel
theorem dX4_lineToward_13 : decode cX4_lineToward 13 = .ok (.iload_n 2, 1) := by decide +kernel
theorem dX4_lineToward_14 : decode cX4_lineToward 14 = .ok (.invokevirtual 88, 3) := by decide +kernel
theorem dX4_lineToward_17 : decode cX4_lineToward 17 = .ok (.ifCond .ne 5, 3) := by decide +kernel
theorem dX4_lineToward_20 : decode cX4_lineToward 20 = .ok (.iconst (-1), 1) := by decide +kernel
theorem dX4_lineToward_21 : decode cX4_lineToward 21 = .ok (.ireturn, 1) := by decide +kernel
theorem dX4_lineToward_22 : decode cX4_lineToward 22 = .ok (.aload_n 0, 1) := by decide +kernel
theorem dX4_lineToward_23 : decode cX4_lineToward 23 = .ok (.getfield 9, 3) := by decide +kernel
theorem dX4_lineToward_26 : decode cX4_lineToward 26 = .ok (.iload_n 1, 1) := by decide +kernel
theorem dX4_lineToward_27 : decode cX4_lineToward 27 = .ok (.iload_n 2, 1) := by decide +kernel
theorem dX4_lineToward_28 : decode cX4_lineToward 28 = .ok (.invokestatic 39, 3) := by decide +kernel
theorem dX4_lineToward_31 : decode cX4_lineToward 31 = .ok (.iaload, 1) := by decide +kernel
theorem dX4_lineToward_32 : decode cX4_lineToward 32 = .ok (.istore_n 3, 1) := by decide +kernel
theorem dX4_lineToward_33 : decode cX4_lineToward 33 = .ok (.iconst 0, 1) := by decide +kernel
theorem dX4_lineToward_34 : decode cX4_lineToward 34 = .ok (.istore 4, 2) := by decide +kernel
theorem dX4_lineToward_36 : decode cX4_lineToward 36 = .ok (.iload 4, 2) := by decide +kernel
theorem dX4_lineToward_38 : decode cX4_lineToward 38 = .ok (.aload_n 0, 1) := by decide +kernel
theorem dX4_lineToward_39 : decode cX4_lineToward 39 = .ok (.getfield 18, 3) := by decide +kernel
theorem dX4_lineToward_42 : decode cX4_lineToward 42 = .ok (.getfield 82, 3) := by decide +kernel
theorem dX4_lineToward_45 : decode cX4_lineToward 45 = .ok (.if_icmp .ge 62, 3) := by decide +kernel
theorem dX4_lineToward_48 : decode cX4_lineToward 48 = .ok (.aload_n 0, 1) := by decide +kernel
theorem dX4_lineToward_49 : decode cX4_lineToward 49 = .ok (.getfield 18, 3) := by decide +kernel
theorem dX4_lineToward_52 : decode cX4_lineToward 52 = .ok (.iload 4, 2) := by decide +kernel
theorem dX4_lineToward_54 : decode cX4_lineToward 54 = .ok (.iload_n 1, 1) := by decide +kernel
theorem dX4_lineToward_55 : decode cX4_lineToward 55 = .ok (.invokevirtual 64, 3) := by decide +kernel
theorem dX4_lineToward_58 : decode cX4_lineToward 58 = .ok (.istore 5, 2) := by decide +kernel
theorem dX4_lineToward_60 : decode cX4_lineToward 60 = .ok (.iload 5, 2) := by decide +kernel
theorem dX4_lineToward_62 : decode cX4_lineToward 62 = .ok (.iconst (-1), 1) := by decide +kernel
theorem dX4_lineToward_63 : decode cX4_lineToward 63 = .ok (.if_icmp .eq 38, 3) := by decide +kernel
theorem dX4_lineToward_66 : decode cX4_lineToward 66 = .ok (.aload_n 0, 1) := by decide +kernel
theorem dX4_lineToward_67 : decode cX4_lineToward 67 = .ok (.iload 5, 2) := by decide +kernel
theorem dX4_lineToward_69 : decode cX4_lineToward 69 = .ok (.iload_n 2, 1) := by decide +kernel
theorem dX4_lineToward_70 : decode cX4_lineToward 70 = .ok (.invokevirtual 88, 3) := by decide +kernel
theorem dX4_lineToward_73 : decode cX4_lineToward 73 = .ok (.ifCond .eq 28, 3) := by decide +kernel
theorem dX4_lineToward_76 : decode cX4_lineToward 76 = .ok (.aload_n 0, 1) := by decide +kernel
theorem dX4_lineToward_77 : decode cX4_lineToward 77 = .ok (.iload 4, 2) := by decide +kernel
theorem dX4_lineToward_79 : decode cX4_lineToward 79 = .ok (.invokevirtual 120, 3) := by decide +kernel
theorem dX4_lineToward_82 : decode cX4_lineToward 82 = .ok (.aload_n 0, 1) := by decide +kernel
theorem dX4_lineToward_83 : decode cX4_lineToward 83 = .ok (.getfield 9, 3) := by decide +kernel
theorem dX4_lineToward_86 : decode cX4_lineToward 86 = .ok (.iload 5, 2) := by decide +kernel
theorem dX4_lineToward_88 : decode cX4_lineToward 88 = .ok (.iload_n 2, 1) := by decide +kernel
theorem dX4_lineToward_89 : decode cX4_lineToward 89 = .ok (.invokestatic 39, 3) := by decide +kernel
theorem dX4_lineToward_92 : decode cX4_lineToward 92 = .ok (.iaload, 1) := by decide +kernel
theorem dX4_lineToward_93 : decode cX4_lineToward 93 = .ok (.iadd, 1) := by decide +kernel
theorem dX4_lineToward_94 : decode cX4_lineToward 94 = .ok (.iload_n 3, 1) := by decide +kernel
theorem dX4_lineToward_95 : decode cX4_lineToward 95 = .ok (.if_icmp .ne 6, 3) := by decide +kernel
theorem dX4_lineToward_98 : decode cX4_lineToward 98 = .ok (.iload 4, 2) := by decide +kernel
theorem dX4_lineToward_100 : decode cX4_lineToward 100 = .ok (.ireturn, 1) := by decide +kernel
theorem dX4_lineToward_101 : decode cX4_lineToward 101 = .ok (.iinc 4 1, 3) := by decide +kernel
theorem dX4_lineToward_104 : decode cX4_lineToward 104 = .ok (.goto (-68), 3) := by decide +kernel
theorem dX4_lineToward_107 : decode cX4_lineToward 107 = .ok (.iconst (-1), 1) := by decide +kernel
theorem dX4_lineToward_108 : decode cX4_lineToward 108 = .ok (.ireturn, 1) := by decide +kernel
theorem dX4_isOnWay_0 : decode cX4_isOnWay 0 = .ok (.iconst 0, 1) := by decide +kernel
theorem dX4_isOnWay_1 : decode cX4_isOnWay 1 = .ok (.istore 4, 2) := by decide +kernel
theorem dX4_isOnWay_3 : decode cX4_isOnWay 3 = .ok (.iload 4, 2) := by decide +kernel
theorem dX4_isOnWay_5 : decode cX4_isOnWay 5 = .ok (.aload_n 0, 1) := by decide +kernel
theorem dX4_isOnWay_6 : decode cX4_isOnWay 6 = .ok (.iload_n 1, 1) := by decide +kernel
theorem dX4_isOnWay_7 : decode cX4_isOnWay 7 = .ok (.iload_n 2, 1) := by decide +kernel
theorem dX4_isOnWay_8 : decode cX4_isOnWay 8 = .ok (.invokevirtual 58, 3) := by decide +kernel
theorem dX4_isOnWay_11 : decode cX4_isOnWay 11 = .ok (.if_icmp .ge 23, 3) := by decide +kernel
theorem dX4_isOnWay_14 : decode cX4_isOnWay 14 = .ok (.aload_n 0, 1) := by decide +kernel
theorem dX4_isOnWay_15 : decode cX4_isOnWay 15 = .ok (.iload_n 1, 1) := by decide +kernel
theorem dX4_isOnWay_16 : decode cX4_isOnWay 16 = .ok (.iload_n 2, 1) := by decide +kernel
theorem dX4_isOnWay_17 : decode cX4_isOnWay 17 = .ok (.iload 4, 2) := by decide +kernel
theorem dX4_isOnWay_19 : decode cX4_isOnWay 19 = .ok (.invokevirtual 129, 3) := by decide +kernel
theorem dX4_isOnWay_22 : decode cX4_isOnWay 22 = .ok (.iload_n 3, 1) := by decide +kernel
theorem dX4_isOnWay_23 : decode cX4_isOnWay 23 = .ok (.if_icmp .ne 5, 3) := by decide +kernel
theorem dX4_isOnWay_26 : decode cX4_isOnWay 26 = .ok (.iconst 1, 1) := by decide +kernel
theorem dX4_isOnWay_27 : decode cX4_isOnWay 27 = .ok (.ireturn, 1) := by decide +kernel
theorem dX4_isOnWay_28 : decode cX4_isOnWay 28 = .ok (.iinc 4 1, 3) := by decide +kernel
theorem dX4_isOnWay_31 : decode cX4_isOnWay 31 = .ok (.goto (-28), 3) := by decide +kernel
theorem dX4_isOnWay_34 : decode cX4_isOnWay 34 = .ok (.iconst 0, 1) := by decide +kernel
theorem dX4_isOnWay_35 : decode cX4_isOnWay 35 = .ok (.ireturn, 1) := by decide +kernel
theorem dX4_ringOver_0 : decode cX4_ringOver 0 = .ok (.aload_n 0, 1) := by decide +kernel
theorem dX4_ringOver_1 : decode cX4_ringOver 1 = .ok (.getfield 18, 3) := by decide +kernel
theorem dX4_ringOver_4 : decode cX4_ringOver 4 = .ok (.getfield 110, 3) := by decide +kernel
theorem dX4_ringOver_7 : decode cX4_ringOver 7 = .ok (.iload_n 1, 1) := by decide +kernel
theorem dX4_ringOver_8 : decode cX4_ringOver 8 = .ok (.baload, 1) := by decide +kernel
theorem dX4_ringOver_9 : decode cX4_ringOver 9 = .ok (.ifCond .ne 7, 3) := by decide +kernel
theorem dX4_ringOver_12 : decode cX4_ringOver 12 = .ok (.sipush (-1000), 3) := by decide +kernel
theorem dX4_ringOver_15 : decode cX4_ringOver 15 = .ok (.ireturn, 1) := by decide +kernel
theorem dX4_ringOver_16 : decode cX4_ringOver 16 = .ok (.aload_n 0, 1) := by decide +kernel
theorem dX4_ringOver_17 : decode cX4_ringOver 17 = .ok (.getfield 18, 3) := by decide +kernel
theorem dX4_ringOver_20 : decode cX4_ringOver 20 = .ok (.getfield 94, 3) := by decide +kernel
theorem dX4_ringOver_23 : decode cX4_ringOver 23 = .ok (.iload_n 1, 1) := by decide +kernel
theorem dX4_ringOver_24 : decode cX4_ringOver 24 = .ok (.iaload, 1) := by decide +kernel
theorem dX4_ringOver_25 : decode cX4_ringOver 25 = .ok (.istore_n 2, 1) := by decide +kernel
theorem dX4_ringOver_26 : decode cX4_ringOver 26 = .ok (.aload_n 0, 1) := by decide +kernel
theorem dX4_ringOver_27 : decode cX4_ringOver 27 = .ok (.getfield 18, 3) := by decide +kernel
theorem dX4_ringOver_30 : decode cX4_ringOver 30 = .ok (.getfield 106, 3) := by decide +kernel
theorem dX4_ringOver_33 : decode cX4_ringOver 33 = .ok (.iload_n 1, 1) := by decide +kernel
theorem dX4_ringOver_34 : decode cX4_ringOver 34 = .ok (.baload, 1) := by decide +kernel
theorem dX4_ringOver_35 : decode cX4_ringOver 35 = .ok (.ifCond .eq 53, 3) := by decide +kernel
theorem dX4_ringOver_38 : decode cX4_ringOver 38 = .ok (.iload_n 2, 1) := by decide +kernel
theorem dX4_ringOver_39 : decode cX4_ringOver 39 = .ok (.aload_n 0, 1) := by decide +kernel
theorem dX4_ringOver_40 : decode cX4_ringOver 40 = .ok (.aload_n 0, 1) := by decide +kernel
theorem dX4_ringOver_41 : decode cX4_ringOver 41 = .ok (.getfield 18, 3) := by decide +kernel
theorem dX4_ringOver_44 : decode cX4_ringOver 44 = .ok (.getfield 97, 3) := by decide +kernel
theorem dX4_ringOver_47 : decode cX4_ringOver 47 = .ok (.iload_n 1, 1) := by decide +kernel
theorem dX4_ringOver_48 : decode cX4_ringOver 48 = .ok (.iaload, 1) := by decide +kernel
theorem dX4_ringOver_49 : decode cX4_ringOver 49 = .ok (.aload_n 0, 1) := by decide +kernel
theorem dX4_ringOver_50 : decode cX4_ringOver 50 = .ok (.getfield 18, 3) := by decide +kernel
theorem dX4_ringOver_53 : decode cX4_ringOver 53 = .ok (.getfield 103, 3) := by decide +kernel
theorem dX4_ringOver_56 : decode cX4_ringOver 56 = .ok (.iload_n 1, 1) := by decide +kernel
theorem dX4_ringOver_57 : decode cX4_ringOver 57 = .ok (.iaload, 1) := by decide +kernel
theorem dX4_ringOver_58 : decode cX4_ringOver 58 = .ok (.invokevirtual 75, 3) := by decide +kernel
theorem dX4_ringOver_61 : decode cX4_ringOver 61 = .ok (.aload_n 0, 1) := by decide +kernel
theorem dX4_ringOver_62 : decode cX4_ringOver 62 = .ok (.aload_n 0, 1) := by decide +kernel
theorem dX4_ringOver_63 : decode cX4_ringOver 63 = .ok (.getfield 18, 3) := by decide +kernel
theorem dX4_ringOver_66 : decode cX4_ringOver 66 = .ok (.getfield 103, 3) := by decide +kernel
theorem dX4_ringOver_69 : decode cX4_ringOver 69 = .ok (.iload_n 1, 1) := by decide +kernel
theorem dX4_ringOver_70 : decode cX4_ringOver 70 = .ok (.iaload, 1) := by decide +kernel
theorem dX4_ringOver_71 : decode cX4_ringOver 71 = .ok (.aload_n 0, 1) := by decide +kernel
theorem dX4_ringOver_72 : decode cX4_ringOver 72 = .ok (.getfield 18, 3) := by decide +kernel
theorem dX4_ringOver_75 : decode cX4_ringOver 75 = .ok (.getfield 97, 3) := by decide +kernel
theorem dX4_ringOver_78 : decode cX4_ringOver 78 = .ok (.iload_n 1, 1) := by decide +kernel
theorem dX4_ringOver_79 : decode cX4_ringOver 79 = .ok (.iaload, 1) := by decide +kernel
theorem dX4_ringOver_80 : decode cX4_ringOver 80 = .ok (.invokevirtual 75, 3) := by decide +kernel
theorem dX4_ringOver_83 : decode cX4_ringOver 83 = .ok (.invokestatic 91, 3) := by decide +kernel
theorem dX4_ringOver_86 : decode cX4_ringOver 86 = .ok (.iadd, 1) := by decide +kernel
theorem dX4_ringOver_87 : decode cX4_ringOver 87 = .ok (.ireturn, 1) := by decide +kernel
theorem dX4_ringOver_88 : decode cX4_ringOver 88 = .ok (.aload_n 0, 1) := by decide +kernel
theorem dX4_ringOver_89 : decode cX4_ringOver 89 = .ok (.aload_n 0, 1) := by decide +kernel
theorem dX4_ringOver_90 : decode cX4_ringOver 90 = .ok (.getfield 18, 3) := by decide +kernel
theorem dX4_ringOver_93 : decode cX4_ringOver 93 = .ok (.getfield 103, 3) := by decide +kernel
theorem dX4_ringOver_96 : decode cX4_ringOver 96 = .ok (.iload_n 1, 1) := by decide +kernel
theorem dX4_ringOver_97 : decode cX4_ringOver 97 = .ok (.iaload, 1) := by decide +kernel
theorem dX4_ringOver_98 : decode cX4_ringOver 98 = .ok (.aload_n 0, 1) := by decide +kernel
theorem dX4_ringOver_99 : decode cX4_ringOver 99 = .ok (.getfield 18, 3) := by decide +kernel
theorem dX4_ringOver_102 : decode cX4_ringOver 102 = .ok (.getfield 97, 3) := by decide +kernel
theorem dX4_ringOver_105 : decode cX4_ringOver 105 = .ok (.iload_n 1, 1) := by decide +kernel
theorem dX4_ringOver_106 : decode cX4_ringOver 106 = .ok (.iaload, 1) := by decide +kernel
theorem dX4_ringOver_107 : decode cX4_ringOver 107 = .ok (.invokevirtual 75, 3) := by decide +kernel
theorem dX4_ringOver_110 : decode cX4_ringOver 110 = .ok (.istore_n 3, 1) := by decide +kernel
theorem dX4_ringOver_111 : decode cX4_ringOver 111 = .ok (.iload_n 3, 1) := by decide +kernel
theorem dX4_ringOver_112 : decode cX4_ringOver 112 = .ok (.sipush (-1000), 3) := by decide +kernel
theorem dX4_ringOver_115 : decode cX4_ringOver 115 = .ok (.if_icmp .ne 9, 3) := by decide +kernel
theorem dX4_ringOver_118 : decode cX4_ringOver 118 = .ok (.sipush (-1000), 3) := by decide +kernel
theorem dX4_ringOver_121 : decode cX4_ringOver 121 = .ok (.goto 6, 3) := by decide +kernel
theorem dX4_ringOver_124 : decode cX4_ringOver 124 = .ok (.iload_n 2, 1) := by decide +kernel
theorem dX4_ringOver_125 : decode cX4_ringOver 125 = .ok (.iload_n 3, 1) := by decide +kernel
theorem dX4_ringOver_126 : decode cX4_ringOver 126 = .ok (.iadd, 1) := by decide +kernel
theorem dX4_ringOver_127 : decode cX4_ringOver 127 = .ok (.ireturn, 1) := by decide +kernel
theorem dX4_costOf_0 : decode cX4_costOf 0 = .ok (.aload_n 0, 1) := by decide +kernel
theorem dX4_costOf_1 : decode cX4_costOf 1 = .ok (.getfield 18, 3) := by decide +kernel
theorem dX4_costOf_4 : decode cX4_costOf 4 = .ok (.getfield 94, 3) := by decide +kernel
theorem dX4_costOf_7 : decode cX4_costOf 7 = .ok (.iload_n 1, 1) := by decide +kernel
theorem dX4_costOf_8 : decode cX4_costOf 8 = .ok (.iaload, 1) := by decide +kernel
theorem dX4_costOf_9 : decode cX4_costOf 9 = .ok (.bipush 64, 2) := by decide +kernel
theorem dX4_costOf_11 : decode cX4_costOf 11 = .ok (.imul, 1) := by decide +kernel
theorem dX4_costOf_12 : decode cX4_costOf 12 = .ok (.iconst 1, 1) := by decide +kernel
theorem dX4_costOf_13 : decode cX4_costOf 13 = .ok (.iadd, 1) := by decide +kernel
theorem dX4_costOf_14 : decode cX4_costOf 14 = .ok (.ireturn, 1) := by decide +kernel
theorem dX4_closesBelow_0 : decode cX4_closesBelow 0 = .ok (.iload_n 1, 1) := by decide +kernel
theorem dX4_closesBelow_1 : decode cX4_closesBelow 1 = .ok (.sipush (-1000), 3) := by decide +kernel
theorem dX4_closesBelow_4 : decode cX4_closesBelow 4 = .ok (.if_icmp .eq 13, 3) := by decide +kernel
theorem dX4_closesBelow_7 : decode cX4_closesBelow 7 = .ok (.iload_n 0, 1) := by decide +kernel
theorem dX4_closesBelow_8 : decode cX4_closesBelow 8 = .ok (.iload_n 1, 1) := by decide +kernel
theorem dX4_closesBelow_9 : decode cX4_closesBelow 9 = .ok (.iadd, 1) := by decide +kernel
theorem dX4_closesBelow_10 : decode cX4_closesBelow 10 = .ok (.ifCond .ge 7, 3) := by decide +kernel
theorem dX4_closesBelow_13 : decode cX4_closesBelow 13 = .ok (.iconst 1, 1) := by decide +kernel
theorem dX4_closesBelow_14 : decode cX4_closesBelow 14 = .ok (.goto 4, 3) := by decide +kernel
theorem dX4_closesBelow_17 : decode cX4_closesBelow 17 = .ok (.iconst 0, 1) := by decide +kernel
theorem dX4_closesBelow_18 : decode cX4_closesBelow 18 = .ok (.ireturn, 1) := by decide +kernel
theorem dX4_priceIn_0 : decode cX4_priceIn 0 = .ok (.iload_n 0, 1) := by decide +kernel
theorem dX4_priceIn_1 : decode cX4_priceIn 1 = .ok (.ldc 22, 2) := by decide +kernel
theorem dX4_priceIn_3 : decode cX4_priceIn 3 = .ok (.if_icmp .ne 9, 3) := by decide +kernel
theorem dX4_priceIn_6 : decode cX4_priceIn 6 = .ok (.sipush (-1000), 3) := by decide +kernel
theorem dX4_priceIn_9 : decode cX4_priceIn 9 = .ok (.goto 9, 3) := by decide +kernel
theorem dX4_priceIn_12 : decode cX4_priceIn 12 = .ok (.iload_n 0, 1) := by decide +kernel
theorem dX4_priceIn_13 : decode cX4_priceIn 13 = .ok (.bipush 64, 2) := by decide +kernel
theorem dX4_priceIn_15 : decode cX4_priceIn 15 = .ok (.invokestatic 133, 3) := by decide +kernel
theorem dX4_priceIn_18 : decode cX4_priceIn 18 = .ok (.ireturn, 1) := by decide +kernel
theorem dX5_init_0 : decode cX5_init 0 = .ok (.aload_n 0, 1) := by decide +kernel
theorem dX5_init_1 : decode cX5_init 1 = .ok (.invokespecial 3, 3) := by decide +kernel
theorem dX5_init_4 : decode cX5_init 4 = .ok (.aload_n 0, 1) := by decide +kernel
theorem dX5_init_5 : decode cX5_init 5 = .ok (.new 9, 3) := by decide +kernel
theorem dX5_init_8 : decode cX5_init 8 = .ok (.dup, 1) := by decide +kernel
theorem dX5_init_9 : decode cX5_init 9 = .ok (.invokespecial 11, 3) := by decide +kernel
theorem dX5_init_12 : decode cX5_init 12 = .ok (.putfield 12, 3) := by decide +kernel
theorem dX5_init_15 : decode cX5_init 15 = .ok (.aload_n 0, 1) := by decide +kernel
theorem dX5_init_16 : decode cX5_init 16 = .ok (.new 16, 3) := by decide +kernel
theorem dX5_init_19 : decode cX5_init 19 = .ok (.dup, 1) := by decide +kernel
theorem dX5_init_20 : decode cX5_init 20 = .ok (.aload_n 0, 1) := by decide +kernel
theorem dX5_init_21 : decode cX5_init 21 = .ok (.getfield 12, 3) := by decide +kernel
theorem dX5_init_24 : decode cX5_init 24 = .ok (.invokespecial 18, 3) := by decide +kernel
theorem dX5_init_27 : decode cX5_init 27 = .ok (.putfield 21, 3) := by decide +kernel
theorem dX5_init_30 : decode cX5_init 30 = .ok (.aload_n 0, 1) := by decide +kernel
theorem dX5_init_31 : decode cX5_init 31 = .ok (.new 25, 3) := by decide +kernel
theorem dX5_init_34 : decode cX5_init 34 = .ok (.dup, 1) := by decide +kernel
theorem dX5_init_35 : decode cX5_init 35 = .ok (.invokespecial 27, 3) := by decide +kernel
theorem dX5_init_38 : decode cX5_init 38 = .ok (.putfield 28, 3) := by decide +kernel
theorem dX5_init_41 : decode cX5_init 41 = .ok (.aload_n 0, 1) := by decide +kernel
theorem dX5_init_42 : decode cX5_init 42 = .ok (.new 32, 3) := by decide +kernel
theorem dX5_init_45 : decode cX5_init 45 = .ok (.dup, 1) := by decide +kernel
theorem dX5_init_46 : decode cX5_init 46 = .ok (.invokespecial 34, 3) := by decide +kernel
theorem dX5_init_49 : decode cX5_init 49 = .ok (.putfield 35, 3) := by decide +kernel
theorem dX5_init_52 : decode cX5_init 52 = .ok (.aload_n 0, 1) := by decide +kernel
theorem dX5_init_53 : decode cX5_init 53 = .ok (.iconst 2, 1) := by decide +kernel
theorem dX5_init_54 : decode cX5_init 54 = .ok (.invokevirtual 39, 3) := by decide +kernel
theorem dX5_init_57 : decode cX5_init 57 = .ok (.return_, 1) := by decide +kernel
theorem dX5_posts_0 : decode cX5_posts 0 = .ok (.iload_n 1, 1) := by decide +kernel
theorem dX5_posts_1 : decode cX5_posts 1 = .ok (.iconst 2, 1) := by decide +kernel
theorem dX5_posts_2 : decode cX5_posts 2 = .ok (.if_icmp .lt 9, 3) := by decide +kernel
theorem dX5_posts_5 : decode cX5_posts 5 = .ok (.iload_n 1, 1) := by decide +kernel
theorem dX5_posts_6 : decode cX5_posts 6 = .ok (.bipush 10, 2) := by decide +kernel
theorem dX5_posts_8 : decode cX5_posts 8 = .ok (.if_icmp .le 7, 3) := by decide +kernel
theorem dX5_posts_11 : decode cX5_posts 11 = .ok (.sipush (-1002), 3) := by decide +kernel
theorem dX5_posts_14 : decode cX5_posts 14 = .ok (.ireturn, 1) := by decide +kernel
theorem dX5_posts_15 : decode cX5_posts 15 = .ok (.aload_n 0, 1) := by decide +kernel
theorem dX5_posts_16 : decode cX5_posts 16 = .ok (.getfield 12, 3) := by decide +kernel
theorem dX5_posts_19 : decode cX5_posts 19 = .ok (.getfield 43, 3) := by decide +kernel
theorem dX5_posts_22 : decode cX5_posts 22 = .ok (.istore_n 2, 1) := by decide +kernel
theorem dX5_posts_23 : decode cX5_posts 23 = .ok (.aload_n 0, 1) := by decide +kernel
theorem dX5_posts_24 : decode cX5_posts 24 = .ok (.iload_n 1, 1) := by decide +kernel
theorem dX5_posts_25 : decode cX5_posts 25 = .ok (.invokevirtual 39, 3) := by decide +kernel
theorem dX5_posts_28 : decode cX5_posts 28 = .ok (.iload_n 2, 1) := by decide +kernel
theorem dX5_posts_29 : decode cX5_posts 29 = .ok (.ireturn, 1) := by decide +kernel
theorem dX5_line_0 : decode cX5_line 0 = .ok (.aload_n 0, 1) := by decide +kernel
theorem dX5_line_1 : decode cX5_line 1 = .ok (.getfield 12, 3) := by decide +kernel
theorem dX5_line_4 : decode cX5_line 4 = .ok (.iload_n 1, 1) := by decide +kernel
theorem dX5_line_5 : decode cX5_line 5 = .ok (.iload_n 2, 1) := by decide +kernel
theorem dX5_line_6 : decode cX5_line 6 = .ok (.invokevirtual 47, 3) := by decide +kernel
theorem dX5_line_9 : decode cX5_line 9 = .ok (.ifCond .ne 7, 3) := by decide +kernel
theorem dX5_line_12 : decode cX5_line 12 = .ok (.sipush (-1001), 3) := by decide +kernel
theorem dX5_line_15 : decode cX5_line 15 = .ok (.ireturn, 1) := by decide +kernel
theorem dX5_line_16 : decode cX5_line 16 = .ok (.iload_n 3, 1) := by decide +kernel
theorem dX5_line_17 : decode cX5_line 17 = .ok (.iload 4, 2) := by decide +kernel
theorem dX5_line_19 : decode cX5_line 19 = .ok (.invokestatic 51, 3) := by decide +kernel
theorem dX5_line_22 : decode cX5_line 22 = .ok (.ifCond .ne 7, 3) := by decide +kernel
theorem dX5_line_25 : decode cX5_line 25 = .ok (.sipush (-1002), 3) := by decide +kernel
theorem dX5_line_28 : decode cX5_line 28 = .ok (.ireturn, 1) := by decide +kernel
theorem dX5_line_29 : decode cX5_line 29 = .ok (.iload_n 1, 1) := by decide +kernel
theorem dX5_line_30 : decode cX5_line 30 = .ok (.iload_n 2, 1) := by decide +kernel
theorem dX5_line_31 : decode cX5_line 31 = .ok (.if_icmp .eq 19, 3) := by decide +kernel
theorem dX5_line_34 : decode cX5_line 34 = .ok (.aload_n 0, 1) := by decide +kernel
theorem dX5_line_35 : decode cX5_line 35 = .ok (.getfield 21, 3) := by decide +kernel
theorem dX5_line_38 : decode cX5_line 38 = .ok (.iload_n 1, 1) := by decide +kernel
theorem dX5_line_39 : decode cX5_line 39 = .ok (.iload_n 2, 1) := by decide +kernel
theorem dX5_line_40 : decode cX5_line 40 = .ok (.iload_n 3, 1) := by decide +kernel
theorem dX5_line_41 : decode cX5_line 41 = .ok (.iload 4, 2) := by decide +kernel
theorem dX5_line_43 : decode cX5_line 43 = .ok (.iconst (-1), 1) := by decide +kernel
theorem dX5_line_44 : decode cX5_line 44 = .ok (.invokevirtual 55, 3) := by decide +kernel
theorem dX5_line_47 : decode cX5_line 47 = .ok (.ifCond .eq 7, 3) := by decide +kernel
theorem dX5_line_50 : decode cX5_line 50 = .ok (.sipush (-1003), 3) := by decide +kernel
theorem dX5_line_53 : decode cX5_line 53 = .ok (.ireturn, 1) := by decide +kernel
theorem dX5_line_54 : decode cX5_line 54 = .ok (.aload_n 0, 1) := by decide +kernel
theorem dX5_line_55 : decode cX5_line 55 = .ok (.getfield 12, 3) := by decide +kernel
theorem dX5_line_58 : decode cX5_line 58 = .ok (.getfield 59, 3) := by decide +kernel
theorem dX5_line_61 : decode cX5_line 61 = .ok (.bipush 40, 2) := by decide +kernel
theorem dX5_line_63 : decode cX5_line 63 = .ok (.if_icmp .ge 13, 3) := by decide +kernel
theorem dX5_line_66 : decode cX5_line 66 = .ok (.aload_n 0, 1) := by decide +kernel
theorem dX5_line_67 : decode cX5_line 67 = .ok (.getfield 28, 3) := by decide +kernel
theorem dX5_line_70 : decode cX5_line 70 = .ok (.invokevirtual 62, 3) := by decide +kernel
theorem dX5_line_73 : decode cX5_line 73 = .ok (.ifCond .eq 7, 3) := by decide +kernel
theorem dX5_line_76 : decode cX5_line 76 = .ok (.sipush (-1004), 3) := by decide +kernel
theorem dX5_line_79 : decode cX5_line 79 = .ok (.ireturn, 1) := by decide +kernel
theorem dX5_line_80 : decode cX5_line 80 = .ok (.aload_n 0, 1) := by decide +kernel
theorem dX5_line_81 : decode cX5_line 81 = .ok (.getfield 12, 3) := by decide +kernel
theorem dX5_line_84 : decode cX5_line 84 = .ok (.iload_n 1, 1) := by decide +kernel
theorem dX5_line_85 : decode cX5_line 85 = .ok (.iload_n 2, 1) := by decide +kernel
theorem dX5_line_86 : decode cX5_line 86 = .ok (.iload_n 3, 1) := by decide +kernel
theorem dX5_line_87 : decode cX5_line 87 = .ok (.iload 4, 2) := by decide +kernel
theorem dX5_line_89 : decode cX5_line 89 = .ok (.invokevirtual 66, 3) := by decide +kernel
theorem dX5_line_92 : decode cX5_line 92 = .ok (.istore 5, 2) := by decide +kernel
theorem dX5_line_94 : decode cX5_line 94 = .ok (.aload_n 0, 1) := by decide +kernel
theorem dX5_line_95 : decode cX5_line 95 = .ok (.invokevirtual 70, 3) := by decide +kernel
theorem dX5_line_98 : decode cX5_line 98 = .ok (.iload 5, 2) := by decide +kernel
theorem dX5_line_100 : decode cX5_line 100 = .ok (.ireturn, 1) := by decide +kernel
theorem dX5_price_0 : decode cX5_price 0 = .ok (.aload_n 0, 1) := by decide +kernel
theorem dX5_price_1 : decode cX5_price 1 = .ok (.getfield 12, 3) := by decide +kernel
theorem dX5_price_4 : decode cX5_price 4 = .ok (.iload_n 1, 1) := by decide +kernel
theorem dX5_price_5 : decode cX5_price 5 = .ok (.invokevirtual 73, 3) := by decide +kernel
theorem dX5_price_8 : decode cX5_price 8 = .ok (.ifCond .ne 7, 3) := by decide +kernel
theorem dX5_price_11 : decode cX5_price 11 = .ok (.sipush (-1001), 3) := by decide +kernel
theorem dX5_price_14 : decode cX5_price 14 = .ok (.ireturn, 1) := by decide +kernel
theorem dX5_price_15 : decode cX5_price 15 = .ok (.iload_n 2, 1) := by decide +kernel
theorem dX5_price_16 : decode cX5_price 16 = .ok (.aload_n 0, 1) := by decide +kernel
theorem dX5_price_17 : decode cX5_price 17 = .ok (.getfield 12, 3) := by decide +kernel
theorem dX5_price_20 : decode cX5_price 20 = .ok (.getfield 77, 3) := by decide +kernel
theorem dX5_price_23 : decode cX5_price 23 = .ok (.iload_n 1, 1) := by decide +kernel
theorem dX5_price_24 : decode cX5_price 24 = .ok (.baload, 1) := by decide +kernel
theorem dX5_price_25 : decode cX5_price 25 = .ok (.invokestatic 51, 3) := by decide +kernel
theorem dX5_price_28 : decode cX5_price 28 = .ok (.ifCond .ne 7, 3) := by decide +kernel
theorem dX5_price_31 : decode cX5_price 31 = .ok (.sipush (-1002), 3) := by decide +kernel
theorem dX5_price_34 : decode cX5_price 34 = .ok (.ireturn, 1) := by decide +kernel
theorem dX5_price_35 : decode cX5_price 35 = .ok (.aload_n 0, 1) := by decide +kernel
theorem dX5_price_36 : decode cX5_price 36 = .ok (.getfield 12, 3) := by decide +kernel
theorem dX5_price_39 : decode cX5_price 39 = .ok (.getfield 81, 3) := by decide +kernel
theorem dX5_price_42 : decode cX5_price 42 = .ok (.iload_n 1, 1) := by decide +kernel
theorem dX5_price_43 : decode cX5_price 43 = .ok (.iaload, 1) := by decide +kernel
theorem dX5_price_44 : decode cX5_price 44 = .ok (.istore_n 3, 1) := by decide +kernel
theorem dX5_price_45 : decode cX5_price 45 = .ok (.iload_n 2, 1) := by decide +kernel
theorem dX5_price_46 : decode cX5_price 46 = .ok (.iload_n 3, 1) := by decide +kernel
theorem dX5_price_47 : decode cX5_price 47 = .ok (.if_icmp .ne 5, 3) := by decide +kernel
theorem dX5_price_50 : decode cX5_price 50 = .ok (.iload_n 3, 1) := by decide +kernel
theorem dX5_price_51 : decode cX5_price 51 = .ok (.ireturn, 1) := by decide +kernel
theorem dX5_price_52 : decode cX5_price 52 = .ok (.aload_n 0, 1) := by decide +kernel
theorem dX5_price_53 : decode cX5_price 53 = .ok (.getfield 12, 3) := by decide +kernel
theorem dX5_price_56 : decode cX5_price 56 = .ok (.getfield 85, 3) := by decide +kernel
theorem dX5_price_59 : decode cX5_price 59 = .ok (.iload_n 1, 1) := by decide +kernel
theorem dX5_price_60 : decode cX5_price 60 = .ok (.baload, 1) := by decide +kernel
theorem dX5_price_61 : decode cX5_price 61 = .ok (.ifCond .eq 16, 3) := by decide +kernel
theorem dX5_price_64 : decode cX5_price 64 = .ok (.aload_n 0, 1) := by decide +kernel
theorem dX5_price_65 : decode cX5_price 65 = .ok (.iload_n 1, 1) := by decide +kernel
theorem dX5_price_66 : decode cX5_price 66 = .ok (.iload_n 2, 1) := by decide +kernel
theorem dX5_price_67 : decode cX5_price 67 = .ok (.invokevirtual 88, 3) := by decide +kernel
theorem dX5_price_70 : decode cX5_price 70 = .ok (.ifCond .eq 7, 3) := by decide +kernel
theorem dX5_price_73 : decode cX5_price 73 = .ok (.sipush (-1003), 3) := by decide +kernel
theorem dX5_price_76 : decode cX5_price 76 = .ok (.ireturn, 1) := by decide +kernel
theorem dX5_price_77 : decode cX5_price 77 = .ok (.aload_n 0, 1) := by decide +kernel
theorem dX5_price_78 : decode cX5_price 78 = .ok (.getfield 28, 3) := by decide +kernel
theorem dX5_price_81 : decode cX5_price 81 = .ok (.invokevirtual 62, 3) := by decide +kernel
theorem dX5_price_84 : decode cX5_price 84 = .ok (.ifCond .eq 7, 3) := by decide +kernel
theorem dX5_price_87 : decode cX5_price 87 = .ok (.sipush (-1004), 3) := by decide +kernel
theorem dX5_price_90 : decode cX5_price 90 = .ok (.ireturn, 1) := by decide +kernel
theorem dX5_price_91 : decode cX5_price 91 = .ok (.aload_n 0, 1) := by decide +kernel
theorem dX5_price_92 : decode cX5_price 92 = .ok (.getfield 12, 3) := by decide +kernel
theorem dX5_price_95 : decode cX5_price 95 = .ok (.getfield 81, 3) := by decide +kernel
theorem dX5_price_98 : decode cX5_price 98 = .ok (.iload_n 1, 1) := by decide +kernel
theorem dX5_price_99 : decode cX5_price 99 = .ok (.iload_n 2, 1) := by decide +kernel
theorem dX5_price_100 : decode cX5_price 100 = .ok (.iastore, 1) := by decide +kernel
theorem dX5_price_101 : decode cX5_price 101 = .ok (.aload_n 0, 1) := by decide +kernel
theorem dX5_price_102 : decode cX5_price 102 = .ok (.invokevirtual 70, 3) := by decide +kernel
theorem dX5_price_105 : decode cX5_price 105 = .ok (.iload_n 3, 1) := by decide +kernel
theorem dX5_price_106 : decode cX5_price 106 = .ok (.ireturn, 1) := by decide +kernel
theorem dX5_cut_0 : decode cX5_cut 0 = .ok (.aload_n 0, 1) := by decide +kernel
theorem dX5_cut_1 : decode cX5_cut 1 = .ok (.getfield 12, 3) := by decide +kernel
theorem dX5_cut_4 : decode cX5_cut 4 = .ok (.iload_n 1, 1) := by decide +kernel
theorem dX5_cut_5 : decode cX5_cut 5 = .ok (.invokevirtual 73, 3) := by decide +kernel
theorem dX5_cut_8 : decode cX5_cut 8 = .ok (.ifCond .ne 7, 3) := by decide +kernel
theorem dX5_cut_11 : decode cX5_cut 11 = .ok (.sipush (-1001), 3) := by decide +kernel
theorem dX5_cut_14 : decode cX5_cut 14 = .ok (.ireturn, 1) := by decide +kernel
theorem dX5_cut_15 : decode cX5_cut 15 = .ok (.aload_n 0, 1) := by decide +kernel
theorem dX5_cut_16 : decode cX5_cut 16 = .ok (.getfield 12, 3) := by decide +kernel
theorem dX5_cut_19 : decode cX5_cut 19 = .ok (.getfield 85, 3) := by decide +kernel
theorem dX5_cut_22 : decode cX5_cut 22 = .ok (.iload_n 1, 1) := by decide +kernel
theorem dX5_cut_23 : decode cX5_cut 23 = .ok (.baload, 1) := by decide +kernel
theorem dX5_cut_24 : decode cX5_cut 24 = .ok (.ifCond .ne 7, 3) := by decide +kernel
theorem dX5_cut_27 : decode cX5_cut 27 = .ok (.sipush (-1003), 3) := by decide +kernel
theorem dX5_cut_30 : decode cX5_cut 30 = .ok (.ireturn, 1) := by decide +kernel
theorem dX5_cut_31 : decode cX5_cut 31 = .ok (.aload_n 0, 1) := by decide +kernel
theorem dX5_cut_32 : decode cX5_cut 32 = .ok (.getfield 28, 3) := by decide +kernel
theorem dX5_cut_35 : decode cX5_cut 35 = .ok (.invokevirtual 62, 3) := by decide +kernel
theorem dX5_cut_38 : decode cX5_cut 38 = .ok (.ifCond .eq 7, 3) := by decide +kernel
theorem dX5_cut_41 : decode cX5_cut 41 = .ok (.sipush (-1004), 3) := by decide +kernel
theorem dX5_cut_44 : decode cX5_cut 44 = .ok (.ireturn, 1) := by decide +kernel
theorem dX5_cut_45 : decode cX5_cut 45 = .ok (.aload_n 0, 1) := by decide +kernel
theorem dX5_cut_46 : decode cX5_cut 46 = .ok (.getfield 12, 3) := by decide +kernel
theorem dX5_cut_49 : decode cX5_cut 49 = .ok (.getfield 85, 3) := by decide +kernel
theorem dX5_cut_52 : decode cX5_cut 52 = .ok (.iload_n 1, 1) := by decide +kernel
theorem dX5_cut_53 : decode cX5_cut 53 = .ok (.iconst 0, 1) := by decide +kernel
theorem dX5_cut_54 : decode cX5_cut 54 = .ok (.bastore, 1) := by decide +kernel
theorem dX5_cut_55 : decode cX5_cut 55 = .ok (.aload_n 0, 1) := by decide +kernel
theorem dX5_cut_56 : decode cX5_cut 56 = .ok (.invokevirtual 70, 3) := by decide +kernel
theorem dX5_cut_59 : decode cX5_cut 59 = .ok (.aload_n 0, 1) := by decide +kernel
theorem dX5_cut_60 : decode cX5_cut 60 = .ok (.getfield 12, 3) := by decide +kernel
theorem dX5_cut_63 : decode cX5_cut 63 = .ok (.invokevirtual 91, 3) := by decide +kernel
theorem dX5_cut_66 : decode cX5_cut 66 = .ok (.ireturn, 1) := by decide +kernel
theorem dX5_back_0 : decode cX5_back 0 = .ok (.aload_n 0, 1) := by decide +kernel
theorem dX5_back_1 : decode cX5_back 1 = .ok (.getfield 12, 3) := by decide +kernel
theorem dX5_back_4 : decode cX5_back 4 = .ok (.iload_n 1, 1) := by decide +kernel
theorem dX5_back_5 : decode cX5_back 5 = .ok (.invokevirtual 73, 3) := by decide +kernel
theorem dX5_back_8 : decode cX5_back 8 = .ok (.ifCond .ne 7, 3) := by decide +kernel
theorem dX5_back_11 : decode cX5_back 11 = .ok (.sipush (-1001), 3) := by decide +kernel
theorem dX5_back_14 : decode cX5_back 14 = .ok (.ireturn, 1) := by decide +kernel
theorem dX5_back_15 : decode cX5_back 15 = .ok (.aload_n 0, 1) := by decide +kernel
theorem dX5_back_16 : decode cX5_back 16 = .ok (.getfield 12, 3) := by decide +kernel
theorem dX5_back_19 : decode cX5_back 19 = .ok (.getfield 85, 3) := by decide +kernel
theorem dX5_back_22 : decode cX5_back 22 = .ok (.iload_n 1, 1) := by decide +kernel
theorem dX5_back_23 : decode cX5_back 23 = .ok (.baload, 1) := by decide +kernel
theorem dX5_back_24 : decode cX5_back 24 = .ok (.ifCond .ne 20, 3) := by decide +kernel
theorem dX5_back_27 : decode cX5_back 27 = .ok (.aload_n 0, 1) := by decide +kernel
theorem dX5_back_28 : decode cX5_back 28 = .ok (.iload_n 1, 1) := by decide +kernel
theorem dX5_back_29 : decode cX5_back 29 = .ok (.aload_n 0, 1) := by decide +kernel
theorem dX5_back_30 : decode cX5_back 30 = .ok (.getfield 12, 3) := by decide +kernel
theorem dX5_back_33 : decode cX5_back 33 = .ok (.getfield 81, 3) := by decide +kernel
theorem dX5_back_36 : decode cX5_back 36 = .ok (.iload_n 1, 1) := by decide +kernel
theorem dX5_back_37 : decode cX5_back 37 = .ok (.iaload, 1) := by decide +kernel
theorem dX5_back_38 : decode cX5_back 38 = .ok (.invokevirtual 88, 3) := by decide +kernel
theorem dX5_back_41 : decode cX5_back 41 = .ok (.ifCond .eq 7, 3) := by decide +kernel
theorem dX5_back_44 : decode cX5_back 44 = .ok (.sipush (-1003), 3) := by decide +kernel
theorem dX5_back_47 : decode cX5_back 47 = .ok (.ireturn, 1) := by decide +kernel
theorem dX5_back_48 : decode cX5_back 48 = .ok (.aload_n 0, 1) := by decide +kernel
theorem dX5_back_49 : decode cX5_back 49 = .ok (.getfield 28, 3) := by decide +kernel
theorem dX5_back_52 : decode cX5_back 52 = .ok (.invokevirtual 62, 3) := by decide +kernel
theorem dX5_back_55 : decode cX5_back 55 = .ok (.ifCond .eq 7, 3) := by decide +kernel
theorem dX5_back_58 : decode cX5_back 58 = .ok (.sipush (-1004), 3) := by decide +kernel
theorem dX5_back_61 : decode cX5_back 61 = .ok (.ireturn, 1) := by decide +kernel
theorem dX5_back_62 : decode cX5_back 62 = .ok (.aload_n 0, 1) := by decide +kernel
theorem dX5_back_63 : decode cX5_back 63 = .ok (.getfield 12, 3) := by decide +kernel
theorem dX5_back_66 : decode cX5_back 66 = .ok (.getfield 85, 3) := by decide +kernel
theorem dX5_back_69 : decode cX5_back 69 = .ok (.iload_n 1, 1) := by decide +kernel
theorem dX5_back_70 : decode cX5_back 70 = .ok (.iconst 1, 1) := by decide +kernel
theorem dX5_back_71 : decode cX5_back 71 = .ok (.bastore, 1) := by decide +kernel
theorem dX5_back_72 : decode cX5_back 72 = .ok (.aload_n 0, 1) := by decide +kernel
theorem dX5_back_73 : decode cX5_back 73 = .ok (.invokevirtual 70, 3) := by decide +kernel
theorem dX5_back_76 : decode cX5_back 76 = .ok (.aload_n 0, 1) := by decide +kernel
theorem dX5_back_77 : decode cX5_back 77 = .ok (.getfield 12, 3) := by decide +kernel
theorem dX5_back_80 : decode cX5_back 80 = .ok (.invokevirtual 91, 3) := by decide +kernel
theorem dX5_back_83 : decode cX5_back 83 = .ok (.ireturn, 1) := by decide +kernel
theorem dX5_told_0 : decode cX5_told 0 = .ok (.aload_n 0, 1) := by decide +kernel
theorem dX5_told_1 : decode cX5_told 1 = .ok (.getfield 12, 3) := by decide +kernel
theorem dX5_told_4 : decode cX5_told 4 = .ok (.iload_n 1, 1) := by decide +kernel
theorem dX5_told_5 : decode cX5_told 5 = .ok (.invokevirtual 73, 3) := by decide +kernel
theorem dX5_told_8 : decode cX5_told 8 = .ok (.ifCond .ne 7, 3) := by decide +kernel
theorem dX5_told_11 : decode cX5_told 11 = .ok (.sipush (-1001), 3) := by decide +kernel
theorem dX5_told_14 : decode cX5_told 14 = .ok (.ireturn, 1) := by decide +kernel
theorem dX5_told_15 : decode cX5_told 15 = .ok (.iload_n 2, 1) := by decide +kernel
theorem dX5_told_16 : decode cX5_told 16 = .ok (.tableswitch 123 0 5 #[40, 50, 60, 70, 83, 96], 40) := by decide +kernel
theorem dX5_told_56 : decode cX5_told 56 = .ok (.aload_n 0, 1) := by decide +kernel
theorem dX5_told_57 : decode cX5_told 57 = .ok (.getfield 12, 3) := by decide +kernel
theorem dX5_told_60 : decode cX5_told 60 = .ok (.getfield 95, 3) := by decide +kernel
theorem dX5_told_63 : decode cX5_told 63 = .ok (.iload_n 1, 1) := by decide +kernel
theorem dX5_told_64 : decode cX5_told 64 = .ok (.iaload, 1) := by decide +kernel
theorem dX5_told_65 : decode cX5_told 65 = .ok (.ireturn, 1) := by decide +kernel
theorem dX5_told_66 : decode cX5_told 66 = .ok (.aload_n 0, 1) := by decide +kernel
theorem dX5_told_67 : decode cX5_told 67 = .ok (.getfield 12, 3) := by decide +kernel
theorem dX5_told_70 : decode cX5_told 70 = .ok (.getfield 98, 3) := by decide +kernel
theorem dX5_told_73 : decode cX5_told 73 = .ok (.iload_n 1, 1) := by decide +kernel
theorem dX5_told_74 : decode cX5_told 74 = .ok (.iaload, 1) := by decide +kernel
theorem dX5_told_75 : decode cX5_told 75 = .ok (.ireturn, 1) := by decide +kernel
theorem dX5_told_76 : decode cX5_told 76 = .ok (.aload_n 0, 1) := by decide +kernel
theorem dX5_told_77 : decode cX5_told 77 = .ok (.getfield 12, 3) := by decide +kernel
theorem dX5_told_80 : decode cX5_told 80 = .ok (.getfield 81, 3) := by decide +kernel
theorem dX5_told_83 : decode cX5_told 83 = .ok (.iload_n 1, 1) := by decide +kernel
theorem dX5_told_84 : decode cX5_told 84 = .ok (.iaload, 1) := by decide +kernel
theorem dX5_told_85 : decode cX5_told 85 = .ok (.ireturn, 1) := by decide +kernel
theorem dX5_told_86 : decode cX5_told 86 = .ok (.aload_n 0, 1) := by decide +kernel
theorem dX5_told_87 : decode cX5_told 87 = .ok (.getfield 12, 3) := by decide +kernel
theorem dX5_told_90 : decode cX5_told 90 = .ok (.getfield 77, 3) := by decide +kernel
theorem dX5_told_93 : decode cX5_told 93 = .ok (.iload_n 1, 1) := by decide +kernel
theorem dX5_told_94 : decode cX5_told 94 = .ok (.baload, 1) := by decide +kernel
