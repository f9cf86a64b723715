theorem dX3_heightOf_21 : decode cX3_heightOf 21 = .ok (.ifCond .eq 14, 3) := by decide +kernel
theorem dX3_heightOf_24 : decode cX3_heightOf 24 = .ok (.iload_n 2, 1) := by decide +kernel
theorem dX3_heightOf_25 : decode cX3_heightOf 25 = .ok (.aload_n 0, 1) := by decide +kernel
theorem dX3_heightOf_26 : decode cX3_heightOf 26 = .ok (.iload_n 3, 1) := by decide +kernel
theorem dX3_heightOf_27 : decode cX3_heightOf 27 = .ok (.iload_n 1, 1) := by decide +kernel
theorem dX3_heightOf_28 : decode cX3_heightOf 28 = .ok (.invokevirtual 75, 3) := by decide +kernel
theorem dX3_heightOf_31 : decode cX3_heightOf 31 = .ok (.invokestatic 91, 3) := by decide +kernel
theorem dX3_heightOf_34 : decode cX3_heightOf 34 = .ok (.istore_n 2, 1) := by decide +kernel
theorem dX3_heightOf_35 : decode cX3_heightOf 35 = .ok (.iinc 3 1, 3) := by decide +kernel
theorem dX3_heightOf_38 : decode cX3_heightOf 38 = .ok (.goto (-34), 3) := by decide +kernel
theorem dX3_heightOf_41 : decode cX3_heightOf 41 = .ok (.iload_n 2, 1) := by decide +kernel
theorem dX3_heightOf_42 : decode cX3_heightOf 42 = .ok (.ireturn, 1) := by decide +kernel
theorem dX3_lifted_0 : decode cX3_lifted 0 = .ok (.aload_n 0, 1) := by decide +kernel
theorem dX3_lifted_1 : decode cX3_lifted 1 = .ok (.getfield 18, 3) := by decide +kernel
theorem dX3_lifted_4 : decode cX3_lifted 4 = .ok (.getfield 94, 3) := by decide +kernel
theorem dX3_lifted_7 : decode cX3_lifted 7 = .ok (.iload_n 1, 1) := by decide +kernel
theorem dX3_lifted_8 : decode cX3_lifted 8 = .ok (.iaload, 1) := by decide +kernel
theorem dX3_lifted_9 : decode cX3_lifted 9 = .ok (.istore_n 2, 1) := by decide +kernel
theorem dX3_lifted_10 : decode cX3_lifted 10 = .ok (.aload_n 0, 1) := by decide +kernel
theorem dX3_lifted_11 : decode cX3_lifted 11 = .ok (.aload_n 0, 1) := by decide +kernel
theorem dX3_lifted_12 : decode cX3_lifted 12 = .ok (.getfield 18, 3) := by decide +kernel
theorem dX3_lifted_15 : decode cX3_lifted 15 = .ok (.getfield 97, 3) := by decide +kernel
theorem dX3_lifted_18 : decode cX3_lifted 18 = .ok (.iload_n 1, 1) := by decide +kernel
theorem dX3_lifted_19 : decode cX3_lifted 19 = .ok (.iaload, 1) := by decide +kernel
theorem dX3_lifted_20 : decode cX3_lifted 20 = .ok (.invokevirtual 100, 3) := by decide +kernel
theorem dX3_lifted_23 : decode cX3_lifted 23 = .ok (.aload_n 0, 1) := by decide +kernel
theorem dX3_lifted_24 : decode cX3_lifted 24 = .ok (.aload_n 0, 1) := by decide +kernel
theorem dX3_lifted_25 : decode cX3_lifted 25 = .ok (.getfield 18, 3) := by decide +kernel
theorem dX3_lifted_28 : decode cX3_lifted 28 = .ok (.getfield 103, 3) := by decide +kernel
theorem dX3_lifted_31 : decode cX3_lifted 31 = .ok (.iload_n 1, 1) := by decide +kernel
theorem dX3_lifted_32 : decode cX3_lifted 32 = .ok (.iaload, 1) := by decide +kernel
theorem dX3_lifted_33 : decode cX3_lifted 33 = .ok (.invokevirtual 100, 3) := by decide +kernel
theorem dX3_lifted_36 : decode cX3_lifted 36 = .ok (.isub, 1) := by decide +kernel
theorem dX3_lifted_37 : decode cX3_lifted 37 = .ok (.istore_n 3, 1) := by decide +kernel
theorem dX3_lifted_38 : decode cX3_lifted 38 = .ok (.aload_n 0, 1) := by decide +kernel
theorem dX3_lifted_39 : decode cX3_lifted 39 = .ok (.getfield 18, 3) := by decide +kernel
theorem dX3_lifted_42 : decode cX3_lifted 42 = .ok (.getfield 106, 3) := by decide +kernel
theorem dX3_lifted_45 : decode cX3_lifted 45 = .ok (.iload_n 1, 1) := by decide +kernel
theorem dX3_lifted_46 : decode cX3_lifted 46 = .ok (.baload, 1) := by decide +kernel
theorem dX3_lifted_47 : decode cX3_lifted 47 = .ok (.ifCond .eq 15, 3) := by decide +kernel
theorem dX3_lifted_50 : decode cX3_lifted 50 = .ok (.iload_n 2, 1) := by decide +kernel
theorem dX3_lifted_51 : decode cX3_lifted 51 = .ok (.iload_n 3, 1) := by decide +kernel
theorem dX3_lifted_52 : decode cX3_lifted 52 = .ok (.iadd, 1) := by decide +kernel
theorem dX3_lifted_53 : decode cX3_lifted 53 = .ok (.iload_n 2, 1) := by decide +kernel
theorem dX3_lifted_54 : decode cX3_lifted 54 = .ok (.iload_n 3, 1) := by decide +kernel
theorem dX3_lifted_55 : decode cX3_lifted 55 = .ok (.isub, 1) := by decide +kernel
theorem dX3_lifted_56 : decode cX3_lifted 56 = .ok (.invokestatic 91, 3) := by decide +kernel
theorem dX3_lifted_59 : decode cX3_lifted 59 = .ok (.goto 6, 3) := by decide +kernel
theorem dX3_lifted_62 : decode cX3_lifted 62 = .ok (.iload_n 2, 1) := by decide +kernel
theorem dX3_lifted_63 : decode cX3_lifted 63 = .ok (.iload_n 3, 1) := by decide +kernel
theorem dX3_lifted_64 : decode cX3_lifted 64 = .ok (.iadd, 1) := by decide +kernel
theorem dX3_lifted_65 : decode cX3_lifted 65 = .ok (.ireturn, 1) := by decide +kernel
theorem dX3_leastThrough_0 : decode cX3_leastThrough 0 = .ok (.sipush (-1000), 3) := by decide +kernel
theorem dX3_leastThrough_3 : decode cX3_leastThrough 3 = .ok (.istore 4, 2) := by decide +kernel
theorem dX3_leastThrough_5 : decode cX3_leastThrough 5 = .ok (.iconst 0, 1) := by decide +kernel
theorem dX3_leastThrough_6 : decode cX3_leastThrough 6 = .ok (.istore 5, 2) := by decide +kernel
theorem dX3_leastThrough_8 : decode cX3_leastThrough 8 = .ok (.iload 5, 2) := by decide +kernel
theorem dX3_leastThrough_10 : decode cX3_leastThrough 10 = .ok (.aload_n 0, 1) := by decide +kernel
theorem dX3_leastThrough_11 : decode cX3_leastThrough 11 = .ok (.getfield 18, 3) := by decide +kernel
theorem dX3_leastThrough_14 : decode cX3_leastThrough 14 = .ok (.getfield 29, 3) := by decide +kernel
theorem dX3_leastThrough_17 : decode cX3_leastThrough 17 = .ok (.if_icmp .ge 77, 3) := by decide +kernel
theorem dX3_leastThrough_20 : decode cX3_leastThrough 20 = .ok (.iload_n 3, 1) := by decide +kernel
theorem dX3_leastThrough_21 : decode cX3_leastThrough 21 = .ok (.iload 5, 2) := by decide +kernel
theorem dX3_leastThrough_23 : decode cX3_leastThrough 23 = .ok (.ishr, 1) := by decide +kernel
theorem dX3_leastThrough_24 : decode cX3_leastThrough 24 = .ok (.iconst 1, 1) := by decide +kernel
theorem dX3_leastThrough_25 : decode cX3_leastThrough 25 = .ok (.iand, 1) := by decide +kernel
theorem dX3_leastThrough_26 : decode cX3_leastThrough 26 = .ok (.ifCond .eq 62, 3) := by decide +kernel
theorem dX3_leastThrough_29 : decode cX3_leastThrough 29 = .ok (.aload_n 0, 1) := by decide +kernel
theorem dX3_leastThrough_30 : decode cX3_leastThrough 30 = .ok (.iload_n 1, 1) := by decide +kernel
theorem dX3_leastThrough_31 : decode cX3_leastThrough 31 = .ok (.iload 5, 2) := by decide +kernel
theorem dX3_leastThrough_33 : decode cX3_leastThrough 33 = .ok (.invokevirtual 88, 3) := by decide +kernel
theorem dX3_leastThrough_36 : decode cX3_leastThrough 36 = .ok (.ifCond .eq 52, 3) := by decide +kernel
theorem dX3_leastThrough_39 : decode cX3_leastThrough 39 = .ok (.aload_n 0, 1) := by decide +kernel
theorem dX3_leastThrough_40 : decode cX3_leastThrough 40 = .ok (.iload 5, 2) := by decide +kernel
theorem dX3_leastThrough_42 : decode cX3_leastThrough 42 = .ok (.iload_n 2, 1) := by decide +kernel
theorem dX3_leastThrough_43 : decode cX3_leastThrough 43 = .ok (.invokevirtual 88, 3) := by decide +kernel
theorem dX3_leastThrough_46 : decode cX3_leastThrough 46 = .ok (.ifCond .eq 42, 3) := by decide +kernel
theorem dX3_leastThrough_49 : decode cX3_leastThrough 49 = .ok (.aload_n 0, 1) := by decide +kernel
theorem dX3_leastThrough_50 : decode cX3_leastThrough 50 = .ok (.iload_n 1, 1) := by decide +kernel
theorem dX3_leastThrough_51 : decode cX3_leastThrough 51 = .ok (.iload 5, 2) := by decide +kernel
theorem dX3_leastThrough_53 : decode cX3_leastThrough 53 = .ok (.invokevirtual 75, 3) := by decide +kernel
theorem dX3_leastThrough_56 : decode cX3_leastThrough 56 = .ok (.aload_n 0, 1) := by decide +kernel
theorem dX3_leastThrough_57 : decode cX3_leastThrough 57 = .ok (.iload 5, 2) := by decide +kernel
theorem dX3_leastThrough_59 : decode cX3_leastThrough 59 = .ok (.iload_n 2, 1) := by decide +kernel
theorem dX3_leastThrough_60 : decode cX3_leastThrough 60 = .ok (.invokevirtual 75, 3) := by decide +kernel
theorem dX3_leastThrough_63 : decode cX3_leastThrough 63 = .ok (.iadd, 1) := by decide +kernel
theorem dX3_leastThrough_64 : decode cX3_leastThrough 64 = .ok (.istore 6, 2) := by decide +kernel
theorem dX3_leastThrough_66 : decode cX3_leastThrough 66 = .ok (.iload 4, 2) := by decide +kernel
theorem dX3_leastThrough_68 : decode cX3_leastThrough 68 = .ok (.sipush (-1000), 3) := by decide +kernel
theorem dX3_leastThrough_71 : decode cX3_leastThrough 71 = .ok (.if_icmp .ne 8, 3) := by decide +kernel
theorem dX3_leastThrough_74 : decode cX3_leastThrough 74 = .ok (.iload 6, 2) := by decide +kernel
theorem dX3_leastThrough_76 : decode cX3_leastThrough 76 = .ok (.goto 10, 3) := by decide +kernel
theorem dX3_leastThrough_79 : decode cX3_leastThrough 79 = .ok (.iload 4, 2) := by decide +kernel
theorem dX3_leastThrough_81 : decode cX3_leastThrough 81 = .ok (.iload 6, 2) := by decide +kernel
theorem dX3_leastThrough_83 : decode cX3_leastThrough 83 = .ok (.invokestatic 91, 3) := by decide +kernel
theorem dX3_leastThrough_86 : decode cX3_leastThrough 86 = .ok (.istore 4, 2) := by decide +kernel
theorem dX3_leastThrough_88 : decode cX3_leastThrough 88 = .ok (.iinc 5 1, 3) := by decide +kernel
theorem dX3_leastThrough_91 : decode cX3_leastThrough 91 = .ok (.goto (-83), 3) := by decide +kernel
theorem dX3_leastThrough_94 : decode cX3_leastThrough 94 = .ok (.iload 4, 2) := by decide +kernel
theorem dX3_leastThrough_96 : decode cX3_leastThrough 96 = .ok (.ireturn, 1) := by decide +kernel
theorem dX3_countLinked_0 : decode cX3_countLinked 0 = .ok (.iconst 0, 1) := by decide +kernel
theorem dX3_countLinked_1 : decode cX3_countLinked 1 = .ok (.istore_n 1, 1) := by decide +kernel
theorem dX3_countLinked_2 : decode cX3_countLinked 2 = .ok (.iconst 0, 1) := by decide +kernel
theorem dX3_countLinked_3 : decode cX3_countLinked 3 = .ok (.istore_n 2, 1) := by decide +kernel
theorem dX3_countLinked_4 : decode cX3_countLinked 4 = .ok (.iload_n 2, 1) := by decide +kernel
theorem dX3_countLinked_5 : decode cX3_countLinked 5 = .ok (.aload_n 0, 1) := by decide +kernel
theorem dX3_countLinked_6 : decode cX3_countLinked 6 = .ok (.getfield 18, 3) := by decide +kernel
theorem dX3_countLinked_9 : decode cX3_countLinked 9 = .ok (.getfield 29, 3) := by decide +kernel
theorem dX3_countLinked_12 : decode cX3_countLinked 12 = .ok (.if_icmp .ge 45, 3) := by decide +kernel
theorem dX3_countLinked_15 : decode cX3_countLinked 15 = .ok (.iconst 0, 1) := by decide +kernel
theorem dX3_countLinked_16 : decode cX3_countLinked 16 = .ok (.istore_n 3, 1) := by decide +kernel
theorem dX3_countLinked_17 : decode cX3_countLinked 17 = .ok (.iload_n 3, 1) := by decide +kernel
theorem dX3_countLinked_18 : decode cX3_countLinked 18 = .ok (.aload_n 0, 1) := by decide +kernel
theorem dX3_countLinked_19 : decode cX3_countLinked 19 = .ok (.getfield 18, 3) := by decide +kernel
theorem dX3_countLinked_22 : decode cX3_countLinked 22 = .ok (.getfield 29, 3) := by decide +kernel
theorem dX3_countLinked_25 : decode cX3_countLinked 25 = .ok (.if_icmp .ge 26, 3) := by decide +kernel
theorem dX3_countLinked_28 : decode cX3_countLinked 28 = .ok (.iload_n 2, 1) := by decide +kernel
theorem dX3_countLinked_29 : decode cX3_countLinked 29 = .ok (.iload_n 3, 1) := by decide +kernel
theorem dX3_countLinked_30 : decode cX3_countLinked 30 = .ok (.if_icmp .eq 15, 3) := by decide +kernel
theorem dX3_countLinked_33 : decode cX3_countLinked 33 = .ok (.aload_n 0, 1) := by decide +kernel
theorem dX3_countLinked_34 : decode cX3_countLinked 34 = .ok (.iload_n 2, 1) := by decide +kernel
theorem dX3_countLinked_35 : decode cX3_countLinked 35 = .ok (.iload_n 3, 1) := by decide +kernel
theorem dX3_countLinked_36 : decode cX3_countLinked 36 = .ok (.invokevirtual 88, 3) := by decide +kernel
theorem dX3_countLinked_39 : decode cX3_countLinked 39 = .ok (.ifCond .eq 6, 3) := by decide +kernel
theorem dX3_countLinked_42 : decode cX3_countLinked 42 = .ok (.iinc 1 1, 3) := by decide +kernel
theorem dX3_countLinked_45 : decode cX3_countLinked 45 = .ok (.iinc 3 1, 3) := by decide +kernel
theorem dX3_countLinked_48 : decode cX3_countLinked 48 = .ok (.goto (-31), 3) := by decide +kernel
theorem dX3_countLinked_51 : decode cX3_countLinked 51 = .ok (.iinc 2 1, 3) := by decide +kernel
theorem dX3_countLinked_54 : decode cX3_countLinked 54 = .ok (.goto (-50), 3) := by decide +kernel
theorem dX3_countLinked_57 : decode cX3_countLinked 57 = .ok (.iload_n 1, 1) := by decide +kernel
theorem dX3_countLinked_58 : decode cX3_countLinked 58 = .ok (.ireturn, 1) := by decide +kernel
theorem dX3_spread_0 : decode cX3_spread 0 = .ok (.aload_n 0, 1) := by decide +kernel
theorem dX3_spread_1 : decode cX3_spread 1 = .ok (.getfield 15, 3) := by decide +kernel
theorem dX3_spread_4 : decode cX3_spread 4 = .ok (.ldc 22, 2) := by decide +kernel
theorem dX3_spread_6 : decode cX3_spread 6 = .ok (.invokestatic 23, 3) := by decide +kernel
theorem dX3_spread_9 : decode cX3_spread 9 = .ok (.aload_n 0, 1) := by decide +kernel
theorem dX3_spread_10 : decode cX3_spread 10 = .ok (.getfield 15, 3) := by decide +kernel
theorem dX3_spread_13 : decode cX3_spread 13 = .ok (.iload_n 1, 1) := by decide +kernel
theorem dX3_spread_14 : decode cX3_spread 14 = .ok (.iconst 0, 1) := by decide +kernel
theorem dX3_spread_15 : decode cX3_spread 15 = .ok (.iastore, 1) := by decide +kernel
theorem dX3_spread_16 : decode cX3_spread 16 = .ok (.iconst 1, 1) := by decide +kernel
theorem dX3_spread_17 : decode cX3_spread 17 = .ok (.istore 4, 2) := by decide +kernel
theorem dX3_spread_19 : decode cX3_spread 19 = .ok (.iconst 0, 1) := by decide +kernel
theorem dX3_spread_20 : decode cX3_spread 20 = .ok (.istore 5, 2) := by decide +kernel
theorem dX3_spread_22 : decode cX3_spread 22 = .ok (.iload 4, 2) := by decide +kernel
theorem dX3_spread_24 : decode cX3_spread 24 = .ok (.ifCond .eq 89, 3) := by decide +kernel
theorem dX3_spread_27 : decode cX3_spread 27 = .ok (.iload 5, 2) := by decide +kernel
theorem dX3_spread_29 : decode cX3_spread 29 = .ok (.aload_n 0, 1) := by decide +kernel
theorem dX3_spread_30 : decode cX3_spread 30 = .ok (.getfield 18, 3) := by decide +kernel
theorem dX3_spread_33 : decode cX3_spread 33 = .ok (.getfield 29, 3) := by decide +kernel
theorem dX3_spread_36 : decode cX3_spread 36 = .ok (.if_icmp .ge 77, 3) := by decide +kernel
theorem dX3_spread_39 : decode cX3_spread 39 = .ok (.iconst 0, 1) := by decide +kernel
theorem dX3_spread_40 : decode cX3_spread 40 = .ok (.istore 4, 2) := by decide +kernel
theorem dX3_spread_42 : decode cX3_spread 42 = .ok (.iconst 0, 1) := by decide +kernel
theorem dX3_spread_43 : decode cX3_spread 43 = .ok (.istore 6, 2) := by decide +kernel
theorem dX3_spread_45 : decode cX3_spread 45 = .ok (.iload 6, 2) := by decide +kernel
theorem dX3_spread_47 : decode cX3_spread 47 = .ok (.aload_n 0, 1) := by decide +kernel
theorem dX3_spread_48 : decode cX3_spread 48 = .ok (.getfield 18, 3) := by decide +kernel
theorem dX3_spread_51 : decode cX3_spread 51 = .ok (.getfield 82, 3) := by decide +kernel
theorem dX3_spread_54 : decode cX3_spread 54 = .ok (.if_icmp .ge 53, 3) := by decide +kernel
theorem dX3_spread_57 : decode cX3_spread 57 = .ok (.aload_n 0, 1) := by decide +kernel
theorem dX3_spread_58 : decode cX3_spread 58 = .ok (.getfield 18, 3) := by decide +kernel
theorem dX3_spread_61 : decode cX3_spread 61 = .ok (.getfield 110, 3) := by decide +kernel
theorem dX3_spread_64 : decode cX3_spread 64 = .ok (.iload 6, 2) := by decide +kernel
theorem dX3_spread_66 : decode cX3_spread 66 = .ok (.baload, 1) := by decide +kernel
theorem dX3_spread_67 : decode cX3_spread 67 = .ok (.ifCond .eq 34, 3) := by decide +kernel
theorem dX3_spread_70 : decode cX3_spread 70 = .ok (.iload 6, 2) := by decide +kernel
theorem dX3_spread_72 : decode cX3_spread 72 = .ok (.iload_n 2, 1) := by decide +kernel
theorem dX3_spread_73 : decode cX3_spread 73 = .ok (.if_icmp .eq 28, 3) := by decide +kernel
theorem dX3_spread_76 : decode cX3_spread 76 = .ok (.aload_n 0, 1) := by decide +kernel
theorem dX3_spread_77 : decode cX3_spread 77 = .ok (.getfield 18, 3) := by decide +kernel
theorem dX3_spread_80 : decode cX3_spread 80 = .ok (.iload 6, 2) := by decide +kernel
theorem dX3_spread_82 : decode cX3_spread 82 = .ok (.iload_n 3, 1) := by decide +kernel
theorem dX3_spread_83 : decode cX3_spread 83 = .ok (.invokevirtual 113, 3) := by decide +kernel
theorem dX3_spread_86 : decode cX3_spread 86 = .ok (.ifCond .ne 15, 3) := by decide +kernel
theorem dX3_spread_89 : decode cX3_spread 89 = .ok (.aload_n 0, 1) := by decide +kernel
theorem dX3_spread_90 : decode cX3_spread 90 = .ok (.iload 6, 2) := by decide +kernel
theorem dX3_spread_92 : decode cX3_spread 92 = .ok (.invokevirtual 116, 3) := by decide +kernel
theorem dX3_spread_95 : decode cX3_spread 95 = .ok (.ifCond .eq 6, 3) := by decide +kernel
theorem dX3_spread_98 : decode cX3_spread 98 = .ok (.iconst 1, 1) := by decide +kernel
theorem dX3_spread_99 : decode cX3_spread 99 = .ok (.istore 4, 2) := by decide +kernel
theorem dX3_spread_101 : decode cX3_spread 101 = .ok (.iinc 6 1, 3) := by decide +kernel
theorem dX3_spread_104 : decode cX3_spread 104 = .ok (.goto (-59), 3) := by decide +kernel
theorem dX3_spread_107 : decode cX3_spread 107 = .ok (.iinc 5 1, 3) := by decide +kernel
theorem dX3_spread_110 : decode cX3_spread 110 = .ok (.goto (-88), 3) := by decide +kernel
theorem dX3_spread_113 : decode cX3_spread 113 = .ok (.return_, 1) := by decide +kernel
theorem dX3_relax_0 : decode cX3_relax 0 = .ok (.aload_n 0, 1) := by decide +kernel
theorem dX3_relax_1 : decode cX3_relax 1 = .ok (.iload_n 1, 1) := by decide +kernel
theorem dX3_relax_2 : decode cX3_relax 2 = .ok (.invokevirtual 120, 3) := by decide +kernel
theorem dX3_relax_5 : decode cX3_relax 5 = .ok (.istore_n 2, 1) := by decide +kernel
theorem dX3_relax_6 : decode cX3_relax 6 = .ok (.aload_n 0, 1) := by decide +kernel
theorem dX3_relax_7 : decode cX3_relax 7 = .ok (.getfield 18, 3) := by decide +kernel
theorem dX3_relax_10 : decode cX3_relax 10 = .ok (.getfield 97, 3) := by decide +kernel
theorem dX3_relax_13 : decode cX3_relax 13 = .ok (.iload_n 1, 1) := by decide +kernel
theorem dX3_relax_14 : decode cX3_relax 14 = .ok (.iaload, 1) := by decide +kernel
theorem dX3_relax_15 : decode cX3_relax 15 = .ok (.istore_n 3, 1) := by decide +kernel
theorem dX3_relax_16 : decode cX3_relax 16 = .ok (.aload_n 0, 1) := by decide +kernel
theorem dX3_relax_17 : decode cX3_relax 17 = .ok (.getfield 18, 3) := by decide +kernel
theorem dX3_relax_20 : decode cX3_relax 20 = .ok (.getfield 103, 3) := by decide +kernel
theorem dX3_relax_23 : decode cX3_relax 23 = .ok (.iload_n 1, 1) := by decide +kernel
theorem dX3_relax_24 : decode cX3_relax 24 = .ok (.iaload, 1) := by decide +kernel
theorem dX3_relax_25 : decode cX3_relax 25 = .ok (.istore 4, 2) := by decide +kernel
theorem dX3_relax_27 : decode cX3_relax 27 = .ok (.aload_n 0, 1) := by decide +kernel
theorem dX3_relax_28 : decode cX3_relax 28 = .ok (.iload_n 3, 1) := by decide +kernel
theorem dX3_relax_29 : decode cX3_relax 29 = .ok (.iload 4, 2) := by decide +kernel
theorem dX3_relax_31 : decode cX3_relax 31 = .ok (.iload_n 2, 1) := by decide +kernel
theorem dX3_relax_32 : decode cX3_relax 32 = .ok (.invokevirtual 123, 3) := by decide +kernel
theorem dX3_relax_35 : decode cX3_relax 35 = .ok (.istore 5, 2) := by decide +kernel
theorem dX3_relax_37 : decode cX3_relax 37 = .ok (.aload_n 0, 1) := by decide +kernel
theorem dX3_relax_38 : decode cX3_relax 38 = .ok (.getfield 18, 3) := by decide +kernel
theorem dX3_relax_41 : decode cX3_relax 41 = .ok (.getfield 106, 3) := by decide +kernel
theorem dX3_relax_44 : decode cX3_relax 44 = .ok (.iload_n 1, 1) := by decide +kernel
theorem dX3_relax_45 : decode cX3_relax 45 = .ok (.baload, 1) := by decide +kernel
theorem dX3_relax_46 : decode cX3_relax 46 = .ok (.ifCond .eq 14, 3) := by decide +kernel
theorem dX3_relax_49 : decode cX3_relax 49 = .ok (.aload_n 0, 1) := by decide +kernel
theorem dX3_relax_50 : decode cX3_relax 50 = .ok (.iload 4, 2) := by decide +kernel
theorem dX3_relax_52 : decode cX3_relax 52 = .ok (.iload_n 3, 1) := by decide +kernel
theorem dX3_relax_53 : decode cX3_relax 53 = .ok (.iload_n 2, 1) := by decide +kernel
theorem dX3_relax_54 : decode cX3_relax 54 = .ok (.invokevirtual 123, 3) := by decide +kernel
theorem dX3_relax_57 : decode cX3_relax 57 = .ok (.ifCond .ne 8, 3) := by decide +kernel
theorem dX3_relax_60 : decode cX3_relax 60 = .ok (.iload 5, 2) := by decide +kernel
theorem dX3_relax_62 : decode cX3_relax 62 = .ok (.ifCond .eq 7, 3) := by decide +kernel
theorem dX3_relax_65 : decode cX3_relax 65 = .ok (.iconst 1, 1) := by decide +kernel
theorem dX3_relax_66 : decode cX3_relax 66 = .ok (.goto 4, 3) := by decide +kernel
theorem dX3_relax_69 : decode cX3_relax 69 = .ok (.iconst 0, 1) := by decide +kernel
theorem dX3_relax_70 : decode cX3_relax 70 = .ok (.ireturn, 1) := by decide +kernel
theorem dX3_lower_0 : decode cX3_lower 0 = .ok (.aload_n 0, 1) := by decide +kernel
theorem dX3_lower_1 : decode cX3_lower 1 = .ok (.getfield 15, 3) := by decide +kernel
theorem dX3_lower_4 : decode cX3_lower 4 = .ok (.iload_n 1, 1) := by decide +kernel
theorem dX3_lower_5 : decode cX3_lower 5 = .ok (.iaload, 1) := by decide +kernel
theorem dX3_lower_6 : decode cX3_lower 6 = .ok (.ldc 22, 2) := by decide +kernel
theorem dX3_lower_8 : decode cX3_lower 8 = .ok (.if_icmp .eq 20, 3) := by decide +kernel
theorem dX3_lower_11 : decode cX3_lower 11 = .ok (.aload_n 0, 1) := by decide +kernel
theorem dX3_lower_12 : decode cX3_lower 12 = .ok (.getfield 15, 3) := by decide +kernel
theorem dX3_lower_15 : decode cX3_lower 15 = .ok (.iload_n 1, 1) := by decide +kernel
theorem dX3_lower_16 : decode cX3_lower 16 = .ok (.iaload, 1) := by decide +kernel
theorem dX3_lower_17 : decode cX3_lower 17 = .ok (.iload_n 3, 1) := by decide +kernel
theorem dX3_lower_18 : decode cX3_lower 18 = .ok (.iadd, 1) := by decide +kernel
theorem dX3_lower_19 : decode cX3_lower 19 = .ok (.aload_n 0, 1) := by decide +kernel
theorem dX3_lower_20 : decode cX3_lower 20 = .ok (.getfield 15, 3) := by decide +kernel
theorem dX3_lower_23 : decode cX3_lower 23 = .ok (.iload_n 2, 1) := by decide +kernel
theorem dX3_lower_24 : decode cX3_lower 24 = .ok (.iaload, 1) := by decide +kernel
theorem dX3_lower_25 : decode cX3_lower 25 = .ok (.if_icmp .lt 5, 3) := by decide +kernel
theorem dX3_lower_28 : decode cX3_lower 28 = .ok (.iconst 0, 1) := by decide +kernel
theorem dX3_lower_29 : decode cX3_lower 29 = .ok (.ireturn, 1) := by decide +kernel
theorem dX3_lower_30 : decode cX3_lower 30 = .ok (.aload_n 0, 1) := by decide +kernel
theorem dX3_lower_31 : decode cX3_lower 31 = .ok (.getfield 15, 3) := by decide +kernel
theorem dX3_lower_34 : decode cX3_lower 34 = .ok (.iload_n 2, 1) := by decide +kernel
theorem dX3_lower_35 : decode cX3_lower 35 = .ok (.aload_n 0, 1) := by decide +kernel
theorem dX3_lower_36 : decode cX3_lower 36 = .ok (.getfield 15, 3) := by decide +kernel
theorem dX3_lower_39 : decode cX3_lower 39 = .ok (.iload_n 1, 1) := by decide +kernel
theorem dX3_lower_40 : decode cX3_lower 40 = .ok (.iaload, 1) := by decide +kernel
theorem dX3_lower_41 : decode cX3_lower 41 = .ok (.iload_n 3, 1) := by decide +kernel
theorem dX3_lower_42 : decode cX3_lower 42 = .ok (.iadd, 1) := by decide +kernel
theorem dX3_lower_43 : decode cX3_lower 43 = .ok (.iastore, 1) := by decide +kernel
theorem dX3_lower_44 : decode cX3_lower 44 = .ok (.iconst 1, 1) := by decide +kernel
theorem dX3_lower_45 : decode cX3_lower 45 = .ok (.ireturn, 1) := by decide +kernel
theorem dX3_lineToward_0 : decode cX3_lineToward 0 = .ok (.aload_n 0, 1) := by decide +kernel
theorem dX3_lineToward_1 : decode cX3_lineToward 1 = .ok (.getfield 18, 3) := by decide +kernel
theorem dX3_lineToward_4 : decode cX3_lineToward 4 = .ok (.iload_n 1, 1) := by decide +kernel
theorem dX3_lineToward_5 : decode cX3_lineToward 5 = .ok (.invokevirtual 126, 3) := by decide +kernel
theorem dX3_lineToward_8 : decode cX3_lineToward 8 = .ok (.ifCond .eq 12, 3) := by decide +kernel
theorem dX3_lineToward_11 : decode cX3_lineToward 11 = .ok (.aload_n 0, 1) := by decide +kernel
theorem dX3_lineToward_12 : decode cX3_lineToward 12 = .ok (.iload_n 1, 1) := by decide +kernel
theorem dX3_lineToward_13 : decode cX3_lineToward 13 = .ok (.iload_n 2, 1) := by decide +kernel
theorem dX3_lineToward_14 : decode cX3_lineToward 14 = .ok (.invokevirtual 88, 3) := by decide +kernel
theorem dX3_lineToward_17 : decode cX3_lineToward 17 = .ok (.ifCond .ne 5, 3) := by decide +kernel
theorem dX3_lineToward_20 : decode cX3_lineToward 20 = .ok (.iconst (-1), 1) := by decide +kernel
theorem dX3_lineToward_21 : decode cX3_lineToward 21 = .ok (.ireturn, 1) := by decide +kernel
theorem dX3_lineToward_22 : decode cX3_lineToward 22 = .ok (.aload_n 0, 1) := by decide +kernel
theorem dX3_lineToward_23 : decode cX3_lineToward 23 = .ok (.getfield 9, 3) := by decide +kernel
theorem dX3_lineToward_26 : decode cX3_lineToward 26 = .ok (.iload_n 1, 1) := by decide +kernel
theorem dX3_lineToward_27 : decode cX3_lineToward 27 = .ok (.iload_n 2, 1) := by decide +kernel
theorem dX3_lineToward_28 : decode cX3_lineToward 28 = .ok (.invokestatic 39, 3) := by decide +kernel
theorem dX3_lineToward_31 : decode cX3_lineToward 31 = .ok (.iaload, 1) := by decide +kernel
theorem dX3_lineToward_32 : decode cX3_lineToward 32 = .ok (.istore_n 3, 1) := by decide +kernel
theorem dX3_lineToward_33 : decode cX3_lineToward 33 = .ok (.iconst 0, 1) := by decide +kernel
theorem dX3_lineToward_34 : decode cX3_lineToward 34 = .ok (.istore 4, 2) := by decide +kernel
theorem dX3_lineToward_36 : decode cX3_lineToward 36 = .ok (.iload 4, 2) := by decide +kernel
theorem dX3_lineToward_38 : decode cX3_lineToward 38 = .ok (.aload_n 0, 1) := by decide +kernel
theorem dX3_lineToward_39 : decode cX3_lineToward 39 = .ok (.getfield 18, 3) := by decide +kernel
theorem dX3_lineToward_42 : decode cX3_lineToward 42 = .ok (.getfield 82, 3) := by decide +kernel
theorem dX3_lineToward_45 : decode cX3_lineToward 45 = .ok (.if_icmp .ge 62, 3) := by decide +kernel
theorem dX3_lineToward_48 : decode cX3_lineToward 48 = .ok (.aload_n 0, 1) := by decide +kernel
theorem dX3_lineToward_49 : decode cX3_lineToward 49 = .ok (.getfield 18, 3) := by decide +kernel
theorem dX3_lineToward_52 : decode cX3_lineToward 52 = .ok (.iload 4, 2) := by decide +kernel
theorem dX3_lineToward_54 : decode cX3_lineToward 54 = .ok (.iload_n 1, 1) := by decide +kernel
theorem dX3_lineToward_55 : decode cX3_lineToward 55 = .ok (.invokevirtual 64, 3) := by decide +kernel
theorem dX3_lineToward_58 : decode cX3_lineToward 58 = .ok (.istore 5, 2) := by decide +kernel
theorem dX3_lineToward_60 : decode cX3_lineToward 60 = .ok (.iload 5, 2) := by decide +kernel
theorem dX3_lineToward_62 : decode cX3_lineToward 62 = .ok (.iconst (-1), 1) := by decide +kernel
theorem dX3_lineToward_63 : decode cX3_lineToward 63 = .ok (.if_icmp .eq 38, 3) := by decide +kernel
theorem dX3_lineToward_66 : decode cX3_lineToward 66 = .ok (.aload_n 0, 1) := by decide +kernel
theorem dX3_lineToward_67 : decode cX3_lineToward 67 = .ok (.iload 5, 2) := by decide +kernel
theorem dX3_lineToward_69 : decode cX3_lineToward 69 = .ok (.iload_n 2, 1) := by decide +kernel
theorem dX3_lineToward_70 : decode cX3_lineToward 70 = .ok (.invokevirtual 88, 3) := by decide +kernel
theorem dX3_lineToward_73 : decode cX3_lineToward 73 = .ok (.ifCond .eq 28, 3) := by decide +kernel
theorem dX3_lineToward_76 : decode cX3_lineToward 76 = .ok (.aload_n 0, 1) := by decide +kernel
theorem dX3_lineToward_77 : decode cX3_lineToward 77 = .ok (.iload 4, 2) := by decide +kernel
theorem dX3_lineToward_79 : decode cX3_lineToward 79 = .ok (.invokevirtual 120, 3) := by decide +kernel
theorem dX3_lineToward_82 : decode cX3_lineToward 82 = .ok (.aload_n 0, 1) := by decide +kernel
theorem dX3_lineToward_83 : decode cX3_lineToward 83 = .ok (.getfield 9, 3) := by decide +kernel
theorem dX3_lineToward_86 : decode cX3_lineToward 86 = .ok (.iload 5, 2) := by decide +kernel
theorem dX3_lineToward_88 : decode cX3_lineToward 88 = .ok (.iload_n 2, 1) := by decide +kernel
theorem dX3_lineToward_89 : decode cX3_lineToward 89 = .ok (.invokestatic 39, 3) := by decide +kernel
theorem dX3_lineToward_92 : decode cX3_lineToward 92 = .ok (.iaload, 1) := by decide +kernel
theorem dX3_lineToward_93 : decode cX3_lineToward 93 = .ok (.iadd, 1) := by decide +kernel
theorem dX3_lineToward_94 : decode cX3_lineToward 94 = .ok (.iload_n 3, 1) := by decide +kernel
theorem dX3_lineToward_95 : decode cX3_lineToward 95 = .ok (.if_icmp .ne 6, 3) := by decide +kernel
theorem dX3_lineToward_98 : decode cX3_lineToward 98 = .ok (.iload 4, 2) := by decide +kernel
theorem dX3_lineToward_100 : decode cX3_lineToward 100 = .ok (.ireturn, 1) := by decide +kernel
theorem dX3_lineToward_101 : decode cX3_lineToward 101 = .ok (.iinc 4 1, 3) := by decide +kernel
theorem dX3_lineToward_104 : decode cX3_lineToward 104 = .ok (.goto (-68), 3) := by decide +kernel
theorem dX3_lineToward_107 : decode cX3_lineToward 107 = .ok (.iconst (-1), 1) := by decide +kernel
theorem dX3_lineToward_108 : decode cX3_lineToward 108 = .ok (.ireturn, 1) := by decide +kernel
theorem dX3_isOnWay_0 : decode cX3_isOnWay 0 = .ok (.iconst 0, 1) := by decide +kernel
theorem dX3_isOnWay_1 : decode cX3_isOnWay 1 = .ok (.istore 4, 2) := by decide +kernel
theorem dX3_isOnWay_3 : decode cX3_isOnWay 3 = .ok (.iload 4, 2) := by decide +kernel
theorem dX3_isOnWay_5 : decode cX3_isOnWay 5 = .ok (.aload_n 0, 1) := by decide +kernel
theorem dX3_isOnWay_6 : decode cX3_isOnWay 6 = .ok (.iload_n 1, 1) := by decide +kernel
theorem dX3_isOnWay_7 : decode cX3_isOnWay 7 = .ok (.iload_n 2, 1) := by decide +kernel
theorem dX3_isOnWay_8 : decode cX3_isOnWay 8 = .ok (.invokevirtual 58, 3) := by decide +kernel
theorem dX3_isOnWay_11 : decode cX3_isOnWay 11 = .ok (.if_icmp .ge 23, 3) := by decide +kernel
theorem dX3_isOnWay_14 : decode cX3_isOnWay 14 = .ok (.aload_n 0, 1) := by decide +kernel
theorem dX3_isOnWay_15 : decode cX3_isOnWay 15 = .ok (.iload_n 1, 1) := by decide +kernel
theorem dX3_isOnWay_16 : decode cX3_isOnWay 16 = .ok (.iload_n 2, 1) := by decide +kernel
theorem dX3_isOnWay_17 : decode cX3_isOnWay 17 = .ok (.iload 4, 2) := by decide +kernel
theorem dX3_isOnWay_19 : decode cX3_isOnWay 19 = .ok (.invokevirtual 129, 3) := by decide +kernel
theorem dX3_isOnWay_22 : decode cX3_isOnWay 22 = .ok (.iload_n 3, 1) := by decide +kernel
theorem dX3_isOnWay_23 : decode cX3_isOnWay 23 = .ok (.if_icmp .ne 5, 3) := by decide +kernel
theorem dX3_isOnWay_26 : decode cX3_isOnWay 26 = .ok (.iconst 1, 1) := by decide +kernel
theorem dX3_isOnWay_27 : decode cX3_isOnWay 27 = .ok (.ireturn, 1) := by decide +kernel
theorem dX3_isOnWay_28 : decode cX3_isOnWay 28 = .ok (.iinc 4 1, 3) := by decide +kernel
theorem dX3_isOnWay_31 : decode cX3_isOnWay 31 = .ok (.goto (-28), 3) := by decide +kernel
theorem dX3_isOnWay_34 : decode cX3_isOnWay 34 = .ok (.iconst 0, 1) := by decide +kernel
theorem dX3_isOnWay_35 : decode cX3_isOnWay 35 = .ok (.ireturn, 1) := by decide +kernel
theorem dX3_ringOver_0 : decode cX3_ringOver 0 = .ok (.aload_n 0, 1) := by decide +kernel
theorem dX3_ringOver_1 : decode cX3_ringOver 1 = .ok (.getfield 18, 3) := by decide +kernel
theorem dX3_ringOver_4 : decode cX3_ringOver 4 = .ok (.getfield 110, 3) := by decide +kernel
theorem dX3_ringOver_7 : decode cX3_ringOver 7 = .ok (.iload_n 1, 1) := by decide +kernel
theorem dX3_ringOver_8 : decode cX3_ringOver 8 = .ok (.baload, 1) := by decide +kernel
theorem dX3_ringOver_9 : decode cX3_ringOver 9 = .ok (.ifCond .ne 7, 3) := by decide +kernel
theorem dX3_ringOver_12 : decode cX3_ringOver 12 = .ok (.sipush (-1000), 3) := by decide +kernel
theorem dX3_ringOver_15 : decode cX3_ringOver 15 = .ok (.ireturn, 1) := by decide +kernel
theorem dX3_ringOver_16 : decode cX3_ringOver 16 = .ok (.aload_n 0, 1) := by decide +kernel
theorem dX3_ringOver_17 : decode cX3_ringOver 17 = .ok (.getfield 18, 3) := by decide +kernel
theorem dX3_ringOver_20 : decode cX3_ringOver 20 = .ok (.getfield 94, 3) := by decide +kernel
theorem dX3_ringOver_23 : decode cX3_ringOver 23 = .ok (.iload_n 1, 1) := by decide +kernel
theorem dX3_ringOver_24 : decode cX3_ringOver 24 = .ok (.iaload, 1) := by decide +kernel
theorem dX3_ringOver_25 : decode cX3_ringOver 25 = .ok (.istore_n 2, 1) := by decide +kernel
theorem dX3_ringOver_26 : decode cX3_ringOver 26 = .ok (.aload_n 0, 1) := by decide +kernel
theorem dX3_ringOver_27 : decode cX3_ringOver 27 = .ok (.getfield 18, 3) := by decide +kernel
theorem dX3_ringOver_30 : decode cX3_ringOver 30 = .ok (.getfield 106, 3) := by decide +kernel
theorem dX3_ringOver_33 : decode cX3_ringOver 33 = .ok (.iload_n 1, 1) := by decide +kernel
theorem dX3_ringOver_34 : decode cX3_ringOver 34 = .ok (.baload, 1) := by decide +kernel
theorem dX3_ringOver_35 : decode cX3_ringOver 35 = .ok (.ifCond .eq 53, 3) := by decide +kernel
theorem dX3_ringOver_38 : decode cX3_ringOver 38 = .ok (.iload_n 2, 1) := by decide +kernel
theorem dX3_ringOver_39 : decode cX3_ringOver 39 = .ok (.aload_n 0, 1) := by decide +kernel
theorem dX3_ringOver_40 : decode cX3_ringOver 40 = .ok (.aload_n 0, 1) := by decide +kernel
theorem dX3_ringOver_41 : decode cX3_ringOver 41 = .ok (.getfield 18, 3) := by decide +kernel
theorem dX3_ringOver_44 : decode cX3_ringOver 44 = .ok (.getfield 97, 3) := by decide +kernel
theorem dX3_ringOver_47 : decode cX3_ringOver 47 = .ok (.iload_n 1, 1) := by decide +kernel
theorem dX3_ringOver_48 : decode cX3_ringOver 48 = .ok (.iaload, 1) := by decide +kernel
theorem dX3_ringOver_49 : decode cX3_ringOver 49 = .ok (.aload_n 0, 1) := by decide +kernel
theorem dX3_ringOver_50 : decode cX3_ringOver 50 = .ok (.getfield 18, 3) := by decide +kernel
theorem dX3_ringOver_53 : decode cX3_ringOver 53 = .ok (.getfield 103, 3) := by decide +kernel
theorem dX3_ringOver_56 : decode cX3_ringOver 56 = .ok (.iload_n 1, 1) := by decide +kernel
theorem dX3_ringOver_57 : decode cX3_ringOver 57 = .ok (.iaload, 1) := by decide +kernel
theorem dX3_ringOver_58 : decode cX3_ringOver 58 = .ok (.invokevirtual 75, 3) := by decide +kernel
theorem dX3_ringOver_61 : decode cX3_ringOver 61 = .ok (.aload_n 0, 1) := by decide +kernel
theorem dX3_ringOver_62 : decode cX3_ringOver 62 = .ok (.aload_n 0, 1) := by decide +kernel
theorem dX3_ringOver_63 : decode cX3_ringOver 63 = .ok (.getfield 18, 3) := by decide +kernel
theorem dX3_ringOver_66 : decode cX3_ringOver 66 = .ok (.getfield 103, 3) := by decide +kernel
theorem dX3_ringOver_69 : decode cX3_ringOver 69 = .ok (.iload_n 1, 1) := by decide +kernel
theorem dX3_ringOver_70 : decode cX3_ringOver 70 = .ok (.iaload, 1) := by decide +kernel
theorem dX3_ringOver_71 : decode cX3_ringOver 71 = .ok (.aload_n 0, 1) := by decide +kernel
theorem dX3_ringOver_72 : decode cX3_ringOver 72 = .ok (.getfield 18, 3) := by decide +kernel
theorem dX3_ringOver_75 : decode cX3_ringOver 75 = .ok (.getfield 97, 3) := by decide +kernel
theorem dX3_ringOver_78 : decode cX3_ringOver 78 = .ok (.iload_n 1, 1) := by decide +kernel
theorem dX3_ringOver_79 : decode cX3_ringOver 79 = .ok (.iaload, 1) := by decide +kernel
theorem dX3_ringOver_80 : decode cX3_ringOver 80 = .ok (.invokevirtual 75, 3) := by decide +kernel
theorem dX3_ringOver_83 : decode cX3_ringOver 83 = .ok (.invokestatic 91, 3) := by decide +kernel
theorem dX3_ringOver_86 : decode cX3_ringOver 86 = .ok (.iadd, 1) := by decide +kernel
theorem dX3_ringOver_87 : decode cX3_ringOver 87 = .ok (.ireturn, 1) := by decide +kernel
theorem dX3_ringOver_88 : decode cX3_ringOver 88 = .ok (.aload_n 0, 1) := by decide +kernel
theorem dX3_ringOver_89 : decode cX3_ringOver 89 = .ok (.aload_n 0, 1) := by decide +kernel
theorem dX3_ringOver_90 : decode cX3_ringOver 90 = .ok (.getfield 18, 3) := by decide +kernel
theorem dX3_ringOver_93 : decode cX3_ringOver 93 = .ok (.getfield 103, 3) := by decide +kernel
theorem dX3_ringOver_96 : decode cX3_ringOver 96 = .ok (.iload_n 1, 1) := by decide +kernel
theorem dX3_ringOver_97 : decode cX3_ringOver 97 = .ok (.iaload, 1) := by decide +kernel
theorem dX3_ringOver_98 : decode cX3_ringOver 98 = .ok (.aload_n 0, 1) := by decide +kernel
theorem dX3_ringOver_99 : decode cX3_ringOver 99 = .ok (.getfield 18, 3) := by decide +kernel
theorem dX3_ringOver_102 : decode cX3_ringOver 102 = .ok (.getfield 97, 3) := by decide +kernel
theorem dX3_ringOver_105 : decode cX3_ringOver 105 = .ok (.iload_n 1, 1) := by decide +kernel
theorem dX3_ringOver_106 : decode cX3_ringOver 106 = .ok (.iaload, 1) := by decide +kernel
theorem dX3_ringOver_107 : decode cX3_ringOver 107 = .ok (.invokevirtual 75, 3) := by decide +kernel
theorem dX3_ringOver_110 : decode cX3_ringOver 110 = .ok (.istore_n 3, 1) := by decide +kernel
theorem dX3_ringOver_111 : decode cX3_ringOver 111 = .ok (.iload_n 3, 1) := by decide +kernel
theorem dX3_ringOver_112 : decode cX3_ringOver 112 = .ok (.sipush (-1000), 3) := by decide +kernel
theorem dX3_ringOver_115 : decode cX3_ringOver 115 = .ok (.if_icmp .ne 9, 3) := by decide +kernel
theorem dX3_ringOver_118 : decode cX3_ringOver 118 = .ok (.sipush (-1000), 3) := by decide +kernel
theorem dX3_ringOver_121 : decode cX3_ringOver 121 = .ok (.goto 6, 3) := by decide +kernel
theorem dX3_ringOver_124 : decode cX3_ringOver 124 = .ok (.iload_n 2, 1) := by decide +kernel
theorem dX3_ringOver_125 : decode cX3_ringOver 125 = .ok (.iload_n 3, 1) := by decide +kernel
theorem dX3_ringOver_126 : decode cX3_ringOver 126 = .ok (.iadd, 1) := by decide +kernel
theorem dX3_ringOver_127 : decode cX3_ringOver 127 = .ok (.ireturn, 1) := by decide +kernel
theorem dX3_costOf_0 : decode cX3_costOf 0 = .ok (.aload_n 0, 1) := by decide +kernel
theorem dX3_costOf_1 : decode cX3_costOf 1 = .ok (.getfield 18, 3) := by decide +kernel
theorem dX3_costOf_4 : decode cX3_costOf 4 = .ok (.getfield 94, 3) := by decide +kernel
theorem dX3_costOf_7 : decode cX3_costOf 7 = .ok (.iload_n 1, 1) := by decide +kernel
theorem dX3_costOf_8 : decode cX3_costOf 8 = .ok (.iaload, 1) := by decide +kernel
theorem dX3_costOf_9 : decode cX3_costOf 9 = .ok (.bipush 64, 2) := by decide +kernel
theorem dX3_costOf_11 : decode cX3_costOf 11 = .ok (.imul, 1) := by decide +kernel
theorem dX3_costOf_12 : decode cX3_costOf 12 = .ok (.iconst 1, 1) := by decide +kernel
theorem dX3_costOf_13 : decode cX3_costOf 13 = .ok (.iadd, 1) := by decide +kernel
theorem dX3_costOf_14 : decode cX3_costOf 14 = .ok (.ireturn, 1) := by decide +kernel
theorem dX3_closesBelow_0 : decode cX3_closesBelow 0 = .ok (.iload_n 1, 1) := by decide +kernel
theorem dX3_closesBelow_1 : decode cX3_closesBelow 1 = .ok (.sipush (-1000), 3) := by decide +kernel
theorem dX3_closesBelow_4 : decode cX3_closesBelow 4 = .ok (.if_icmp .eq 13, 3) := by decide +kernel
theorem dX3_closesBelow_7 : decode cX3_closesBelow 7 = .ok (.iload_n 0, 1) := by decide +kernel
theorem dX3_closesBelow_8 : decode cX3_closesBelow 8 = .ok (.iload_n 1, 1) := by decide +kernel
theorem dX3_closesBelow_9 : decode cX3_closesBelow 9 = .ok (.iadd, 1) := by decide +kernel
theorem dX3_closesBelow_10 : decode cX3_closesBelow 10 = .ok (.ifCond .ge 7, 3) := by decide +kernel
theorem dX3_closesBelow_13 : decode cX3_closesBelow 13 = .ok (.iconst 1, 1) := by decide +kernel
theorem dX3_closesBelow_14 : decode cX3_closesBelow 14 = .ok (.goto 4, 3) := by decide +kernel
theorem dX3_closesBelow_17 : decode cX3_closesBelow 17 = .ok (.iconst 0, 1) := by decide +kernel
theorem dX3_closesBelow_18 : decode cX3_closesBelow 18 = .ok (.ireturn, 1) := by decide +kernel
theorem dX3_priceIn_0 : decode cX3_priceIn 0 = .ok (.iload_n 0, 1) := by decide +kernel
theorem dX3_priceIn_1 : decode cX3_priceIn 1 = .ok (.ldc 22, 2) := by decide +kernel
theorem dX3_priceIn_3 : decode cX3_priceIn 3 = .ok (.if_icmp .ne 9, 3) := by decide +kernel
theorem dX3_priceIn_6 : decode cX3_priceIn 6 = .ok (.sipush (-1000), 3) := by decide +kernel
theorem dX3_priceIn_9 : decode cX3_priceIn 9 = .ok (.goto 9, 3) := by decide +kernel
theorem dX3_priceIn_12 : decode cX3_priceIn 12 = .ok (.iload_n 0, 1) := by decide +kernel
theorem dX3_priceIn_13 : decode cX3_priceIn 13 = .ok (.bipush 64, 2) := by decide +kernel
theorem dX3_priceIn_15 : decode cX3_priceIn 15 = .ok (.invokestatic 133, 3) := by decide +kernel
theorem dX3_priceIn_18 : decode cX3_priceIn 18 = .ok (.ireturn, 1) := by decide +kernel
theorem dX4_init_0 : decode cX4_init 0 = .ok (.aload_n 0, 1) := by decide +kernel
theorem dX4_init_1 : decode cX4_init 1 = .ok (.invokespecial 3, 3) := by decide +kernel
theorem dX4_init_4 : decode cX4_init 4 = .ok (.aload_n 0, 1) := by decide +kernel
theorem dX4_init_5 : decode cX4_init 5 = .ok (.new 9, 3) := by decide +kernel
theorem dX4_init_8 : decode cX4_init 8 = .ok (.dup, 1) := by decide +kernel
theorem dX4_init_9 : decode cX4_init 9 = .ok (.invokespecial 11, 3) := by decide +kernel
theorem dX4_init_12 : decode cX4_init 12 = .ok (.putfield 12, 3) := by decide +kernel
theorem dX4_init_15 : decode cX4_init 15 = .ok (.aload_n 0, 1) := by decide +kernel
theorem dX4_init_16 : decode cX4_init 16 = .ok (.new 16, 3) := by decide +kernel
theorem dX4_init_19 : decode cX4_init 19 = .ok (.dup, 1) := by decide +kernel
theorem dX4_init_20 : decode cX4_init 20 = .ok (.aload_n 0, 1) := by decide +kernel
theorem dX4_init_21 : decode cX4_init 21 = .ok (.getfield 12, 3) := by decide +kernel
theorem dX4_init_24 : decode cX4_init 24 = .ok (.invokespecial 18, 3) := by decide +kernel
theorem dX4_init_27 : decode cX4_init 27 = .ok (.putfield 21, 3) := by decide +kernel
theorem dX4_init_30 : decode cX4_init 30 = .ok (.aload_n 0, 1) := by decide +kernel
theorem dX4_init_31 : decode cX4_init 31 = .ok (.new 25, 3) := by decide +kernel
theorem dX4_init_34 : decode cX4_init 34 = .ok (.dup, 1) := by decide +kernel
theorem dX4_init_35 : decode cX4_init 35 = .ok (.invokespecial 27, 3) := by decide +kernel
theorem dX4_init_38 : decode cX4_init 38 = .ok (.putfield 28, 3) := by decide +kernel
theorem dX4_init_41 : decode cX4_init 41 = .ok (.aload_n 0, 1) := by decide +kernel
theorem dX4_init_42 : decode cX4_init 42 = .ok (.new 32, 3) := by decide +kernel
theorem dX4_init_45 : decode cX4_init 45 = .ok (.dup, 1) := by decide +kernel
theorem dX4_init_46 : decode cX4_init 46 = .ok (.invokespecial 34, 3) := by decide +kernel
theorem dX4_init_49 : decode cX4_init 49 = .ok (.putfield 35, 3) := by decide +kernel
theorem dX4_init_52 : decode cX4_init 52 = .ok (.aload_n 0, 1) := by decide +kernel
theorem dX4_init_53 : decode cX4_init 53 = .ok (.iconst 2, 1) := by decide +kernel
theorem dX4_init_54 : decode cX4_init 54 = .ok (.invokevirtual 39, 3) := by decide +kernel
theorem dX4_init_57 : decode cX4_init 57 = .ok (.return_, 1) := by decide +kernel
theorem dX4_posts_0 : decode cX4_posts 0 = .ok (.iload_n 1, 1) := by decide +kernel
theorem dX4_posts_1 : decode cX4_posts 1 = .ok (.iconst 2, 1) := by decide +kernel
theorem dX4_posts_2 : decode cX4_posts 2 = .ok (.if_icmp .lt 9, 3) := by decide +kernel
theorem dX4_posts_5 : decode cX4_posts 5 = .ok (.iload_n 1, 1) := by decide +kernel
theorem dX4_posts_6 : decode cX4_posts 6 = .ok (.bipush 10, 2) := by decide +kernel
theorem dX4_posts_8 : decode cX4_posts 8 = .ok (.if_icmp .le 7, 3) := by decide +kernel
theorem dX4_posts_11 : decode cX4_posts 11 = .ok (.sipush (-1002), 3) := by decide +kernel
theorem dX4_posts_14 : decode cX4_posts 14 = .ok (.ireturn, 1) := by decide +kernel
theorem dX4_posts_15 : decode cX4_posts 15 = .ok (.aload_n 0, 1) := by decide +kernel
theorem dX4_posts_16 : decode cX4_posts 16 = .ok (.getfield 12, 3) := by decide +kernel
theorem dX4_posts_19 : decode cX4_posts 19 = .ok (.getfield 43, 3) := by decide +kernel
theorem dX4_posts_22 : decode cX4_posts 22 = .ok (.istore_n 2, 1) := by decide +kernel
theorem dX4_posts_23 : decode cX4_posts 23 = .ok (.aload_n 0, 1) := by decide +kernel
theorem dX4_posts_24 : decode cX4_posts 24 = .ok (.iload_n 1, 1) := by decide +kernel
theorem dX4_posts_25 : decode cX4_posts 25 = .ok (.invokevirtual 39, 3) := by decide +kernel
theorem dX4_posts_28 : decode cX4_posts 28 = .ok (.iload_n 2, 1) := by decide +kernel
theorem dX4_posts_29 : decode cX4_posts 29 = .ok (.ireturn, 1) := by decide +kernel
theorem dX4_line_0 : decode cX4_line 0 = .ok (.aload_n 0, 1) := by decide +kernel
theorem dX4_line_1 : decode cX4_line 1 = .ok (.getfield 12, 3) := by decide +kernel
theorem dX4_line_4 : decode cX4_line 4 = .ok (.iload_n 1, 1) := by decide +kernel
theorem dX4_line_5 : decode cX4_line 5 = .ok (.iload_n 2, 1) := by decide +kernel
theorem dX4_line_6 : decode cX4_line 6 = .ok (.invokevirtual 47, 3) := by decide +kernel
theorem dX4_line_9 : decode cX4_line 9 = .ok (.ifCond .ne 7, 3) := by decide +kernel
theorem dX4_line_12 : decode cX4_line 12 = .ok (.sipush (-1001), 3) := by decide +kernel
theorem dX4_line_15 : decode cX4_line 15 = .ok (.ireturn, 1) := by decide +kernel
theorem dX4_line_16 : decode cX4_line 16 = .ok (.iload_n 3, 1) := by decide +kernel
theorem dX4_line_17 : decode cX4_line 17 = .ok (.iload 4, 2) := by decide +kernel
theorem dX4_line_19 : decode cX4_line 19 = .ok (.invokestatic 51, 3) := by decide +kernel
theorem dX4_line_22 : decode cX4_line 22 = .ok (.ifCond .ne 7, 3) := by decide +kernel
theorem dX4_line_25 : decode cX4_line 25 = .ok (.sipush (-1002), 3) := by decide +kernel
theorem dX4_line_28 : decode cX4_line 28 = .ok (.ireturn, 1) := by decide +kernel
theorem dX4_line_29 : decode cX4_line 29 = .ok (.iload_n 1, 1) := by decide +kernel
theorem dX4_line_30 : decode cX4_line 30 = .ok (.iload_n 2, 1) := by decide +kernel
theorem dX4_line_31 : decode cX4_line 31 = .ok (.if_icmp .eq 19, 3) := by decide +kernel
theorem dX4_line_34 : decode cX4_line 34 = .ok (.aload_n 0, 1) := by decide +kernel
theorem dX4_line_35 : decode cX4_line 35 = .ok (.getfield 21, 3) := by decide +kernel
theorem dX4_line_38 : decode cX4_line 38 = .ok (.iload_n 1, 1) := by decide +kernel
theorem dX4_line_39 : decode cX4_line 39 = .ok (.iload_n 2, 1) := by decide +kernel
theorem dX4_line_40 : decode cX4_line 40 = .ok (.iload_n 3, 1) := by decide +kernel
theorem dX4_line_41 : decode cX4_line 41 = .ok (.iload 4, 2) := by decide +kernel
theorem dX4_line_43 : decode cX4_line 43 = .ok (.iconst (-1), 1) := by decide +kernel
theorem dX4_line_44 : decode cX4_line 44 = .ok (.invokevirtual 55, 3) := by decide +kernel
theorem dX4_line_47 : decode cX4_line 47 = .ok (.ifCond .eq 7, 3) := by decide +kernel
theorem dX4_line_50 : decode cX4_line 50 = .ok (.sipush (-1003), 3) := by decide +kernel
theorem dX4_line_53 : decode cX4_line 53 = .ok (.ireturn, 1) := by decide +kernel
theorem dX4_line_54 : decode cX4_line 54 = .ok (.aload_n 0, 1) := by decide +kernel
theorem dX4_line_55 : decode cX4_line 55 = .ok (.getfield 12, 3) := by decide +kernel
theorem dX4_line_58 : decode cX4_line 58 = .ok (.getfield 59, 3) := by decide +kernel
theorem dX4_line_61 : decode cX4_line 61 = .ok (.bipush 40, 2) := by decide +kernel
theorem dX4_line_63 : decode cX4_line 63 = .ok (.if_icmp .ge 13, 3) := by decide +kernel
theorem dX4_line_66 : decode cX4_line 66 = .ok (.aload_n 0, 1) := by decide +kernel
theorem dX4_line_67 : decode cX4_line 67 = .ok (.getfield 28, 3) := by decide +kernel
theorem dX4_line_70 : decode cX4_line 70 = .ok (.invokevirtual 62, 3) := by decide +kernel
theorem dX4_line_73 : decode cX4_line 73 = .ok (.ifCond .eq 7, 3) := by decide +kernel
theorem dX4_line_76 : decode cX4_line 76 = .ok (.sipush (-1004), 3) := by decide +kernel
theorem dX4_line_79 : decode cX4_line 79 = .ok (.ireturn, 1) := by decide +kernel
theorem dX4_line_80 : decode cX4_line 80 = .ok (.aload_n 0, 1) := by decide +kernel
theorem dX4_line_81 : decode cX4_line 81 = .ok (.getfield 12, 3) := by decide +kernel
theorem dX4_line_84 : decode cX4_line 84 = .ok (.iload_n 1, 1) := by decide +kernel
theorem dX4_line_85 : decode cX4_line 85 = .ok (.iload_n 2, 1) := by decide +kernel
theorem dX4_line_86 : decode cX4_line 86 = .ok (.iload_n 3, 1) := by decide +kernel
theorem dX4_line_87 : decode cX4_line 87 = .ok (.iload 4, 2) := by decide +kernel
theorem dX4_line_89 : decode cX4_line 89 = .ok (.invokevirtual 66, 3) := by decide +kernel
theorem dX4_line_92 : decode cX4_line 92 = .ok (.istore 5, 2) := by decide +kernel
theorem dX4_line_94 : decode cX4_line 94 = .ok (.aload_n 0, 1) := by decide +kernel
theorem dX4_line_95 : decode cX4_line 95 = .ok (.invokevirtual 70, 3) := by decide +kernel
theorem dX4_line_98 : decode cX4_line 98 = .ok (.iload 5, 2) := by decide +kernel
theorem dX4_line_100 : decode cX4_line 100 = .ok (.ireturn, 1) := by decide +kernel
theorem dX4_price_0 : decode cX4_price 0 = .ok (.aload_n 0, 1) := by decide +kernel
theorem dX4_price_1 : decode cX4_price 1 = .ok (.getfield 12, 3) := by decide +kernel
theorem dX4_price_4 : decode cX4_price 4 = .ok (.iload_n 1, 1) := by decide +kernel
theorem dX4_price_5 : decode cX4_price 5 = .ok (.invokevirtual 73, 3) := by decide +kernel
theorem dX4_price_8 : decode cX4_price 8 = .ok (.ifCond .ne 7, 3) := by decide +kernel
theorem dX4_price_11 : decode cX4_price 11 = .ok (.sipush (-1001), 3) := by decide +kernel
theorem dX4_price_14 : decode cX4_price 14 = .ok (.ireturn, 1) := by decide +kernel
theorem dX4_price_15 : decode cX4_price 15 = .ok (.iload_n 2, 1) := by decide +kernel
theorem dX4_price_16 : decode cX4_price 16 = .ok (.aload_n 0, 1) := by decide +kernel
theorem dX4_price_17 : decode cX4_price 17 = .ok (.getfield 12, 3) := by decide +kernel
theorem dX4_price_20 : decode cX4_price 20 = .ok (.getfield 77, 3) := by decide +kernel
theorem dX4_price_23 : decode cX4_price 23 = .ok (.iload_n 1, 1) := by decide +kernel
theorem dX4_price_24 : decode cX4_price 24 = .ok (.baload, 1) := by decide +kernel
theorem dX4_price_25 : decode cX4_price 25 = .ok (.invokestatic 51, 3) := by decide +kernel
theorem dX4_price_28 : decode cX4_price 28 = .ok (.ifCond .ne 7, 3) := by decide +kernel
theorem dX4_price_31 : decode cX4_price 31 = .ok (.sipush (-1002), 3) := by decide +kernel
theorem dX4_price_34 : decode cX4_price 34 = .ok (.ireturn, 1) := by decide +kernel
theorem dX4_price_35 : decode cX4_price 35 = .ok (.aload_n 0, 1) := by decide +kernel
theorem dX4_price_36 : decode cX4_price 36 = .ok (.getfield 12, 3) := by decide +kernel
theorem dX4_price_39 : decode cX4_price 39 = .ok (.getfield 81, 3) := by decide +kernel
theorem dX4_price_42 : decode cX4_price 42 = .ok (.iload_n 1, 1) := by decide +kernel
theorem dX4_price_43 : decode cX4_price 43 = .ok (.iaload, 1) := by decide +kernel
theorem dX4_price_44 : decode cX4_price 44 = .ok (.istore_n 3, 1) := by decide +kernel
theorem dX4_price_45 : decode cX4_price 45 = .ok (.iload_n 2, 1) := by decide +kernel
theorem dX4_price_46 : decode cX4_price 46 = .ok (.iload_n 3, 1) := by decide +kernel
theorem dX4_price_47 : decode cX4_price 47 = .ok (.if_icmp .ne 5, 3) := by decide +kernel
theorem dX4_price_50 : decode cX4_price 50 = .ok (.iload_n 3, 1) := by decide +kernel
theorem dX4_price_51 : decode cX4_price 51 = .ok (.ireturn, 1) := by decide +kernel
theorem dX4_price_52 : decode cX4_price 52 = .ok (.aload_n 0, 1) := by decide +kernel
theorem dX4_price_53 : decode cX4_price 53 = .ok (.getfield 12, 3) := by decide +kernel
theorem dX4_price_56 : decode cX4_price 56 = .ok (.getfield 85, 3) := by decide +kernel
theorem dX4_price_59 : decode cX4_price 59 = .ok (.iload_n 1, 1) := by decide +kernel
theorem dX4_price_60 : decode cX4_price 60 = .ok (.baload, 1) := by decide +kernel
theorem dX4_price_61 : decode cX4_price 61 = .ok (.ifCond .eq 16, 3) := by decide +kernel
theorem dX4_price_64 : decode cX4_price 64 = .ok (.aload_n 0, 1) := by decide +kernel
theorem dX4_price_65 : decode cX4_price 65 = .ok (.iload_n 1, 1) := by decide +kernel
theorem dX4_price_66 : decode cX4_price 66 = .ok (.iload_n 2, 1) := by decide +kernel
theorem dX4_price_67 : decode cX4_price 67 = .ok (.invokevirtual 88, 3) := by decide +kernel
theorem dX4_price_70 : decode cX4_price 70 = .ok (.ifCond .eq 7, 3) := by decide +kernel
theorem dX4_price_73 : decode cX4_price 73 = .ok (.sipush (-1003), 3) := by decide +kernel
theorem dX4_price_76 : decode cX4_price 76 = .ok (.ireturn, 1) := by decide +kernel
theorem dX4_price_77 : decode cX4_price 77 = .ok (.aload_n 0, 1) := by decide +kernel
theorem dX4_price_78 : decode cX4_price 78 = .ok (.getfield 28, 3) := by decide +kernel
theorem dX4_price_81 : decode cX4_price 81 = .ok (.invokevirtual 62, 3) := by decide +kernel
theorem dX4_price_84 : decode cX4_price 84 = .ok (.ifCond .eq 7, 3) := by decide +kernel
theorem dX4_price_87 : decode cX4_price 87 = .ok (.sipush (-1004), 3) := by decide +kernel
theorem dX4_price_90 : decode cX4_price 90 = .ok (.ireturn, 1) := by decide +kernel
theorem dX4_price_91 : decode cX4_price 91 = .ok (.aload_n 0, 1) := by decide +kernel
theorem dX4_price_92 : decode cX4_price 92 = .ok (.getfield 12, 3) := by decide +kernel
theorem dX4_price_95 : decode cX4_price 95 = .ok (.getfield 81, 3) := by decide +kernel
theorem dX4_price_98 : decode cX4_price 98 = .ok (.iload_n 1, 1) := by decide +kernel
theorem dX4_price_99 : decode cX4_price 99 = .ok (.iload_n 2, 1) := by decide +kernel
theorem dX4_price_100 : decode cX4_price 100 = .ok (.iastore, 1) := by decide +kernel
theorem dX4_price_101 : decode cX4_price 101 = .ok (.aload_n 0, 1) := by decide +kernel
theorem dX4_price_102 : decode cX4_price 102 = .ok (.invokevirtual 70, 3) := by decide +kernel
theorem dX4_price_105 : decode cX4_price 105 = .ok (.iload_n 3, 1) := by decide +kernel
theorem dX4_price_106 : decode cX4_price 106 = .ok (.ireturn, 1) := by decide +kernel
theorem dX4_cut_0 : decode cX4_cut 0 = .ok (.aload_n 0, 1) := by decide +kernel
theorem dX4_cut_1 : decode cX4_cut 1 = .ok (.getfield 12, 3) := by decide +kernel
theorem dX4_cut_4 : decode cX4_cut 4 = .ok (.iload_n 1, 1) := by decide +kernel
theorem dX4_cut_5 : decode cX4_cut 5 = .ok (.invokevirtual 73, 3) := by decide +kernel
theorem dX4_cut_8 : decode cX4_cut 8 = .ok (.ifCond .ne 7, 3) := by decide +kernel
theorem dX4_cut_11 : decode cX4_cut 11 = .ok (.sipush (-1001), 3) := by decide +kernel
theorem dX4_cut_14 : decode cX4_cut 14 = .ok (.ireturn, 1) := by decide +kernel
theorem dX4_cut_15 : decode cX4_cut 15 = .ok (.aload_n 0, 1) := by decide +kernel
theorem dX4_cut_16 : decode cX4_cut 16 = .ok (.getfield 12, 3) := by decide +kernel
theorem dX4_cut_19 : decode cX4_cut 19 = .ok (.getfield 85, 3) := by decide +kernel
theorem dX4_cut_22 : decode cX4_cut 22 = .ok (.iload_n 1, 1) := by decide +kernel
theorem dX4_cut_23 : decode cX4_cut 23 = .ok (.baload, 1) := by decide +kernel
theorem dX4_cut_24 : decode cX4_cut 24 = .ok (.ifCond .ne 7, 3) := by decide +kernel
theorem dX4_cut_27 : decode cX4_cut 27 = .ok (.sipush (-1003), 3) := by decide +kernel
theorem dX4_cut_30 : decode cX4_cut 30 = .ok (.ireturn, 1) := by decide +kernel
theorem dX4_cut_31 : decode cX4_cut 31 = .ok (.aload_n 0, 1) := by decide +kernel
theorem dX4_cut_32 : decode cX4_cut 32 = .ok (.getfield 28, 3) := by decide +kernel
theorem dX4_cut_35 : decode cX4_cut 35 = .ok (.invokevirtual 62, 3) := by decide +kernel
theorem dX4_cut_38 : decode cX4_cut 38 = .ok (.ifCond .eq 7, 3) := by decide +kernel
theorem dX4_cut_41 : decode cX4_cut 41 = .ok (.sipush (-1004), 3) := by decide +kernel
theorem dX4_cut_44 : decode cX4_cut 44 = .ok (.ireturn, 1) := by decide +kernel
theorem dX4_cut_45 : decode cX4_cut 45 = .ok (.aload_n 0, 1) := by decide +kernel
theorem dX4_cut_46 : decode cX4_cut 46 = .ok (.getfield 12, 3) := by decide +kernel
theorem dX4_cut_49 : decode cX4_cut 49 = .ok (.getfield 85, 3) := by decide +kernel
theorem dX4_cut_52 : decode cX4_cut 52 = .ok (.iload_n 1, 1) := by decide +kernel
theorem dX4_cut_53 : decode cX4_cut 53 = .ok (.iconst 0, 1) := by decide +kernel
theorem dX4_cut_54 : decode cX4_cut 54 = .ok (.bastore, 1) := by decide +kernel
theorem dX4_cut_55 : decode cX4_cut 55 = .ok (.aload_n 0, 1) := by decide +kernel
theorem dX4_cut_56 : decode cX4_cut 56 = .ok (.invokevirtual 70, 3) := by decide +kernel
theorem dX4_cut_59 : decode cX4_cut 59 = .ok (.aload_n 0, 1) := by decide +kernel
theorem dX4_cut_60 : decode cX4_cut 60 = .ok (.getfield 12, 3) := by decide +kernel
theorem dX4_cut_63 : decode cX4_cut 63 = .ok (.invokevirtual 91, 3) := by decide +kernel
theorem dX4_cut_66 : decode cX4_cut 66 = .ok (.ireturn, 1) := by decide +kernel
theorem dX4_back_0 : decode cX4_back 0 = .ok (.aload_n 0, 1) := by decide +kernel
theorem dX4_back_1 : decode cX4_back 1 = .ok (.getfield 12, 3) := by decide +kernel
theorem dX4_back_4 : decode cX4_back 4 = .ok (.iload_n 1, 1) := by decide +kernel
theorem dX4_back_5 : decode cX4_back 5 = .ok (.invokevirtual 73, 3) := by decide +kernel
theorem dX4_back_8 : decode cX4_back 8 = .ok (.ifCond .ne 7, 3) := by decide +kernel
theorem dX4_back_11 : decode cX4_back 11 = .ok (.sipush (-1001), 3) := by decide +kernel
theorem dX4_back_14 : decode cX4_back 14 = .ok (.ireturn, 1) := by decide +kernel
theorem dX4_back_15 : decode cX4_back 15 = .ok (.aload_n 0, 1) := by decide +kernel
theorem dX4_back_16 : decode cX4_back 16 = .ok (.getfield 12, 3) := by decide +kernel
theorem dX4_back_19 : decode cX4_back 19 = .ok (.getfield 85, 3) := by decide +kernel
theorem dX4_back_22 : decode cX4_back 22 = .ok (.iload_n 1, 1) := by decide +kernel
theorem dX4_back_23 : decode cX4_back 23 = .ok (.baload, 1) := by decide +kernel
theorem dX4_back_24 : decode cX4_back 24 = .ok (.ifCond .ne 20, 3) := by decide +kernel
theorem dX4_back_27 : decode cX4_back 27 = .ok (.aload_n 0, 1) := by decide +kernel
theorem dX4_back_28 : decode cX4_back 28 = .ok (.iload_n 1, 1) := by decide +kernel
theorem dX4_back_29 : decode cX4_back 29 = .ok (.aload_n 0, 1) := by decide +kernel
theorem dX4_back_30 : decode cX4_back 30 = .ok (.getfield 12, 3) := by decide +kernel
theorem dX4_back_33 : decode cX4_back 33 = .ok (.getfield 81, 3) := by decide +kernel
theorem dX4_back_36 : decode cX4_back 36 = .ok (.iload_n 1, 1) := by decide +kernel
theorem dX4_back_37 : decode cX4_back 37 = .ok (.iaload, 1) := by decide +kernel
theorem dX4_back_38 : decode cX4_back 38 = .ok (.invokevirtual 88, 3) := by decide +kernel
theorem dX4_back_41 : decode cX4_back 41 = .ok (.ifCond .eq 7, 3) := by decide +kernel
theorem dX4_back_44 : decode cX4_back 44 = .ok (.sipush (-1003), 3) := by decide +kernel
theorem dX4_back_47 : decode cX4_back 47 = .ok (.ireturn, 1) := by decide +kernel
theorem dX4_back_48 : decode cX4_back 48 = .ok (.aload_n 0, 1) := by decide +kernel
theorem dX4_back_49 : decode cX4_back 49 = .ok (.getfield 28, 3) := by decide +kernel
theorem dX4_back_52 : decode cX4_back 52 = .ok (.invokevirtual 62, 3) := by decide +kernel
theorem dX4_back_55 : decode cX4_back 55 = .ok (.ifCond .eq 7, 3) := by decide +kernel
theorem dX4_back_58 : decode cX4_back 58 = .ok (.sipush (-1004), 3) := by decide +kernel
theorem dX4_back_61 : decode cX4_back 61 = .ok (.ireturn, 1) := by decide +kernel
theorem dX4_back_62 : decode cX4_back 62 = .ok (.aload_n 0, 1) := by decide +kernel
theorem dX4_back_63 : decode cX4_back 63 = .ok (.getfield 12, 3) := by decide +kernel
theorem dX4_back_66 : decode cX4_back 66 = .ok (.getfield 85, 3) := by decide +kernel
theorem dX4_back_69 : decode cX4_back 69 = .ok (.iload_n 1, 1) := by decide +kernel
theorem dX4_back_70 : decode cX4_back 70 = .ok (.iconst 1, 1) := by decide +kernel
theorem dX4_back_71 : decode cX4_back 71 = .ok (.bastore, 1) := by decide +kernel
theorem dX4_back_72 : decode cX4_back 72 = .ok (.aload_n 0, 1) := by decide +kernel
theorem dX4_back_73 : decode cX4_back 73 = .ok (.invokevirtual 70, 3) := by decide +kernel
theorem dX4_back_76 : decode cX4_back 76 = .ok (.aload_n 0, 1) := by decide +kernel
theorem dX4_back_77 : decode cX4_back 77 = .ok (.getfield 12, 3) := by decide +kernel
theorem dX4_back_80 : decode cX4_back 80 = .ok (.invokevirtual 91, 3) := by decide +kernel
theorem dX4_back_83 : decode cX4_back 83 = .ok (.ireturn, 1) := by decide +kernel
theorem dX4_told_0 : decode cX4_told 0 = .ok (.aload_n 0, 1) := by decide +kernel
theorem dX4_told_1 : decode cX4_told 1 = .ok (.getfield 12, 3) := by decide +kernel
theorem dX4_told_4 : decode cX4_told 4 = .ok (.iload_n 1, 1) := by decide +kernel
theorem dX4_told_5 : decode cX4_told 5 = .ok (.invokevirtual 73, 3) := by decide +kernel
theorem dX4_told_8 : decode cX4_told 8 = .ok (.ifCond .ne 7, 3) := by decide +kernel
theorem dX4_told_11 : decode cX4_told 11 = .ok (.sipush (-1001), 3) := by decide +kernel
theorem dX4_told_14 : decode cX4_told 14 = .ok (.ireturn, 1) := by decide +kernel
theorem dX4_told_15 : decode cX4_told 15 = .ok (.iload_n 2, 1) := by decide +kernel
theorem dX4_told_16 : decode cX4_told 16 = .ok (.tableswitch 123 0 5 #[40, 50, 60, 70, 83, 96], 40) := by decide +kernel
theorem dX4_told_56 : decode cX4_told 56 = .ok (.aload_n 0, 1) := by decide +kernel
theorem dX4_told_57 : decode cX4_told 57 = .ok (.getfield 12, 3) := by decide +kernel
theorem dX4_told_60 : decode cX4_told 60 = .ok (.getfield 95, 3) := by decide +kernel
theorem dX4_told_63 : decode cX4_told 63 = .ok (.iload_n 1, 1) := by decide +kernel
theorem dX4_told_64 : decode cX4_told 64 = .ok (.iaload, 1) := by decide +kernel
theorem dX4_told_65 : decode cX4_told 65 = .ok (.ireturn, 1) := by decide +kernel
theorem dX4_told_66 : decode cX4_told 66 = .ok (.aload_n 0, 1) := by decide +kernel
theorem dX4_told_67 : decode cX4_told 67 = .ok (.getfield 12, 3) := by decide +kernel
theorem dX4_told_70 : decode cX4_told 70 = .ok (.getfield 98, 3) := by decide +kernel
theorem dX4_told_73 : decode cX4_told 73 = .ok (.iload_n 1, 1) := by decide +kernel
theorem dX4_told_74 : decode cX4_told 74 = .ok (.iaload, 1) := by decide +kernel
theorem dX4_told_75 : decode cX4_told 75 = .ok (.ireturn, 1) := by decide +kernel
theorem dX4_told_76 : decode cX4_told 76 = .ok (.aload_n 0, 1) := by decide +kernel
theorem dX4_told_77 : decode cX4_told 77 = .ok (.getfield 12, 3) := by decide +kernel
theorem dX4_told_80 : decode cX4_told 80 = .ok (.getfield 81, 3) := by decide +kernel
theorem dX4_told_83 : decode cX4_told 83 = .ok (.iload_n 1, 1) := by decide +kernel
theorem dX4_told_84 : decode cX4_told 84 = .ok (.iaload, 1) := by decide +kernel
theorem dX4_told_85 : decode cX4_told 85 = .ok (.ireturn, 1) := by decide +kernel
theorem dX4_told_86 : decode cX4_told 86 = .ok (.aload_n 0, 1) := by decide +kernel
theorem dX4_told_87 : decode cX4_told 87 = .ok (.getfield 12, 3) := by decide +kernel
theorem dX4_told_90 : decode cX4_told 90 = .ok (.getfield 77, 3) := by decide +kernel
theorem dX4_told_93 : decode cX4_told 93 = .ok (.iload_n 1, 1) := by decide +kernel
theorem dX4_told_94 : decode cX4_told 94 = .ok (.baload, 1) := by decide +kernel
theorem dX4_told_95 : decode cX4_told 95 = .ok (.invokestatic 101, 3) := by decide +kernel
theorem dX4_told_98 : decode cX4_told 98 = .ok (.ireturn, 1) := by decide +kernel
theorem dX4_told_99 : decode cX4_told 99 = .ok (.aload_n 0, 1) := by decide +kernel
theorem dX4_told_100 : decode cX4_told 100 = .ok (.getfield 12, 3) := by decide +kernel
