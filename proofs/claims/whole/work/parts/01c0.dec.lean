theorem dX0_init_0 : decode cX0_init 0 = .ok (.aload_n 0, 1) := by decide +kernel
theorem dX0_init_1 : decode cX0_init 1 = .ok (.invokespecial 3, 3) := by decide +kernel
theorem dX0_init_4 : decode cX0_init 4 = .ok (.aload_n 0, 1) := by decide +kernel
theorem dX0_init_5 : decode cX0_init 5 = .ok (.bipush 100, 2) := by decide +kernel
theorem dX0_init_7 : decode cX0_init 7 = .ok (.newarray .int, 2) := by decide +kernel
theorem dX0_init_9 : decode cX0_init 9 = .ok (.putfield 9, 3) := by decide +kernel
theorem dX0_init_12 : decode cX0_init 12 = .ok (.return_, 1) := by decide +kernel
theorem dX0_take_0 : decode cX0_take 0 = .ok (.iconst 0, 1) := by decide +kernel
theorem dX0_take_1 : decode cX0_take 1 = .ok (.istore_n 2, 1) := by decide +kernel
theorem dX0_take_2 : decode cX0_take 2 = .ok (.iload_n 2, 1) := by decide +kernel
theorem dX0_take_3 : decode cX0_take 3 = .ok (.bipush 100, 2) := by decide +kernel
theorem dX0_take_5 : decode cX0_take 5 = .ok (.if_icmp .ge 27, 3) := by decide +kernel
theorem dX0_take_8 : decode cX0_take 8 = .ok (.aload_n 0, 1) := by decide +kernel
theorem dX0_take_9 : decode cX0_take 9 = .ok (.getfield 9, 3) := by decide +kernel
theorem dX0_take_12 : decode cX0_take 12 = .ok (.iload_n 2, 1) := by decide +kernel
theorem dX0_take_13 : decode cX0_take 13 = .ok (.aload_n 1, 1) := by decide +kernel
theorem dX0_take_14 : decode cX0_take 14 = .ok (.iload_n 2, 1) := by decide +kernel
theorem dX0_take_15 : decode cX0_take 15 = .ok (.bipush 10, 2) := by decide +kernel
theorem dX0_take_17 : decode cX0_take 17 = .ok (.idiv, 1) := by decide +kernel
theorem dX0_take_18 : decode cX0_take 18 = .ok (.iload_n 2, 1) := by decide +kernel
theorem dX0_take_19 : decode cX0_take 19 = .ok (.bipush 10, 2) := by decide +kernel
theorem dX0_take_21 : decode cX0_take 21 = .ok (.irem, 1) := by decide +kernel
theorem dX0_take_22 : decode cX0_take 22 = .ok (.invokevirtual 15, 3) := by decide +kernel
theorem dX0_take_25 : decode cX0_take 25 = .ok (.iastore, 1) := by decide +kernel
theorem dX0_take_26 : decode cX0_take 26 = .ok (.iinc 2 1, 3) := by decide +kernel
theorem dX0_take_29 : decode cX0_take 29 = .ok (.goto (-27), 3) := by decide +kernel
theorem dX0_take_32 : decode cX0_take 32 = .ok (.return_, 1) := by decide +kernel
theorem dX1_init_0 : decode cX1_init 0 = .ok (.aload_n 0, 1) := by decide +kernel
theorem dX1_init_1 : decode cX1_init 1 = .ok (.invokespecial 3, 3) := by decide +kernel
theorem dX1_init_4 : decode cX1_init 4 = .ok (.aload_n 0, 1) := by decide +kernel
theorem dX1_init_5 : decode cX1_init 5 = .ok (.bipush 100, 2) := by decide +kernel
theorem dX1_init_7 : decode cX1_init 7 = .ok (.newarray .int, 2) := by decide +kernel
theorem dX1_init_9 : decode cX1_init 9 = .ok (.putfield 9, 3) := by decide +kernel
theorem dX1_init_12 : decode cX1_init 12 = .ok (.return_, 1) := by decide +kernel
theorem dX1_askFor_0 : decode cX1_askFor 0 = .ok (.aload_n 0, 1) := by decide +kernel
theorem dX1_askFor_1 : decode cX1_askFor 1 = .ok (.iconst 0, 1) := by decide +kernel
theorem dX1_askFor_2 : decode cX1_askFor 2 = .ok (.putfield 15, 3) := by decide +kernel
theorem dX1_askFor_5 : decode cX1_askFor 5 = .ok (.iconst 0, 1) := by decide +kernel
theorem dX1_askFor_6 : decode cX1_askFor 6 = .ok (.istore 4, 2) := by decide +kernel
theorem dX1_askFor_8 : decode cX1_askFor 8 = .ok (.iload 4, 2) := by decide +kernel
theorem dX1_askFor_10 : decode cX1_askFor 10 = .ok (.iload_n 2, 1) := by decide +kernel
theorem dX1_askFor_11 : decode cX1_askFor 11 = .ok (.if_icmp .ge 70, 3) := by decide +kernel
theorem dX1_askFor_14 : decode cX1_askFor 14 = .ok (.iconst 0, 1) := by decide +kernel
theorem dX1_askFor_15 : decode cX1_askFor 15 = .ok (.istore 5, 2) := by decide +kernel
theorem dX1_askFor_17 : decode cX1_askFor 17 = .ok (.iload 5, 2) := by decide +kernel
theorem dX1_askFor_19 : decode cX1_askFor 19 = .ok (.iload_n 2, 1) := by decide +kernel
theorem dX1_askFor_20 : decode cX1_askFor 20 = .ok (.if_icmp .ge 55, 3) := by decide +kernel
theorem dX1_askFor_23 : decode cX1_askFor 23 = .ok (.iload 4, 2) := by decide +kernel
theorem dX1_askFor_25 : decode cX1_askFor 25 = .ok (.iload 5, 2) := by decide +kernel
theorem dX1_askFor_27 : decode cX1_askFor 27 = .ok (.if_icmp .eq 42, 3) := by decide +kernel
theorem dX1_askFor_30 : decode cX1_askFor 30 = .ok (.aload_n 1, 1) := by decide +kernel
theorem dX1_askFor_31 : decode cX1_askFor 31 = .ok (.iload 4, 2) := by decide +kernel
theorem dX1_askFor_33 : decode cX1_askFor 33 = .ok (.iload 5, 2) := by decide +kernel
theorem dX1_askFor_35 : decode cX1_askFor 35 = .ok (.invokevirtual 19, 3) := by decide +kernel
theorem dX1_askFor_38 : decode cX1_askFor 38 = .ok (.iload_n 3, 1) := by decide +kernel
theorem dX1_askFor_39 : decode cX1_askFor 39 = .ok (.if_icmp .lt 30, 3) := by decide +kernel
theorem dX1_askFor_42 : decode cX1_askFor 42 = .ok (.aload_n 0, 1) := by decide +kernel
theorem dX1_askFor_43 : decode cX1_askFor 43 = .ok (.getfield 9, 3) := by decide +kernel
theorem dX1_askFor_46 : decode cX1_askFor 46 = .ok (.aload_n 0, 1) := by decide +kernel
theorem dX1_askFor_47 : decode cX1_askFor 47 = .ok (.getfield 15, 3) := by decide +kernel
theorem dX1_askFor_50 : decode cX1_askFor 50 = .ok (.aload_n 1, 1) := by decide +kernel
theorem dX1_askFor_51 : decode cX1_askFor 51 = .ok (.iload 4, 2) := by decide +kernel
theorem dX1_askFor_53 : decode cX1_askFor 53 = .ok (.iload 5, 2) := by decide +kernel
theorem dX1_askFor_55 : decode cX1_askFor 55 = .ok (.invokevirtual 25, 3) := by decide +kernel
theorem dX1_askFor_58 : decode cX1_askFor 58 = .ok (.iastore, 1) := by decide +kernel
theorem dX1_askFor_59 : decode cX1_askFor 59 = .ok (.aload_n 0, 1) := by decide +kernel
theorem dX1_askFor_60 : decode cX1_askFor 60 = .ok (.dup, 1) := by decide +kernel
theorem dX1_askFor_61 : decode cX1_askFor 61 = .ok (.getfield 15, 3) := by decide +kernel
theorem dX1_askFor_64 : decode cX1_askFor 64 = .ok (.iconst 1, 1) := by decide +kernel
theorem dX1_askFor_65 : decode cX1_askFor 65 = .ok (.iadd, 1) := by decide +kernel
theorem dX1_askFor_66 : decode cX1_askFor 66 = .ok (.putfield 15, 3) := by decide +kernel
theorem dX1_askFor_69 : decode cX1_askFor 69 = .ok (.iinc 5 1, 3) := by decide +kernel
theorem dX1_askFor_72 : decode cX1_askFor 72 = .ok (.goto (-55), 3) := by decide +kernel
theorem dX1_askFor_75 : decode cX1_askFor 75 = .ok (.iinc 4 1, 3) := by decide +kernel
theorem dX1_askFor_78 : decode cX1_askFor 78 = .ok (.goto (-70), 3) := by decide +kernel
theorem dX1_askFor_81 : decode cX1_askFor 81 = .ok (.return_, 1) := by decide +kernel
theorem dX1_fewest_0 : decode cX1_fewest 0 = .ok (.sipush (-1000), 3) := by decide +kernel
theorem dX1_fewest_3 : decode cX1_fewest 3 = .ok (.istore_n 2, 1) := by decide +kernel
theorem dX1_fewest_4 : decode cX1_fewest 4 = .ok (.iload_n 1, 1) := by decide +kernel
theorem dX1_fewest_5 : decode cX1_fewest 5 = .ok (.iconst 1, 1) := by decide +kernel
theorem dX1_fewest_6 : decode cX1_fewest 6 = .ok (.iadd, 1) := by decide +kernel
theorem dX1_fewest_7 : decode cX1_fewest 7 = .ok (.istore_n 3, 1) := by decide +kernel
theorem dX1_fewest_8 : decode cX1_fewest 8 = .ok (.iconst 0, 1) := by decide +kernel
theorem dX1_fewest_9 : decode cX1_fewest 9 = .ok (.istore 4, 2) := by decide +kernel
theorem dX1_fewest_11 : decode cX1_fewest 11 = .ok (.iload 4, 2) := by decide +kernel
theorem dX1_fewest_13 : decode cX1_fewest 13 = .ok (.iconst 1, 1) := by decide +kernel
theorem dX1_fewest_14 : decode cX1_fewest 14 = .ok (.iload_n 1, 1) := by decide +kernel
theorem dX1_fewest_15 : decode cX1_fewest 15 = .ok (.ishl, 1) := by decide +kernel
theorem dX1_fewest_16 : decode cX1_fewest 16 = .ok (.if_icmp .ge 37, 3) := by decide +kernel
theorem dX1_fewest_19 : decode cX1_fewest 19 = .ok (.iload 4, 2) := by decide +kernel
theorem dX1_fewest_21 : decode cX1_fewest 21 = .ok (.invokestatic 28, 3) := by decide +kernel
theorem dX1_fewest_24 : decode cX1_fewest 24 = .ok (.istore 5, 2) := by decide +kernel
theorem dX1_fewest_26 : decode cX1_fewest 26 = .ok (.iload 5, 2) := by decide +kernel
theorem dX1_fewest_28 : decode cX1_fewest 28 = .ok (.iload_n 3, 1) := by decide +kernel
theorem dX1_fewest_29 : decode cX1_fewest 29 = .ok (.if_icmp .ge 18, 3) := by decide +kernel
theorem dX1_fewest_32 : decode cX1_fewest 32 = .ok (.aload_n 0, 1) := by decide +kernel
theorem dX1_fewest_33 : decode cX1_fewest 33 = .ok (.iload 4, 2) := by decide +kernel
theorem dX1_fewest_35 : decode cX1_fewest 35 = .ok (.invokevirtual 34, 3) := by decide +kernel
theorem dX1_fewest_38 : decode cX1_fewest 38 = .ok (.ifCond .eq 9, 3) := by decide +kernel
theorem dX1_fewest_41 : decode cX1_fewest 41 = .ok (.iload 4, 2) := by decide +kernel
theorem dX1_fewest_43 : decode cX1_fewest 43 = .ok (.istore_n 2, 1) := by decide +kernel
theorem dX1_fewest_44 : decode cX1_fewest 44 = .ok (.iload 5, 2) := by decide +kernel
theorem dX1_fewest_46 : decode cX1_fewest 46 = .ok (.istore_n 3, 1) := by decide +kernel
theorem dX1_fewest_47 : decode cX1_fewest 47 = .ok (.iinc 4 1, 3) := by decide +kernel
theorem dX1_fewest_50 : decode cX1_fewest 50 = .ok (.goto (-39), 3) := by decide +kernel
theorem dX1_fewest_53 : decode cX1_fewest 53 = .ok (.iload_n 2, 1) := by decide +kernel
theorem dX1_fewest_54 : decode cX1_fewest 54 = .ok (.ireturn, 1) := by decide +kernel
theorem dX1_meetsAll_0 : decode cX1_meetsAll 0 = .ok (.iconst 0, 1) := by decide +kernel
theorem dX1_meetsAll_1 : decode cX1_meetsAll 1 = .ok (.istore_n 2, 1) := by decide +kernel
theorem dX1_meetsAll_2 : decode cX1_meetsAll 2 = .ok (.iload_n 2, 1) := by decide +kernel
theorem dX1_meetsAll_3 : decode cX1_meetsAll 3 = .ok (.aload_n 0, 1) := by decide +kernel
theorem dX1_meetsAll_4 : decode cX1_meetsAll 4 = .ok (.getfield 15, 3) := by decide +kernel
theorem dX1_meetsAll_7 : decode cX1_meetsAll 7 = .ok (.if_icmp .ge 22, 3) := by decide +kernel
theorem dX1_meetsAll_10 : decode cX1_meetsAll 10 = .ok (.aload_n 0, 1) := by decide +kernel
theorem dX1_meetsAll_11 : decode cX1_meetsAll 11 = .ok (.getfield 9, 3) := by decide +kernel
theorem dX1_meetsAll_14 : decode cX1_meetsAll 14 = .ok (.iload_n 2, 1) := by decide +kernel
theorem dX1_meetsAll_15 : decode cX1_meetsAll 15 = .ok (.iaload, 1) := by decide +kernel
theorem dX1_meetsAll_16 : decode cX1_meetsAll 16 = .ok (.iload_n 1, 1) := by decide +kernel
theorem dX1_meetsAll_17 : decode cX1_meetsAll 17 = .ok (.iand, 1) := by decide +kernel
theorem dX1_meetsAll_18 : decode cX1_meetsAll 18 = .ok (.ifCond .ne 5, 3) := by decide +kernel
theorem dX1_meetsAll_21 : decode cX1_meetsAll 21 = .ok (.iconst 0, 1) := by decide +kernel
theorem dX1_meetsAll_22 : decode cX1_meetsAll 22 = .ok (.ireturn, 1) := by decide +kernel
theorem dX1_meetsAll_23 : decode cX1_meetsAll 23 = .ok (.iinc 2 1, 3) := by decide +kernel
theorem dX1_meetsAll_26 : decode cX1_meetsAll 26 = .ok (.goto (-24), 3) := by decide +kernel
theorem dX1_meetsAll_29 : decode cX1_meetsAll 29 = .ok (.iconst 1, 1) := by decide +kernel
theorem dX1_meetsAll_30 : decode cX1_meetsAll 30 = .ok (.ireturn, 1) := by decide +kernel
theorem dX2_init_0 : decode cX2_init 0 = .ok (.aload_n 0, 1) := by decide +kernel
theorem dX2_init_1 : decode cX2_init 1 = .ok (.invokespecial 3, 3) := by decide +kernel
theorem dX2_init_4 : decode cX2_init 4 = .ok (.aload_n 0, 1) := by decide +kernel
theorem dX2_init_5 : decode cX2_init 5 = .ok (.bipush 40, 2) := by decide +kernel
theorem dX2_init_7 : decode cX2_init 7 = .ok (.newarray .int, 2) := by decide +kernel
theorem dX2_init_9 : decode cX2_init 9 = .ok (.putfield 9, 3) := by decide +kernel
theorem dX2_init_12 : decode cX2_init 12 = .ok (.aload_n 0, 1) := by decide +kernel
theorem dX2_init_13 : decode cX2_init 13 = .ok (.bipush 40, 2) := by decide +kernel
theorem dX2_init_15 : decode cX2_init 15 = .ok (.newarray .int, 2) := by decide +kernel
theorem dX2_init_17 : decode cX2_init 17 = .ok (.putfield 15, 3) := by decide +kernel
theorem dX2_init_20 : decode cX2_init 20 = .ok (.aload_n 0, 1) := by decide +kernel
theorem dX2_init_21 : decode cX2_init 21 = .ok (.bipush 40, 2) := by decide +kernel
theorem dX2_init_23 : decode cX2_init 23 = .ok (.newarray .int, 2) := by decide +kernel
theorem dX2_init_25 : decode cX2_init 25 = .ok (.putfield 18, 3) := by decide +kernel
theorem dX2_init_28 : decode cX2_init 28 = .ok (.aload_n 0, 1) := by decide +kernel
theorem dX2_init_29 : decode cX2_init 29 = .ok (.bipush 40, 2) := by decide +kernel
theorem dX2_init_31 : decode cX2_init 31 = .ok (.newarray .boolean, 2) := by decide +kernel
theorem dX2_init_33 : decode cX2_init 33 = .ok (.putfield 21, 3) := by decide +kernel
theorem dX2_init_36 : decode cX2_init 36 = .ok (.aload_n 0, 1) := by decide +kernel
theorem dX2_init_37 : decode cX2_init 37 = .ok (.bipush 40, 2) := by decide +kernel
theorem dX2_init_39 : decode cX2_init 39 = .ok (.newarray .boolean, 2) := by decide +kernel
theorem dX2_init_41 : decode cX2_init 41 = .ok (.putfield 25, 3) := by decide +kernel
theorem dX2_init_44 : decode cX2_init 44 = .ok (.return_, 1) := by decide +kernel
theorem dX2_clear_0 : decode cX2_clear 0 = .ok (.aload_n 0, 1) := by decide +kernel
theorem dX2_clear_1 : decode cX2_clear 1 = .ok (.iload_n 1, 1) := by decide +kernel
theorem dX2_clear_2 : decode cX2_clear 2 = .ok (.putfield 28, 3) := by decide +kernel
theorem dX2_clear_5 : decode cX2_clear 5 = .ok (.aload_n 0, 1) := by decide +kernel
theorem dX2_clear_6 : decode cX2_clear 6 = .ok (.iconst 0, 1) := by decide +kernel
theorem dX2_clear_7 : decode cX2_clear 7 = .ok (.putfield 32, 3) := by decide +kernel
theorem dX2_clear_10 : decode cX2_clear 10 = .ok (.return_, 1) := by decide +kernel
theorem dX2_hasPost_0 : decode cX2_hasPost 0 = .ok (.iload_n 1, 1) := by decide +kernel
theorem dX2_hasPost_1 : decode cX2_hasPost 1 = .ok (.ifCond .lt 15, 3) := by decide +kernel
theorem dX2_hasPost_4 : decode cX2_hasPost 4 = .ok (.iload_n 1, 1) := by decide +kernel
theorem dX2_hasPost_5 : decode cX2_hasPost 5 = .ok (.aload_n 0, 1) := by decide +kernel
theorem dX2_hasPost_6 : decode cX2_hasPost 6 = .ok (.getfield 28, 3) := by decide +kernel
theorem dX2_hasPost_9 : decode cX2_hasPost 9 = .ok (.if_icmp .ge 7, 3) := by decide +kernel
theorem dX2_hasPost_12 : decode cX2_hasPost 12 = .ok (.iconst 1, 1) := by decide +kernel
theorem dX2_hasPost_13 : decode cX2_hasPost 13 = .ok (.goto 4, 3) := by decide +kernel
theorem dX2_hasPost_16 : decode cX2_hasPost 16 = .ok (.iconst 0, 1) := by decide +kernel
theorem dX2_hasPost_17 : decode cX2_hasPost 17 = .ok (.ireturn, 1) := by decide +kernel
theorem dX2_hasPosts_0 : decode cX2_hasPosts 0 = .ok (.aload_n 0, 1) := by decide +kernel
theorem dX2_hasPosts_1 : decode cX2_hasPosts 1 = .ok (.iload_n 1, 1) := by decide +kernel
theorem dX2_hasPosts_2 : decode cX2_hasPosts 2 = .ok (.invokevirtual 35, 3) := by decide +kernel
theorem dX2_hasPosts_5 : decode cX2_hasPosts 5 = .ok (.ifCond .eq 15, 3) := by decide +kernel
theorem dX2_hasPosts_8 : decode cX2_hasPosts 8 = .ok (.aload_n 0, 1) := by decide +kernel
theorem dX2_hasPosts_9 : decode cX2_hasPosts 9 = .ok (.iload_n 2, 1) := by decide +kernel
theorem dX2_hasPosts_10 : decode cX2_hasPosts 10 = .ok (.invokevirtual 35, 3) := by decide +kernel
theorem dX2_hasPosts_13 : decode cX2_hasPosts 13 = .ok (.ifCond .eq 7, 3) := by decide +kernel
theorem dX2_hasPosts_16 : decode cX2_hasPosts 16 = .ok (.iconst 1, 1) := by decide +kernel
theorem dX2_hasPosts_17 : decode cX2_hasPosts 17 = .ok (.goto 4, 3) := by decide +kernel
theorem dX2_hasPosts_20 : decode cX2_hasPosts 20 = .ok (.iconst 0, 1) := by decide +kernel
theorem dX2_hasPosts_21 : decode cX2_hasPosts 21 = .ok (.ireturn, 1) := by decide +kernel
theorem dX2_hasLine_0 : decode cX2_hasLine 0 = .ok (.iload_n 1, 1) := by decide +kernel
theorem dX2_hasLine_1 : decode cX2_hasLine 1 = .ok (.ifCond .lt 15, 3) := by decide +kernel
theorem dX2_hasLine_4 : decode cX2_hasLine 4 = .ok (.iload_n 1, 1) := by decide +kernel
theorem dX2_hasLine_5 : decode cX2_hasLine 5 = .ok (.aload_n 0, 1) := by decide +kernel
theorem dX2_hasLine_6 : decode cX2_hasLine 6 = .ok (.getfield 32, 3) := by decide +kernel
theorem dX2_hasLine_9 : decode cX2_hasLine 9 = .ok (.if_icmp .ge 7, 3) := by decide +kernel
theorem dX2_hasLine_12 : decode cX2_hasLine 12 = .ok (.iconst 1, 1) := by decide +kernel
theorem dX2_hasLine_13 : decode cX2_hasLine 13 = .ok (.goto 4, 3) := by decide +kernel
theorem dX2_hasLine_16 : decode cX2_hasLine 16 = .ok (.iconst 0, 1) := by decide +kernel
theorem dX2_hasLine_17 : decode cX2_hasLine 17 = .ok (.ireturn, 1) := by decide +kernel
theorem dX2_add_0 : decode cX2_add 0 = .ok (.aload_n 0, 1) := by decide +kernel
theorem dX2_add_1 : decode cX2_add 1 = .ok (.getfield 32, 3) := by decide +kernel
theorem dX2_add_4 : decode cX2_add 4 = .ok (.istore 5, 2) := by decide +kernel
theorem dX2_add_6 : decode cX2_add 6 = .ok (.iload 5, 2) := by decide +kernel
theorem dX2_add_8 : decode cX2_add 8 = .ok (.bipush 40, 2) := by decide +kernel
theorem dX2_add_10 : decode cX2_add 10 = .ok (.if_icmp .lt 7, 3) := by decide +kernel
theorem dX2_add_13 : decode cX2_add 13 = .ok (.sipush (-1004), 3) := by decide +kernel
theorem dX2_add_16 : decode cX2_add 16 = .ok (.ireturn, 1) := by decide +kernel
theorem dX2_add_17 : decode cX2_add 17 = .ok (.aload_n 0, 1) := by decide +kernel
theorem dX2_add_18 : decode cX2_add 18 = .ok (.getfield 9, 3) := by decide +kernel
theorem dX2_add_21 : decode cX2_add 21 = .ok (.iload 5, 2) := by decide +kernel
theorem dX2_add_23 : decode cX2_add 23 = .ok (.iload_n 1, 1) := by decide +kernel
theorem dX2_add_24 : decode cX2_add 24 = .ok (.iastore, 1) := by decide +kernel
theorem dX2_add_25 : decode cX2_add 25 = .ok (.aload_n 0, 1) := by decide +kernel
theorem dX2_add_26 : decode cX2_add 26 = .ok (.getfield 15, 3) := by decide +kernel
theorem dX2_add_29 : decode cX2_add 29 = .ok (.iload 5, 2) := by decide +kernel
theorem dX2_add_31 : decode cX2_add 31 = .ok (.iload_n 2, 1) := by decide +kernel
theorem dX2_add_32 : decode cX2_add 32 = .ok (.iastore, 1) := by decide +kernel
theorem dX2_add_33 : decode cX2_add 33 = .ok (.aload_n 0, 1) := by decide +kernel
theorem dX2_add_34 : decode cX2_add 34 = .ok (.getfield 18, 3) := by decide +kernel
theorem dX2_add_37 : decode cX2_add 37 = .ok (.iload 5, 2) := by decide +kernel
theorem dX2_add_39 : decode cX2_add 39 = .ok (.iload_n 3, 1) := by decide +kernel
theorem dX2_add_40 : decode cX2_add 40 = .ok (.iastore, 1) := by decide +kernel
theorem dX2_add_41 : decode cX2_add 41 = .ok (.aload_n 0, 1) := by decide +kernel
theorem dX2_add_42 : decode cX2_add 42 = .ok (.getfield 21, 3) := by decide +kernel
theorem dX2_add_45 : decode cX2_add 45 = .ok (.iload 5, 2) := by decide +kernel
theorem dX2_add_47 : decode cX2_add 47 = .ok (.iload 4, 2) := by decide +kernel
theorem dX2_add_49 : decode cX2_add 49 = .ok (.bastore, 1) := by decide +kernel
theorem dX2_add_50 : decode cX2_add 50 = .ok (.aload_n 0, 1) := by decide +kernel
theorem dX2_add_51 : decode cX2_add 51 = .ok (.getfield 25, 3) := by decide +kernel
theorem dX2_add_54 : decode cX2_add 54 = .ok (.iload 5, 2) := by decide +kernel
theorem dX2_add_56 : decode cX2_add 56 = .ok (.iconst 1, 1) := by decide +kernel
theorem dX2_add_57 : decode cX2_add 57 = .ok (.bastore, 1) := by decide +kernel
theorem dX2_add_58 : decode cX2_add 58 = .ok (.aload_n 0, 1) := by decide +kernel
theorem dX2_add_59 : decode cX2_add 59 = .ok (.dup, 1) := by decide +kernel
theorem dX2_add_60 : decode cX2_add 60 = .ok (.getfield 32, 3) := by decide +kernel
theorem dX2_add_63 : decode cX2_add 63 = .ok (.iconst 1, 1) := by decide +kernel
theorem dX2_add_64 : decode cX2_add 64 = .ok (.iadd, 1) := by decide +kernel
theorem dX2_add_65 : decode cX2_add 65 = .ok (.putfield 32, 3) := by decide +kernel
theorem dX2_add_68 : decode cX2_add 68 = .ok (.iload 5, 2) := by decide +kernel
theorem dX2_add_70 : decode cX2_add 70 = .ok (.ireturn, 1) := by decide +kernel
theorem dX2_countThere_0 : decode cX2_countThere 0 = .ok (.iconst 0, 1) := by decide +kernel
theorem dX2_countThere_1 : decode cX2_countThere 1 = .ok (.istore_n 1, 1) := by decide +kernel
theorem dX2_countThere_2 : decode cX2_countThere 2 = .ok (.iconst 0, 1) := by decide +kernel
theorem dX2_countThere_3 : decode cX2_countThere 3 = .ok (.istore_n 2, 1) := by decide +kernel
theorem dX2_countThere_4 : decode cX2_countThere 4 = .ok (.iload_n 2, 1) := by decide +kernel
theorem dX2_countThere_5 : decode cX2_countThere 5 = .ok (.aload_n 0, 1) := by decide +kernel
theorem dX2_countThere_6 : decode cX2_countThere 6 = .ok (.getfield 32, 3) := by decide +kernel
theorem dX2_countThere_9 : decode cX2_countThere 9 = .ok (.if_icmp .ge 21, 3) := by decide +kernel
theorem dX2_countThere_12 : decode cX2_countThere 12 = .ok (.aload_n 0, 1) := by decide +kernel
theorem dX2_countThere_13 : decode cX2_countThere 13 = .ok (.getfield 25, 3) := by decide +kernel
theorem dX2_countThere_16 : decode cX2_countThere 16 = .ok (.iload_n 2, 1) := by decide +kernel
theorem dX2_countThere_17 : decode cX2_countThere 17 = .ok (.baload, 1) := by decide +kernel
theorem dX2_countThere_18 : decode cX2_countThere 18 = .ok (.ifCond .eq 6, 3) := by decide +kernel
theorem dX2_countThere_21 : decode cX2_countThere 21 = .ok (.iinc 1 1, 3) := by decide +kernel
theorem dX2_countThere_24 : decode cX2_countThere 24 = .ok (.iinc 2 1, 3) := by decide +kernel
theorem dX2_countThere_27 : decode cX2_countThere 27 = .ok (.goto (-23), 3) := by decide +kernel
theorem dX2_countThere_30 : decode cX2_countThere 30 = .ok (.iload_n 1, 1) := by decide +kernel
theorem dX2_countThere_31 : decode cX2_countThere 31 = .ok (.ireturn, 1) := by decide +kernel
theorem dX2_target_0 : decode cX2_target 0 = .ok (.aload_n 0, 1) := by decide +kernel
theorem dX2_target_1 : decode cX2_target 1 = .ok (.iload_n 1, 1) := by decide +kernel
theorem dX2_target_2 : decode cX2_target 2 = .ok (.invokevirtual 39, 3) := by decide +kernel
theorem dX2_target_5 : decode cX2_target 5 = .ok (.ifCond .eq 12, 3) := by decide +kernel
theorem dX2_target_8 : decode cX2_target 8 = .ok (.aload_n 0, 1) := by decide +kernel
theorem dX2_target_9 : decode cX2_target 9 = .ok (.getfield 25, 3) := by decide +kernel
theorem dX2_target_12 : decode cX2_target 12 = .ok (.iload_n 1, 1) := by decide +kernel
theorem dX2_target_13 : decode cX2_target 13 = .ok (.baload, 1) := by decide +kernel
theorem dX2_target_14 : decode cX2_target 14 = .ok (.ifCond .ne 5, 3) := by decide +kernel
theorem dX2_target_17 : decode cX2_target 17 = .ok (.iconst (-1), 1) := by decide +kernel
theorem dX2_target_18 : decode cX2_target 18 = .ok (.ireturn, 1) := by decide +kernel
theorem dX2_target_19 : decode cX2_target 19 = .ok (.aload_n 0, 1) := by decide +kernel
theorem dX2_target_20 : decode cX2_target 20 = .ok (.getfield 9, 3) := by decide +kernel
theorem dX2_target_23 : decode cX2_target 23 = .ok (.iload_n 1, 1) := by decide +kernel
theorem dX2_target_24 : decode cX2_target 24 = .ok (.iaload, 1) := by decide +kernel
theorem dX2_target_25 : decode cX2_target 25 = .ok (.iload_n 2, 1) := by decide +kernel
theorem dX2_target_26 : decode cX2_target 26 = .ok (.if_icmp .ne 10, 3) := by decide +kernel
theorem dX2_target_29 : decode cX2_target 29 = .ok (.aload_n 0, 1) := by decide +kernel
theorem dX2_target_30 : decode cX2_target 30 = .ok (.getfield 15, 3) := by decide +kernel
theorem dX2_target_33 : decode cX2_target 33 = .ok (.iload_n 1, 1) := by decide +kernel
theorem dX2_target_34 : decode cX2_target 34 = .ok (.iaload, 1) := by decide +kernel
theorem dX2_target_35 : decode cX2_target 35 = .ok (.ireturn, 1) := by decide +kernel
theorem dX2_target_36 : decode cX2_target 36 = .ok (.aload_n 0, 1) := by decide +kernel
theorem dX2_target_37 : decode cX2_target 37 = .ok (.getfield 21, 3) := by decide +kernel
theorem dX2_target_40 : decode cX2_target 40 = .ok (.iload_n 1, 1) := by decide +kernel
theorem dX2_target_41 : decode cX2_target 41 = .ok (.baload, 1) := by decide +kernel
theorem dX2_target_42 : decode cX2_target 42 = .ok (.ifCond .eq 22, 3) := by decide +kernel
theorem dX2_target_45 : decode cX2_target 45 = .ok (.aload_n 0, 1) := by decide +kernel
theorem dX2_target_46 : decode cX2_target 46 = .ok (.getfield 15, 3) := by decide +kernel
theorem dX2_target_49 : decode cX2_target 49 = .ok (.iload_n 1, 1) := by decide +kernel
theorem dX2_target_50 : decode cX2_target 50 = .ok (.iaload, 1) := by decide +kernel
theorem dX2_target_51 : decode cX2_target 51 = .ok (.iload_n 2, 1) := by decide +kernel
theorem dX2_target_52 : decode cX2_target 52 = .ok (.if_icmp .ne 12, 3) := by decide +kernel
theorem dX2_target_55 : decode cX2_target 55 = .ok (.aload_n 0, 1) := by decide +kernel
theorem dX2_target_56 : decode cX2_target 56 = .ok (.getfield 9, 3) := by decide +kernel
theorem dX2_target_59 : decode cX2_target 59 = .ok (.iload_n 1, 1) := by decide +kernel
theorem dX2_target_60 : decode cX2_target 60 = .ok (.iaload, 1) := by decide +kernel
theorem dX2_target_61 : decode cX2_target 61 = .ok (.goto 4, 3) := by decide +kernel
theorem dX2_target_64 : decode cX2_target 64 = .ok (.iconst (-1), 1) := by decide +kernel
theorem dX2_target_65 : decode cX2_target 65 = .ok (.ireturn, 1) := by decide +kernel
theorem dX2_touches_0 : decode cX2_touches 0 = .ok (.aload_n 0, 1) := by decide +kernel
theorem dX2_touches_1 : decode cX2_touches 1 = .ok (.getfield 9, 3) := by decide +kernel
theorem dX2_touches_4 : decode cX2_touches 4 = .ok (.iload_n 1, 1) := by decide +kernel
theorem dX2_touches_5 : decode cX2_touches 5 = .ok (.iaload, 1) := by decide +kernel
theorem dX2_touches_6 : decode cX2_touches 6 = .ok (.iload_n 2, 1) := by decide +kernel
theorem dX2_touches_7 : decode cX2_touches 7 = .ok (.if_icmp .eq 13, 3) := by decide +kernel
theorem dX2_touches_10 : decode cX2_touches 10 = .ok (.aload_n 0, 1) := by decide +kernel
theorem dX2_touches_11 : decode cX2_touches 11 = .ok (.getfield 15, 3) := by decide +kernel
theorem dX2_touches_14 : decode cX2_touches 14 = .ok (.iload_n 1, 1) := by decide +kernel
theorem dX2_touches_15 : decode cX2_touches 15 = .ok (.iaload, 1) := by decide +kernel
theorem dX2_touches_16 : decode cX2_touches 16 = .ok (.iload_n 2, 1) := by decide +kernel
theorem dX2_touches_17 : decode cX2_touches 17 = .ok (.if_icmp .ne 7, 3) := by decide +kernel
theorem dX2_touches_20 : decode cX2_touches 20 = .ok (.iconst 1, 1) := by decide +kernel
theorem dX2_touches_21 : decode cX2_touches 21 = .ok (.goto 4, 3) := by decide +kernel
theorem dX2_touches_24 : decode cX2_touches 24 = .ok (.iconst 0, 1) := by decide +kernel
theorem dX2_touches_25 : decode cX2_touches 25 = .ok (.ireturn, 1) := by decide +kernel
theorem dX3_init_0 : decode cX3_init 0 = .ok (.aload_n 0, 1) := by decide +kernel
theorem dX3_init_1 : decode cX3_init 1 = .ok (.invokespecial 3, 3) := by decide +kernel
theorem dX3_init_4 : decode cX3_init 4 = .ok (.aload_n 0, 1) := by decide +kernel
theorem dX3_init_5 : decode cX3_init 5 = .ok (.sipush 401, 3) := by decide +kernel
theorem dX3_init_8 : decode cX3_init 8 = .ok (.anewarray 11, 3) := by decide +kernel
theorem dX3_init_11 : decode cX3_init 11 = .ok (.putfield 13, 3) := by decide +kernel
theorem dX3_init_14 : decode cX3_init 14 = .ok (.return_, 1) := by decide +kernel
theorem dX3_clear_0 : decode cX3_clear 0 = .ok (.aload_n 0, 1) := by decide +kernel
theorem dX3_clear_1 : decode cX3_clear 1 = .ok (.iconst 0, 1) := by decide +kernel
theorem dX3_clear_2 : decode cX3_clear 2 = .ok (.putfield 17, 3) := by decide +kernel
theorem dX3_clear_5 : decode cX3_clear 5 = .ok (.return_, 1) := by decide +kernel
theorem dX3_countActs_0 : decode cX3_countActs 0 = .ok (.aload_n 0, 1) := by decide +kernel
theorem dX3_countActs_1 : decode cX3_countActs 1 = .ok (.getfield 17, 3) := by decide +kernel
theorem dX3_countActs_4 : decode cX3_countActs 4 = .ok (.iconst 1, 1) := by decide +kernel
theorem dX3_countActs_5 : decode cX3_countActs 5 = .ok (.isub, 1) := by decide +kernel
theorem dX3_countActs_6 : decode cX3_countActs 6 = .ok (.ireturn, 1) := by decide +kernel
theorem dX3_isFull_0 : decode cX3_isFull 0 = .ok (.aload_n 0, 1) := by decide +kernel
theorem dX3_isFull_1 : decode cX3_isFull 1 = .ok (.getfield 17, 3) := by decide +kernel
theorem dX3_isFull_4 : decode cX3_isFull 4 = .ok (.sipush 401, 3) := by decide +kernel
theorem dX3_isFull_7 : decode cX3_isFull 7 = .ok (.if_icmp .lt 7, 3) := by decide +kernel
theorem dX3_isFull_10 : decode cX3_isFull 10 = .ok (.iconst 1, 1) := by decide +kernel
theorem dX3_isFull_11 : decode cX3_isFull 11 = .ok (.goto 4, 3) := by decide +kernel
theorem dX3_isFull_14 : decode cX3_isFull 14 = .ok (.iconst 0, 1) := by decide +kernel
theorem dX3_isFull_15 : decode cX3_isFull 15 = .ok (.ireturn, 1) := by decide +kernel
theorem dX3_hasAct_0 : decode cX3_hasAct 0 = .ok (.iload_n 1, 1) := by decide +kernel
theorem dX3_hasAct_1 : decode cX3_hasAct 1 = .ok (.iconst 1, 1) := by decide +kernel
theorem dX3_hasAct_2 : decode cX3_hasAct 2 = .ok (.if_icmp .lt 15, 3) := by decide +kernel
theorem dX3_hasAct_5 : decode cX3_hasAct 5 = .ok (.iload_n 1, 1) := by decide +kernel
theorem dX3_hasAct_6 : decode cX3_hasAct 6 = .ok (.aload_n 0, 1) := by decide +kernel
theorem dX3_hasAct_7 : decode cX3_hasAct 7 = .ok (.getfield 17, 3) := by decide +kernel
theorem dX3_hasAct_10 : decode cX3_hasAct 10 = .ok (.if_icmp .ge 7, 3) := by decide +kernel
theorem dX3_hasAct_13 : decode cX3_hasAct 13 = .ok (.iconst 1, 1) := by decide +kernel
theorem dX3_hasAct_14 : decode cX3_hasAct 14 = .ok (.goto 4, 3) := by decide +kernel
theorem dX3_hasAct_17 : decode cX3_hasAct 17 = .ok (.iconst 0, 1) := by decide +kernel
theorem dX3_hasAct_18 : decode cX3_hasAct 18 = .ok (.ireturn, 1) := by decide +kernel
theorem dX3_keep_0 : decode cX3_keep 0 = .ok (.aload_n 0, 1) := by decide +kernel
theorem dX3_keep_1 : decode cX3_keep 1 = .ok (.invokevirtual 21, 3) := by decide +kernel
theorem dX3_keep_4 : decode cX3_keep 4 = .ok (.ifCond .eq 4, 3) := by decide +kernel
theorem dX3_keep_7 : decode cX3_keep 7 = .ok (.return_, 1) := by decide +kernel
theorem dX3_keep_8 : decode cX3_keep 8 = .ok (.aload_n 0, 1) := by decide +kernel
theorem dX3_keep_9 : decode cX3_keep 9 = .ok (.getfield 13, 3) := by decide +kernel
theorem dX3_keep_12 : decode cX3_keep 12 = .ok (.aload_n 0, 1) := by decide +kernel
theorem dX3_keep_13 : decode cX3_keep 13 = .ok (.getfield 17, 3) := by decide +kernel
theorem dX3_keep_16 : decode cX3_keep 16 = .ok (.aaload, 1) := by decide +kernel
theorem dX3_keep_17 : decode cX3_keep 17 = .ok (.astore_n 2, 1) := by decide +kernel
theorem dX3_keep_18 : decode cX3_keep 18 = .ok (.aload_n 2, 1) := by decide +kernel
theorem dX3_keep_19 : decode cX3_keep 19 = .ok (.ifnonnull 21, 3) := by decide +kernel
theorem dX3_keep_22 : decode cX3_keep 22 = .ok (.new 11, 3) := by decide +kernel
theorem dX3_keep_25 : decode cX3_keep 25 = .ok (.dup, 1) := by decide +kernel
theorem dX3_keep_26 : decode cX3_keep 26 = .ok (.invokespecial 25, 3) := by decide +kernel
theorem dX3_keep_29 : decode cX3_keep 29 = .ok (.astore_n 2, 1) := by decide +kernel
theorem dX3_keep_30 : decode cX3_keep 30 = .ok (.aload_n 0, 1) := by decide +kernel
theorem dX3_keep_31 : decode cX3_keep 31 = .ok (.getfield 13, 3) := by decide +kernel
theorem dX3_keep_34 : decode cX3_keep 34 = .ok (.aload_n 0, 1) := by decide +kernel
theorem dX3_keep_35 : decode cX3_keep 35 = .ok (.getfield 17, 3) := by decide +kernel
theorem dX3_keep_38 : decode cX3_keep 38 = .ok (.aload_n 2, 1) := by decide +kernel
theorem dX3_keep_39 : decode cX3_keep 39 = .ok (.aastore, 1) := by decide +kernel
theorem dX3_keep_40 : decode cX3_keep 40 = .ok (.aload_n 2, 1) := by decide +kernel
theorem dX3_keep_41 : decode cX3_keep 41 = .ok (.aload_n 1, 1) := by decide +kernel
theorem dX3_keep_42 : decode cX3_keep 42 = .ok (.invokevirtual 26, 3) := by decide +kernel
theorem dX3_keep_45 : decode cX3_keep 45 = .ok (.aload_n 0, 1) := by decide +kernel
theorem dX3_keep_46 : decode cX3_keep 46 = .ok (.dup, 1) := by decide +kernel
theorem dX3_keep_47 : decode cX3_keep 47 = .ok (.getfield 17, 3) := by decide +kernel
theorem dX3_keep_50 : decode cX3_keep 50 = .ok (.iconst 1, 1) := by decide +kernel
theorem dX3_keep_51 : decode cX3_keep 51 = .ok (.iadd, 1) := by decide +kernel
theorem dX3_keep_52 : decode cX3_keep 52 = .ok (.putfield 17, 3) := by decide +kernel
theorem dX3_keep_55 : decode cX3_keep 55 = .ok (.return_, 1) := by decide +kernel
theorem dX3_leastAsOf_0 : decode cX3_leastAsOf 0 = .ok (.aload_n 0, 1) := by decide +kernel
theorem dX3_leastAsOf_1 : decode cX3_leastAsOf 1 = .ok (.getfield 13, 3) := by decide +kernel
theorem dX3_leastAsOf_4 : decode cX3_leastAsOf 4 = .ok (.iload_n 1, 1) := by decide +kernel
theorem dX3_leastAsOf_5 : decode cX3_leastAsOf 5 = .ok (.aaload, 1) := by decide +kernel
theorem dX3_leastAsOf_6 : decode cX3_leastAsOf 6 = .ok (.astore_n 3, 1) := by decide +kernel
theorem dX3_leastAsOf_7 : decode cX3_leastAsOf 7 = .ok (.aload_n 3, 1) := by decide +kernel
theorem dX3_leastAsOf_8 : decode cX3_leastAsOf 8 = .ok (.ifnonnull 9, 3) := by decide +kernel
theorem dX3_leastAsOf_11 : decode cX3_leastAsOf 11 = .ok (.sipush (-1000), 3) := by decide +kernel
theorem dX3_leastAsOf_14 : decode cX3_leastAsOf 14 = .ok (.goto 9, 3) := by decide +kernel
theorem dX3_leastAsOf_17 : decode cX3_leastAsOf 17 = .ok (.aload_n 3, 1) := by decide +kernel
theorem dX3_leastAsOf_18 : decode cX3_leastAsOf 18 = .ok (.getfield 30, 3) := by decide +kernel
theorem dX3_leastAsOf_21 : decode cX3_leastAsOf 21 = .ok (.iload_n 2, 1) := by decide +kernel
theorem dX3_leastAsOf_22 : decode cX3_leastAsOf 22 = .ok (.iaload, 1) := by decide +kernel
theorem dX3_leastAsOf_23 : decode cX3_leastAsOf 23 = .ok (.ireturn, 1) := by decide +kernel
theorem dX3_countMoved_0 : decode cX3_countMoved 0 = .ok (.iconst 0, 1) := by decide +kernel
theorem dX3_countMoved_1 : decode cX3_countMoved 1 = .ok (.istore_n 2, 1) := by decide +kernel
theorem dX3_countMoved_2 : decode cX3_countMoved 2 = .ok (.iconst 0, 1) := by decide +kernel
theorem dX3_countMoved_3 : decode cX3_countMoved 3 = .ok (.istore_n 3, 1) := by decide +kernel
theorem dX3_countMoved_4 : decode cX3_countMoved 4 = .ok (.iload_n 3, 1) := by decide +kernel
theorem dX3_countMoved_5 : decode cX3_countMoved 5 = .ok (.bipush 100, 2) := by decide +kernel
theorem dX3_countMoved_7 : decode cX3_countMoved 7 = .ok (.if_icmp .ge 21, 3) := by decide +kernel
theorem dX3_countMoved_10 : decode cX3_countMoved 10 = .ok (.aload_n 0, 1) := by decide +kernel
theorem dX3_countMoved_11 : decode cX3_countMoved 11 = .ok (.iload_n 1, 1) := by decide +kernel
theorem dX3_countMoved_12 : decode cX3_countMoved 12 = .ok (.iload_n 3, 1) := by decide +kernel
theorem dX3_countMoved_13 : decode cX3_countMoved 13 = .ok (.invokevirtual 34, 3) := by decide +kernel
theorem dX3_countMoved_16 : decode cX3_countMoved 16 = .ok (.ifCond .eq 6, 3) := by decide +kernel
theorem dX3_countMoved_19 : decode cX3_countMoved 19 = .ok (.iinc 2 1, 3) := by decide +kernel
theorem dX3_countMoved_22 : decode cX3_countMoved 22 = .ok (.iinc 3 1, 3) := by decide +kernel
theorem dX3_countMoved_25 : decode cX3_countMoved 25 = .ok (.goto (-21), 3) := by decide +kernel
theorem dX3_countMoved_28 : decode cX3_countMoved 28 = .ok (.iload_n 2, 1) := by decide +kernel
theorem dX3_countMoved_29 : decode cX3_countMoved 29 = .ok (.ireturn, 1) := by decide +kernel
theorem dX3_movedPair_0 : decode cX3_movedPair 0 = .ok (.iconst 0, 1) := by decide +kernel
theorem dX3_movedPair_1 : decode cX3_movedPair 1 = .ok (.istore_n 3, 1) := by decide +kernel
theorem dX3_movedPair_2 : decode cX3_movedPair 2 = .ok (.iconst 0, 1) := by decide +kernel
theorem dX3_movedPair_3 : decode cX3_movedPair 3 = .ok (.istore 4, 2) := by decide +kernel
theorem dX3_movedPair_5 : decode cX3_movedPair 5 = .ok (.iload 4, 2) := by decide +kernel
theorem dX3_movedPair_7 : decode cX3_movedPair 7 = .ok (.bipush 100, 2) := by decide +kernel
theorem dX3_movedPair_9 : decode cX3_movedPair 9 = .ok (.if_icmp .ge 30, 3) := by decide +kernel
theorem dX3_movedPair_12 : decode cX3_movedPair 12 = .ok (.aload_n 0, 1) := by decide +kernel
theorem dX3_movedPair_13 : decode cX3_movedPair 13 = .ok (.iload_n 1, 1) := by decide +kernel
theorem dX3_movedPair_14 : decode cX3_movedPair 14 = .ok (.iload 4, 2) := by decide +kernel
theorem dX3_movedPair_16 : decode cX3_movedPair 16 = .ok (.invokevirtual 34, 3) := by decide +kernel
theorem dX3_movedPair_19 : decode cX3_movedPair 19 = .ok (.ifCond .eq 14, 3) := by decide +kernel
theorem dX3_movedPair_22 : decode cX3_movedPair 22 = .ok (.iload_n 3, 1) := by decide +kernel
theorem dX3_movedPair_23 : decode cX3_movedPair 23 = .ok (.iload_n 2, 1) := by decide +kernel
theorem dX3_movedPair_24 : decode cX3_movedPair 24 = .ok (.if_icmp .ne 6, 3) := by decide +kernel
theorem dX3_movedPair_27 : decode cX3_movedPair 27 = .ok (.iload 4, 2) := by decide +kernel
theorem dX3_movedPair_29 : decode cX3_movedPair 29 = .ok (.ireturn, 1) := by decide +kernel
theorem dX3_movedPair_30 : decode cX3_movedPair 30 = .ok (.iinc 3 1, 3) := by decide +kernel
theorem dX3_movedPair_33 : decode cX3_movedPair 33 = .ok (.iinc 4 1, 3) := by decide +kernel
theorem dX3_movedPair_36 : decode cX3_movedPair 36 = .ok (.goto (-31), 3) := by decide +kernel
theorem dX3_movedPair_39 : decode cX3_movedPair 39 = .ok (.sipush (-1000), 3) := by decide +kernel
theorem dX3_movedPair_42 : decode cX3_movedPair 42 = .ok (.ireturn, 1) := by decide +kernel
theorem dX3_firstWithin_0 : decode cX3_firstWithin 0 = .ok (.iload_n 1, 1) := by decide +kernel
theorem dX3_firstWithin_1 : decode cX3_firstWithin 1 = .ok (.istore 4, 2) := by decide +kernel
theorem dX3_firstWithin_3 : decode cX3_firstWithin 3 = .ok (.iload 4, 2) := by decide +kernel
theorem dX3_firstWithin_5 : decode cX3_firstWithin 5 = .ok (.aload_n 0, 1) := by decide +kernel
theorem dX3_firstWithin_6 : decode cX3_firstWithin 6 = .ok (.getfield 17, 3) := by decide +kernel
theorem dX3_firstWithin_9 : decode cX3_firstWithin 9 = .ok (.if_icmp .ge 35, 3) := by decide +kernel
theorem dX3_firstWithin_12 : decode cX3_firstWithin 12 = .ok (.aload_n 0, 1) := by decide +kernel
theorem dX3_firstWithin_13 : decode cX3_firstWithin 13 = .ok (.iload 4, 2) := by decide +kernel
theorem dX3_firstWithin_15 : decode cX3_firstWithin 15 = .ok (.iload_n 2, 1) := by decide +kernel
theorem dX3_firstWithin_16 : decode cX3_firstWithin 16 = .ok (.invokevirtual 38, 3) := by decide +kernel
theorem dX3_firstWithin_19 : decode cX3_firstWithin 19 = .ok (.istore 5, 2) := by decide +kernel
theorem dX3_firstWithin_21 : decode cX3_firstWithin 21 = .ok (.iload 5, 2) := by decide +kernel
theorem dX3_firstWithin_23 : decode cX3_firstWithin 23 = .ok (.sipush (-1000), 3) := by decide +kernel
theorem dX3_firstWithin_26 : decode cX3_firstWithin 26 = .ok (.if_icmp .eq 12, 3) := by decide +kernel
theorem dX3_firstWithin_29 : decode cX3_firstWithin 29 = .ok (.iload 5, 2) := by decide +kernel
theorem dX3_firstWithin_31 : decode cX3_firstWithin 31 = .ok (.iload_n 3, 1) := by decide +kernel
theorem dX3_firstWithin_32 : decode cX3_firstWithin 32 = .ok (.if_icmp .gt 6, 3) := by decide +kernel
theorem dX3_firstWithin_35 : decode cX3_firstWithin 35 = .ok (.iload 4, 2) := by decide +kernel
theorem dX3_firstWithin_37 : decode cX3_firstWithin 37 = .ok (.ireturn, 1) := by decide +kernel
theorem dX3_firstWithin_38 : decode cX3_firstWithin 38 = .ok (.iinc 4 1, 3) := by decide +kernel
theorem dX3_firstWithin_41 : decode cX3_firstWithin 41 = .ok (.goto (-38), 3) := by decide +kernel
theorem dX3_firstWithin_44 : decode cX3_firstWithin 44 = .ok (.sipush (-1000), 3) := by decide +kernel
theorem dX3_firstWithin_47 : decode cX3_firstWithin 47 = .ok (.ireturn, 1) := by decide +kernel
theorem dX3_isMoved_0 : decode cX3_isMoved 0 = .ok (.aload_n 0, 1) := by decide +kernel
theorem dX3_isMoved_1 : decode cX3_isMoved 1 = .ok (.iload_n 1, 1) := by decide +kernel
theorem dX3_isMoved_2 : decode cX3_isMoved 2 = .ok (.iload_n 2, 1) := by decide +kernel
theorem dX3_isMoved_3 : decode cX3_isMoved 3 = .ok (.invokevirtual 38, 3) := by decide +kernel
theorem dX3_isMoved_6 : decode cX3_isMoved 6 = .ok (.aload_n 0, 1) := by decide +kernel
theorem dX3_isMoved_7 : decode cX3_isMoved 7 = .ok (.iload_n 1, 1) := by decide +kernel
theorem dX3_isMoved_8 : decode cX3_isMoved 8 = .ok (.iconst 1, 1) := by decide +kernel
theorem dX3_isMoved_9 : decode cX3_isMoved 9 = .ok (.isub, 1) := by decide +kernel
theorem dX3_isMoved_10 : decode cX3_isMoved 10 = .ok (.iload_n 2, 1) := by decide +kernel
theorem dX3_isMoved_11 : decode cX3_isMoved 11 = .ok (.invokevirtual 38, 3) := by decide +kernel
theorem dX3_isMoved_14 : decode cX3_isMoved 14 = .ok (.if_icmp .eq 7, 3) := by decide +kernel
theorem dX3_isMoved_17 : decode cX3_isMoved 17 = .ok (.iconst 1, 1) := by decide +kernel
theorem dX3_isMoved_18 : decode cX3_isMoved 18 = .ok (.goto 4, 3) := by decide +kernel
theorem dX3_isMoved_21 : decode cX3_isMoved 21 = .ok (.iconst 0, 1) := by decide +kernel
theorem dX3_isMoved_22 : decode cX3_isMoved 22 = .ok (.ireturn, 1) := by decide +kernel
theorem dX4_init_0 : decode cX4_init 0 = .ok (.aload_n 0, 1) := by decide +kernel
theorem dX4_init_1 : decode cX4_init 1 = .ok (.invokespecial 3, 3) := by decide +kernel
theorem dX4_init_4 : decode cX4_init 4 = .ok (.aload_n 0, 1) := by decide +kernel
theorem dX4_init_5 : decode cX4_init 5 = .ok (.bipush 100, 2) := by decide +kernel
theorem dX4_init_7 : decode cX4_init 7 = .ok (.newarray .int, 2) := by decide +kernel
theorem dX4_init_9 : decode cX4_init 9 = .ok (.putfield 9, 3) := by decide +kernel
theorem dX4_init_12 : decode cX4_init 12 = .ok (.aload_n 0, 1) := by decide +kernel
theorem dX4_init_13 : decode cX4_init 13 = .ok (.bipush 10, 2) := by decide +kernel
theorem dX4_init_15 : decode cX4_init 15 = .ok (.newarray .int, 2) := by decide +kernel
theorem dX4_init_17 : decode cX4_init 17 = .ok (.putfield 15, 3) := by decide +kernel
theorem dX4_init_20 : decode cX4_init 20 = .ok (.aload_n 0, 1) := by decide +kernel
theorem dX4_init_21 : decode cX4_init 21 = .ok (.aload_n 1, 1) := by decide +kernel
theorem dX4_init_22 : decode cX4_init 22 = .ok (.putfield 18, 3) := by decide +kernel
theorem dX4_init_25 : decode cX4_init 25 = .ok (.return_, 1) := by decide +kernel
theorem dX4_measure_0 : decode cX4_measure 0 = .ok (.aload_n 0, 1) := by decide +kernel
theorem dX4_measure_1 : decode cX4_measure 1 = .ok (.getfield 9, 3) := by decide +kernel
theorem dX4_measure_4 : decode cX4_measure 4 = .ok (.ldc 22, 2) := by decide +kernel
theorem dX4_measure_6 : decode cX4_measure 6 = .ok (.invokestatic 23, 3) := by decide +kernel
theorem dX4_measure_9 : decode cX4_measure 9 = .ok (.iconst 0, 1) := by decide +kernel
theorem dX4_measure_10 : decode cX4_measure 10 = .ok (.istore_n 1, 1) := by decide +kernel
theorem dX4_measure_11 : decode cX4_measure 11 = .ok (.iload_n 1, 1) := by decide +kernel
theorem dX4_measure_12 : decode cX4_measure 12 = .ok (.aload_n 0, 1) := by decide +kernel
theorem dX4_measure_13 : decode cX4_measure 13 = .ok (.getfield 18, 3) := by decide +kernel
theorem dX4_measure_16 : decode cX4_measure 16 = .ok (.getfield 29, 3) := by decide +kernel
theorem dX4_measure_19 : decode cX4_measure 19 = .ok (.if_icmp .ge 35, 3) := by decide +kernel
theorem dX4_measure_22 : decode cX4_measure 22 = .ok (.aload_n 0, 1) := by decide +kernel
theorem dX4_measure_23 : decode cX4_measure 23 = .ok (.iload_n 1, 1) := by decide +kernel
theorem dX4_measure_24 : decode cX4_measure 24 = .ok (.iconst (-1), 1) := by decide +kernel
theorem dX4_measure_25 : decode cX4_measure 25 = .ok (.iconst (-1), 1) := by decide +kernel
theorem dX4_measure_26 : decode cX4_measure 26 = .ok (.invokevirtual 35, 3) := by decide +kernel
theorem dX4_measure_29 : decode cX4_measure 29 = .ok (.aload_n 0, 1) := by decide +kernel
theorem dX4_measure_30 : decode cX4_measure 30 = .ok (.getfield 15, 3) := by decide +kernel
theorem dX4_measure_33 : decode cX4_measure 33 = .ok (.iconst 0, 1) := by decide +kernel
theorem dX4_measure_34 : decode cX4_measure 34 = .ok (.aload_n 0, 1) := by decide +kernel
theorem dX4_measure_35 : decode cX4_measure 35 = .ok (.getfield 9, 3) := by decide +kernel
theorem dX4_measure_38 : decode cX4_measure 38 = .ok (.iload_n 1, 1) := by decide +kernel
theorem dX4_measure_39 : decode cX4_measure 39 = .ok (.iconst 0, 1) := by decide +kernel
theorem dX4_measure_40 : decode cX4_measure 40 = .ok (.invokestatic 39, 3) := by decide +kernel
theorem dX4_measure_43 : decode cX4_measure 43 = .ok (.bipush 10, 2) := by decide +kernel
theorem dX4_measure_45 : decode cX4_measure 45 = .ok (.invokestatic 43, 3) := by decide +kernel
theorem dX4_measure_48 : decode cX4_measure 48 = .ok (.iinc 1 1, 3) := by decide +kernel
theorem dX4_measure_51 : decode cX4_measure 51 = .ok (.goto (-40), 3) := by decide +kernel
theorem dX4_measure_54 : decode cX4_measure 54 = .ok (.return_, 1) := by decide +kernel
theorem dX4_leads_0 : decode cX4_leads 0 = .ok (.aload_n 0, 1) := by decide +kernel
theorem dX4_leads_1 : decode cX4_leads 1 = .ok (.getfield 9, 3) := by decide +kernel
theorem dX4_leads_4 : decode cX4_leads 4 = .ok (.iload_n 1, 1) := by decide +kernel
theorem dX4_leads_5 : decode cX4_leads 5 = .ok (.iload_n 2, 1) := by decide +kernel
theorem dX4_leads_6 : decode cX4_leads 6 = .ok (.invokestatic 39, 3) := by decide +kernel
theorem dX4_leads_9 : decode cX4_leads 9 = .ok (.iaload, 1) := by decide +kernel
theorem dX4_leads_10 : decode cX4_leads 10 = .ok (.ldc 22, 2) := by decide +kernel
theorem dX4_leads_12 : decode cX4_leads 12 = .ok (.if_icmp .eq 7, 3) := by decide +kernel
theorem dX4_leads_15 : decode cX4_leads 15 = .ok (.iconst 1, 1) := by decide +kernel
theorem dX4_leads_16 : decode cX4_leads 16 = .ok (.goto 4, 3) := by decide +kernel
theorem dX4_leads_19 : decode cX4_leads 19 = .ok (.iconst 0, 1) := by decide +kernel
theorem dX4_leads_20 : decode cX4_leads 20 = .ok (.ireturn, 1) := by decide +kernel
theorem dX4_leastPrice_0 : decode cX4_leastPrice 0 = .ok (.aload_n 0, 1) := by decide +kernel
theorem dX4_leastPrice_1 : decode cX4_leastPrice 1 = .ok (.getfield 9, 3) := by decide +kernel
theorem dX4_leastPrice_4 : decode cX4_leastPrice 4 = .ok (.iload_n 1, 1) := by decide +kernel
theorem dX4_leastPrice_5 : decode cX4_leastPrice 5 = .ok (.iload_n 2, 1) := by decide +kernel
theorem dX4_leastPrice_6 : decode cX4_leastPrice 6 = .ok (.invokestatic 39, 3) := by decide +kernel
theorem dX4_leastPrice_9 : decode cX4_leastPrice 9 = .ok (.iaload, 1) := by decide +kernel
theorem dX4_leastPrice_10 : decode cX4_leastPrice 10 = .ok (.invokestatic 49, 3) := by decide +kernel
theorem dX4_leastPrice_13 : decode cX4_leastPrice 13 = .ok (.ireturn, 1) := by decide +kernel
theorem dX4_length_0 : decode cX4_length 0 = .ok (.aload_n 0, 1) := by decide +kernel
theorem dX4_length_1 : decode cX4_length 1 = .ok (.getfield 9, 3) := by decide +kernel
theorem dX4_length_4 : decode cX4_length 4 = .ok (.iload_n 1, 1) := by decide +kernel
theorem dX4_length_5 : decode cX4_length 5 = .ok (.iload_n 2, 1) := by decide +kernel
theorem dX4_length_6 : decode cX4_length 6 = .ok (.invokestatic 39, 3) := by decide +kernel
theorem dX4_length_9 : decode cX4_length 9 = .ok (.iaload, 1) := by decide +kernel
theorem dX4_length_10 : decode cX4_length 10 = .ok (.istore_n 3, 1) := by decide +kernel
theorem dX4_length_11 : decode cX4_length 11 = .ok (.iload_n 3, 1) := by decide +kernel
theorem dX4_length_12 : decode cX4_length 12 = .ok (.ldc 22, 2) := by decide +kernel
theorem dX4_length_14 : decode cX4_length 14 = .ok (.if_icmp .ne 9, 3) := by decide +kernel
theorem dX4_length_17 : decode cX4_length 17 = .ok (.sipush (-1000), 3) := by decide +kernel
theorem dX4_length_20 : decode cX4_length 20 = .ok (.goto 9, 3) := by decide +kernel
theorem dX4_length_23 : decode cX4_length 23 = .ok (.iload_n 3, 1) := by decide +kernel
theorem dX4_length_24 : decode cX4_length 24 = .ok (.bipush 64, 2) := by decide +kernel
theorem dX4_length_26 : decode cX4_length 26 = .ok (.invokestatic 53, 3) := by decide +kernel
theorem dX4_length_29 : decode cX4_length 29 = .ok (.ireturn, 1) := by decide +kernel
theorem dX4_lineAt_0 : decode cX4_lineAt 0 = .ok (.iload_n 3, 1) := by decide +kernel
theorem dX4_lineAt_1 : decode cX4_lineAt 1 = .ok (.ifCond .lt 13, 3) := by decide +kernel
theorem dX4_lineAt_4 : decode cX4_lineAt 4 = .ok (.iload_n 3, 1) := by decide +kernel
theorem dX4_lineAt_5 : decode cX4_lineAt 5 = .ok (.aload_n 0, 1) := by decide +kernel
theorem dX4_lineAt_6 : decode cX4_lineAt 6 = .ok (.iload_n 1, 1) := by decide +kernel
theorem dX4_lineAt_7 : decode cX4_lineAt 7 = .ok (.iload_n 2, 1) := by decide +kernel
theorem dX4_lineAt_8 : decode cX4_lineAt 8 = .ok (.invokevirtual 58, 3) := by decide +kernel
theorem dX4_lineAt_11 : decode cX4_lineAt 11 = .ok (.if_icmp .lt 7, 3) := by decide +kernel
theorem dX4_lineAt_14 : decode cX4_lineAt 14 = .ok (.sipush (-1000), 3) := by decide +kernel
theorem dX4_lineAt_17 : decode cX4_lineAt 17 = .ok (.ireturn, 1) := by decide +kernel
theorem dX4_lineAt_18 : decode cX4_lineAt 18 = .ok (.iload_n 1, 1) := by decide +kernel
theorem dX4_lineAt_19 : decode cX4_lineAt 19 = .ok (.istore 4, 2) := by decide +kernel
theorem dX4_lineAt_21 : decode cX4_lineAt 21 = .ok (.iconst 0, 1) := by decide +kernel
theorem dX4_lineAt_22 : decode cX4_lineAt 22 = .ok (.istore 5, 2) := by decide +kernel
theorem dX4_lineAt_24 : decode cX4_lineAt 24 = .ok (.iload 5, 2) := by decide +kernel
theorem dX4_lineAt_26 : decode cX4_lineAt 26 = .ok (.iload_n 3, 1) := by decide +kernel
theorem dX4_lineAt_27 : decode cX4_lineAt 27 = .ok (.if_icmp .ge 27, 3) := by decide +kernel
theorem dX4_lineAt_30 : decode cX4_lineAt 30 = .ok (.aload_n 0, 1) := by decide +kernel
theorem dX4_lineAt_31 : decode cX4_lineAt 31 = .ok (.getfield 18, 3) := by decide +kernel
theorem dX4_lineAt_34 : decode cX4_lineAt 34 = .ok (.aload_n 0, 1) := by decide +kernel
theorem dX4_lineAt_35 : decode cX4_lineAt 35 = .ok (.iload 4, 2) := by decide +kernel
theorem dX4_lineAt_37 : decode cX4_lineAt 37 = .ok (.iload_n 2, 1) := by decide +kernel
theorem dX4_lineAt_38 : decode cX4_lineAt 38 = .ok (.invokevirtual 61, 3) := by decide +kernel
theorem dX4_lineAt_41 : decode cX4_lineAt 41 = .ok (.iload 4, 2) := by decide +kernel
theorem dX4_lineAt_43 : decode cX4_lineAt 43 = .ok (.invokevirtual 64, 3) := by decide +kernel
theorem dX4_lineAt_46 : decode cX4_lineAt 46 = .ok (.istore 4, 2) := by decide +kernel
theorem dX4_lineAt_48 : decode cX4_lineAt 48 = .ok (.iinc 5 1, 3) := by decide +kernel
theorem dX4_lineAt_51 : decode cX4_lineAt 51 = .ok (.goto (-27), 3) := by decide +kernel
theorem dX4_lineAt_54 : decode cX4_lineAt 54 = .ok (.aload_n 0, 1) := by decide +kernel
theorem dX4_lineAt_55 : decode cX4_lineAt 55 = .ok (.iload 4, 2) := by decide +kernel
theorem dX4_lineAt_57 : decode cX4_lineAt 57 = .ok (.iload_n 2, 1) := by decide +kernel
theorem dX4_lineAt_58 : decode cX4_lineAt 58 = .ok (.invokevirtual 61, 3) := by decide +kernel
theorem dX4_lineAt_61 : decode cX4_lineAt 61 = .ok (.ireturn, 1) := by decide +kernel
theorem dX4_between_0 : decode cX4_between 0 = .ok (.iconst 0, 1) := by decide +kernel
theorem dX4_between_1 : decode cX4_between 1 = .ok (.istore_n 3, 1) := by decide +kernel
theorem dX4_between_2 : decode cX4_between 2 = .ok (.iload_n 1, 1) := by decide +kernel
theorem dX4_between_3 : decode cX4_between 3 = .ok (.istore 4, 2) := by decide +kernel
theorem dX4_between_5 : decode cX4_between 5 = .ok (.iconst 1, 1) := by decide +kernel
theorem dX4_between_6 : decode cX4_between 6 = .ok (.istore 5, 2) := by decide +kernel
theorem dX4_between_8 : decode cX4_between 8 = .ok (.iload 5, 2) := by decide +kernel
theorem dX4_between_10 : decode cX4_between 10 = .ok (.aload_n 0, 1) := by decide +kernel
theorem dX4_between_11 : decode cX4_between 11 = .ok (.iload_n 1, 1) := by decide +kernel
theorem dX4_between_12 : decode cX4_between 12 = .ok (.iload_n 2, 1) := by decide +kernel
theorem dX4_between_13 : decode cX4_between 13 = .ok (.invokevirtual 58, 3) := by decide +kernel
theorem dX4_between_16 : decode cX4_between 16 = .ok (.if_icmp .ge 40, 3) := by decide +kernel
theorem dX4_between_19 : decode cX4_between 19 = .ok (.aload_n 0, 1) := by decide +kernel
theorem dX4_between_20 : decode cX4_between 20 = .ok (.getfield 18, 3) := by decide +kernel
theorem dX4_between_23 : decode cX4_between 23 = .ok (.aload_n 0, 1) := by decide +kernel
theorem dX4_between_24 : decode cX4_between 24 = .ok (.iload 4, 2) := by decide +kernel
theorem dX4_between_26 : decode cX4_between 26 = .ok (.iload_n 2, 1) := by decide +kernel
theorem dX4_between_27 : decode cX4_between 27 = .ok (.invokevirtual 61, 3) := by decide +kernel
theorem dX4_between_30 : decode cX4_between 30 = .ok (.iload 4, 2) := by decide +kernel
theorem dX4_between_32 : decode cX4_between 32 = .ok (.invokevirtual 64, 3) := by decide +kernel
theorem dX4_between_35 : decode cX4_between 35 = .ok (.istore 4, 2) := by decide +kernel
theorem dX4_between_37 : decode cX4_between 37 = .ok (.iload 4, 2) := by decide +kernel
theorem dX4_between_39 : decode cX4_between 39 = .ok (.iconst (-1), 1) := by decide +kernel
theorem dX4_between_40 : decode cX4_between 40 = .ok (.if_icmp .eq 10, 3) := by decide +kernel
theorem dX4_between_43 : decode cX4_between 43 = .ok (.iload_n 3, 1) := by decide +kernel
theorem dX4_between_44 : decode cX4_between 44 = .ok (.iconst 1, 1) := by decide +kernel
theorem dX4_between_45 : decode cX4_between 45 = .ok (.iload 4, 2) := by decide +kernel
theorem dX4_between_47 : decode cX4_between 47 = .ok (.ishl, 1) := by decide +kernel
theorem dX4_between_48 : decode cX4_between 48 = .ok (.ior, 1) := by decide +kernel
theorem dX4_between_49 : decode cX4_between 49 = .ok (.istore_n 3, 1) := by decide +kernel
theorem dX4_between_50 : decode cX4_between 50 = .ok (.iinc 5 1, 3) := by decide +kernel
theorem dX4_between_53 : decode cX4_between 53 = .ok (.goto (-45), 3) := by decide +kernel
theorem dX4_between_56 : decode cX4_between 56 = .ok (.iload_n 3, 1) := by decide +kernel
theorem dX4_between_57 : decode cX4_between 57 = .ok (.ireturn, 1) := by decide +kernel
theorem dX4_leastAvoiding_0 : decode cX4_leastAvoiding 0 = .ok (.aload_n 0, 1) := by decide +kernel
theorem dX4_leastAvoiding_1 : decode cX4_leastAvoiding 1 = .ok (.iload_n 1, 1) := by decide +kernel
theorem dX4_leastAvoiding_2 : decode cX4_leastAvoiding 2 = .ok (.iload_n 3, 1) := by decide +kernel
theorem dX4_leastAvoiding_3 : decode cX4_leastAvoiding 3 = .ok (.iload 4, 2) := by decide +kernel
theorem dX4_leastAvoiding_5 : decode cX4_leastAvoiding 5 = .ok (.invokevirtual 35, 3) := by decide +kernel
theorem dX4_leastAvoiding_8 : decode cX4_leastAvoiding 8 = .ok (.aload_n 0, 1) := by decide +kernel
theorem dX4_leastAvoiding_9 : decode cX4_leastAvoiding 9 = .ok (.getfield 15, 3) := by decide +kernel
theorem dX4_leastAvoiding_12 : decode cX4_leastAvoiding 12 = .ok (.iload_n 2, 1) := by decide +kernel
theorem dX4_leastAvoiding_13 : decode cX4_leastAvoiding 13 = .ok (.iaload, 1) := by decide +kernel
theorem dX4_leastAvoiding_14 : decode cX4_leastAvoiding 14 = .ok (.invokestatic 49, 3) := by decide +kernel
theorem dX4_leastAvoiding_17 : decode cX4_leastAvoiding 17 = .ok (.ireturn, 1) := by decide +kernel
theorem dX4_isVital_0 : decode cX4_isVital 0 = .ok (.aload_n 0, 1) := by decide +kernel
theorem dX4_isVital_1 : decode cX4_isVital 1 = .ok (.iload_n 1, 1) := by decide +kernel
theorem dX4_isVital_2 : decode cX4_isVital 2 = .ok (.iload_n 2, 1) := by decide +kernel
theorem dX4_isVital_3 : decode cX4_isVital 3 = .ok (.iload_n 3, 1) := by decide +kernel
theorem dX4_isVital_4 : decode cX4_isVital 4 = .ok (.invokevirtual 67, 3) := by decide +kernel
theorem dX4_isVital_7 : decode cX4_isVital 7 = .ok (.ifCond .eq 24, 3) := by decide +kernel
theorem dX4_isVital_10 : decode cX4_isVital 10 = .ok (.aload_n 0, 1) := by decide +kernel
theorem dX4_isVital_11 : decode cX4_isVital 11 = .ok (.iload_n 1, 1) := by decide +kernel
theorem dX4_isVital_12 : decode cX4_isVital 12 = .ok (.iload_n 2, 1) := by decide +kernel
theorem dX4_isVital_13 : decode cX4_isVital 13 = .ok (.iload_n 3, 1) := by decide +kernel
theorem dX4_isVital_14 : decode cX4_isVital 14 = .ok (.iconst (-1), 1) := by decide +kernel
theorem dX4_isVital_15 : decode cX4_isVital 15 = .ok (.invokevirtual 71, 3) := by decide +kernel
theorem dX4_isVital_18 : decode cX4_isVital 18 = .ok (.aload_n 0, 1) := by decide +kernel
theorem dX4_isVital_19 : decode cX4_isVital 19 = .ok (.iload_n 1, 1) := by decide +kernel
theorem dX4_isVital_20 : decode cX4_isVital 20 = .ok (.iload_n 2, 1) := by decide +kernel
theorem dX4_isVital_21 : decode cX4_isVital 21 = .ok (.invokevirtual 75, 3) := by decide +kernel
theorem dX4_isVital_24 : decode cX4_isVital 24 = .ok (.if_icmp .eq 7, 3) := by decide +kernel
theorem dX4_isVital_27 : decode cX4_isVital 27 = .ok (.iconst 1, 1) := by decide +kernel
theorem dX4_isVital_28 : decode cX4_isVital 28 = .ok (.goto 4, 3) := by decide +kernel
theorem dX4_isVital_31 : decode cX4_isVital 31 = .ok (.iconst 0, 1) := by decide +kernel
theorem dX4_isVital_32 : decode cX4_isVital 32 = .ok (.ireturn, 1) := by decide +kernel
theorem dX4_wouldSink_0 : decode cX4_wouldSink 0 = .ok (.iload_n 3, 1) := by decide +kernel
theorem dX4_wouldSink_1 : decode cX4_wouldSink 1 = .ok (.aload_n 0, 1) := by decide +kernel
theorem dX4_wouldSink_2 : decode cX4_wouldSink 2 = .ok (.iload_n 2, 1) := by decide +kernel
theorem dX4_wouldSink_3 : decode cX4_wouldSink 3 = .ok (.iload_n 1, 1) := by decide +kernel
theorem dX4_wouldSink_4 : decode cX4_wouldSink 4 = .ok (.iload 5, 2) := by decide +kernel
theorem dX4_wouldSink_6 : decode cX4_wouldSink 6 = .ok (.iconst (-1), 1) := by decide +kernel
theorem dX4_wouldSink_7 : decode cX4_wouldSink 7 = .ok (.invokevirtual 71, 3) := by decide +kernel
theorem dX4_wouldSink_10 : decode cX4_wouldSink 10 = .ok (.invokestatic 78, 3) := by decide +kernel
theorem dX4_wouldSink_13 : decode cX4_wouldSink 13 = .ok (.ifCond .ne 24, 3) := by decide +kernel
theorem dX4_wouldSink_16 : decode cX4_wouldSink 16 = .ok (.iload 4, 2) := by decide +kernel
theorem dX4_wouldSink_18 : decode cX4_wouldSink 18 = .ok (.ifCond .eq 23, 3) := by decide +kernel
theorem dX4_wouldSink_21 : decode cX4_wouldSink 21 = .ok (.iload_n 3, 1) := by decide +kernel
theorem dX4_wouldSink_22 : decode cX4_wouldSink 22 = .ok (.aload_n 0, 1) := by decide +kernel
theorem dX4_wouldSink_23 : decode cX4_wouldSink 23 = .ok (.iload_n 1, 1) := by decide +kernel
theorem dX4_wouldSink_24 : decode cX4_wouldSink 24 = .ok (.iload_n 2, 1) := by decide +kernel
theorem dX4_wouldSink_25 : decode cX4_wouldSink 25 = .ok (.iload 5, 2) := by decide +kernel
theorem dX4_wouldSink_27 : decode cX4_wouldSink 27 = .ok (.iconst (-1), 1) := by decide +kernel
theorem dX4_wouldSink_28 : decode cX4_wouldSink 28 = .ok (.invokevirtual 71, 3) := by decide +kernel
theorem dX4_wouldSink_31 : decode cX4_wouldSink 31 = .ok (.invokestatic 78, 3) := by decide +kernel
theorem dX4_wouldSink_34 : decode cX4_wouldSink 34 = .ok (.ifCond .eq 7, 3) := by decide +kernel
theorem dX4_wouldSink_37 : decode cX4_wouldSink 37 = .ok (.iconst 1, 1) := by decide +kernel
theorem dX4_wouldSink_38 : decode cX4_wouldSink 38 = .ok (.goto 4, 3) := by decide +kernel
theorem dX4_wouldSink_41 : decode cX4_wouldSink 41 = .ok (.iconst 0, 1) := by decide +kernel
theorem dX4_wouldSink_42 : decode cX4_wouldSink 42 = .ok (.ireturn, 1) := by decide +kernel
theorem dX4_leastRing_0 : decode cX4_leastRing 0 = .ok (.sipush (-1000), 3) := by decide +kernel
theorem dX4_leastRing_3 : decode cX4_leastRing 3 = .ok (.istore_n 1, 1) := by decide +kernel
theorem dX4_leastRing_4 : decode cX4_leastRing 4 = .ok (.iconst 0, 1) := by decide +kernel
theorem dX4_leastRing_5 : decode cX4_leastRing 5 = .ok (.istore_n 2, 1) := by decide +kernel
theorem dX4_leastRing_6 : decode cX4_leastRing 6 = .ok (.iload_n 2, 1) := by decide +kernel
theorem dX4_leastRing_7 : decode cX4_leastRing 7 = .ok (.aload_n 0, 1) := by decide +kernel
theorem dX4_leastRing_8 : decode cX4_leastRing 8 = .ok (.getfield 18, 3) := by decide +kernel
theorem dX4_leastRing_11 : decode cX4_leastRing 11 = .ok (.getfield 82, 3) := by decide +kernel
theorem dX4_leastRing_14 : decode cX4_leastRing 14 = .ok (.if_icmp .ge 36, 3) := by decide +kernel
theorem dX4_leastRing_17 : decode cX4_leastRing 17 = .ok (.aload_n 0, 1) := by decide +kernel
theorem dX4_leastRing_18 : decode cX4_leastRing 18 = .ok (.iload_n 2, 1) := by decide +kernel
theorem dX4_leastRing_19 : decode cX4_leastRing 19 = .ok (.invokevirtual 85, 3) := by decide +kernel
theorem dX4_leastRing_22 : decode cX4_leastRing 22 = .ok (.istore_n 3, 1) := by decide +kernel
theorem dX4_leastRing_23 : decode cX4_leastRing 23 = .ok (.iload_n 3, 1) := by decide +kernel
theorem dX4_leastRing_24 : decode cX4_leastRing 24 = .ok (.sipush (-1000), 3) := by decide +kernel
theorem dX4_leastRing_27 : decode cX4_leastRing 27 = .ok (.if_icmp .eq 17, 3) := by decide +kernel
theorem dX4_leastRing_30 : decode cX4_leastRing 30 = .ok (.iload_n 1, 1) := by decide +kernel
theorem dX4_leastRing_31 : decode cX4_leastRing 31 = .ok (.sipush (-1000), 3) := by decide +kernel
theorem dX4_leastRing_34 : decode cX4_leastRing 34 = .ok (.if_icmp .eq 8, 3) := by decide +kernel
theorem dX4_leastRing_37 : decode cX4_leastRing 37 = .ok (.iload_n 3, 1) := by decide +kernel
theorem dX4_leastRing_38 : decode cX4_leastRing 38 = .ok (.iload_n 1, 1) := by decide +kernel
theorem dX4_leastRing_39 : decode cX4_leastRing 39 = .ok (.if_icmp .ge 5, 3) := by decide +kernel
theorem dX4_leastRing_42 : decode cX4_leastRing 42 = .ok (.iload_n 3, 1) := by decide +kernel
theorem dX4_leastRing_43 : decode cX4_leastRing 43 = .ok (.istore_n 1, 1) := by decide +kernel
theorem dX4_leastRing_44 : decode cX4_leastRing 44 = .ok (.iinc 2 1, 3) := by decide +kernel
theorem dX4_leastRing_47 : decode cX4_leastRing 47 = .ok (.goto (-41), 3) := by decide +kernel
theorem dX4_leastRing_50 : decode cX4_leastRing 50 = .ok (.iload_n 1, 1) := by decide +kernel
theorem dX4_leastRing_51 : decode cX4_leastRing 51 = .ok (.ireturn, 1) := by decide +kernel
theorem dX4_heightOf_0 : decode cX4_heightOf 0 = .ok (.iconst 0, 1) := by decide +kernel
theorem dX4_heightOf_1 : decode cX4_heightOf 1 = .ok (.istore_n 2, 1) := by decide +kernel
theorem dX4_heightOf_2 : decode cX4_heightOf 2 = .ok (.iconst 0, 1) := by decide +kernel
theorem dX4_heightOf_3 : decode cX4_heightOf 3 = .ok (.istore_n 3, 1) := by decide +kernel
theorem dX4_heightOf_4 : decode cX4_heightOf 4 = .ok (.iload_n 3, 1) := by decide +kernel
theorem dX4_heightOf_5 : decode cX4_heightOf 5 = .ok (.aload_n 0, 1) := by decide +kernel
theorem dX4_heightOf_6 : decode cX4_heightOf 6 = .ok (.getfield 18, 3) := by decide +kernel
theorem dX4_heightOf_9 : decode cX4_heightOf 9 = .ok (.getfield 29, 3) := by decide +kernel
theorem dX4_heightOf_12 : decode cX4_heightOf 12 = .ok (.if_icmp .ge 29, 3) := by decide +kernel
