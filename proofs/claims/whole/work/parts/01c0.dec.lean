theorem dX0_init_0 : decode cX0_init 0 = .ok (.aload_n 0, 1) := by decide +kernel
theorem dX0_init_1 : decode cX0_init 1 = .ok (.invokespecial 3, 3) := by decide +kernel
theorem dX0_init_4 : decode cX0_init 4 = .ok (.aload_n 0, 1) := by decide +kernel
theorem dX0_init_5 : decode cX0_init 5 = .ok (.bipush 100, 2) := by decide +kernel
theorem dX0_init_7 : decode cX0_init 7 = .ok (.newarray .int, 2) := by decide +kernel
theorem dX0_init_9 : decode cX0_init 9 = .ok (.putfield 9, 3) := by decide +kernel
theorem dX0_init_12 : decode cX0_init 12 = .ok (.return_, 1) := by decide +kernel
theorem dX0_askFor_0 : decode cX0_askFor 0 = .ok (.aload_n 0, 1) := by decide +kernel
theorem dX0_askFor_1 : decode cX0_askFor 1 = .ok (.iconst 0, 1) := by decide +kernel
theorem dX0_askFor_2 : decode cX0_askFor 2 = .ok (.putfield 15, 3) := by decide +kernel
theorem dX0_askFor_5 : decode cX0_askFor 5 = .ok (.iconst 0, 1) := by decide +kernel
theorem dX0_askFor_6 : decode cX0_askFor 6 = .ok (.istore 4, 2) := by decide +kernel
theorem dX0_askFor_8 : decode cX0_askFor 8 = .ok (.iload 4, 2) := by decide +kernel
theorem dX0_askFor_10 : decode cX0_askFor 10 = .ok (.iload_n 2, 1) := by decide +kernel
theorem dX0_askFor_11 : decode cX0_askFor 11 = .ok (.if_icmp .ge 70, 3) := by decide +kernel
theorem dX0_askFor_14 : decode cX0_askFor 14 = .ok (.iconst 0, 1) := by decide +kernel
theorem dX0_askFor_15 : decode cX0_askFor 15 = .ok (.istore 5, 2) := by decide +kernel
theorem dX0_askFor_17 : decode cX0_askFor 17 = .ok (.iload 5, 2) := by decide +kernel
theorem dX0_askFor_19 : decode cX0_askFor 19 = .ok (.iload_n 2, 1) := by decide +kernel
theorem dX0_askFor_20 : decode cX0_askFor 20 = .ok (.if_icmp .ge 55, 3) := by decide +kernel
theorem dX0_askFor_23 : decode cX0_askFor 23 = .ok (.iload 4, 2) := by decide +kernel
theorem dX0_askFor_25 : decode cX0_askFor 25 = .ok (.iload 5, 2) := by decide +kernel
theorem dX0_askFor_27 : decode cX0_askFor 27 = .ok (.if_icmp .eq 42, 3) := by decide +kernel
theorem dX0_askFor_30 : decode cX0_askFor 30 = .ok (.aload_n 1, 1) := by decide +kernel
theorem dX0_askFor_31 : decode cX0_askFor 31 = .ok (.iload 4, 2) := by decide +kernel
theorem dX0_askFor_33 : decode cX0_askFor 33 = .ok (.iload 5, 2) := by decide +kernel
theorem dX0_askFor_35 : decode cX0_askFor 35 = .ok (.invokevirtual 19, 3) := by decide +kernel
theorem dX0_askFor_38 : decode cX0_askFor 38 = .ok (.iload_n 3, 1) := by decide +kernel
theorem dX0_askFor_39 : decode cX0_askFor 39 = .ok (.if_icmp .lt 30, 3) := by decide +kernel
theorem dX0_askFor_42 : decode cX0_askFor 42 = .ok (.aload_n 0, 1) := by decide +kernel
theorem dX0_askFor_43 : decode cX0_askFor 43 = .ok (.getfield 9, 3) := by decide +kernel
theorem dX0_askFor_46 : decode cX0_askFor 46 = .ok (.aload_n 0, 1) := by decide +kernel
theorem dX0_askFor_47 : decode cX0_askFor 47 = .ok (.getfield 15, 3) := by decide +kernel
theorem dX0_askFor_50 : decode cX0_askFor 50 = .ok (.aload_n 1, 1) := by decide +kernel
theorem dX0_askFor_51 : decode cX0_askFor 51 = .ok (.iload 4, 2) := by decide +kernel
theorem dX0_askFor_53 : decode cX0_askFor 53 = .ok (.iload 5, 2) := by decide +kernel
theorem dX0_askFor_55 : decode cX0_askFor 55 = .ok (.invokevirtual 25, 3) := by decide +kernel
theorem dX0_askFor_58 : decode cX0_askFor 58 = .ok (.iastore, 1) := by decide +kernel
theorem dX0_askFor_59 : decode cX0_askFor 59 = .ok (.aload_n 0, 1) := by decide +kernel
theorem dX0_askFor_60 : decode cX0_askFor 60 = .ok (.dup, 1) := by decide +kernel
theorem dX0_askFor_61 : decode cX0_askFor 61 = .ok (.getfield 15, 3) := by decide +kernel
theorem dX0_askFor_64 : decode cX0_askFor 64 = .ok (.iconst 1, 1) := by decide +kernel
theorem dX0_askFor_65 : decode cX0_askFor 65 = .ok (.iadd, 1) := by decide +kernel
theorem dX0_askFor_66 : decode cX0_askFor 66 = .ok (.putfield 15, 3) := by decide +kernel
theorem dX0_askFor_69 : decode cX0_askFor 69 = .ok (.iinc 5 1, 3) := by decide +kernel
theorem dX0_askFor_72 : decode cX0_askFor 72 = .ok (.goto (-55), 3) := by decide +kernel
theorem dX0_askFor_75 : decode cX0_askFor 75 = .ok (.iinc 4 1, 3) := by decide +kernel
theorem dX0_askFor_78 : decode cX0_askFor 78 = .ok (.goto (-70), 3) := by decide +kernel
theorem dX0_askFor_81 : decode cX0_askFor 81 = .ok (.return_, 1) := by decide +kernel
theorem dX0_fewest_0 : decode cX0_fewest 0 = .ok (.sipush (-1000), 3) := by decide +kernel
theorem dX0_fewest_3 : decode cX0_fewest 3 = .ok (.istore_n 2, 1) := by decide +kernel
theorem dX0_fewest_4 : decode cX0_fewest 4 = .ok (.iload_n 1, 1) := by decide +kernel
theorem dX0_fewest_5 : decode cX0_fewest 5 = .ok (.iconst 1, 1) := by decide +kernel
theorem dX0_fewest_6 : decode cX0_fewest 6 = .ok (.iadd, 1) := by decide +kernel
theorem dX0_fewest_7 : decode cX0_fewest 7 = .ok (.istore_n 3, 1) := by decide +kernel
theorem dX0_fewest_8 : decode cX0_fewest 8 = .ok (.iconst 0, 1) := by decide +kernel
theorem dX0_fewest_9 : decode cX0_fewest 9 = .ok (.istore 4, 2) := by decide +kernel
theorem dX0_fewest_11 : decode cX0_fewest 11 = .ok (.iload 4, 2) := by decide +kernel
theorem dX0_fewest_13 : decode cX0_fewest 13 = .ok (.iconst 1, 1) := by decide +kernel
theorem dX0_fewest_14 : decode cX0_fewest 14 = .ok (.iload_n 1, 1) := by decide +kernel
theorem dX0_fewest_15 : decode cX0_fewest 15 = .ok (.ishl, 1) := by decide +kernel
theorem dX0_fewest_16 : decode cX0_fewest 16 = .ok (.if_icmp .ge 37, 3) := by decide +kernel
theorem dX0_fewest_19 : decode cX0_fewest 19 = .ok (.iload 4, 2) := by decide +kernel
theorem dX0_fewest_21 : decode cX0_fewest 21 = .ok (.invokestatic 28, 3) := by decide +kernel
theorem dX0_fewest_24 : decode cX0_fewest 24 = .ok (.istore 5, 2) := by decide +kernel
theorem dX0_fewest_26 : decode cX0_fewest 26 = .ok (.iload 5, 2) := by decide +kernel
theorem dX0_fewest_28 : decode cX0_fewest 28 = .ok (.iload_n 3, 1) := by decide +kernel
theorem dX0_fewest_29 : decode cX0_fewest 29 = .ok (.if_icmp .ge 18, 3) := by decide +kernel
theorem dX0_fewest_32 : decode cX0_fewest 32 = .ok (.aload_n 0, 1) := by decide +kernel
theorem dX0_fewest_33 : decode cX0_fewest 33 = .ok (.iload 4, 2) := by decide +kernel
theorem dX0_fewest_35 : decode cX0_fewest 35 = .ok (.invokevirtual 34, 3) := by decide +kernel
theorem dX0_fewest_38 : decode cX0_fewest 38 = .ok (.ifCond .eq 9, 3) := by decide +kernel
theorem dX0_fewest_41 : decode cX0_fewest 41 = .ok (.iload 4, 2) := by decide +kernel
theorem dX0_fewest_43 : decode cX0_fewest 43 = .ok (.istore_n 2, 1) := by decide +kernel
theorem dX0_fewest_44 : decode cX0_fewest 44 = .ok (.iload 5, 2) := by decide +kernel
theorem dX0_fewest_46 : decode cX0_fewest 46 = .ok (.istore_n 3, 1) := by decide +kernel
theorem dX0_fewest_47 : decode cX0_fewest 47 = .ok (.iinc 4 1, 3) := by decide +kernel
theorem dX0_fewest_50 : decode cX0_fewest 50 = .ok (.goto (-39), 3) := by decide +kernel
theorem dX0_fewest_53 : decode cX0_fewest 53 = .ok (.iload_n 2, 1) := by decide +kernel
theorem dX0_fewest_54 : decode cX0_fewest 54 = .ok (.ireturn, 1) := by decide +kernel
theorem dX0_meetsAll_0 : decode cX0_meetsAll 0 = .ok (.iconst 0, 1) := by decide +kernel
theorem dX0_meetsAll_1 : decode cX0_meetsAll 1 = .ok (.istore_n 2, 1) := by decide +kernel
theorem dX0_meetsAll_2 : decode cX0_meetsAll 2 = .ok (.iload_n 2, 1) := by decide +kernel
theorem dX0_meetsAll_3 : decode cX0_meetsAll 3 = .ok (.aload_n 0, 1) := by decide +kernel
theorem dX0_meetsAll_4 : decode cX0_meetsAll 4 = .ok (.getfield 15, 3) := by decide +kernel
theorem dX0_meetsAll_7 : decode cX0_meetsAll 7 = .ok (.if_icmp .ge 22, 3) := by decide +kernel
theorem dX0_meetsAll_10 : decode cX0_meetsAll 10 = .ok (.aload_n 0, 1) := by decide +kernel
theorem dX0_meetsAll_11 : decode cX0_meetsAll 11 = .ok (.getfield 9, 3) := by decide +kernel
theorem dX0_meetsAll_14 : decode cX0_meetsAll 14 = .ok (.iload_n 2, 1) := by decide +kernel
theorem dX0_meetsAll_15 : decode cX0_meetsAll 15 = .ok (.iaload, 1) := by decide +kernel
theorem dX0_meetsAll_16 : decode cX0_meetsAll 16 = .ok (.iload_n 1, 1) := by decide +kernel
theorem dX0_meetsAll_17 : decode cX0_meetsAll 17 = .ok (.iand, 1) := by decide +kernel
theorem dX0_meetsAll_18 : decode cX0_meetsAll 18 = .ok (.ifCond .ne 5, 3) := by decide +kernel
theorem dX0_meetsAll_21 : decode cX0_meetsAll 21 = .ok (.iconst 0, 1) := by decide +kernel
theorem dX0_meetsAll_22 : decode cX0_meetsAll 22 = .ok (.ireturn, 1) := by decide +kernel
theorem dX0_meetsAll_23 : decode cX0_meetsAll 23 = .ok (.iinc 2 1, 3) := by decide +kernel
theorem dX0_meetsAll_26 : decode cX0_meetsAll 26 = .ok (.goto (-24), 3) := by decide +kernel
theorem dX0_meetsAll_29 : decode cX0_meetsAll 29 = .ok (.iconst 1, 1) := by decide +kernel
theorem dX0_meetsAll_30 : decode cX0_meetsAll 30 = .ok (.ireturn, 1) := by decide +kernel
theorem dX1_init_0 : decode cX1_init 0 = .ok (.aload_n 0, 1) := by decide +kernel
theorem dX1_init_1 : decode cX1_init 1 = .ok (.invokespecial 3, 3) := by decide +kernel
theorem dX1_init_4 : decode cX1_init 4 = .ok (.aload_n 0, 1) := by decide +kernel
theorem dX1_init_5 : decode cX1_init 5 = .ok (.bipush 40, 2) := by decide +kernel
theorem dX1_init_7 : decode cX1_init 7 = .ok (.newarray .int, 2) := by decide +kernel
theorem dX1_init_9 : decode cX1_init 9 = .ok (.putfield 9, 3) := by decide +kernel
theorem dX1_init_12 : decode cX1_init 12 = .ok (.aload_n 0, 1) := by decide +kernel
theorem dX1_init_13 : decode cX1_init 13 = .ok (.bipush 40, 2) := by decide +kernel
theorem dX1_init_15 : decode cX1_init 15 = .ok (.newarray .int, 2) := by decide +kernel
theorem dX1_init_17 : decode cX1_init 17 = .ok (.putfield 15, 3) := by decide +kernel
theorem dX1_init_20 : decode cX1_init 20 = .ok (.aload_n 0, 1) := by decide +kernel
theorem dX1_init_21 : decode cX1_init 21 = .ok (.bipush 40, 2) := by decide +kernel
theorem dX1_init_23 : decode cX1_init 23 = .ok (.newarray .int, 2) := by decide +kernel
theorem dX1_init_25 : decode cX1_init 25 = .ok (.putfield 18, 3) := by decide +kernel
theorem dX1_init_28 : decode cX1_init 28 = .ok (.aload_n 0, 1) := by decide +kernel
theorem dX1_init_29 : decode cX1_init 29 = .ok (.bipush 40, 2) := by decide +kernel
theorem dX1_init_31 : decode cX1_init 31 = .ok (.newarray .boolean, 2) := by decide +kernel
theorem dX1_init_33 : decode cX1_init 33 = .ok (.putfield 21, 3) := by decide +kernel
theorem dX1_init_36 : decode cX1_init 36 = .ok (.aload_n 0, 1) := by decide +kernel
theorem dX1_init_37 : decode cX1_init 37 = .ok (.bipush 40, 2) := by decide +kernel
theorem dX1_init_39 : decode cX1_init 39 = .ok (.newarray .boolean, 2) := by decide +kernel
theorem dX1_init_41 : decode cX1_init 41 = .ok (.putfield 25, 3) := by decide +kernel
theorem dX1_init_44 : decode cX1_init 44 = .ok (.return_, 1) := by decide +kernel
theorem dX1_clear_0 : decode cX1_clear 0 = .ok (.aload_n 0, 1) := by decide +kernel
theorem dX1_clear_1 : decode cX1_clear 1 = .ok (.iload_n 1, 1) := by decide +kernel
theorem dX1_clear_2 : decode cX1_clear 2 = .ok (.putfield 28, 3) := by decide +kernel
theorem dX1_clear_5 : decode cX1_clear 5 = .ok (.aload_n 0, 1) := by decide +kernel
theorem dX1_clear_6 : decode cX1_clear 6 = .ok (.iconst 0, 1) := by decide +kernel
theorem dX1_clear_7 : decode cX1_clear 7 = .ok (.putfield 32, 3) := by decide +kernel
theorem dX1_clear_10 : decode cX1_clear 10 = .ok (.return_, 1) := by decide +kernel
theorem dX1_hasPost_0 : decode cX1_hasPost 0 = .ok (.iload_n 1, 1) := by decide +kernel
theorem dX1_hasPost_1 : decode cX1_hasPost 1 = .ok (.ifCond .lt 15, 3) := by decide +kernel
theorem dX1_hasPost_4 : decode cX1_hasPost 4 = .ok (.iload_n 1, 1) := by decide +kernel
theorem dX1_hasPost_5 : decode cX1_hasPost 5 = .ok (.aload_n 0, 1) := by decide +kernel
theorem dX1_hasPost_6 : decode cX1_hasPost 6 = .ok (.getfield 28, 3) := by decide +kernel
theorem dX1_hasPost_9 : decode cX1_hasPost 9 = .ok (.if_icmp .ge 7, 3) := by decide +kernel
theorem dX1_hasPost_12 : decode cX1_hasPost 12 = .ok (.iconst 1, 1) := by decide +kernel
theorem dX1_hasPost_13 : decode cX1_hasPost 13 = .ok (.goto 4, 3) := by decide +kernel
theorem dX1_hasPost_16 : decode cX1_hasPost 16 = .ok (.iconst 0, 1) := by decide +kernel
theorem dX1_hasPost_17 : decode cX1_hasPost 17 = .ok (.ireturn, 1) := by decide +kernel
theorem dX1_hasPosts_0 : decode cX1_hasPosts 0 = .ok (.aload_n 0, 1) := by decide +kernel
theorem dX1_hasPosts_1 : decode cX1_hasPosts 1 = .ok (.iload_n 1, 1) := by decide +kernel
theorem dX1_hasPosts_2 : decode cX1_hasPosts 2 = .ok (.invokevirtual 35, 3) := by decide +kernel
theorem dX1_hasPosts_5 : decode cX1_hasPosts 5 = .ok (.ifCond .eq 15, 3) := by decide +kernel
theorem dX1_hasPosts_8 : decode cX1_hasPosts 8 = .ok (.aload_n 0, 1) := by decide +kernel
theorem dX1_hasPosts_9 : decode cX1_hasPosts 9 = .ok (.iload_n 2, 1) := by decide +kernel
theorem dX1_hasPosts_10 : decode cX1_hasPosts 10 = .ok (.invokevirtual 35, 3) := by decide +kernel
theorem dX1_hasPosts_13 : decode cX1_hasPosts 13 = .ok (.ifCond .eq 7, 3) := by decide +kernel
theorem dX1_hasPosts_16 : decode cX1_hasPosts 16 = .ok (.iconst 1, 1) := by decide +kernel
theorem dX1_hasPosts_17 : decode cX1_hasPosts 17 = .ok (.goto 4, 3) := by decide +kernel
theorem dX1_hasPosts_20 : decode cX1_hasPosts 20 = .ok (.iconst 0, 1) := by decide +kernel
theorem dX1_hasPosts_21 : decode cX1_hasPosts 21 = .ok (.ireturn, 1) := by decide +kernel
theorem dX1_hasLine_0 : decode cX1_hasLine 0 = .ok (.iload_n 1, 1) := by decide +kernel
theorem dX1_hasLine_1 : decode cX1_hasLine 1 = .ok (.ifCond .lt 15, 3) := by decide +kernel
theorem dX1_hasLine_4 : decode cX1_hasLine 4 = .ok (.iload_n 1, 1) := by decide +kernel
theorem dX1_hasLine_5 : decode cX1_hasLine 5 = .ok (.aload_n 0, 1) := by decide +kernel
theorem dX1_hasLine_6 : decode cX1_hasLine 6 = .ok (.getfield 32, 3) := by decide +kernel
theorem dX1_hasLine_9 : decode cX1_hasLine 9 = .ok (.if_icmp .ge 7, 3) := by decide +kernel
theorem dX1_hasLine_12 : decode cX1_hasLine 12 = .ok (.iconst 1, 1) := by decide +kernel
theorem dX1_hasLine_13 : decode cX1_hasLine 13 = .ok (.goto 4, 3) := by decide +kernel
theorem dX1_hasLine_16 : decode cX1_hasLine 16 = .ok (.iconst 0, 1) := by decide +kernel
theorem dX1_hasLine_17 : decode cX1_hasLine 17 = .ok (.ireturn, 1) := by decide +kernel
theorem dX1_add_0 : decode cX1_add 0 = .ok (.aload_n 0, 1) := by decide +kernel
theorem dX1_add_1 : decode cX1_add 1 = .ok (.getfield 32, 3) := by decide +kernel
theorem dX1_add_4 : decode cX1_add 4 = .ok (.istore 5, 2) := by decide +kernel
theorem dX1_add_6 : decode cX1_add 6 = .ok (.iload 5, 2) := by decide +kernel
theorem dX1_add_8 : decode cX1_add 8 = .ok (.bipush 40, 2) := by decide +kernel
theorem dX1_add_10 : decode cX1_add 10 = .ok (.if_icmp .lt 7, 3) := by decide +kernel
theorem dX1_add_13 : decode cX1_add 13 = .ok (.sipush (-1004), 3) := by decide +kernel
theorem dX1_add_16 : decode cX1_add 16 = .ok (.ireturn, 1) := by decide +kernel
theorem dX1_add_17 : decode cX1_add 17 = .ok (.aload_n 0, 1) := by decide +kernel
theorem dX1_add_18 : decode cX1_add 18 = .ok (.getfield 9, 3) := by decide +kernel
theorem dX1_add_21 : decode cX1_add 21 = .ok (.iload 5, 2) := by decide +kernel
theorem dX1_add_23 : decode cX1_add 23 = .ok (.iload_n 1, 1) := by decide +kernel
theorem dX1_add_24 : decode cX1_add 24 = .ok (.iastore, 1) := by decide +kernel
theorem dX1_add_25 : decode cX1_add 25 = .ok (.aload_n 0, 1) := by decide +kernel
theorem dX1_add_26 : decode cX1_add 26 = .ok (.getfield 15, 3) := by decide +kernel
theorem dX1_add_29 : decode cX1_add 29 = .ok (.iload 5, 2) := by decide +kernel
theorem dX1_add_31 : decode cX1_add 31 = .ok (.iload_n 2, 1) := by decide +kernel
theorem dX1_add_32 : decode cX1_add 32 = .ok (.iastore, 1) := by decide +kernel
theorem dX1_add_33 : decode cX1_add 33 = .ok (.aload_n 0, 1) := by decide +kernel
theorem dX1_add_34 : decode cX1_add 34 = .ok (.getfield 18, 3) := by decide +kernel
theorem dX1_add_37 : decode cX1_add 37 = .ok (.iload 5, 2) := by decide +kernel
theorem dX1_add_39 : decode cX1_add 39 = .ok (.iload_n 3, 1) := by decide +kernel
theorem dX1_add_40 : decode cX1_add 40 = .ok (.iastore, 1) := by decide +kernel
theorem dX1_add_41 : decode cX1_add 41 = .ok (.aload_n 0, 1) := by decide +kernel
theorem dX1_add_42 : decode cX1_add 42 = .ok (.getfield 21, 3) := by decide +kernel
theorem dX1_add_45 : decode cX1_add 45 = .ok (.iload 5, 2) := by decide +kernel
theorem dX1_add_47 : decode cX1_add 47 = .ok (.iload 4, 2) := by decide +kernel
theorem dX1_add_49 : decode cX1_add 49 = .ok (.bastore, 1) := by decide +kernel
theorem dX1_add_50 : decode cX1_add 50 = .ok (.aload_n 0, 1) := by decide +kernel
theorem dX1_add_51 : decode cX1_add 51 = .ok (.getfield 25, 3) := by decide +kernel
theorem dX1_add_54 : decode cX1_add 54 = .ok (.iload 5, 2) := by decide +kernel
theorem dX1_add_56 : decode cX1_add 56 = .ok (.iconst 1, 1) := by decide +kernel
theorem dX1_add_57 : decode cX1_add 57 = .ok (.bastore, 1) := by decide +kernel
theorem dX1_add_58 : decode cX1_add 58 = .ok (.aload_n 0, 1) := by decide +kernel
theorem dX1_add_59 : decode cX1_add 59 = .ok (.dup, 1) := by decide +kernel
theorem dX1_add_60 : decode cX1_add 60 = .ok (.getfield 32, 3) := by decide +kernel
theorem dX1_add_63 : decode cX1_add 63 = .ok (.iconst 1, 1) := by decide +kernel
theorem dX1_add_64 : decode cX1_add 64 = .ok (.iadd, 1) := by decide +kernel
theorem dX1_add_65 : decode cX1_add 65 = .ok (.putfield 32, 3) := by decide +kernel
theorem dX1_add_68 : decode cX1_add 68 = .ok (.iload 5, 2) := by decide +kernel
theorem dX1_add_70 : decode cX1_add 70 = .ok (.ireturn, 1) := by decide +kernel
theorem dX1_countThere_0 : decode cX1_countThere 0 = .ok (.iconst 0, 1) := by decide +kernel
theorem dX1_countThere_1 : decode cX1_countThere 1 = .ok (.istore_n 1, 1) := by decide +kernel
theorem dX1_countThere_2 : decode cX1_countThere 2 = .ok (.iconst 0, 1) := by decide +kernel
theorem dX1_countThere_3 : decode cX1_countThere 3 = .ok (.istore_n 2, 1) := by decide +kernel
theorem dX1_countThere_4 : decode cX1_countThere 4 = .ok (.iload_n 2, 1) := by decide +kernel
theorem dX1_countThere_5 : decode cX1_countThere 5 = .ok (.aload_n 0, 1) := by decide +kernel
theorem dX1_countThere_6 : decode cX1_countThere 6 = .ok (.getfield 32, 3) := by decide +kernel
theorem dX1_countThere_9 : decode cX1_countThere 9 = .ok (.if_icmp .ge 21, 3) := by decide +kernel
theorem dX1_countThere_12 : decode cX1_countThere 12 = .ok (.aload_n 0, 1) := by decide +kernel
theorem dX1_countThere_13 : decode cX1_countThere 13 = .ok (.getfield 25, 3) := by decide +kernel
theorem dX1_countThere_16 : decode cX1_countThere 16 = .ok (.iload_n 2, 1) := by decide +kernel
theorem dX1_countThere_17 : decode cX1_countThere 17 = .ok (.baload, 1) := by decide +kernel
theorem dX1_countThere_18 : decode cX1_countThere 18 = .ok (.ifCond .eq 6, 3) := by decide +kernel
theorem dX1_countThere_21 : decode cX1_countThere 21 = .ok (.iinc 1 1, 3) := by decide +kernel
theorem dX1_countThere_24 : decode cX1_countThere 24 = .ok (.iinc 2 1, 3) := by decide +kernel
theorem dX1_countThere_27 : decode cX1_countThere 27 = .ok (.goto (-23), 3) := by decide +kernel
theorem dX1_countThere_30 : decode cX1_countThere 30 = .ok (.iload_n 1, 1) := by decide +kernel
theorem dX1_countThere_31 : decode cX1_countThere 31 = .ok (.ireturn, 1) := by decide +kernel
theorem dX1_target_0 : decode cX1_target 0 = .ok (.aload_n 0, 1) := by decide +kernel
theorem dX1_target_1 : decode cX1_target 1 = .ok (.iload_n 1, 1) := by decide +kernel
theorem dX1_target_2 : decode cX1_target 2 = .ok (.invokevirtual 39, 3) := by decide +kernel
theorem dX1_target_5 : decode cX1_target 5 = .ok (.ifCond .eq 12, 3) := by decide +kernel
theorem dX1_target_8 : decode cX1_target 8 = .ok (.aload_n 0, 1) := by decide +kernel
theorem dX1_target_9 : decode cX1_target 9 = .ok (.getfield 25, 3) := by decide +kernel
theorem dX1_target_12 : decode cX1_target 12 = .ok (.iload_n 1, 1) := by decide +kernel
theorem dX1_target_13 : decode cX1_target 13 = .ok (.baload, 1) := by decide +kernel
theorem dX1_target_14 : decode cX1_target 14 = .ok (.ifCond .ne 5, 3) := by decide +kernel
theorem dX1_target_17 : decode cX1_target 17 = .ok (.iconst (-1), 1) := by decide +kernel
theorem dX1_target_18 : decode cX1_target 18 = .ok (.ireturn, 1) := by decide +kernel
theorem dX1_target_19 : decode cX1_target 19 = .ok (.aload_n 0, 1) := by decide +kernel
theorem dX1_target_20 : decode cX1_target 20 = .ok (.getfield 9, 3) := by decide +kernel
theorem dX1_target_23 : decode cX1_target 23 = .ok (.iload_n 1, 1) := by decide +kernel
theorem dX1_target_24 : decode cX1_target 24 = .ok (.iaload, 1) := by decide +kernel
theorem dX1_target_25 : decode cX1_target 25 = .ok (.iload_n 2, 1) := by decide +kernel
theorem dX1_target_26 : decode cX1_target 26 = .ok (.if_icmp .ne 10, 3) := by decide +kernel
theorem dX1_target_29 : decode cX1_target 29 = .ok (.aload_n 0, 1) := by decide +kernel
theorem dX1_target_30 : decode cX1_target 30 = .ok (.getfield 15, 3) := by decide +kernel
theorem dX1_target_33 : decode cX1_target 33 = .ok (.iload_n 1, 1) := by decide +kernel
theorem dX1_target_34 : decode cX1_target 34 = .ok (.iaload, 1) := by decide +kernel
theorem dX1_target_35 : decode cX1_target 35 = .ok (.ireturn, 1) := by decide +kernel
theorem dX1_target_36 : decode cX1_target 36 = .ok (.aload_n 0, 1) := by decide +kernel
theorem dX1_target_37 : decode cX1_target 37 = .ok (.getfield 21, 3) := by decide +kernel
theorem dX1_target_40 : decode cX1_target 40 = .ok (.iload_n 1, 1) := by decide +kernel
theorem dX1_target_41 : decode cX1_target 41 = .ok (.baload, 1) := by decide +kernel
theorem dX1_target_42 : decode cX1_target 42 = .ok (.ifCond .eq 22, 3) := by decide +kernel
theorem dX1_target_45 : decode cX1_target 45 = .ok (.aload_n 0, 1) := by decide +kernel
theorem dX1_target_46 : decode cX1_target 46 = .ok (.getfield 15, 3) := by decide +kernel
theorem dX1_target_49 : decode cX1_target 49 = .ok (.iload_n 1, 1) := by decide +kernel
theorem dX1_target_50 : decode cX1_target 50 = .ok (.iaload, 1) := by decide +kernel
theorem dX1_target_51 : decode cX1_target 51 = .ok (.iload_n 2, 1) := by decide +kernel
theorem dX1_target_52 : decode cX1_target 52 = .ok (.if_icmp .ne 12, 3) := by decide +kernel
theorem dX1_target_55 : decode cX1_target 55 = .ok (.aload_n 0, 1) := by decide +kernel
theorem dX1_target_56 : decode cX1_target 56 = .ok (.getfield 9, 3) := by decide +kernel
theorem dX1_target_59 : decode cX1_target 59 = .ok (.iload_n 1, 1) := by decide +kernel
theorem dX1_target_60 : decode cX1_target 60 = .ok (.iaload, 1) := by decide +kernel
theorem dX1_target_61 : decode cX1_target 61 = .ok (.goto 4, 3) := by decide +kernel
theorem dX1_target_64 : decode cX1_target 64 = .ok (.iconst (-1), 1) := by decide +kernel
theorem dX1_target_65 : decode cX1_target 65 = .ok (.ireturn, 1) := by decide +kernel
theorem dX1_touches_0 : decode cX1_touches 0 = .ok (.aload_n 0, 1) := by decide +kernel
theorem dX1_touches_1 : decode cX1_touches 1 = .ok (.getfield 9, 3) := by decide +kernel
theorem dX1_touches_4 : decode cX1_touches 4 = .ok (.iload_n 1, 1) := by decide +kernel
theorem dX1_touches_5 : decode cX1_touches 5 = .ok (.iaload, 1) := by decide +kernel
theorem dX1_touches_6 : decode cX1_touches 6 = .ok (.iload_n 2, 1) := by decide +kernel
theorem dX1_touches_7 : decode cX1_touches 7 = .ok (.if_icmp .eq 13, 3) := by decide +kernel
theorem dX1_touches_10 : decode cX1_touches 10 = .ok (.aload_n 0, 1) := by decide +kernel
theorem dX1_touches_11 : decode cX1_touches 11 = .ok (.getfield 15, 3) := by decide +kernel
theorem dX1_touches_14 : decode cX1_touches 14 = .ok (.iload_n 1, 1) := by decide +kernel
theorem dX1_touches_15 : decode cX1_touches 15 = .ok (.iaload, 1) := by decide +kernel
theorem dX1_touches_16 : decode cX1_touches 16 = .ok (.iload_n 2, 1) := by decide +kernel
theorem dX1_touches_17 : decode cX1_touches 17 = .ok (.if_icmp .ne 7, 3) := by decide +kernel
theorem dX1_touches_20 : decode cX1_touches 20 = .ok (.iconst 1, 1) := by decide +kernel
theorem dX1_touches_21 : decode cX1_touches 21 = .ok (.goto 4, 3) := by decide +kernel
theorem dX1_touches_24 : decode cX1_touches 24 = .ok (.iconst 0, 1) := by decide +kernel
theorem dX1_touches_25 : decode cX1_touches 25 = .ok (.ireturn, 1) := by decide +kernel
theorem dX2_init_0 : decode cX2_init 0 = .ok (.aload_n 0, 1) := by decide +kernel
theorem dX2_init_1 : decode cX2_init 1 = .ok (.invokespecial 3, 3) := by decide +kernel
theorem dX2_init_4 : decode cX2_init 4 = .ok (.aload_n 0, 1) := by decide +kernel
theorem dX2_init_5 : decode cX2_init 5 = .ok (.sipush 1600, 3) := by decide +kernel
theorem dX2_init_8 : decode cX2_init 8 = .ok (.newarray .int, 2) := by decide +kernel
theorem dX2_init_10 : decode cX2_init 10 = .ok (.putfield 11, 3) := by decide +kernel
theorem dX2_init_13 : decode cX2_init 13 = .ok (.return_, 1) := by decide +kernel
theorem dX2_clear_0 : decode cX2_clear 0 = .ok (.aload_n 0, 1) := by decide +kernel
theorem dX2_clear_1 : decode cX2_clear 1 = .ok (.iconst 0, 1) := by decide +kernel
theorem dX2_clear_2 : decode cX2_clear 2 = .ok (.putfield 15, 3) := by decide +kernel
theorem dX2_clear_5 : decode cX2_clear 5 = .ok (.return_, 1) := by decide +kernel
theorem dX2_countActs_0 : decode cX2_countActs 0 = .ok (.aload_n 0, 1) := by decide +kernel
theorem dX2_countActs_1 : decode cX2_countActs 1 = .ok (.getfield 15, 3) := by decide +kernel
theorem dX2_countActs_4 : decode cX2_countActs 4 = .ok (.iconst 1, 1) := by decide +kernel
theorem dX2_countActs_5 : decode cX2_countActs 5 = .ok (.isub, 1) := by decide +kernel
theorem dX2_countActs_6 : decode cX2_countActs 6 = .ok (.ireturn, 1) := by decide +kernel
theorem dX2_isFull_0 : decode cX2_isFull 0 = .ok (.aload_n 0, 1) := by decide +kernel
theorem dX2_isFull_1 : decode cX2_isFull 1 = .ok (.getfield 15, 3) := by decide +kernel
theorem dX2_isFull_4 : decode cX2_isFull 4 = .ok (.sipush 401, 3) := by decide +kernel
theorem dX2_isFull_7 : decode cX2_isFull 7 = .ok (.if_icmp .lt 7, 3) := by decide +kernel
theorem dX2_isFull_10 : decode cX2_isFull 10 = .ok (.iconst 1, 1) := by decide +kernel
theorem dX2_isFull_11 : decode cX2_isFull 11 = .ok (.goto 4, 3) := by decide +kernel
theorem dX2_isFull_14 : decode cX2_isFull 14 = .ok (.iconst 0, 1) := by decide +kernel
theorem dX2_isFull_15 : decode cX2_isFull 15 = .ok (.ireturn, 1) := by decide +kernel
theorem dX2_hasAct_0 : decode cX2_hasAct 0 = .ok (.iload_n 1, 1) := by decide +kernel
theorem dX2_hasAct_1 : decode cX2_hasAct 1 = .ok (.iconst 1, 1) := by decide +kernel
theorem dX2_hasAct_2 : decode cX2_hasAct 2 = .ok (.if_icmp .lt 15, 3) := by decide +kernel
theorem dX2_hasAct_5 : decode cX2_hasAct 5 = .ok (.iload_n 1, 1) := by decide +kernel
theorem dX2_hasAct_6 : decode cX2_hasAct 6 = .ok (.aload_n 0, 1) := by decide +kernel
theorem dX2_hasAct_7 : decode cX2_hasAct 7 = .ok (.getfield 15, 3) := by decide +kernel
theorem dX2_hasAct_10 : decode cX2_hasAct 10 = .ok (.if_icmp .ge 7, 3) := by decide +kernel
theorem dX2_hasAct_13 : decode cX2_hasAct 13 = .ok (.iconst 1, 1) := by decide +kernel
theorem dX2_hasAct_14 : decode cX2_hasAct 14 = .ok (.goto 4, 3) := by decide +kernel
theorem dX2_hasAct_17 : decode cX2_hasAct 17 = .ok (.iconst 0, 1) := by decide +kernel
theorem dX2_hasAct_18 : decode cX2_hasAct 18 = .ok (.ireturn, 1) := by decide +kernel
theorem dX2_keep_0 : decode cX2_keep 0 = .ok (.aload_n 0, 1) := by decide +kernel
theorem dX2_keep_1 : decode cX2_keep 1 = .ok (.invokevirtual 19, 3) := by decide +kernel
theorem dX2_keep_4 : decode cX2_keep 4 = .ok (.ifCond .eq 4, 3) := by decide +kernel
theorem dX2_keep_7 : decode cX2_keep 7 = .ok (.return_, 1) := by decide +kernel
theorem dX2_keep_8 : decode cX2_keep 8 = .ok (.aload_n 0, 1) := by decide +kernel
theorem dX2_keep_9 : decode cX2_keep 9 = .ok (.invokevirtual 23, 3) := by decide +kernel
theorem dX2_keep_12 : decode cX2_keep 12 = .ok (.iconst 0, 1) := by decide +kernel
theorem dX2_keep_13 : decode cX2_keep 13 = .ok (.istore_n 2, 1) := by decide +kernel
theorem dX2_keep_14 : decode cX2_keep 14 = .ok (.iload_n 2, 1) := by decide +kernel
theorem dX2_keep_15 : decode cX2_keep 15 = .ok (.bipush 100, 2) := by decide +kernel
theorem dX2_keep_17 : decode cX2_keep 17 = .ok (.if_icmp .ge 35, 3) := by decide +kernel
theorem dX2_keep_20 : decode cX2_keep 20 = .ok (.aload_n 0, 1) := by decide +kernel
theorem dX2_keep_21 : decode cX2_keep 21 = .ok (.getfield 11, 3) := by decide +kernel
theorem dX2_keep_24 : decode cX2_keep 24 = .ok (.aload_n 0, 1) := by decide +kernel
theorem dX2_keep_25 : decode cX2_keep 25 = .ok (.getfield 15, 3) := by decide +kernel
theorem dX2_keep_28 : decode cX2_keep 28 = .ok (.bipush 100, 2) := by decide +kernel
theorem dX2_keep_30 : decode cX2_keep 30 = .ok (.imul, 1) := by decide +kernel
theorem dX2_keep_31 : decode cX2_keep 31 = .ok (.iload_n 2, 1) := by decide +kernel
theorem dX2_keep_32 : decode cX2_keep 32 = .ok (.iadd, 1) := by decide +kernel
theorem dX2_keep_33 : decode cX2_keep 33 = .ok (.aload_n 1, 1) := by decide +kernel
theorem dX2_keep_34 : decode cX2_keep 34 = .ok (.iload_n 2, 1) := by decide +kernel
theorem dX2_keep_35 : decode cX2_keep 35 = .ok (.bipush 10, 2) := by decide +kernel
theorem dX2_keep_37 : decode cX2_keep 37 = .ok (.idiv, 1) := by decide +kernel
theorem dX2_keep_38 : decode cX2_keep 38 = .ok (.iload_n 2, 1) := by decide +kernel
theorem dX2_keep_39 : decode cX2_keep 39 = .ok (.bipush 10, 2) := by decide +kernel
theorem dX2_keep_41 : decode cX2_keep 41 = .ok (.irem, 1) := by decide +kernel
theorem dX2_keep_42 : decode cX2_keep 42 = .ok (.invokevirtual 26, 3) := by decide +kernel
theorem dX2_keep_45 : decode cX2_keep 45 = .ok (.iastore, 1) := by decide +kernel
theorem dX2_keep_46 : decode cX2_keep 46 = .ok (.iinc 2 1, 3) := by decide +kernel
theorem dX2_keep_49 : decode cX2_keep 49 = .ok (.goto (-35), 3) := by decide +kernel
theorem dX2_keep_52 : decode cX2_keep 52 = .ok (.aload_n 0, 1) := by decide +kernel
theorem dX2_keep_53 : decode cX2_keep 53 = .ok (.dup, 1) := by decide +kernel
theorem dX2_keep_54 : decode cX2_keep 54 = .ok (.getfield 15, 3) := by decide +kernel
theorem dX2_keep_57 : decode cX2_keep 57 = .ok (.iconst 1, 1) := by decide +kernel
theorem dX2_keep_58 : decode cX2_keep 58 = .ok (.iadd, 1) := by decide +kernel
theorem dX2_keep_59 : decode cX2_keep 59 = .ok (.putfield 15, 3) := by decide +kernel
theorem dX2_keep_62 : decode cX2_keep 62 = .ok (.return_, 1) := by decide +kernel
theorem dX2_leastAsOf_0 : decode cX2_leastAsOf 0 = .ok (.aload_n 0, 1) := by decide +kernel
theorem dX2_leastAsOf_1 : decode cX2_leastAsOf 1 = .ok (.getfield 11, 3) := by decide +kernel
theorem dX2_leastAsOf_4 : decode cX2_leastAsOf 4 = .ok (.iload_n 1, 1) := by decide +kernel
theorem dX2_leastAsOf_5 : decode cX2_leastAsOf 5 = .ok (.bipush 100, 2) := by decide +kernel
theorem dX2_leastAsOf_7 : decode cX2_leastAsOf 7 = .ok (.imul, 1) := by decide +kernel
theorem dX2_leastAsOf_8 : decode cX2_leastAsOf 8 = .ok (.iload_n 2, 1) := by decide +kernel
theorem dX2_leastAsOf_9 : decode cX2_leastAsOf 9 = .ok (.iadd, 1) := by decide +kernel
theorem dX2_leastAsOf_10 : decode cX2_leastAsOf 10 = .ok (.iaload, 1) := by decide +kernel
theorem dX2_leastAsOf_11 : decode cX2_leastAsOf 11 = .ok (.ireturn, 1) := by decide +kernel
theorem dX2_countMoved_0 : decode cX2_countMoved 0 = .ok (.iconst 0, 1) := by decide +kernel
theorem dX2_countMoved_1 : decode cX2_countMoved 1 = .ok (.istore_n 2, 1) := by decide +kernel
theorem dX2_countMoved_2 : decode cX2_countMoved 2 = .ok (.iconst 0, 1) := by decide +kernel
theorem dX2_countMoved_3 : decode cX2_countMoved 3 = .ok (.istore_n 3, 1) := by decide +kernel
theorem dX2_countMoved_4 : decode cX2_countMoved 4 = .ok (.iload_n 3, 1) := by decide +kernel
theorem dX2_countMoved_5 : decode cX2_countMoved 5 = .ok (.bipush 100, 2) := by decide +kernel
theorem dX2_countMoved_7 : decode cX2_countMoved 7 = .ok (.if_icmp .ge 21, 3) := by decide +kernel
theorem dX2_countMoved_10 : decode cX2_countMoved 10 = .ok (.aload_n 0, 1) := by decide +kernel
theorem dX2_countMoved_11 : decode cX2_countMoved 11 = .ok (.iload_n 1, 1) := by decide +kernel
theorem dX2_countMoved_12 : decode cX2_countMoved 12 = .ok (.iload_n 3, 1) := by decide +kernel
theorem dX2_countMoved_13 : decode cX2_countMoved 13 = .ok (.invokevirtual 32, 3) := by decide +kernel
theorem dX2_countMoved_16 : decode cX2_countMoved 16 = .ok (.ifCond .eq 6, 3) := by decide +kernel
theorem dX2_countMoved_19 : decode cX2_countMoved 19 = .ok (.iinc 2 1, 3) := by decide +kernel
theorem dX2_countMoved_22 : decode cX2_countMoved 22 = .ok (.iinc 3 1, 3) := by decide +kernel
theorem dX2_countMoved_25 : decode cX2_countMoved 25 = .ok (.goto (-21), 3) := by decide +kernel
theorem dX2_countMoved_28 : decode cX2_countMoved 28 = .ok (.iload_n 2, 1) := by decide +kernel
theorem dX2_countMoved_29 : decode cX2_countMoved 29 = .ok (.ireturn, 1) := by decide +kernel
theorem dX2_movedPair_0 : decode cX2_movedPair 0 = .ok (.iconst 0, 1) := by decide +kernel
theorem dX2_movedPair_1 : decode cX2_movedPair 1 = .ok (.istore_n 3, 1) := by decide +kernel
theorem dX2_movedPair_2 : decode cX2_movedPair 2 = .ok (.iconst 0, 1) := by decide +kernel
theorem dX2_movedPair_3 : decode cX2_movedPair 3 = .ok (.istore 4, 2) := by decide +kernel
theorem dX2_movedPair_5 : decode cX2_movedPair 5 = .ok (.iload 4, 2) := by decide +kernel
theorem dX2_movedPair_7 : decode cX2_movedPair 7 = .ok (.bipush 100, 2) := by decide +kernel
theorem dX2_movedPair_9 : decode cX2_movedPair 9 = .ok (.if_icmp .ge 30, 3) := by decide +kernel
theorem dX2_movedPair_12 : decode cX2_movedPair 12 = .ok (.aload_n 0, 1) := by decide +kernel
theorem dX2_movedPair_13 : decode cX2_movedPair 13 = .ok (.iload_n 1, 1) := by decide +kernel
theorem dX2_movedPair_14 : decode cX2_movedPair 14 = .ok (.iload 4, 2) := by decide +kernel
theorem dX2_movedPair_16 : decode cX2_movedPair 16 = .ok (.invokevirtual 32, 3) := by decide +kernel
theorem dX2_movedPair_19 : decode cX2_movedPair 19 = .ok (.ifCond .eq 14, 3) := by decide +kernel
theorem dX2_movedPair_22 : decode cX2_movedPair 22 = .ok (.iload_n 3, 1) := by decide +kernel
theorem dX2_movedPair_23 : decode cX2_movedPair 23 = .ok (.iload_n 2, 1) := by decide +kernel
theorem dX2_movedPair_24 : decode cX2_movedPair 24 = .ok (.if_icmp .ne 6, 3) := by decide +kernel
theorem dX2_movedPair_27 : decode cX2_movedPair 27 = .ok (.iload 4, 2) := by decide +kernel
theorem dX2_movedPair_29 : decode cX2_movedPair 29 = .ok (.ireturn, 1) := by decide +kernel
theorem dX2_movedPair_30 : decode cX2_movedPair 30 = .ok (.iinc 3 1, 3) := by decide +kernel
theorem dX2_movedPair_33 : decode cX2_movedPair 33 = .ok (.iinc 4 1, 3) := by decide +kernel
theorem dX2_movedPair_36 : decode cX2_movedPair 36 = .ok (.goto (-31), 3) := by decide +kernel
theorem dX2_movedPair_39 : decode cX2_movedPair 39 = .ok (.sipush (-1000), 3) := by decide +kernel
theorem dX2_movedPair_42 : decode cX2_movedPair 42 = .ok (.ireturn, 1) := by decide +kernel
theorem dX2_firstWithin_0 : decode cX2_firstWithin 0 = .ok (.iload_n 1, 1) := by decide +kernel
theorem dX2_firstWithin_1 : decode cX2_firstWithin 1 = .ok (.istore 4, 2) := by decide +kernel
theorem dX2_firstWithin_3 : decode cX2_firstWithin 3 = .ok (.iload 4, 2) := by decide +kernel
theorem dX2_firstWithin_5 : decode cX2_firstWithin 5 = .ok (.aload_n 0, 1) := by decide +kernel
theorem dX2_firstWithin_6 : decode cX2_firstWithin 6 = .ok (.getfield 15, 3) := by decide +kernel
theorem dX2_firstWithin_9 : decode cX2_firstWithin 9 = .ok (.if_icmp .ge 35, 3) := by decide +kernel
theorem dX2_firstWithin_12 : decode cX2_firstWithin 12 = .ok (.aload_n 0, 1) := by decide +kernel
theorem dX2_firstWithin_13 : decode cX2_firstWithin 13 = .ok (.iload 4, 2) := by decide +kernel
theorem dX2_firstWithin_15 : decode cX2_firstWithin 15 = .ok (.iload_n 2, 1) := by decide +kernel
theorem dX2_firstWithin_16 : decode cX2_firstWithin 16 = .ok (.invokevirtual 36, 3) := by decide +kernel
theorem dX2_firstWithin_19 : decode cX2_firstWithin 19 = .ok (.istore 5, 2) := by decide +kernel
theorem dX2_firstWithin_21 : decode cX2_firstWithin 21 = .ok (.iload 5, 2) := by decide +kernel
theorem dX2_firstWithin_23 : decode cX2_firstWithin 23 = .ok (.sipush (-1000), 3) := by decide +kernel
theorem dX2_firstWithin_26 : decode cX2_firstWithin 26 = .ok (.if_icmp .eq 12, 3) := by decide +kernel
theorem dX2_firstWithin_29 : decode cX2_firstWithin 29 = .ok (.iload 5, 2) := by decide +kernel
theorem dX2_firstWithin_31 : decode cX2_firstWithin 31 = .ok (.iload_n 3, 1) := by decide +kernel
theorem dX2_firstWithin_32 : decode cX2_firstWithin 32 = .ok (.if_icmp .gt 6, 3) := by decide +kernel
theorem dX2_firstWithin_35 : decode cX2_firstWithin 35 = .ok (.iload 4, 2) := by decide +kernel
theorem dX2_firstWithin_37 : decode cX2_firstWithin 37 = .ok (.ireturn, 1) := by decide +kernel
theorem dX2_firstWithin_38 : decode cX2_firstWithin 38 = .ok (.iinc 4 1, 3) := by decide +kernel
theorem dX2_firstWithin_41 : decode cX2_firstWithin 41 = .ok (.goto (-38), 3) := by decide +kernel
theorem dX2_firstWithin_44 : decode cX2_firstWithin 44 = .ok (.sipush (-1000), 3) := by decide +kernel
theorem dX2_firstWithin_47 : decode cX2_firstWithin 47 = .ok (.ireturn, 1) := by decide +kernel
theorem dX2_isMoved_0 : decode cX2_isMoved 0 = .ok (.aload_n 0, 1) := by decide +kernel
theorem dX2_isMoved_1 : decode cX2_isMoved 1 = .ok (.iload_n 1, 1) := by decide +kernel
theorem dX2_isMoved_2 : decode cX2_isMoved 2 = .ok (.iload_n 2, 1) := by decide +kernel
theorem dX2_isMoved_3 : decode cX2_isMoved 3 = .ok (.invokevirtual 36, 3) := by decide +kernel
theorem dX2_isMoved_6 : decode cX2_isMoved 6 = .ok (.aload_n 0, 1) := by decide +kernel
theorem dX2_isMoved_7 : decode cX2_isMoved 7 = .ok (.iload_n 1, 1) := by decide +kernel
theorem dX2_isMoved_8 : decode cX2_isMoved 8 = .ok (.iconst 1, 1) := by decide +kernel
theorem dX2_isMoved_9 : decode cX2_isMoved 9 = .ok (.isub, 1) := by decide +kernel
theorem dX2_isMoved_10 : decode cX2_isMoved 10 = .ok (.iload_n 2, 1) := by decide +kernel
theorem dX2_isMoved_11 : decode cX2_isMoved 11 = .ok (.invokevirtual 36, 3) := by decide +kernel
theorem dX2_isMoved_14 : decode cX2_isMoved 14 = .ok (.if_icmp .eq 7, 3) := by decide +kernel
theorem dX2_isMoved_17 : decode cX2_isMoved 17 = .ok (.iconst 1, 1) := by decide +kernel
theorem dX2_isMoved_18 : decode cX2_isMoved 18 = .ok (.goto 4, 3) := by decide +kernel
theorem dX2_isMoved_21 : decode cX2_isMoved 21 = .ok (.iconst 0, 1) := by decide +kernel
theorem dX2_isMoved_22 : decode cX2_isMoved 22 = .ok (.ireturn, 1) := by decide +kernel
theorem dX2_makeRoom_0 : decode cX2_makeRoom 0 = .ok (.aload_n 0, 1) := by decide +kernel
theorem dX2_makeRoom_1 : decode cX2_makeRoom 1 = .ok (.getfield 15, 3) := by decide +kernel
theorem dX2_makeRoom_4 : decode cX2_makeRoom 4 = .ok (.iconst 1, 1) := by decide +kernel
theorem dX2_makeRoom_5 : decode cX2_makeRoom 5 = .ok (.iadd, 1) := by decide +kernel
theorem dX2_makeRoom_6 : decode cX2_makeRoom 6 = .ok (.bipush 100, 2) := by decide +kernel
theorem dX2_makeRoom_8 : decode cX2_makeRoom 8 = .ok (.imul, 1) := by decide +kernel
theorem dX2_makeRoom_9 : decode cX2_makeRoom 9 = .ok (.aload_n 0, 1) := by decide +kernel
theorem dX2_makeRoom_10 : decode cX2_makeRoom 10 = .ok (.getfield 11, 3) := by decide +kernel
theorem dX2_makeRoom_13 : decode cX2_makeRoom 13 = .ok (.arraylength, 1) := by decide +kernel
theorem dX2_makeRoom_14 : decode cX2_makeRoom 14 = .ok (.if_icmp .le 26, 3) := by decide +kernel
theorem dX2_makeRoom_17 : decode cX2_makeRoom 17 = .ok (.aload_n 0, 1) := by decide +kernel
theorem dX2_makeRoom_18 : decode cX2_makeRoom 18 = .ok (.aload_n 0, 1) := by decide +kernel
theorem dX2_makeRoom_19 : decode cX2_makeRoom 19 = .ok (.getfield 11, 3) := by decide +kernel
theorem dX2_makeRoom_22 : decode cX2_makeRoom 22 = .ok (.iconst 2, 1) := by decide +kernel
theorem dX2_makeRoom_23 : decode cX2_makeRoom 23 = .ok (.aload_n 0, 1) := by decide +kernel
theorem dX2_makeRoom_24 : decode cX2_makeRoom 24 = .ok (.getfield 11, 3) := by decide +kernel
theorem dX2_makeRoom_27 : decode cX2_makeRoom 27 = .ok (.arraylength, 1) := by decide +kernel
theorem dX2_makeRoom_28 : decode cX2_makeRoom 28 = .ok (.imul, 1) := by decide +kernel
theorem dX2_makeRoom_29 : decode cX2_makeRoom 29 = .ok (.ldc 39, 2) := by decide +kernel
theorem dX2_makeRoom_31 : decode cX2_makeRoom 31 = .ok (.invokestatic 40, 3) := by decide +kernel
theorem dX2_makeRoom_34 : decode cX2_makeRoom 34 = .ok (.invokestatic 45, 3) := by decide +kernel
theorem dX2_makeRoom_37 : decode cX2_makeRoom 37 = .ok (.putfield 11, 3) := by decide +kernel
theorem dX2_makeRoom_40 : decode cX2_makeRoom 40 = .ok (.return_, 1) := by decide +kernel
theorem dX3_init_0 : decode cX3_init 0 = .ok (.aload_n 0, 1) := by decide +kernel
theorem dX3_init_1 : decode cX3_init 1 = .ok (.invokespecial 3, 3) := by decide +kernel
theorem dX3_init_4 : decode cX3_init 4 = .ok (.aload_n 0, 1) := by decide +kernel
theorem dX3_init_5 : decode cX3_init 5 = .ok (.bipush 100, 2) := by decide +kernel
theorem dX3_init_7 : decode cX3_init 7 = .ok (.newarray .int, 2) := by decide +kernel
theorem dX3_init_9 : decode cX3_init 9 = .ok (.putfield 9, 3) := by decide +kernel
theorem dX3_init_12 : decode cX3_init 12 = .ok (.aload_n 0, 1) := by decide +kernel
theorem dX3_init_13 : decode cX3_init 13 = .ok (.bipush 10, 2) := by decide +kernel
theorem dX3_init_15 : decode cX3_init 15 = .ok (.newarray .int, 2) := by decide +kernel
theorem dX3_init_17 : decode cX3_init 17 = .ok (.putfield 15, 3) := by decide +kernel
theorem dX3_init_20 : decode cX3_init 20 = .ok (.aload_n 0, 1) := by decide +kernel
theorem dX3_init_21 : decode cX3_init 21 = .ok (.aload_n 1, 1) := by decide +kernel
theorem dX3_init_22 : decode cX3_init 22 = .ok (.putfield 18, 3) := by decide +kernel
theorem dX3_init_25 : decode cX3_init 25 = .ok (.return_, 1) := by decide +kernel
theorem dX3_measure_0 : decode cX3_measure 0 = .ok (.aload_n 0, 1) := by decide +kernel
theorem dX3_measure_1 : decode cX3_measure 1 = .ok (.getfield 9, 3) := by decide +kernel
theorem dX3_measure_4 : decode cX3_measure 4 = .ok (.ldc 22, 2) := by decide +kernel
theorem dX3_measure_6 : decode cX3_measure 6 = .ok (.invokestatic 23, 3) := by decide +kernel
theorem dX3_measure_9 : decode cX3_measure 9 = .ok (.iconst 0, 1) := by decide +kernel
theorem dX3_measure_10 : decode cX3_measure 10 = .ok (.istore_n 1, 1) := by decide +kernel
theorem dX3_measure_11 : decode cX3_measure 11 = .ok (.iload_n 1, 1) := by decide +kernel
theorem dX3_measure_12 : decode cX3_measure 12 = .ok (.aload_n 0, 1) := by decide +kernel
theorem dX3_measure_13 : decode cX3_measure 13 = .ok (.getfield 18, 3) := by decide +kernel
theorem dX3_measure_16 : decode cX3_measure 16 = .ok (.getfield 29, 3) := by decide +kernel
theorem dX3_measure_19 : decode cX3_measure 19 = .ok (.if_icmp .ge 35, 3) := by decide +kernel
theorem dX3_measure_22 : decode cX3_measure 22 = .ok (.aload_n 0, 1) := by decide +kernel
theorem dX3_measure_23 : decode cX3_measure 23 = .ok (.iload_n 1, 1) := by decide +kernel
theorem dX3_measure_24 : decode cX3_measure 24 = .ok (.iconst (-1), 1) := by decide +kernel
theorem dX3_measure_25 : decode cX3_measure 25 = .ok (.iconst (-1), 1) := by decide +kernel
theorem dX3_measure_26 : decode cX3_measure 26 = .ok (.invokevirtual 35, 3) := by decide +kernel
theorem dX3_measure_29 : decode cX3_measure 29 = .ok (.aload_n 0, 1) := by decide +kernel
theorem dX3_measure_30 : decode cX3_measure 30 = .ok (.getfield 15, 3) := by decide +kernel
theorem dX3_measure_33 : decode cX3_measure 33 = .ok (.iconst 0, 1) := by decide +kernel
theorem dX3_measure_34 : decode cX3_measure 34 = .ok (.aload_n 0, 1) := by decide +kernel
theorem dX3_measure_35 : decode cX3_measure 35 = .ok (.getfield 9, 3) := by decide +kernel
theorem dX3_measure_38 : decode cX3_measure 38 = .ok (.iload_n 1, 1) := by decide +kernel
theorem dX3_measure_39 : decode cX3_measure 39 = .ok (.iconst 0, 1) := by decide +kernel
theorem dX3_measure_40 : decode cX3_measure 40 = .ok (.invokestatic 39, 3) := by decide +kernel
theorem dX3_measure_43 : decode cX3_measure 43 = .ok (.bipush 10, 2) := by decide +kernel
theorem dX3_measure_45 : decode cX3_measure 45 = .ok (.invokestatic 43, 3) := by decide +kernel
theorem dX3_measure_48 : decode cX3_measure 48 = .ok (.iinc 1 1, 3) := by decide +kernel
theorem dX3_measure_51 : decode cX3_measure 51 = .ok (.goto (-40), 3) := by decide +kernel
theorem dX3_measure_54 : decode cX3_measure 54 = .ok (.return_, 1) := by decide +kernel
theorem dX3_leads_0 : decode cX3_leads 0 = .ok (.aload_n 0, 1) := by decide +kernel
theorem dX3_leads_1 : decode cX3_leads 1 = .ok (.getfield 9, 3) := by decide +kernel
theorem dX3_leads_4 : decode cX3_leads 4 = .ok (.iload_n 1, 1) := by decide +kernel
theorem dX3_leads_5 : decode cX3_leads 5 = .ok (.iload_n 2, 1) := by decide +kernel
theorem dX3_leads_6 : decode cX3_leads 6 = .ok (.invokestatic 39, 3) := by decide +kernel
theorem dX3_leads_9 : decode cX3_leads 9 = .ok (.iaload, 1) := by decide +kernel
theorem dX3_leads_10 : decode cX3_leads 10 = .ok (.ldc 22, 2) := by decide +kernel
theorem dX3_leads_12 : decode cX3_leads 12 = .ok (.if_icmp .eq 7, 3) := by decide +kernel
theorem dX3_leads_15 : decode cX3_leads 15 = .ok (.iconst 1, 1) := by decide +kernel
theorem dX3_leads_16 : decode cX3_leads 16 = .ok (.goto 4, 3) := by decide +kernel
theorem dX3_leads_19 : decode cX3_leads 19 = .ok (.iconst 0, 1) := by decide +kernel
theorem dX3_leads_20 : decode cX3_leads 20 = .ok (.ireturn, 1) := by decide +kernel
theorem dX3_leastPrice_0 : decode cX3_leastPrice 0 = .ok (.aload_n 0, 1) := by decide +kernel
theorem dX3_leastPrice_1 : decode cX3_leastPrice 1 = .ok (.getfield 9, 3) := by decide +kernel
theorem dX3_leastPrice_4 : decode cX3_leastPrice 4 = .ok (.iload_n 1, 1) := by decide +kernel
theorem dX3_leastPrice_5 : decode cX3_leastPrice 5 = .ok (.iload_n 2, 1) := by decide +kernel
theorem dX3_leastPrice_6 : decode cX3_leastPrice 6 = .ok (.invokestatic 39, 3) := by decide +kernel
theorem dX3_leastPrice_9 : decode cX3_leastPrice 9 = .ok (.iaload, 1) := by decide +kernel
theorem dX3_leastPrice_10 : decode cX3_leastPrice 10 = .ok (.invokestatic 49, 3) := by decide +kernel
theorem dX3_leastPrice_13 : decode cX3_leastPrice 13 = .ok (.ireturn, 1) := by decide +kernel
theorem dX3_length_0 : decode cX3_length 0 = .ok (.aload_n 0, 1) := by decide +kernel
theorem dX3_length_1 : decode cX3_length 1 = .ok (.getfield 9, 3) := by decide +kernel
theorem dX3_length_4 : decode cX3_length 4 = .ok (.iload_n 1, 1) := by decide +kernel
theorem dX3_length_5 : decode cX3_length 5 = .ok (.iload_n 2, 1) := by decide +kernel
theorem dX3_length_6 : decode cX3_length 6 = .ok (.invokestatic 39, 3) := by decide +kernel
theorem dX3_length_9 : decode cX3_length 9 = .ok (.iaload, 1) := by decide +kernel
theorem dX3_length_10 : decode cX3_length 10 = .ok (.istore_n 3, 1) := by decide +kernel
theorem dX3_length_11 : decode cX3_length 11 = .ok (.iload_n 3, 1) := by decide +kernel
theorem dX3_length_12 : decode cX3_length 12 = .ok (.ldc 22, 2) := by decide +kernel
theorem dX3_length_14 : decode cX3_length 14 = .ok (.if_icmp .ne 9, 3) := by decide +kernel
theorem dX3_length_17 : decode cX3_length 17 = .ok (.sipush (-1000), 3) := by decide +kernel
theorem dX3_length_20 : decode cX3_length 20 = .ok (.goto 9, 3) := by decide +kernel
theorem dX3_length_23 : decode cX3_length 23 = .ok (.iload_n 3, 1) := by decide +kernel
theorem dX3_length_24 : decode cX3_length 24 = .ok (.bipush 64, 2) := by decide +kernel
theorem dX3_length_26 : decode cX3_length 26 = .ok (.invokestatic 53, 3) := by decide +kernel
theorem dX3_length_29 : decode cX3_length 29 = .ok (.ireturn, 1) := by decide +kernel
theorem dX3_lineAt_0 : decode cX3_lineAt 0 = .ok (.iload_n 3, 1) := by decide +kernel
theorem dX3_lineAt_1 : decode cX3_lineAt 1 = .ok (.ifCond .lt 13, 3) := by decide +kernel
theorem dX3_lineAt_4 : decode cX3_lineAt 4 = .ok (.iload_n 3, 1) := by decide +kernel
theorem dX3_lineAt_5 : decode cX3_lineAt 5 = .ok (.aload_n 0, 1) := by decide +kernel
theorem dX3_lineAt_6 : decode cX3_lineAt 6 = .ok (.iload_n 1, 1) := by decide +kernel
theorem dX3_lineAt_7 : decode cX3_lineAt 7 = .ok (.iload_n 2, 1) := by decide +kernel
theorem dX3_lineAt_8 : decode cX3_lineAt 8 = .ok (.invokevirtual 58, 3) := by decide +kernel
theorem dX3_lineAt_11 : decode cX3_lineAt 11 = .ok (.if_icmp .lt 7, 3) := by decide +kernel
theorem dX3_lineAt_14 : decode cX3_lineAt 14 = .ok (.sipush (-1000), 3) := by decide +kernel
theorem dX3_lineAt_17 : decode cX3_lineAt 17 = .ok (.ireturn, 1) := by decide +kernel
theorem dX3_lineAt_18 : decode cX3_lineAt 18 = .ok (.iload_n 1, 1) := by decide +kernel
theorem dX3_lineAt_19 : decode cX3_lineAt 19 = .ok (.istore 4, 2) := by decide +kernel
theorem dX3_lineAt_21 : decode cX3_lineAt 21 = .ok (.iconst 0, 1) := by decide +kernel
theorem dX3_lineAt_22 : decode cX3_lineAt 22 = .ok (.istore 5, 2) := by decide +kernel
theorem dX3_lineAt_24 : decode cX3_lineAt 24 = .ok (.iload 5, 2) := by decide +kernel
theorem dX3_lineAt_26 : decode cX3_lineAt 26 = .ok (.iload_n 3, 1) := by decide +kernel
theorem dX3_lineAt_27 : decode cX3_lineAt 27 = .ok (.if_icmp .ge 27, 3) := by decide +kernel
theorem dX3_lineAt_30 : decode cX3_lineAt 30 = .ok (.aload_n 0, 1) := by decide +kernel
theorem dX3_lineAt_31 : decode cX3_lineAt 31 = .ok (.getfield 18, 3) := by decide +kernel
theorem dX3_lineAt_34 : decode cX3_lineAt 34 = .ok (.aload_n 0, 1) := by decide +kernel
theorem dX3_lineAt_35 : decode cX3_lineAt 35 = .ok (.iload 4, 2) := by decide +kernel
theorem dX3_lineAt_37 : decode cX3_lineAt 37 = .ok (.iload_n 2, 1) := by decide +kernel
theorem dX3_lineAt_38 : decode cX3_lineAt 38 = .ok (.invokevirtual 61, 3) := by decide +kernel
theorem dX3_lineAt_41 : decode cX3_lineAt 41 = .ok (.iload 4, 2) := by decide +kernel
theorem dX3_lineAt_43 : decode cX3_lineAt 43 = .ok (.invokevirtual 64, 3) := by decide +kernel
theorem dX3_lineAt_46 : decode cX3_lineAt 46 = .ok (.istore 4, 2) := by decide +kernel
theorem dX3_lineAt_48 : decode cX3_lineAt 48 = .ok (.iinc 5 1, 3) := by decide +kernel
theorem dX3_lineAt_51 : decode cX3_lineAt 51 = .ok (.goto (-27), 3) := by decide +kernel
theorem dX3_lineAt_54 : decode cX3_lineAt 54 = .ok (.aload_n 0, 1) := by decide +kernel
theorem dX3_lineAt_55 : decode cX3_lineAt 55 = .ok (.iload 4, 2) := by decide +kernel
theorem dX3_lineAt_57 : decode cX3_lineAt 57 = .ok (.iload_n 2, 1) := by decide +kernel
theorem dX3_lineAt_58 : decode cX3_lineAt 58 = .ok (.invokevirtual 61, 3) := by decide +kernel
theorem dX3_lineAt_61 : decode cX3_lineAt 61 = .ok (.ireturn, 1) := by decide +kernel
theorem dX3_between_0 : decode cX3_between 0 = .ok (.iconst 0, 1) := by decide +kernel
theorem dX3_between_1 : decode cX3_between 1 = .ok (.istore_n 3, 1) := by decide +kernel
theorem dX3_between_2 : decode cX3_between 2 = .ok (.iload_n 1, 1) := by decide +kernel
theorem dX3_between_3 : decode cX3_between 3 = .ok (.istore 4, 2) := by decide +kernel
theorem dX3_between_5 : decode cX3_between 5 = .ok (.iconst 1, 1) := by decide +kernel
theorem dX3_between_6 : decode cX3_between 6 = .ok (.istore 5, 2) := by decide +kernel
theorem dX3_between_8 : decode cX3_between 8 = .ok (.iload 5, 2) := by decide +kernel
theorem dX3_between_10 : decode cX3_between 10 = .ok (.aload_n 0, 1) := by decide +kernel
theorem dX3_between_11 : decode cX3_between 11 = .ok (.iload_n 1, 1) := by decide +kernel
theorem dX3_between_12 : decode cX3_between 12 = .ok (.iload_n 2, 1) := by decide +kernel
theorem dX3_between_13 : decode cX3_between 13 = .ok (.invokevirtual 58, 3) := by decide +kernel
theorem dX3_between_16 : decode cX3_between 16 = .ok (.if_icmp .ge 40, 3) := by decide +kernel
theorem dX3_between_19 : decode cX3_between 19 = .ok (.aload_n 0, 1) := by decide +kernel
theorem dX3_between_20 : decode cX3_between 20 = .ok (.getfield 18, 3) := by decide +kernel
theorem dX3_between_23 : decode cX3_between 23 = .ok (.aload_n 0, 1) := by decide +kernel
theorem dX3_between_24 : decode cX3_between 24 = .ok (.iload 4, 2) := by decide +kernel
theorem dX3_between_26 : decode cX3_between 26 = .ok (.iload_n 2, 1) := by decide +kernel
theorem dX3_between_27 : decode cX3_between 27 = .ok (.invokevirtual 61, 3) := by decide +kernel
theorem dX3_between_30 : decode cX3_between 30 = .ok (.iload 4, 2) := by decide +kernel
theorem dX3_between_32 : decode cX3_between 32 = .ok (.invokevirtual 64, 3) := by decide +kernel
theorem dX3_between_35 : decode cX3_between 35 = .ok (.istore 4, 2) := by decide +kernel
theorem dX3_between_37 : decode cX3_between 37 = .ok (.iload 4, 2) := by decide +kernel
theorem dX3_between_39 : decode cX3_between 39 = .ok (.iconst (-1), 1) := by decide +kernel
theorem dX3_between_40 : decode cX3_between 40 = .ok (.if_icmp .eq 10, 3) := by decide +kernel
theorem dX3_between_43 : decode cX3_between 43 = .ok (.iload_n 3, 1) := by decide +kernel
theorem dX3_between_44 : decode cX3_between 44 = .ok (.iconst 1, 1) := by decide +kernel
theorem dX3_between_45 : decode cX3_between 45 = .ok (.iload 4, 2) := by decide +kernel
theorem dX3_between_47 : decode cX3_between 47 = .ok (.ishl, 1) := by decide +kernel
theorem dX3_between_48 : decode cX3_between 48 = .ok (.ior, 1) := by decide +kernel
theorem dX3_between_49 : decode cX3_between 49 = .ok (.istore_n 3, 1) := by decide +kernel
theorem dX3_between_50 : decode cX3_between 50 = .ok (.iinc 5 1, 3) := by decide +kernel
theorem dX3_between_53 : decode cX3_between 53 = .ok (.goto (-45), 3) := by decide +kernel
theorem dX3_between_56 : decode cX3_between 56 = .ok (.iload_n 3, 1) := by decide +kernel
theorem dX3_between_57 : decode cX3_between 57 = .ok (.ireturn, 1) := by decide +kernel
theorem dX3_leastAvoiding_0 : decode cX3_leastAvoiding 0 = .ok (.aload_n 0, 1) := by decide +kernel
theorem dX3_leastAvoiding_1 : decode cX3_leastAvoiding 1 = .ok (.iload_n 1, 1) := by decide +kernel
theorem dX3_leastAvoiding_2 : decode cX3_leastAvoiding 2 = .ok (.iload_n 3, 1) := by decide +kernel
theorem dX3_leastAvoiding_3 : decode cX3_leastAvoiding 3 = .ok (.iload 4, 2) := by decide +kernel
theorem dX3_leastAvoiding_5 : decode cX3_leastAvoiding 5 = .ok (.invokevirtual 35, 3) := by decide +kernel
theorem dX3_leastAvoiding_8 : decode cX3_leastAvoiding 8 = .ok (.aload_n 0, 1) := by decide +kernel
theorem dX3_leastAvoiding_9 : decode cX3_leastAvoiding 9 = .ok (.getfield 15, 3) := by decide +kernel
theorem dX3_leastAvoiding_12 : decode cX3_leastAvoiding 12 = .ok (.iload_n 2, 1) := by decide +kernel
theorem dX3_leastAvoiding_13 : decode cX3_leastAvoiding 13 = .ok (.iaload, 1) := by decide +kernel
theorem dX3_leastAvoiding_14 : decode cX3_leastAvoiding 14 = .ok (.invokestatic 49, 3) := by decide +kernel
theorem dX3_leastAvoiding_17 : decode cX3_leastAvoiding 17 = .ok (.ireturn, 1) := by decide +kernel
theorem dX3_isVital_0 : decode cX3_isVital 0 = .ok (.aload_n 0, 1) := by decide +kernel
theorem dX3_isVital_1 : decode cX3_isVital 1 = .ok (.iload_n 1, 1) := by decide +kernel
theorem dX3_isVital_2 : decode cX3_isVital 2 = .ok (.iload_n 2, 1) := by decide +kernel
theorem dX3_isVital_3 : decode cX3_isVital 3 = .ok (.iload_n 3, 1) := by decide +kernel
theorem dX3_isVital_4 : decode cX3_isVital 4 = .ok (.invokevirtual 67, 3) := by decide +kernel
theorem dX3_isVital_7 : decode cX3_isVital 7 = .ok (.ifCond .eq 24, 3) := by decide +kernel
theorem dX3_isVital_10 : decode cX3_isVital 10 = .ok (.aload_n 0, 1) := by decide +kernel
theorem dX3_isVital_11 : decode cX3_isVital 11 = .ok (.iload_n 1, 1) := by decide +kernel
theorem dX3_isVital_12 : decode cX3_isVital 12 = .ok (.iload_n 2, 1) := by decide +kernel
theorem dX3_isVital_13 : decode cX3_isVital 13 = .ok (.iload_n 3, 1) := by decide +kernel
theorem dX3_isVital_14 : decode cX3_isVital 14 = .ok (.iconst (-1), 1) := by decide +kernel
theorem dX3_isVital_15 : decode cX3_isVital 15 = .ok (.invokevirtual 71, 3) := by decide +kernel
theorem dX3_isVital_18 : decode cX3_isVital 18 = .ok (.aload_n 0, 1) := by decide +kernel
theorem dX3_isVital_19 : decode cX3_isVital 19 = .ok (.iload_n 1, 1) := by decide +kernel
theorem dX3_isVital_20 : decode cX3_isVital 20 = .ok (.iload_n 2, 1) := by decide +kernel
theorem dX3_isVital_21 : decode cX3_isVital 21 = .ok (.invokevirtual 75, 3) := by decide +kernel
theorem dX3_isVital_24 : decode cX3_isVital 24 = .ok (.if_icmp .eq 7, 3) := by decide +kernel
theorem dX3_isVital_27 : decode cX3_isVital 27 = .ok (.iconst 1, 1) := by decide +kernel
theorem dX3_isVital_28 : decode cX3_isVital 28 = .ok (.goto 4, 3) := by decide +kernel
theorem dX3_isVital_31 : decode cX3_isVital 31 = .ok (.iconst 0, 1) := by decide +kernel
theorem dX3_isVital_32 : decode cX3_isVital 32 = .ok (.ireturn, 1) := by decide +kernel
theorem dX3_wouldSink_0 : decode cX3_wouldSink 0 = .ok (.iload_n 3, 1) := by decide +kernel
theorem dX3_wouldSink_1 : decode cX3_wouldSink 1 = .ok (.aload_n 0, 1) := by decide +kernel
theorem dX3_wouldSink_2 : decode cX3_wouldSink 2 = .ok (.iload_n 2, 1) := by decide +kernel
theorem dX3_wouldSink_3 : decode cX3_wouldSink 3 = .ok (.iload_n 1, 1) := by decide +kernel
theorem dX3_wouldSink_4 : decode cX3_wouldSink 4 = .ok (.iload 5, 2) := by decide +kernel
theorem dX3_wouldSink_6 : decode cX3_wouldSink 6 = .ok (.iconst (-1), 1) := by decide +kernel
theorem dX3_wouldSink_7 : decode cX3_wouldSink 7 = .ok (.invokevirtual 71, 3) := by decide +kernel
theorem dX3_wouldSink_10 : decode cX3_wouldSink 10 = .ok (.invokestatic 78, 3) := by decide +kernel
theorem dX3_wouldSink_13 : decode cX3_wouldSink 13 = .ok (.ifCond .ne 24, 3) := by decide +kernel
theorem dX3_wouldSink_16 : decode cX3_wouldSink 16 = .ok (.iload 4, 2) := by decide +kernel
theorem dX3_wouldSink_18 : decode cX3_wouldSink 18 = .ok (.ifCond .eq 23, 3) := by decide +kernel
theorem dX3_wouldSink_21 : decode cX3_wouldSink 21 = .ok (.iload_n 3, 1) := by decide +kernel
theorem dX3_wouldSink_22 : decode cX3_wouldSink 22 = .ok (.aload_n 0, 1) := by decide +kernel
theorem dX3_wouldSink_23 : decode cX3_wouldSink 23 = .ok (.iload_n 1, 1) := by decide +kernel
theorem dX3_wouldSink_24 : decode cX3_wouldSink 24 = .ok (.iload_n 2, 1) := by decide +kernel
theorem dX3_wouldSink_25 : decode cX3_wouldSink 25 = .ok (.iload 5, 2) := by decide +kernel
theorem dX3_wouldSink_27 : decode cX3_wouldSink 27 = .ok (.iconst (-1), 1) := by decide +kernel
theorem dX3_wouldSink_28 : decode cX3_wouldSink 28 = .ok (.invokevirtual 71, 3) := by decide +kernel
theorem dX3_wouldSink_31 : decode cX3_wouldSink 31 = .ok (.invokestatic 78, 3) := by decide +kernel
theorem dX3_wouldSink_34 : decode cX3_wouldSink 34 = .ok (.ifCond .eq 7, 3) := by decide +kernel
theorem dX3_wouldSink_37 : decode cX3_wouldSink 37 = .ok (.iconst 1, 1) := by decide +kernel
theorem dX3_wouldSink_38 : decode cX3_wouldSink 38 = .ok (.goto 4, 3) := by decide +kernel
theorem dX3_wouldSink_41 : decode cX3_wouldSink 41 = .ok (.iconst 0, 1) := by decide +kernel
theorem dX3_wouldSink_42 : decode cX3_wouldSink 42 = .ok (.ireturn, 1) := by decide +kernel
theorem dX3_leastRing_0 : decode cX3_leastRing 0 = .ok (.sipush (-1000), 3) := by decide +kernel
theorem dX3_leastRing_3 : decode cX3_leastRing 3 = .ok (.istore_n 1, 1) := by decide +kernel
theorem dX3_leastRing_4 : decode cX3_leastRing 4 = .ok (.iconst 0, 1) := by decide +kernel
theorem dX3_leastRing_5 : decode cX3_leastRing 5 = .ok (.istore_n 2, 1) := by decide +kernel
theorem dX3_leastRing_6 : decode cX3_leastRing 6 = .ok (.iload_n 2, 1) := by decide +kernel
theorem dX3_leastRing_7 : decode cX3_leastRing 7 = .ok (.aload_n 0, 1) := by decide +kernel
theorem dX3_leastRing_8 : decode cX3_leastRing 8 = .ok (.getfield 18, 3) := by decide +kernel
theorem dX3_leastRing_11 : decode cX3_leastRing 11 = .ok (.getfield 82, 3) := by decide +kernel
theorem dX3_leastRing_14 : decode cX3_leastRing 14 = .ok (.if_icmp .ge 36, 3) := by decide +kernel
theorem dX3_leastRing_17 : decode cX3_leastRing 17 = .ok (.aload_n 0, 1) := by decide +kernel
theorem dX3_leastRing_18 : decode cX3_leastRing 18 = .ok (.iload_n 2, 1) := by decide +kernel
theorem dX3_leastRing_19 : decode cX3_leastRing 19 = .ok (.invokevirtual 85, 3) := by decide +kernel
theorem dX3_leastRing_22 : decode cX3_leastRing 22 = .ok (.istore_n 3, 1) := by decide +kernel
theorem dX3_leastRing_23 : decode cX3_leastRing 23 = .ok (.iload_n 3, 1) := by decide +kernel
theorem dX3_leastRing_24 : decode cX3_leastRing 24 = .ok (.sipush (-1000), 3) := by decide +kernel
theorem dX3_leastRing_27 : decode cX3_leastRing 27 = .ok (.if_icmp .eq 17, 3) := by decide +kernel
theorem dX3_leastRing_30 : decode cX3_leastRing 30 = .ok (.iload_n 1, 1) := by decide +kernel
theorem dX3_leastRing_31 : decode cX3_leastRing 31 = .ok (.sipush (-1000), 3) := by decide +kernel
theorem dX3_leastRing_34 : decode cX3_leastRing 34 = .ok (.if_icmp .eq 8, 3) := by decide +kernel
theorem dX3_leastRing_37 : decode cX3_leastRing 37 = .ok (.iload_n 3, 1) := by decide +kernel
theorem dX3_leastRing_38 : decode cX3_leastRing 38 = .ok (.iload_n 1, 1) := by decide +kernel
theorem dX3_leastRing_39 : decode cX3_leastRing 39 = .ok (.if_icmp .ge 5, 3) := by decide +kernel
theorem dX3_leastRing_42 : decode cX3_leastRing 42 = .ok (.iload_n 3, 1) := by decide +kernel
theorem dX3_leastRing_43 : decode cX3_leastRing 43 = .ok (.istore_n 1, 1) := by decide +kernel
theorem dX3_leastRing_44 : decode cX3_leastRing 44 = .ok (.iinc 2 1, 3) := by decide +kernel
theorem dX3_leastRing_47 : decode cX3_leastRing 47 = .ok (.goto (-41), 3) := by decide +kernel
theorem dX3_leastRing_50 : decode cX3_leastRing 50 = .ok (.iload_n 1, 1) := by decide +kernel
theorem dX3_leastRing_51 : decode cX3_leastRing 51 = .ok (.ireturn, 1) := by decide +kernel
theorem dX3_heightOf_0 : decode cX3_heightOf 0 = .ok (.iconst 0, 1) := by decide +kernel
theorem dX3_heightOf_1 : decode cX3_heightOf 1 = .ok (.istore_n 2, 1) := by decide +kernel
theorem dX3_heightOf_2 : decode cX3_heightOf 2 = .ok (.iconst 0, 1) := by decide +kernel
theorem dX3_heightOf_3 : decode cX3_heightOf 3 = .ok (.istore_n 3, 1) := by decide +kernel
theorem dX3_heightOf_4 : decode cX3_heightOf 4 = .ok (.iload_n 3, 1) := by decide +kernel
theorem dX3_heightOf_5 : decode cX3_heightOf 5 = .ok (.aload_n 0, 1) := by decide +kernel
theorem dX3_heightOf_6 : decode cX3_heightOf 6 = .ok (.getfield 18, 3) := by decide +kernel
theorem dX3_heightOf_9 : decode cX3_heightOf 9 = .ok (.getfield 29, 3) := by decide +kernel
theorem dX3_heightOf_12 : decode cX3_heightOf 12 = .ok (.if_icmp .ge 29, 3) := by decide +kernel
theorem dX3_heightOf_15 : decode cX3_heightOf 15 = .ok (.aload_n 0, 1) := by decide +kernel
theorem dX3_heightOf_16 : decode cX3_heightOf 16 = .ok (.iload_n 3, 1) := by decide +kernel
theorem dX3_heightOf_17 : decode cX3_heightOf 17 = .ok (.iload_n 1, 1) := by decide +kernel
theorem dX3_heightOf_18 : decode cX3_heightOf 18 = .ok (.invokevirtual 88, 3) := by decide +kernel
