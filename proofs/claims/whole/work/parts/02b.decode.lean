theorem dX3_follow_74 : decode cX3_follow 74 = .ok (.iload_n 3, 1) := by decide +kernel
theorem dX3_follow_75 : decode cX3_follow 75 = .ok (.aload_n 0, 1) := by decide +kernel
theorem dX3_follow_76 : decode cX3_follow 76 = .ok (.bipush 17, 2) := by decide +kernel
theorem dX3_follow_78 : decode cX3_follow 78 = .ok (.bipush 18, 2) := by decide +kernel
theorem dX3_follow_80 : decode cX3_follow 80 = .ok (.iload_n 2, 1) := by decide +kernel
theorem dX3_follow_81 : decode cX3_follow 81 = .ok (.invokevirtual 68, 3) := by decide +kernel
theorem dX3_follow_84 : decode cX3_follow 84 = .ok (.iadd, 1) := by decide +kernel
theorem dX3_follow_85 : decode cX3_follow 85 = .ok (.ireturn, 1) := by decide +kernel
theorem dX3_reprice_0 : decode cX3_reprice 0 = .ok (.iconst 0, 1) := by decide +kernel
theorem dX3_reprice_1 : decode cX3_reprice 1 = .ok (.istore 4, 2) := by decide +kernel
theorem dX3_reprice_3 : decode cX3_reprice 3 = .ok (.iconst 0, 1) := by decide +kernel
theorem dX3_reprice_4 : decode cX3_reprice 4 = .ok (.iload_n 1, 1) := by decide +kernel
theorem dX3_reprice_5 : decode cX3_reprice 5 = .ok (.invokestatic 78, 3) := by decide +kernel
theorem dX3_reprice_8 : decode cX3_reprice 8 = .ok (.istore 5, 2) := by decide +kernel
theorem dX3_reprice_10 : decode cX3_reprice 10 = .ok (.iload 5, 2) := by decide +kernel
theorem dX3_reprice_12 : decode cX3_reprice 12 = .ok (.iload_n 2, 1) := by decide +kernel
theorem dX3_reprice_13 : decode cX3_reprice 13 = .ok (.if_icmp .ge 64, 3) := by decide +kernel
theorem dX3_reprice_16 : decode cX3_reprice 16 = .ok (.iload 5, 2) := by decide +kernel
theorem dX3_reprice_18 : decode cX3_reprice 18 = .ok (.bipush 18, 2) := by decide +kernel
theorem dX3_reprice_20 : decode cX3_reprice 20 = .ok (.if_icmp .ge 57, 3) := by decide +kernel
theorem dX3_reprice_23 : decode cX3_reprice 23 = .ok (.iconst 1, 1) := by decide +kernel
theorem dX3_reprice_24 : decode cX3_reprice 24 = .ok (.iconst 2, 1) := by decide +kernel
theorem dX3_reprice_25 : decode cX3_reprice 25 = .ok (.iload_n 3, 1) := by decide +kernel
theorem dX3_reprice_26 : decode cX3_reprice 26 = .ok (.iconst 1, 1) := by decide +kernel
theorem dX3_reprice_27 : decode cX3_reprice 27 = .ok (.iconst 1, 1) := by decide +kernel
theorem dX3_reprice_28 : decode cX3_reprice 28 = .ok (.aload_n 0, 1) := by decide +kernel
theorem dX3_reprice_29 : decode cX3_reprice 29 = .ok (.getfield 23, 3) := by decide +kernel
theorem dX3_reprice_32 : decode cX3_reprice 32 = .ok (.iload 5, 2) := by decide +kernel
theorem dX3_reprice_34 : decode cX3_reprice 34 = .ok (.iaload, 1) := by decide +kernel
theorem dX3_reprice_35 : decode cX3_reprice 35 = .ok (.iadd, 1) := by decide +kernel
theorem dX3_reprice_36 : decode cX3_reprice 36 = .ok (.invokestatic 78, 3) := by decide +kernel
theorem dX3_reprice_39 : decode cX3_reprice 39 = .ok (.idiv, 1) := by decide +kernel
theorem dX3_reprice_40 : decode cX3_reprice 40 = .ok (.invokestatic 48, 3) := by decide +kernel
theorem dX3_reprice_43 : decode cX3_reprice 43 = .ok (.imul, 1) := by decide +kernel
theorem dX3_reprice_44 : decode cX3_reprice 44 = .ok (.iadd, 1) := by decide +kernel
theorem dX3_reprice_45 : decode cX3_reprice 45 = .ok (.istore 6, 2) := by decide +kernel
theorem dX3_reprice_47 : decode cX3_reprice 47 = .ok (.iload 6, 2) := by decide +kernel
theorem dX3_reprice_49 : decode cX3_reprice 49 = .ok (.aload_n 0, 1) := by decide +kernel
theorem dX3_reprice_50 : decode cX3_reprice 50 = .ok (.getfield 18, 3) := by decide +kernel
theorem dX3_reprice_53 : decode cX3_reprice 53 = .ok (.iload 5, 2) := by decide +kernel
theorem dX3_reprice_55 : decode cX3_reprice 55 = .ok (.iaload, 1) := by decide +kernel
theorem dX3_reprice_56 : decode cX3_reprice 56 = .ok (.if_icmp .eq 6, 3) := by decide +kernel
theorem dX3_reprice_59 : decode cX3_reprice 59 = .ok (.iinc 4 1, 3) := by decide +kernel
theorem dX3_reprice_62 : decode cX3_reprice 62 = .ok (.aload_n 0, 1) := by decide +kernel
theorem dX3_reprice_63 : decode cX3_reprice 63 = .ok (.getfield 18, 3) := by decide +kernel
theorem dX3_reprice_66 : decode cX3_reprice 66 = .ok (.iload 5, 2) := by decide +kernel
theorem dX3_reprice_68 : decode cX3_reprice 68 = .ok (.iload 6, 2) := by decide +kernel
theorem dX3_reprice_70 : decode cX3_reprice 70 = .ok (.iastore, 1) := by decide +kernel
theorem dX3_reprice_71 : decode cX3_reprice 71 = .ok (.iinc 5 1, 3) := by decide +kernel
theorem dX3_reprice_74 : decode cX3_reprice 74 = .ok (.goto (-64), 3) := by decide +kernel
theorem dX3_reprice_77 : decode cX3_reprice 77 = .ok (.iload 4, 2) := by decide +kernel
theorem dX3_reprice_79 : decode cX3_reprice 79 = .ok (.ireturn, 1) := by decide +kernel
theorem dX3_countTaken_0 : decode cX3_countTaken 0 = .ok (.iconst 0, 1) := by decide +kernel
theorem dX3_countTaken_1 : decode cX3_countTaken 1 = .ok (.istore_n 2, 1) := by decide +kernel
theorem dX3_countTaken_2 : decode cX3_countTaken 2 = .ok (.iload_n 2, 1) := by decide +kernel
theorem dX3_countTaken_3 : decode cX3_countTaken 3 = .ok (.bipush 18, 2) := by decide +kernel
theorem dX3_countTaken_5 : decode cX3_countTaken 5 = .ok (.if_icmp .ge 16, 3) := by decide +kernel
theorem dX3_countTaken_8 : decode cX3_countTaken 8 = .ok (.aload_n 0, 1) := by decide +kernel
theorem dX3_countTaken_9 : decode cX3_countTaken 9 = .ok (.getfield 23, 3) := by decide +kernel
theorem dX3_countTaken_12 : decode cX3_countTaken 12 = .ok (.iload_n 2, 1) := by decide +kernel
theorem dX3_countTaken_13 : decode cX3_countTaken 13 = .ok (.iconst 0, 1) := by decide +kernel
theorem dX3_countTaken_14 : decode cX3_countTaken 14 = .ok (.iastore, 1) := by decide +kernel
theorem dX3_countTaken_15 : decode cX3_countTaken 15 = .ok (.iinc 2 1, 3) := by decide +kernel
theorem dX3_countTaken_18 : decode cX3_countTaken 18 = .ok (.goto (-16), 3) := by decide +kernel
theorem dX3_countTaken_21 : decode cX3_countTaken 21 = .ok (.iconst 0, 1) := by decide +kernel
theorem dX3_countTaken_22 : decode cX3_countTaken 22 = .ok (.istore_n 2, 1) := by decide +kernel
theorem dX3_countTaken_23 : decode cX3_countTaken 23 = .ok (.iload_n 2, 1) := by decide +kernel
theorem dX3_countTaken_24 : decode cX3_countTaken 24 = .ok (.aload_n 1, 1) := by decide +kernel
theorem dX3_countTaken_25 : decode cX3_countTaken 25 = .ok (.invokevirtual 51, 3) := by decide +kernel
theorem dX3_countTaken_28 : decode cX3_countTaken 28 = .ok (.if_icmp .ge 80, 3) := by decide +kernel
theorem dX3_countTaken_31 : decode cX3_countTaken 31 = .ok (.aload_n 1, 1) := by decide +kernel
theorem dX3_countTaken_32 : decode cX3_countTaken 32 = .ok (.iload_n 2, 1) := by decide +kernel
theorem dX3_countTaken_33 : decode cX3_countTaken 33 = .ok (.invokevirtual 57, 3) := by decide +kernel
theorem dX3_countTaken_36 : decode cX3_countTaken 36 = .ok (.istore_n 3, 1) := by decide +kernel
theorem dX3_countTaken_37 : decode cX3_countTaken 37 = .ok (.iload_n 3, 1) := by decide +kernel
theorem dX3_countTaken_38 : decode cX3_countTaken 38 = .ok (.invokestatic 34, 3) := by decide +kernel
theorem dX3_countTaken_41 : decode cX3_countTaken 41 = .ok (.ifCond .eq 11, 3) := by decide +kernel
theorem dX3_countTaken_44 : decode cX3_countTaken 44 = .ok (.aload_n 0, 1) := by decide +kernel
theorem dX3_countTaken_45 : decode cX3_countTaken 45 = .ok (.iload_n 3, 1) := by decide +kernel
theorem dX3_countTaken_46 : decode cX3_countTaken 46 = .ok (.invokevirtual 84, 3) := by decide +kernel
theorem dX3_countTaken_49 : decode cX3_countTaken 49 = .ok (.goto 53, 3) := by decide +kernel
theorem dX3_countTaken_52 : decode cX3_countTaken 52 = .ok (.aload_n 0, 1) := by decide +kernel
theorem dX3_countTaken_53 : decode cX3_countTaken 53 = .ok (.bipush 10, 2) := by decide +kernel
theorem dX3_countTaken_55 : decode cX3_countTaken 55 = .ok (.iload_n 3, 1) := by decide +kernel
theorem dX3_countTaken_56 : decode cX3_countTaken 56 = .ok (.invokestatic 39, 3) := by decide +kernel
theorem dX3_countTaken_59 : decode cX3_countTaken 59 = .ok (.iadd, 1) := by decide +kernel
theorem dX3_countTaken_60 : decode cX3_countTaken 60 = .ok (.iconst 2, 1) := by decide +kernel
theorem dX3_countTaken_61 : decode cX3_countTaken 61 = .ok (.isub, 1) := by decide +kernel
theorem dX3_countTaken_62 : decode cX3_countTaken 62 = .ok (.invokevirtual 84, 3) := by decide +kernel
theorem dX3_countTaken_65 : decode cX3_countTaken 65 = .ok (.aload_n 0, 1) := by decide +kernel
theorem dX3_countTaken_66 : decode cX3_countTaken 66 = .ok (.iload_n 3, 1) := by decide +kernel
theorem dX3_countTaken_67 : decode cX3_countTaken 67 = .ok (.invokestatic 42, 3) := by decide +kernel
theorem dX3_countTaken_70 : decode cX3_countTaken 70 = .ok (.ifCond .eq 7, 3) := by decide +kernel
theorem dX3_countTaken_73 : decode cX3_countTaken 73 = .ok (.iconst 4, 1) := by decide +kernel
theorem dX3_countTaken_74 : decode cX3_countTaken 74 = .ok (.goto 5, 3) := by decide +kernel
theorem dX3_countTaken_77 : decode cX3_countTaken 77 = .ok (.bipush 17, 2) := by decide +kernel
theorem dX3_countTaken_79 : decode cX3_countTaken 79 = .ok (.invokevirtual 84, 3) := by decide +kernel
theorem dX3_countTaken_82 : decode cX3_countTaken 82 = .ok (.iload_n 3, 1) := by decide +kernel
theorem dX3_countTaken_83 : decode cX3_countTaken 83 = .ok (.invokestatic 42, 3) := by decide +kernel
theorem dX3_countTaken_86 : decode cX3_countTaken 86 = .ok (.ifCond .eq 16, 3) := by decide +kernel
theorem dX3_countTaken_89 : decode cX3_countTaken 89 = .ok (.aload_n 0, 1) := by decide +kernel
theorem dX3_countTaken_90 : decode cX3_countTaken 90 = .ok (.iconst 5, 1) := by decide +kernel
theorem dX3_countTaken_91 : decode cX3_countTaken 91 = .ok (.iload_n 3, 1) := by decide +kernel
theorem dX3_countTaken_92 : decode cX3_countTaken 92 = .ok (.invokestatic 45, 3) := by decide +kernel
theorem dX3_countTaken_95 : decode cX3_countTaken 95 = .ok (.invokestatic 48, 3) := by decide +kernel
theorem dX3_countTaken_98 : decode cX3_countTaken 98 = .ok (.iadd, 1) := by decide +kernel
theorem dX3_countTaken_99 : decode cX3_countTaken 99 = .ok (.invokevirtual 84, 3) := by decide +kernel
theorem dX3_countTaken_102 : decode cX3_countTaken 102 = .ok (.iinc 2 1, 3) := by decide +kernel
theorem dX3_countTaken_105 : decode cX3_countTaken 105 = .ok (.goto (-82), 3) := by decide +kernel
theorem dX3_countTaken_108 : decode cX3_countTaken 108 = .ok (.return_, 1) := by decide +kernel
theorem dX3_countOne_0 : decode cX3_countOne 0 = .ok (.iload_n 1, 1) := by decide +kernel
theorem dX3_countOne_1 : decode cX3_countOne 1 = .ok (.invokestatic 26, 3) := by decide +kernel
theorem dX3_countOne_4 : decode cX3_countOne 4 = .ok (.ifCond .eq 13, 3) := by decide +kernel
theorem dX3_countOne_7 : decode cX3_countOne 7 = .ok (.aload_n 0, 1) := by decide +kernel
theorem dX3_countOne_8 : decode cX3_countOne 8 = .ok (.getfield 23, 3) := by decide +kernel
theorem dX3_countOne_11 : decode cX3_countOne 11 = .ok (.iload_n 1, 1) := by decide +kernel
theorem dX3_countOne_12 : decode cX3_countOne 12 = .ok (.dup2, 1) := by decide +kernel
theorem dX3_countOne_13 : decode cX3_countOne 13 = .ok (.iaload, 1) := by decide +kernel
theorem dX3_countOne_14 : decode cX3_countOne 14 = .ok (.iconst 1, 1) := by decide +kernel
theorem dX3_countOne_15 : decode cX3_countOne 15 = .ok (.iadd, 1) := by decide +kernel
theorem dX3_countOne_16 : decode cX3_countOne 16 = .ok (.iastore, 1) := by decide +kernel
theorem dX3_countOne_17 : decode cX3_countOne 17 = .ok (.return_, 1) := by decide +kernel
theorem dX4_init_0 : decode cX4_init 0 = .ok (.aload_n 0, 1) := by decide +kernel
theorem dX4_init_1 : decode cX4_init 1 = .ok (.invokespecial 3, 3) := by decide +kernel
theorem dX4_init_4 : decode cX4_init 4 = .ok (.aload_n 0, 1) := by decide +kernel
theorem dX4_init_5 : decode cX4_init 5 = .ok (.bipush 24, 2) := by decide +kernel
theorem dX4_init_7 : decode cX4_init 7 = .ok (.newarray .int, 2) := by decide +kernel
theorem dX4_init_9 : decode cX4_init 9 = .ok (.putfield 9, 3) := by decide +kernel
theorem dX4_init_12 : decode cX4_init 12 = .ok (.aload_n 0, 1) := by decide +kernel
theorem dX4_init_13 : decode cX4_init 13 = .ok (.bipush 24, 2) := by decide +kernel
theorem dX4_init_15 : decode cX4_init 15 = .ok (.bipush 24, 2) := by decide +kernel
theorem dX4_init_17 : decode cX4_init 17 = .ok (.multianewarray 15 2, 4) := by decide +kernel
theorem dX4_init_21 : decode cX4_init 21 = .ok (.putfield 17, 3) := by decide +kernel
theorem dX4_init_24 : decode cX4_init 24 = .ok (.aload_n 0, 1) := by decide +kernel
theorem dX4_init_25 : decode cX4_init 25 = .ok (.iconst 0, 1) := by decide +kernel
theorem dX4_init_26 : decode cX4_init 26 = .ok (.putfield 20, 3) := by decide +kernel
theorem dX4_init_29 : decode cX4_init 29 = .ok (.return_, 1) := by decide +kernel
theorem dX4_clear_0 : decode cX4_clear 0 = .ok (.aload_n 0, 1) := by decide +kernel
theorem dX4_clear_1 : decode cX4_clear 1 = .ok (.iconst 0, 1) := by decide +kernel
theorem dX4_clear_2 : decode cX4_clear 2 = .ok (.putfield 20, 3) := by decide +kernel
theorem dX4_clear_5 : decode cX4_clear 5 = .ok (.return_, 1) := by decide +kernel
theorem dX4_add_0 : decode cX4_add 0 = .ok (.aload_n 0, 1) := by decide +kernel
theorem dX4_add_1 : decode cX4_add 1 = .ok (.getfield 20, 3) := by decide +kernel
theorem dX4_add_4 : decode cX4_add 4 = .ok (.bipush 24, 2) := by decide +kernel
theorem dX4_add_6 : decode cX4_add 6 = .ok (.if_icmp .lt 4, 3) := by decide +kernel
theorem dX4_add_9 : decode cX4_add 9 = .ok (.return_, 1) := by decide +kernel
theorem dX4_add_10 : decode cX4_add 10 = .ok (.aload_n 0, 1) := by decide +kernel
theorem dX4_add_11 : decode cX4_add 11 = .ok (.getfield 9, 3) := by decide +kernel
theorem dX4_add_14 : decode cX4_add 14 = .ok (.aload_n 0, 1) := by decide +kernel
theorem dX4_add_15 : decode cX4_add 15 = .ok (.getfield 20, 3) := by decide +kernel
theorem dX4_add_18 : decode cX4_add 18 = .ok (.iload_n 1, 1) := by decide +kernel
theorem dX4_add_19 : decode cX4_add 19 = .ok (.iastore, 1) := by decide +kernel
theorem dX4_add_20 : decode cX4_add 20 = .ok (.aload_n 0, 1) := by decide +kernel
theorem dX4_add_21 : decode cX4_add 21 = .ok (.dup, 1) := by decide +kernel
theorem dX4_add_22 : decode cX4_add 22 = .ok (.getfield 20, 3) := by decide +kernel
theorem dX4_add_25 : decode cX4_add 25 = .ok (.iconst 1, 1) := by decide +kernel
theorem dX4_add_26 : decode cX4_add 26 = .ok (.iadd, 1) := by decide +kernel
theorem dX4_add_27 : decode cX4_add 27 = .ok (.putfield 20, 3) := by decide +kernel
theorem dX4_add_30 : decode cX4_add 30 = .ok (.return_, 1) := by decide +kernel
theorem dX4_size_0 : decode cX4_size 0 = .ok (.aload_n 0, 1) := by decide +kernel
theorem dX4_size_1 : decode cX4_size 1 = .ok (.getfield 20, 3) := by decide +kernel
theorem dX4_size_4 : decode cX4_size 4 = .ok (.ireturn, 1) := by decide +kernel
theorem dX4_has_0 : decode cX4_has 0 = .ok (.iload_n 1, 1) := by decide +kernel
theorem dX4_has_1 : decode cX4_has 1 = .ok (.ifCond .lt 15, 3) := by decide +kernel
theorem dX4_has_4 : decode cX4_has 4 = .ok (.iload_n 1, 1) := by decide +kernel
theorem dX4_has_5 : decode cX4_has 5 = .ok (.aload_n 0, 1) := by decide +kernel
theorem dX4_has_6 : decode cX4_has 6 = .ok (.getfield 20, 3) := by decide +kernel
theorem dX4_has_9 : decode cX4_has 9 = .ok (.if_icmp .ge 7, 3) := by decide +kernel
theorem dX4_has_12 : decode cX4_has 12 = .ok (.iconst 1, 1) := by decide +kernel
theorem dX4_has_13 : decode cX4_has 13 = .ok (.goto 4, 3) := by decide +kernel
theorem dX4_has_16 : decode cX4_has 16 = .ok (.iconst 0, 1) := by decide +kernel
theorem dX4_has_17 : decode cX4_has 17 = .ok (.ireturn, 1) := by decide +kernel
theorem dX4_letterAt_0 : decode cX4_letterAt 0 = .ok (.aload_n 0, 1) := by decide +kernel
theorem dX4_letterAt_1 : decode cX4_letterAt 1 = .ok (.iload_n 1, 1) := by decide +kernel
theorem dX4_letterAt_2 : decode cX4_letterAt 2 = .ok (.invokevirtual 24, 3) := by decide +kernel
theorem dX4_letterAt_5 : decode cX4_letterAt 5 = .ok (.ifCond .eq 12, 3) := by decide +kernel
theorem dX4_letterAt_8 : decode cX4_letterAt 8 = .ok (.aload_n 0, 1) := by decide +kernel
theorem dX4_letterAt_9 : decode cX4_letterAt 9 = .ok (.getfield 9, 3) := by decide +kernel
theorem dX4_letterAt_12 : decode cX4_letterAt 12 = .ok (.iload_n 1, 1) := by decide +kernel
theorem dX4_letterAt_13 : decode cX4_letterAt 13 = .ok (.iaload, 1) := by decide +kernel
theorem dX4_letterAt_14 : decode cX4_letterAt 14 = .ok (.goto 4, 3) := by decide +kernel
theorem dX4_letterAt_17 : decode cX4_letterAt 17 = .ok (.iconst 0, 1) := by decide +kernel
theorem dX4_letterAt_18 : decode cX4_letterAt 18 = .ok (.ireturn, 1) := by decide +kernel
theorem dX4_compare_0 : decode cX4_compare 0 = .ok (.aload_n 0, 1) := by decide +kernel
theorem dX4_compare_1 : decode cX4_compare 1 = .ok (.getfield 20, 3) := by decide +kernel
theorem dX4_compare_4 : decode cX4_compare 4 = .ok (.iconst 1, 1) := by decide +kernel
theorem dX4_compare_5 : decode cX4_compare 5 = .ok (.isub, 1) := by decide +kernel
theorem dX4_compare_6 : decode cX4_compare 6 = .ok (.istore_n 1, 1) := by decide +kernel
theorem dX4_compare_7 : decode cX4_compare 7 = .ok (.iload_n 1, 1) := by decide +kernel
theorem dX4_compare_8 : decode cX4_compare 8 = .ok (.ifCond .lt 76, 3) := by decide +kernel
theorem dX4_compare_11 : decode cX4_compare 11 = .ok (.iconst 1, 1) := by decide +kernel
theorem dX4_compare_12 : decode cX4_compare 12 = .ok (.istore_n 2, 1) := by decide +kernel
theorem dX4_compare_13 : decode cX4_compare 13 = .ok (.iload_n 2, 1) := by decide +kernel
theorem dX4_compare_14 : decode cX4_compare 14 = .ok (.iload_n 1, 1) := by decide +kernel
theorem dX4_compare_15 : decode cX4_compare 15 = .ok (.if_icmp .gt 63, 3) := by decide +kernel
theorem dX4_compare_18 : decode cX4_compare 18 = .ok (.aload_n 0, 1) := by decide +kernel
theorem dX4_compare_19 : decode cX4_compare 19 = .ok (.getfield 9, 3) := by decide +kernel
theorem dX4_compare_22 : decode cX4_compare 22 = .ok (.iload_n 1, 1) := by decide +kernel
theorem dX4_compare_23 : decode cX4_compare 23 = .ok (.iaload, 1) := by decide +kernel
theorem dX4_compare_24 : decode cX4_compare 24 = .ok (.aload_n 0, 1) := by decide +kernel
theorem dX4_compare_25 : decode cX4_compare 25 = .ok (.getfield 9, 3) := by decide +kernel
theorem dX4_compare_28 : decode cX4_compare 28 = .ok (.iload_n 1, 1) := by decide +kernel
theorem dX4_compare_29 : decode cX4_compare 29 = .ok (.iload_n 2, 1) := by decide +kernel
theorem dX4_compare_30 : decode cX4_compare 30 = .ok (.isub, 1) := by decide +kernel
theorem dX4_compare_31 : decode cX4_compare 31 = .ok (.iaload, 1) := by decide +kernel
theorem dX4_compare_32 : decode cX4_compare 32 = .ok (.if_icmp .ne 7, 3) := by decide +kernel
theorem dX4_compare_35 : decode cX4_compare 35 = .ok (.iconst 1, 1) := by decide +kernel
theorem dX4_compare_36 : decode cX4_compare 36 = .ok (.goto 4, 3) := by decide +kernel
theorem dX4_compare_39 : decode cX4_compare 39 = .ok (.iconst 0, 1) := by decide +kernel
theorem dX4_compare_40 : decode cX4_compare 40 = .ok (.istore_n 3, 1) := by decide +kernel
theorem dX4_compare_41 : decode cX4_compare 41 = .ok (.aload_n 0, 1) := by decide +kernel
theorem dX4_compare_42 : decode cX4_compare 42 = .ok (.getfield 17, 3) := by decide +kernel
theorem dX4_compare_45 : decode cX4_compare 45 = .ok (.iload_n 1, 1) := by decide +kernel
theorem dX4_compare_46 : decode cX4_compare 46 = .ok (.aaload, 1) := by decide +kernel
theorem dX4_compare_47 : decode cX4_compare 47 = .ok (.iload_n 2, 1) := by decide +kernel
theorem dX4_compare_48 : decode cX4_compare 48 = .ok (.iload_n 3, 1) := by decide +kernel
theorem dX4_compare_49 : decode cX4_compare 49 = .ok (.ifCond .eq 21, 3) := by decide +kernel
theorem dX4_compare_52 : decode cX4_compare 52 = .ok (.bipush 8, 2) := by decide +kernel
theorem dX4_compare_54 : decode cX4_compare 54 = .ok (.iconst 1, 1) := by decide +kernel
theorem dX4_compare_55 : decode cX4_compare 55 = .ok (.aload_n 0, 1) := by decide +kernel
theorem dX4_compare_56 : decode cX4_compare 56 = .ok (.iload_n 1, 1) := by decide +kernel
theorem dX4_compare_57 : decode cX4_compare 57 = .ok (.iconst 1, 1) := by decide +kernel
theorem dX4_compare_58 : decode cX4_compare 58 = .ok (.iadd, 1) := by decide +kernel
theorem dX4_compare_59 : decode cX4_compare 59 = .ok (.iload_n 2, 1) := by decide +kernel
theorem dX4_compare_60 : decode cX4_compare 60 = .ok (.invokevirtual 28, 3) := by decide +kernel
theorem dX4_compare_63 : decode cX4_compare 63 = .ok (.iadd, 1) := by decide +kernel
theorem dX4_compare_64 : decode cX4_compare 64 = .ok (.invokestatic 32, 3) := by decide +kernel
theorem dX4_compare_67 : decode cX4_compare 67 = .ok (.goto 4, 3) := by decide +kernel
theorem dX4_compare_70 : decode cX4_compare 70 = .ok (.iconst 0, 1) := by decide +kernel
theorem dX4_compare_71 : decode cX4_compare 71 = .ok (.iastore, 1) := by decide +kernel
theorem dX4_compare_72 : decode cX4_compare 72 = .ok (.iinc 2 1, 3) := by decide +kernel
theorem dX4_compare_75 : decode cX4_compare 75 = .ok (.goto (-62), 3) := by decide +kernel
theorem dX4_compare_78 : decode cX4_compare 78 = .ok (.iinc 1 (-1), 3) := by decide +kernel
theorem dX4_compare_81 : decode cX4_compare 81 = .ok (.goto (-74), 3) := by decide +kernel
theorem dX4_compare_84 : decode cX4_compare 84 = .ok (.return_, 1) := by decide +kernel
theorem dX4_likeness_0 : decode cX4_likeness 0 = .ok (.iload_n 1, 1) := by decide +kernel
theorem dX4_likeness_1 : decode cX4_likeness 1 = .ok (.aload_n 0, 1) := by decide +kernel
theorem dX4_likeness_2 : decode cX4_likeness 2 = .ok (.getfield 20, 3) := by decide +kernel
theorem dX4_likeness_5 : decode cX4_likeness 5 = .ok (.if_icmp .ge 24, 3) := by decide +kernel
theorem dX4_likeness_8 : decode cX4_likeness 8 = .ok (.iload_n 2, 1) := by decide +kernel
theorem dX4_likeness_9 : decode cX4_likeness 9 = .ok (.iconst 1, 1) := by decide +kernel
theorem dX4_likeness_10 : decode cX4_likeness 10 = .ok (.if_icmp .lt 19, 3) := by decide +kernel
theorem dX4_likeness_13 : decode cX4_likeness 13 = .ok (.iload_n 2, 1) := by decide +kernel
theorem dX4_likeness_14 : decode cX4_likeness 14 = .ok (.iload_n 1, 1) := by decide +kernel
theorem dX4_likeness_15 : decode cX4_likeness 15 = .ok (.if_icmp .gt 14, 3) := by decide +kernel
theorem dX4_likeness_18 : decode cX4_likeness 18 = .ok (.aload_n 0, 1) := by decide +kernel
theorem dX4_likeness_19 : decode cX4_likeness 19 = .ok (.getfield 17, 3) := by decide +kernel
theorem dX4_likeness_22 : decode cX4_likeness 22 = .ok (.iload_n 1, 1) := by decide +kernel
theorem dX4_likeness_23 : decode cX4_likeness 23 = .ok (.aaload, 1) := by decide +kernel
theorem dX4_likeness_24 : decode cX4_likeness 24 = .ok (.iload_n 2, 1) := by decide +kernel
theorem dX4_likeness_25 : decode cX4_likeness 25 = .ok (.iaload, 1) := by decide +kernel
theorem dX4_likeness_26 : decode cX4_likeness 26 = .ok (.goto 4, 3) := by decide +kernel
theorem dX4_likeness_29 : decode cX4_likeness 29 = .ok (.iconst 0, 1) := by decide +kernel
theorem dX4_likeness_30 : decode cX4_likeness 30 = .ok (.ireturn, 1) := by decide +kernel
theorem dX4_longestDistance_0 : decode cX4_longestDistance 0 = .ok (.iconst 0, 1) := by decide +kernel
theorem dX4_longestDistance_1 : decode cX4_longestDistance 1 = .ok (.istore_n 2, 1) := by decide +kernel
theorem dX4_longestDistance_2 : decode cX4_longestDistance 2 = .ok (.iconst 1, 1) := by decide +kernel
theorem dX4_longestDistance_3 : decode cX4_longestDistance 3 = .ok (.istore_n 3, 1) := by decide +kernel
theorem dX4_longestDistance_4 : decode cX4_longestDistance 4 = .ok (.iconst 1, 1) := by decide +kernel
theorem dX4_longestDistance_5 : decode cX4_longestDistance 5 = .ok (.istore 4, 2) := by decide +kernel
theorem dX4_longestDistance_7 : decode cX4_longestDistance 7 = .ok (.aload_n 0, 1) := by decide +kernel
theorem dX4_longestDistance_8 : decode cX4_longestDistance 8 = .ok (.iload_n 1, 1) := by decide +kernel
theorem dX4_longestDistance_9 : decode cX4_longestDistance 9 = .ok (.invokevirtual 24, 3) := by decide +kernel
theorem dX4_longestDistance_12 : decode cX4_longestDistance 12 = .ok (.ifCond .eq 36, 3) := by decide +kernel
theorem dX4_longestDistance_15 : decode cX4_longestDistance 15 = .ok (.iload 4, 2) := by decide +kernel
theorem dX4_longestDistance_17 : decode cX4_longestDistance 17 = .ok (.iload_n 1, 1) := by decide +kernel
theorem dX4_longestDistance_18 : decode cX4_longestDistance 18 = .ok (.if_icmp .gt 30, 3) := by decide +kernel
theorem dX4_longestDistance_21 : decode cX4_longestDistance 21 = .ok (.aload_n 0, 1) := by decide +kernel
theorem dX4_longestDistance_22 : decode cX4_longestDistance 22 = .ok (.iload_n 1, 1) := by decide +kernel
theorem dX4_longestDistance_23 : decode cX4_longestDistance 23 = .ok (.iload 4, 2) := by decide +kernel
theorem dX4_longestDistance_25 : decode cX4_longestDistance 25 = .ok (.invokevirtual 28, 3) := by decide +kernel
theorem dX4_longestDistance_28 : decode cX4_longestDistance 28 = .ok (.istore 5, 2) := by decide +kernel
theorem dX4_longestDistance_30 : decode cX4_longestDistance 30 = .ok (.iload 5, 2) := by decide +kernel
theorem dX4_longestDistance_32 : decode cX4_longestDistance 32 = .ok (.iload_n 3, 1) := by decide +kernel
theorem dX4_longestDistance_33 : decode cX4_longestDistance 33 = .ok (.if_icmp .le 9, 3) := by decide +kernel
theorem dX4_longestDistance_36 : decode cX4_longestDistance 36 = .ok (.iload 5, 2) := by decide +kernel
theorem dX4_longestDistance_38 : decode cX4_longestDistance 38 = .ok (.istore_n 3, 1) := by decide +kernel
theorem dX4_longestDistance_39 : decode cX4_longestDistance 39 = .ok (.iload 4, 2) := by decide +kernel
theorem dX4_longestDistance_41 : decode cX4_longestDistance 41 = .ok (.istore_n 2, 1) := by decide +kernel
theorem dX4_longestDistance_42 : decode cX4_longestDistance 42 = .ok (.iinc 4 1, 3) := by decide +kernel
theorem dX4_longestDistance_45 : decode cX4_longestDistance 45 = .ok (.goto (-38), 3) := by decide +kernel
theorem dX4_longestDistance_48 : decode cX4_longestDistance 48 = .ok (.iload_n 2, 1) := by decide +kernel
theorem dX4_longestDistance_49 : decode cX4_longestDistance 49 = .ok (.ireturn, 1) := by decide +kernel
theorem dX4_chainPlace_0 : decode cX4_chainPlace 0 = .ok (.iconst 0, 1) := by decide +kernel
theorem dX4_chainPlace_1 : decode cX4_chainPlace 1 = .ok (.istore_n 3, 1) := by decide +kernel
theorem dX4_chainPlace_2 : decode cX4_chainPlace 2 = .ok (.iconst 1, 1) := by decide +kernel
theorem dX4_chainPlace_3 : decode cX4_chainPlace 3 = .ok (.istore 4, 2) := by decide +kernel
theorem dX4_chainPlace_5 : decode cX4_chainPlace 5 = .ok (.aload_n 0, 1) := by decide +kernel
theorem dX4_chainPlace_6 : decode cX4_chainPlace 6 = .ok (.iload_n 1, 1) := by decide +kernel
theorem dX4_chainPlace_7 : decode cX4_chainPlace 7 = .ok (.invokevirtual 24, 3) := by decide +kernel
theorem dX4_chainPlace_10 : decode cX4_chainPlace 10 = .ok (.ifCond .eq 39, 3) := by decide +kernel
theorem dX4_chainPlace_13 : decode cX4_chainPlace 13 = .ok (.iload 4, 2) := by decide +kernel
theorem dX4_chainPlace_15 : decode cX4_chainPlace 15 = .ok (.iload_n 1, 1) := by decide +kernel
theorem dX4_chainPlace_16 : decode cX4_chainPlace 16 = .ok (.if_icmp .gt 33, 3) := by decide +kernel
theorem dX4_chainPlace_19 : decode cX4_chainPlace 19 = .ok (.aload_n 0, 1) := by decide +kernel
theorem dX4_chainPlace_20 : decode cX4_chainPlace 20 = .ok (.iload_n 1, 1) := by decide +kernel
theorem dX4_chainPlace_21 : decode cX4_chainPlace 21 = .ok (.iload 4, 2) := by decide +kernel
theorem dX4_chainPlace_23 : decode cX4_chainPlace 23 = .ok (.invokevirtual 28, 3) := by decide +kernel
theorem dX4_chainPlace_26 : decode cX4_chainPlace 26 = .ok (.iconst 2, 1) := by decide +kernel
theorem dX4_chainPlace_27 : decode cX4_chainPlace 27 = .ok (.if_icmp .lt 16, 3) := by decide +kernel
theorem dX4_chainPlace_30 : decode cX4_chainPlace 30 = .ok (.iload_n 3, 1) := by decide +kernel
theorem dX4_chainPlace_31 : decode cX4_chainPlace 31 = .ok (.iload_n 2, 1) := by decide +kernel
theorem dX4_chainPlace_32 : decode cX4_chainPlace 32 = .ok (.if_icmp .ne 8, 3) := by decide +kernel
theorem dX4_chainPlace_35 : decode cX4_chainPlace 35 = .ok (.iload_n 1, 1) := by decide +kernel
theorem dX4_chainPlace_36 : decode cX4_chainPlace 36 = .ok (.iload 4, 2) := by decide +kernel
theorem dX4_chainPlace_38 : decode cX4_chainPlace 38 = .ok (.isub, 1) := by decide +kernel
theorem dX4_chainPlace_39 : decode cX4_chainPlace 39 = .ok (.ireturn, 1) := by decide +kernel
theorem dX4_chainPlace_40 : decode cX4_chainPlace 40 = .ok (.iinc 3 1, 3) := by decide +kernel
theorem dX4_chainPlace_43 : decode cX4_chainPlace 43 = .ok (.iinc 4 1, 3) := by decide +kernel
theorem dX4_chainPlace_46 : decode cX4_chainPlace 46 = .ok (.goto (-41), 3) := by decide +kernel
theorem dX4_chainPlace_49 : decode cX4_chainPlace 49 = .ok (.iconst (-1), 1) := by decide +kernel
theorem dX4_chainPlace_50 : decode cX4_chainPlace 50 = .ok (.ireturn, 1) := by decide +kernel
theorem dX5_again_0 : decode cX5_again 0 = .ok (.bipush 100, 2) := by decide +kernel
theorem dX5_again_2 : decode cX5_again 2 = .ok (.iload_n 0, 1) := by decide +kernel
theorem dX5_again_3 : decode cX5_again 3 = .ok (.iadd, 1) := by decide +kernel
theorem dX5_again_4 : decode cX5_again 4 = .ok (.ireturn, 1) := by decide +kernel
theorem dX5_copy_0 : decode cX5_copy 0 = .ok (.sipush 1000, 3) := by decide +kernel
theorem dX5_copy_3 : decode cX5_copy 3 = .ok (.bipush 10, 2) := by decide +kernel
theorem dX5_copy_5 : decode cX5_copy 5 = .ok (.iload_n 0, 1) := by decide +kernel
theorem dX5_copy_6 : decode cX5_copy 6 = .ok (.imul, 1) := by decide +kernel
theorem dX5_copy_7 : decode cX5_copy 7 = .ok (.iadd, 1) := by decide +kernel
theorem dX5_copy_8 : decode cX5_copy 8 = .ok (.iload_n 1, 1) := by decide +kernel
theorem dX5_copy_9 : decode cX5_copy 9 = .ok (.iadd, 1) := by decide +kernel
theorem dX5_copy_10 : decode cX5_copy 10 = .ok (.ireturn, 1) := by decide +kernel
theorem dX5_isPlain_0 : decode cX5_isPlain 0 = .ok (.iload_n 0, 1) := by decide +kernel
theorem dX5_isPlain_1 : decode cX5_isPlain 1 = .ok (.bipush 100, 2) := by decide +kernel
theorem dX5_isPlain_3 : decode cX5_isPlain 3 = .ok (.if_icmp .ge 7, 3) := by decide +kernel
theorem dX5_isPlain_6 : decode cX5_isPlain 6 = .ok (.iconst 1, 1) := by decide +kernel
theorem dX5_isPlain_7 : decode cX5_isPlain 7 = .ok (.goto 4, 3) := by decide +kernel
theorem dX5_isPlain_10 : decode cX5_isPlain 10 = .ok (.iconst 0, 1) := by decide +kernel
theorem dX5_isPlain_11 : decode cX5_isPlain 11 = .ok (.ireturn, 1) := by decide +kernel
theorem dX5_isCopy_0 : decode cX5_isCopy 0 = .ok (.iload_n 0, 1) := by decide +kernel
theorem dX5_isCopy_1 : decode cX5_isCopy 1 = .ok (.sipush 1000, 3) := by decide +kernel
theorem dX5_isCopy_4 : decode cX5_isCopy 4 = .ok (.if_icmp .lt 7, 3) := by decide +kernel
theorem dX5_isCopy_7 : decode cX5_isCopy 7 = .ok (.iconst 1, 1) := by decide +kernel
theorem dX5_isCopy_8 : decode cX5_isCopy 8 = .ok (.goto 4, 3) := by decide +kernel
theorem dX5_isCopy_11 : decode cX5_isCopy 11 = .ok (.iconst 0, 1) := by decide +kernel
theorem dX5_isCopy_12 : decode cX5_isCopy 12 = .ok (.ireturn, 1) := by decide +kernel
theorem dX5_lengthOf_0 : decode cX5_lengthOf 0 = .ok (.iload_n 0, 1) := by decide +kernel
theorem dX5_lengthOf_1 : decode cX5_lengthOf 1 = .ok (.bipush 100, 2) := by decide +kernel
theorem dX5_lengthOf_3 : decode cX5_lengthOf 3 = .ok (.if_icmp .ge 7, 3) := by decide +kernel
theorem dX5_lengthOf_6 : decode cX5_lengthOf 6 = .ok (.iconst 1, 1) := by decide +kernel
theorem dX5_lengthOf_7 : decode cX5_lengthOf 7 = .ok (.goto 7, 3) := by decide +kernel
theorem dX5_lengthOf_10 : decode cX5_lengthOf 10 = .ok (.iload_n 0, 1) := by decide +kernel
theorem dX5_lengthOf_11 : decode cX5_lengthOf 11 = .ok (.bipush 10, 2) := by decide +kernel
theorem dX5_lengthOf_13 : decode cX5_lengthOf 13 = .ok (.irem, 1) := by decide +kernel
theorem dX5_lengthOf_14 : decode cX5_lengthOf 14 = .ok (.ireturn, 1) := by decide +kernel
theorem dX5_distanceOf_0 : decode cX5_distanceOf 0 = .ok (.iload_n 0, 1) := by decide +kernel
theorem dX5_distanceOf_1 : decode cX5_distanceOf 1 = .ok (.sipush 1000, 3) := by decide +kernel
theorem dX5_distanceOf_4 : decode cX5_distanceOf 4 = .ok (.if_icmp .ge 7, 3) := by decide +kernel
theorem dX5_distanceOf_7 : decode cX5_distanceOf 7 = .ok (.iconst 0, 1) := by decide +kernel
theorem dX5_distanceOf_8 : decode cX5_distanceOf 8 = .ok (.goto 11, 3) := by decide +kernel
theorem dX5_distanceOf_11 : decode cX5_distanceOf 11 = .ok (.iload_n 0, 1) := by decide +kernel
theorem dX5_distanceOf_12 : decode cX5_distanceOf 12 = .ok (.sipush 1000, 3) := by decide +kernel
theorem dX5_distanceOf_15 : decode cX5_distanceOf 15 = .ok (.isub, 1) := by decide +kernel
theorem dX5_distanceOf_16 : decode cX5_distanceOf 16 = .ok (.bipush 10, 2) := by decide +kernel
theorem dX5_distanceOf_18 : decode cX5_distanceOf 18 = .ok (.idiv, 1) := by decide +kernel
theorem dX5_distanceOf_19 : decode cX5_distanceOf 19 = .ok (.ireturn, 1) := by decide +kernel
theorem dX5_signsOf_0 : decode cX5_signsOf 0 = .ok (.iload_n 0, 1) := by decide +kernel
theorem dX5_signsOf_1 : decode cX5_signsOf 1 = .ok (.invokestatic 9, 3) := by decide +kernel
theorem dX5_signsOf_4 : decode cX5_signsOf 4 = .ok (.ifCond .eq 7, 3) := by decide +kernel
theorem dX5_signsOf_7 : decode cX5_signsOf 7 = .ok (.iconst 1, 1) := by decide +kernel
theorem dX5_signsOf_8 : decode cX5_signsOf 8 = .ok (.goto 4, 3) := by decide +kernel
theorem dX5_signsOf_11 : decode cX5_signsOf 11 = .ok (.iconst 2, 1) := by decide +kernel
theorem dX5_signsOf_12 : decode cX5_signsOf 12 = .ok (.ireturn, 1) := by decide +kernel
theorem dX5_signOf_0 : decode cX5_signOf 0 = .ok (.iload_n 0, 1) := by decide +kernel
theorem dX5_signOf_1 : decode cX5_signOf 1 = .ok (.invokestatic 9, 3) := by decide +kernel
theorem dX5_signOf_4 : decode cX5_signOf 4 = .ok (.ifCond .eq 8, 3) := by decide +kernel
theorem dX5_signOf_7 : decode cX5_signOf 7 = .ok (.bipush 97, 2) := by decide +kernel
theorem dX5_signOf_9 : decode cX5_signOf 9 = .ok (.iload_n 0, 1) := by decide +kernel
theorem dX5_signOf_10 : decode cX5_signOf 10 = .ok (.iadd, 1) := by decide +kernel
theorem dX5_signOf_11 : decode cX5_signOf 11 = .ok (.ireturn, 1) := by decide +kernel
theorem dX5_signOf_12 : decode cX5_signOf 12 = .ok (.iload_n 1, 1) := by decide +kernel
theorem dX5_signOf_13 : decode cX5_signOf 13 = .ok (.ifCond .le 11, 3) := by decide +kernel
theorem dX5_signOf_16 : decode cX5_signOf 16 = .ok (.bipush 48, 2) := by decide +kernel
theorem dX5_signOf_18 : decode cX5_signOf 18 = .ok (.iload_n 0, 1) := by decide +kernel
theorem dX5_signOf_19 : decode cX5_signOf 19 = .ok (.invokestatic 15, 3) := by decide +kernel
theorem dX5_signOf_22 : decode cX5_signOf 22 = .ok (.iadd, 1) := by decide +kernel
theorem dX5_signOf_23 : decode cX5_signOf 23 = .ok (.ireturn, 1) := by decide +kernel
theorem dX5_signOf_24 : decode cX5_signOf 24 = .ok (.iload_n 0, 1) := by decide +kernel
theorem dX5_signOf_25 : decode cX5_signOf 25 = .ok (.invokestatic 19, 3) := by decide +kernel
theorem dX5_signOf_28 : decode cX5_signOf 28 = .ok (.ifCond .eq 15, 3) := by decide +kernel
theorem dX5_signOf_31 : decode cX5_signOf 31 = .ok (.bipush 65, 2) := by decide +kernel
theorem dX5_signOf_33 : decode cX5_signOf 33 = .ok (.iload_n 0, 1) := by decide +kernel
theorem dX5_signOf_34 : decode cX5_signOf 34 = .ok (.invokestatic 22, 3) := by decide +kernel
theorem dX5_signOf_37 : decode cX5_signOf 37 = .ok (.iadd, 1) := by decide +kernel
theorem dX5_signOf_38 : decode cX5_signOf 38 = .ok (.iconst 1, 1) := by decide +kernel
theorem dX5_signOf_39 : decode cX5_signOf 39 = .ok (.isub, 1) := by decide +kernel
theorem dX5_signOf_40 : decode cX5_signOf 40 = .ok (.goto 5, 3) := by decide +kernel
theorem dX5_signOf_43 : decode cX5_signOf 43 = .ok (.bipush 61, 2) := by decide +kernel
theorem dX5_signOf_45 : decode cX5_signOf 45 = .ok (.ireturn, 1) := by decide +kernel
theorem dX6_init_0 : decode cX6_init 0 = .ok (.aload_n 0, 1) := by decide +kernel
theorem dX6_init_1 : decode cX6_init 1 = .ok (.invokespecial 3, 3) := by decide +kernel
theorem dX6_init_4 : decode cX6_init 4 = .ok (.aload_n 0, 1) := by decide +kernel
theorem dX6_init_5 : decode cX6_init 5 = .ok (.bipush 24, 2) := by decide +kernel
theorem dX6_init_7 : decode cX6_init 7 = .ok (.newarray .int, 2) := by decide +kernel
theorem dX6_init_9 : decode cX6_init 9 = .ok (.putfield 9, 3) := by decide +kernel
theorem dX6_init_12 : decode cX6_init 12 = .ok (.aload_n 0, 1) := by decide +kernel
theorem dX6_init_13 : decode cX6_init 13 = .ok (.iconst 0, 1) := by decide +kernel
theorem dX6_init_14 : decode cX6_init 14 = .ok (.putfield 15, 3) := by decide +kernel
theorem dX6_init_17 : decode cX6_init 17 = .ok (.aload_n 0, 1) := by decide +kernel
theorem dX6_init_18 : decode cX6_init 18 = .ok (.iconst 0, 1) := by decide +kernel
theorem dX6_init_19 : decode cX6_init 19 = .ok (.putfield 19, 3) := by decide +kernel
theorem dX6_init_22 : decode cX6_init 22 = .ok (.aload_n 0, 1) := by decide +kernel
theorem dX6_init_23 : decode cX6_init 23 = .ok (.iconst 0, 1) := by decide +kernel
theorem dX6_init_24 : decode cX6_init 24 = .ok (.putfield 22, 3) := by decide +kernel
theorem dX6_init_27 : decode cX6_init 27 = .ok (.return_, 1) := by decide +kernel
theorem dX6_clear_0 : decode cX6_clear 0 = .ok (.aload_n 0, 1) := by decide +kernel
theorem dX6_clear_1 : decode cX6_clear 1 = .ok (.iconst 0, 1) := by decide +kernel
theorem dX6_clear_2 : decode cX6_clear 2 = .ok (.putfield 15, 3) := by decide +kernel
theorem dX6_clear_5 : decode cX6_clear 5 = .ok (.aload_n 0, 1) := by decide +kernel
theorem dX6_clear_6 : decode cX6_clear 6 = .ok (.iconst 0, 1) := by decide +kernel
theorem dX6_clear_7 : decode cX6_clear 7 = .ok (.putfield 19, 3) := by decide +kernel
theorem dX6_clear_10 : decode cX6_clear 10 = .ok (.aload_n 0, 1) := by decide +kernel
theorem dX6_clear_11 : decode cX6_clear 11 = .ok (.iconst 0, 1) := by decide +kernel
theorem dX6_clear_12 : decode cX6_clear 12 = .ok (.putfield 22, 3) := by decide +kernel
theorem dX6_clear_15 : decode cX6_clear 15 = .ok (.return_, 1) := by decide +kernel
theorem dX6_add_0 : decode cX6_add 0 = .ok (.aload_n 0, 1) := by decide +kernel
theorem dX6_add_1 : decode cX6_add 1 = .ok (.getfield 15, 3) := by decide +kernel
theorem dX6_add_4 : decode cX6_add 4 = .ok (.bipush 24, 2) := by decide +kernel
theorem dX6_add_6 : decode cX6_add 6 = .ok (.if_icmp .lt 4, 3) := by decide +kernel
theorem dX6_add_9 : decode cX6_add 9 = .ok (.return_, 1) := by decide +kernel
theorem dX6_add_10 : decode cX6_add 10 = .ok (.aload_n 0, 1) := by decide +kernel
theorem dX6_add_11 : decode cX6_add 11 = .ok (.getfield 9, 3) := by decide +kernel
theorem dX6_add_14 : decode cX6_add 14 = .ok (.aload_n 0, 1) := by decide +kernel
theorem dX6_add_15 : decode cX6_add 15 = .ok (.getfield 15, 3) := by decide +kernel
theorem dX6_add_18 : decode cX6_add 18 = .ok (.iload_n 1, 1) := by decide +kernel
theorem dX6_add_19 : decode cX6_add 19 = .ok (.iastore, 1) := by decide +kernel
theorem dX6_add_20 : decode cX6_add 20 = .ok (.aload_n 0, 1) := by decide +kernel
theorem dX6_add_21 : decode cX6_add 21 = .ok (.dup, 1) := by decide +kernel
theorem dX6_add_22 : decode cX6_add 22 = .ok (.getfield 15, 3) := by decide +kernel
theorem dX6_add_25 : decode cX6_add 25 = .ok (.iconst 1, 1) := by decide +kernel
theorem dX6_add_26 : decode cX6_add 26 = .ok (.iadd, 1) := by decide +kernel
theorem dX6_add_27 : decode cX6_add 27 = .ok (.putfield 15, 3) := by decide +kernel
theorem dX6_add_30 : decode cX6_add 30 = .ok (.iload_n 1, 1) := by decide +kernel
theorem dX6_add_31 : decode cX6_add 31 = .ok (.invokestatic 25, 3) := by decide +kernel
theorem dX6_add_34 : decode cX6_add 34 = .ok (.ifCond .eq 13, 3) := by decide +kernel
theorem dX6_add_37 : decode cX6_add 37 = .ok (.aload_n 0, 1) := by decide +kernel
theorem dX6_add_38 : decode cX6_add 38 = .ok (.dup, 1) := by decide +kernel
theorem dX6_add_39 : decode cX6_add 39 = .ok (.getfield 19, 3) := by decide +kernel
theorem dX6_add_42 : decode cX6_add 42 = .ok (.iconst 1, 1) := by decide +kernel
theorem dX6_add_43 : decode cX6_add 43 = .ok (.iadd, 1) := by decide +kernel
theorem dX6_add_44 : decode cX6_add 44 = .ok (.putfield 19, 3) := by decide +kernel
theorem dX6_add_47 : decode cX6_add 47 = .ok (.iload_n 1, 1) := by decide +kernel
theorem dX6_add_48 : decode cX6_add 48 = .ok (.invokestatic 31, 3) := by decide +kernel
theorem dX6_add_51 : decode cX6_add 51 = .ok (.ifCond .eq 13, 3) := by decide +kernel
theorem dX6_add_54 : decode cX6_add 54 = .ok (.aload_n 0, 1) := by decide +kernel
theorem dX6_add_55 : decode cX6_add 55 = .ok (.dup, 1) := by decide +kernel
theorem dX6_add_56 : decode cX6_add 56 = .ok (.getfield 22, 3) := by decide +kernel
theorem dX6_add_59 : decode cX6_add 59 = .ok (.iconst 1, 1) := by decide +kernel
theorem dX6_add_60 : decode cX6_add 60 = .ok (.iadd, 1) := by decide +kernel
theorem dX6_add_61 : decode cX6_add 61 = .ok (.putfield 22, 3) := by decide +kernel
theorem dX6_add_64 : decode cX6_add 64 = .ok (.return_, 1) := by decide +kernel
theorem dX6_size_0 : decode cX6_size 0 = .ok (.aload_n 0, 1) := by decide +kernel
theorem dX6_size_1 : decode cX6_size 1 = .ok (.getfield 15, 3) := by decide +kernel
theorem dX6_size_4 : decode cX6_size 4 = .ok (.ireturn, 1) := by decide +kernel
theorem dX6_plains_0 : decode cX6_plains 0 = .ok (.aload_n 0, 1) := by decide +kernel
theorem dX6_plains_1 : decode cX6_plains 1 = .ok (.getfield 19, 3) := by decide +kernel
theorem dX6_plains_4 : decode cX6_plains 4 = .ok (.ireturn, 1) := by decide +kernel
theorem dX6_copies_0 : decode cX6_copies 0 = .ok (.aload_n 0, 1) := by decide +kernel
theorem dX6_copies_1 : decode cX6_copies 1 = .ok (.getfield 22, 3) := by decide +kernel
theorem dX6_copies_4 : decode cX6_copies 4 = .ok (.ireturn, 1) := by decide +kernel
theorem dX6_agains_0 : decode cX6_agains 0 = .ok (.aload_n 0, 1) := by decide +kernel
theorem dX6_agains_1 : decode cX6_agains 1 = .ok (.getfield 15, 3) := by decide +kernel
theorem dX6_agains_4 : decode cX6_agains 4 = .ok (.aload_n 0, 1) := by decide +kernel
theorem dX6_agains_5 : decode cX6_agains 5 = .ok (.getfield 19, 3) := by decide +kernel
theorem dX6_agains_8 : decode cX6_agains 8 = .ok (.isub, 1) := by decide +kernel
theorem dX6_agains_9 : decode cX6_agains 9 = .ok (.aload_n 0, 1) := by decide +kernel
theorem dX6_agains_10 : decode cX6_agains 10 = .ok (.getfield 22, 3) := by decide +kernel
theorem dX6_agains_13 : decode cX6_agains 13 = .ok (.isub, 1) := by decide +kernel
theorem dX6_agains_14 : decode cX6_agains 14 = .ok (.ireturn, 1) := by decide +kernel
theorem dX6_get_0 : decode cX6_get 0 = .ok (.iload_n 1, 1) := by decide +kernel
theorem dX6_get_1 : decode cX6_get 1 = .ok (.ifCond .lt 20, 3) := by decide +kernel
theorem dX6_get_4 : decode cX6_get 4 = .ok (.iload_n 1, 1) := by decide +kernel
theorem dX6_get_5 : decode cX6_get 5 = .ok (.aload_n 0, 1) := by decide +kernel
theorem dX6_get_6 : decode cX6_get 6 = .ok (.getfield 15, 3) := by decide +kernel
theorem dX6_get_9 : decode cX6_get 9 = .ok (.if_icmp .ge 12, 3) := by decide +kernel
theorem dX6_get_12 : decode cX6_get 12 = .ok (.aload_n 0, 1) := by decide +kernel
theorem dX6_get_13 : decode cX6_get 13 = .ok (.getfield 9, 3) := by decide +kernel
theorem dX6_get_16 : decode cX6_get 16 = .ok (.iload_n 1, 1) := by decide +kernel
theorem dX6_get_17 : decode cX6_get 17 = .ok (.iaload, 1) := by decide +kernel
theorem dX6_get_18 : decode cX6_get 18 = .ok (.goto 4, 3) := by decide +kernel
theorem dX6_get_21 : decode cX6_get 21 = .ok (.iconst (-1), 1) := by decide +kernel
theorem dX6_get_22 : decode cX6_get 22 = .ok (.ireturn, 1) := by decide +kernel
theorem dX6_signs_0 : decode cX6_signs 0 = .ok (.iconst 0, 1) := by decide +kernel
theorem dX6_signs_1 : decode cX6_signs 1 = .ok (.istore_n 1, 1) := by decide +kernel
theorem dX6_signs_2 : decode cX6_signs 2 = .ok (.iconst 0, 1) := by decide +kernel
theorem dX6_signs_3 : decode cX6_signs 3 = .ok (.istore_n 2, 1) := by decide +kernel
theorem dX6_signs_4 : decode cX6_signs 4 = .ok (.iload_n 2, 1) := by decide +kernel
theorem dX6_signs_5 : decode cX6_signs 5 = .ok (.aload_n 0, 1) := by decide +kernel
theorem dX6_signs_6 : decode cX6_signs 6 = .ok (.getfield 15, 3) := by decide +kernel
theorem dX6_signs_9 : decode cX6_signs 9 = .ok (.if_icmp .ge 20, 3) := by decide +kernel
theorem dX6_signs_12 : decode cX6_signs 12 = .ok (.iload_n 1, 1) := by decide +kernel
theorem dX6_signs_13 : decode cX6_signs 13 = .ok (.aload_n 0, 1) := by decide +kernel
theorem dX6_signs_14 : decode cX6_signs 14 = .ok (.iload_n 2, 1) := by decide +kernel
theorem dX6_signs_15 : decode cX6_signs 15 = .ok (.invokevirtual 34, 3) := by decide +kernel
theorem dX6_signs_18 : decode cX6_signs 18 = .ok (.invokestatic 38, 3) := by decide +kernel
theorem dX6_signs_21 : decode cX6_signs 21 = .ok (.iadd, 1) := by decide +kernel
theorem dX6_signs_22 : decode cX6_signs 22 = .ok (.istore_n 1, 1) := by decide +kernel
theorem dX6_signs_23 : decode cX6_signs 23 = .ok (.iinc 2 1, 3) := by decide +kernel
theorem dX6_signs_26 : decode cX6_signs 26 = .ok (.goto (-22), 3) := by decide +kernel
theorem dX6_signs_29 : decode cX6_signs 29 = .ok (.iload_n 1, 1) := by decide +kernel
theorem dX6_signs_30 : decode cX6_signs 30 = .ok (.ireturn, 1) := by decide +kernel
theorem dX6_signAt_0 : decode cX6_signAt 0 = .ok (.iload_n 1, 1) := by decide +kernel
theorem dX6_signAt_1 : decode cX6_signAt 1 = .ok (.ifCond .ge 5, 3) := by decide +kernel
theorem dX6_signAt_4 : decode cX6_signAt 4 = .ok (.iconst (-1), 1) := by decide +kernel
theorem dX6_signAt_5 : decode cX6_signAt 5 = .ok (.ireturn, 1) := by decide +kernel
theorem dX6_signAt_6 : decode cX6_signAt 6 = .ok (.iconst 0, 1) := by decide +kernel
theorem dX6_signAt_7 : decode cX6_signAt 7 = .ok (.istore_n 2, 1) := by decide +kernel
theorem dX6_signAt_8 : decode cX6_signAt 8 = .ok (.iconst 0, 1) := by decide +kernel
theorem dX6_signAt_9 : decode cX6_signAt 9 = .ok (.istore_n 3, 1) := by decide +kernel
theorem dX6_signAt_10 : decode cX6_signAt 10 = .ok (.iload_n 3, 1) := by decide +kernel
theorem dX6_signAt_11 : decode cX6_signAt 11 = .ok (.aload_n 0, 1) := by decide +kernel
theorem dX6_signAt_12 : decode cX6_signAt 12 = .ok (.getfield 15, 3) := by decide +kernel
theorem dX6_signAt_15 : decode cX6_signAt 15 = .ok (.if_icmp .ge 42, 3) := by decide +kernel
theorem dX6_signAt_18 : decode cX6_signAt 18 = .ok (.iload_n 2, 1) := by decide +kernel
theorem dX6_signAt_19 : decode cX6_signAt 19 = .ok (.aload_n 0, 1) := by decide +kernel
theorem dX6_signAt_20 : decode cX6_signAt 20 = .ok (.iload_n 3, 1) := by decide +kernel
theorem dX6_signAt_21 : decode cX6_signAt 21 = .ok (.invokevirtual 34, 3) := by decide +kernel
theorem dX6_signAt_24 : decode cX6_signAt 24 = .ok (.invokestatic 38, 3) := by decide +kernel
theorem dX6_signAt_27 : decode cX6_signAt 27 = .ok (.iadd, 1) := by decide +kernel
theorem dX6_signAt_28 : decode cX6_signAt 28 = .ok (.istore 4, 2) := by decide +kernel
theorem dX6_signAt_30 : decode cX6_signAt 30 = .ok (.iload_n 1, 1) := by decide +kernel
theorem dX6_signAt_31 : decode cX6_signAt 31 = .ok (.iload 4, 2) := by decide +kernel
theorem dX6_signAt_33 : decode cX6_signAt 33 = .ok (.if_icmp .ge 15, 3) := by decide +kernel
theorem dX6_signAt_36 : decode cX6_signAt 36 = .ok (.aload_n 0, 1) := by decide +kernel
theorem dX6_signAt_37 : decode cX6_signAt 37 = .ok (.iload_n 3, 1) := by decide +kernel
theorem dX6_signAt_38 : decode cX6_signAt 38 = .ok (.invokevirtual 34, 3) := by decide +kernel
theorem dX6_signAt_41 : decode cX6_signAt 41 = .ok (.iload_n 1, 1) := by decide +kernel
theorem dX6_signAt_42 : decode cX6_signAt 42 = .ok (.iload_n 2, 1) := by decide +kernel
theorem dX6_signAt_43 : decode cX6_signAt 43 = .ok (.isub, 1) := by decide +kernel
theorem dX6_signAt_44 : decode cX6_signAt 44 = .ok (.invokestatic 41, 3) := by decide +kernel
theorem dX6_signAt_47 : decode cX6_signAt 47 = .ok (.ireturn, 1) := by decide +kernel
theorem dX6_signAt_48 : decode cX6_signAt 48 = .ok (.iload 4, 2) := by decide +kernel
theorem dX6_signAt_50 : decode cX6_signAt 50 = .ok (.istore_n 2, 1) := by decide +kernel
theorem dX6_signAt_51 : decode cX6_signAt 51 = .ok (.iinc 3 1, 3) := by decide +kernel
theorem dX6_signAt_54 : decode cX6_signAt 54 = .ok (.goto (-44), 3) := by decide +kernel
theorem dX6_signAt_57 : decode cX6_signAt 57 = .ok (.iconst (-1), 1) := by decide +kernel
theorem dX6_signAt_58 : decode cX6_signAt 58 = .ok (.ireturn, 1) := by decide +kernel
theorem dX7_init_0 : decode cX7_init 0 = .ok (.aload_n 0, 1) := by decide +kernel
theorem dX7_init_1 : decode cX7_init 1 = .ok (.invokespecial 1, 3) := by decide +kernel
theorem dX7_init_4 : decode cX7_init 4 = .ok (.aload_n 0, 1) := by decide +kernel
theorem dX7_init_5 : decode cX7_init 5 = .ok (.new 7, 3) := by decide +kernel
theorem dX7_init_8 : decode cX7_init 8 = .ok (.dup, 1) := by decide +kernel
theorem dX7_init_9 : decode cX7_init 9 = .ok (.invokespecial 9, 3) := by decide +kernel
theorem dX7_init_12 : decode cX7_init 12 = .ok (.putfield 10, 3) := by decide +kernel
theorem dX7_init_15 : decode cX7_init 15 = .ok (.aload_n 0, 1) := by decide +kernel
theorem dX7_init_16 : decode cX7_init 16 = .ok (.new 16, 3) := by decide +kernel
theorem dX7_init_19 : decode cX7_init 19 = .ok (.dup, 1) := by decide +kernel
theorem dX7_init_20 : decode cX7_init 20 = .ok (.invokespecial 18, 3) := by decide +kernel
theorem dX7_init_23 : decode cX7_init 23 = .ok (.putfield 19, 3) := by decide +kernel
theorem dX7_init_26 : decode cX7_init 26 = .ok (.aload_n 0, 1) := by decide +kernel
theorem dX7_init_27 : decode cX7_init 27 = .ok (.new 23, 3) := by decide +kernel
theorem dX7_init_30 : decode cX7_init 30 = .ok (.dup, 1) := by decide +kernel
theorem dX7_init_31 : decode cX7_init 31 = .ok (.invokespecial 25, 3) := by decide +kernel
theorem dX7_init_34 : decode cX7_init 34 = .ok (.putfield 26, 3) := by decide +kernel
theorem dX7_init_37 : decode cX7_init 37 = .ok (.aload_n 0, 1) := by decide +kernel
theorem dX7_init_38 : decode cX7_init 38 = .ok (.new 30, 3) := by decide +kernel
theorem dX7_init_41 : decode cX7_init 41 = .ok (.dup, 1) := by decide +kernel
theorem dX7_init_42 : decode cX7_init 42 = .ok (.invokespecial 32, 3) := by decide +kernel
theorem dX7_init_45 : decode cX7_init 45 = .ok (.putfield 33, 3) := by decide +kernel
theorem dX7_init_48 : decode cX7_init 48 = .ok (.aload_n 0, 1) := by decide +kernel
theorem dX7_init_49 : decode cX7_init 49 = .ok (.new 37, 3) := by decide +kernel
theorem dX7_init_52 : decode cX7_init 52 = .ok (.dup, 1) := by decide +kernel
theorem dX7_init_53 : decode cX7_init 53 = .ok (.invokespecial 39, 3) := by decide +kernel
theorem dX7_init_56 : decode cX7_init 56 = .ok (.putfield 40, 3) := by decide +kernel
theorem dX7_init_59 : decode cX7_init 59 = .ok (.aload_n 0, 1) := by decide +kernel
theorem dX7_init_60 : decode cX7_init 60 = .ok (.new 44, 3) := by decide +kernel
theorem dX7_init_63 : decode cX7_init 63 = .ok (.dup, 1) := by decide +kernel
theorem dX7_init_64 : decode cX7_init 64 = .ok (.invokespecial 46, 3) := by decide +kernel
theorem dX7_init_67 : decode cX7_init 67 = .ok (.putfield 47, 3) := by decide +kernel
theorem dX7_init_70 : decode cX7_init 70 = .ok (.aload_n 0, 1) := by decide +kernel
theorem dX7_init_71 : decode cX7_init 71 = .ok (.new 44, 3) := by decide +kernel
theorem dX7_init_74 : decode cX7_init 74 = .ok (.dup, 1) := by decide +kernel
theorem dX7_init_75 : decode cX7_init 75 = .ok (.invokespecial 46, 3) := by decide +kernel
theorem dX7_init_78 : decode cX7_init 78 = .ok (.putfield 51, 3) := by decide +kernel
theorem dX7_init_81 : decode cX7_init 81 = .ok (.aload_n 0, 1) := by decide +kernel
theorem dX7_init_82 : decode cX7_init 82 = .ok (.new 30, 3) := by decide +kernel
theorem dX7_init_85 : decode cX7_init 85 = .ok (.dup, 1) := by decide +kernel
theorem dX7_init_86 : decode cX7_init 86 = .ok (.invokespecial 32, 3) := by decide +kernel
theorem dX7_init_89 : decode cX7_init 89 = .ok (.putfield 54, 3) := by decide +kernel
theorem dX7_init_92 : decode cX7_init 92 = .ok (.aload_n 0, 1) := by decide +kernel
theorem dX7_init_93 : decode cX7_init 93 = .ok (.new 44, 3) := by decide +kernel
theorem dX7_init_96 : decode cX7_init 96 = .ok (.dup, 1) := by decide +kernel
theorem dX7_init_97 : decode cX7_init 97 = .ok (.invokespecial 46, 3) := by decide +kernel
theorem dX7_init_100 : decode cX7_init 100 = .ok (.putfield 57, 3) := by decide +kernel
theorem dX7_init_103 : decode cX7_init 103 = .ok (.aload_n 0, 1) := by decide +kernel
theorem dX7_init_104 : decode cX7_init 104 = .ok (.iconst 0, 1) := by decide +kernel
theorem dX7_init_105 : decode cX7_init 105 = .ok (.putfield 60, 3) := by decide +kernel
theorem dX7_init_108 : decode cX7_init 108 = .ok (.aload_n 0, 1) := by decide +kernel
theorem dX7_init_109 : decode cX7_init 109 = .ok (.iconst 0, 1) := by decide +kernel
theorem dX7_init_110 : decode cX7_init 110 = .ok (.putfield 64, 3) := by decide +kernel
theorem dX7_init_113 : decode cX7_init 113 = .ok (.aload_n 0, 1) := by decide +kernel
theorem dX7_init_114 : decode cX7_init 114 = .ok (.iconst (-1), 1) := by decide +kernel
theorem dX7_init_115 : decode cX7_init 115 = .ok (.putfield 67, 3) := by decide +kernel
theorem dX7_init_118 : decode cX7_init 118 = .ok (.aload_n 0, 1) := by decide +kernel
theorem dX7_init_119 : decode cX7_init 119 = .ok (.iconst 0, 1) := by decide +kernel
theorem dX7_init_120 : decode cX7_init 120 = .ok (.putfield 71, 3) := by decide +kernel
theorem dX7_init_123 : decode cX7_init 123 = .ok (.aload_n 0, 1) := by decide +kernel
theorem dX7_init_124 : decode cX7_init 124 = .ok (.iconst 0, 1) := by decide +kernel
theorem dX7_init_125 : decode cX7_init 125 = .ok (.putfield 74, 3) := by decide +kernel
theorem dX7_init_128 : decode cX7_init 128 = .ok (.aload_n 0, 1) := by decide +kernel
theorem dX7_init_129 : decode cX7_init 129 = .ok (.iconst 0, 1) := by decide +kernel
theorem dX7_init_130 : decode cX7_init 130 = .ok (.putfield 77, 3) := by decide +kernel
theorem dX7_init_133 : decode cX7_init 133 = .ok (.aload_n 0, 1) := by decide +kernel
theorem dX7_init_134 : decode cX7_init 134 = .ok (.iconst 0, 1) := by decide +kernel
theorem dX7_init_135 : decode cX7_init 135 = .ok (.putfield 80, 3) := by decide +kernel
theorem dX7_init_138 : decode cX7_init 138 = .ok (.aload_n 0, 1) := by decide +kernel
theorem dX7_init_139 : decode cX7_init 139 = .ok (.iconst 0, 1) := by decide +kernel
theorem dX7_init_140 : decode cX7_init 140 = .ok (.putfield 83, 3) := by decide +kernel
theorem dX7_init_143 : decode cX7_init 143 = .ok (.return_, 1) := by decide +kernel
theorem dX7_letter_0 : decode cX7_letter 0 = .ok (.iload_n 1, 1) := by decide +kernel
theorem dX7_letter_1 : decode cX7_letter 1 = .ok (.bipush 32, 2) := by decide +kernel
theorem dX7_letter_3 : decode cX7_letter 3 = .ok (.if_icmp .lt 9, 3) := by decide +kernel
theorem dX7_letter_6 : decode cX7_letter 6 = .ok (.iload_n 1, 1) := by decide +kernel
theorem dX7_letter_7 : decode cX7_letter 7 = .ok (.bipush 126, 2) := by decide +kernel
theorem dX7_letter_9 : decode cX7_letter 9 = .ok (.if_icmp .le 7, 3) := by decide +kernel
theorem dX7_letter_12 : decode cX7_letter 12 = .ok (.sipush (-1002), 3) := by decide +kernel
theorem dX7_letter_15 : decode cX7_letter 15 = .ok (.ireturn, 1) := by decide +kernel
theorem dX7_letter_16 : decode cX7_letter 16 = .ok (.aload_n 0, 1) := by decide +kernel
theorem dX7_letter_17 : decode cX7_letter 17 = .ok (.getfield 10, 3) := by decide +kernel
theorem dX7_letter_20 : decode cX7_letter 20 = .ok (.invokevirtual 86, 3) := by decide +kernel
theorem dX7_letter_23 : decode cX7_letter 23 = .ok (.ifCond .eq 7, 3) := by decide +kernel
theorem dX7_letter_26 : decode cX7_letter 26 = .ok (.sipush (-1004), 3) := by decide +kernel
theorem dX7_letter_29 : decode cX7_letter 29 = .ok (.ireturn, 1) := by decide +kernel
theorem dX7_letter_30 : decode cX7_letter 30 = .ok (.aload_n 0, 1) := by decide +kernel
theorem dX7_letter_31 : decode cX7_letter 31 = .ok (.getfield 10, 3) := by decide +kernel
theorem dX7_letter_34 : decode cX7_letter 34 = .ok (.iload_n 1, 1) := by decide +kernel
theorem dX7_letter_35 : decode cX7_letter 35 = .ok (.invokevirtual 90, 3) := by decide +kernel
theorem dX7_letter_38 : decode cX7_letter 38 = .ok (.aload_n 0, 1) := by decide +kernel
theorem dX7_letter_39 : decode cX7_letter 39 = .ok (.getfield 10, 3) := by decide +kernel
theorem dX7_letter_42 : decode cX7_letter 42 = .ok (.invokevirtual 94, 3) := by decide +kernel
theorem dX7_letter_45 : decode cX7_letter 45 = .ok (.ireturn, 1) := by decide +kernel
theorem dX7_blank_0 : decode cX7_blank 0 = .ok (.aload_n 0, 1) := by decide +kernel
theorem dX7_blank_1 : decode cX7_blank 1 = .ok (.getfield 10, 3) := by decide +kernel
theorem dX7_blank_4 : decode cX7_blank 4 = .ok (.invokevirtual 94, 3) := by decide +kernel
theorem dX7_blank_7 : decode cX7_blank 7 = .ok (.istore_n 1, 1) := by decide +kernel
theorem dX7_blank_8 : decode cX7_blank 8 = .ok (.aload_n 0, 1) := by decide +kernel
theorem dX7_blank_9 : decode cX7_blank 9 = .ok (.getfield 10, 3) := by decide +kernel
theorem dX7_blank_12 : decode cX7_blank 12 = .ok (.invokevirtual 98, 3) := by decide +kernel
theorem dX7_blank_15 : decode cX7_blank 15 = .ok (.iload_n 1, 1) := by decide +kernel
theorem dX7_blank_16 : decode cX7_blank 16 = .ok (.ireturn, 1) := by decide +kernel
theorem dX7_fault_0 : decode cX7_fault 0 = .ok (.iload_n 1, 1) := by decide +kernel
theorem dX7_fault_1 : decode cX7_fault 1 = .ok (.ifCond .ne 11, 3) := by decide +kernel
theorem dX7_fault_4 : decode cX7_fault 4 = .ok (.aload_n 0, 1) := by decide +kernel
theorem dX7_fault_5 : decode cX7_fault 5 = .ok (.getfield 10, 3) := by decide +kernel
theorem dX7_fault_8 : decode cX7_fault 8 = .ok (.invokevirtual 101, 3) := by decide +kernel
theorem dX7_fault_11 : decode cX7_fault 11 = .ok (.ireturn, 1) := by decide +kernel
theorem dX7_fault_12 : decode cX7_fault 12 = .ok (.aload_n 0, 1) := by decide +kernel
theorem dX7_fault_13 : decode cX7_fault 13 = .ok (.getfield 19, 3) := by decide +kernel
theorem dX7_fault_16 : decode cX7_fault 16 = .ok (.aload_n 0, 1) := by decide +kernel
theorem dX7_fault_17 : decode cX7_fault 17 = .ok (.getfield 10, 3) := by decide +kernel
theorem dX7_fault_20 : decode cX7_fault 20 = .ok (.invokevirtual 104, 3) := by decide +kernel
theorem dX7_fault_23 : decode cX7_fault 23 = .ok (.aload_n 0, 1) := by decide +kernel
theorem dX7_fault_24 : decode cX7_fault 24 = .ok (.getfield 19, 3) := by decide +kernel
theorem dX7_fault_27 : decode cX7_fault 27 = .ok (.invokevirtual 108, 3) := by decide +kernel
theorem dX7_fault_30 : decode cX7_fault 30 = .ok (.ireturn, 1) := by decide +kernel
theorem dX7_text_0 : decode cX7_text 0 = .ok (.aload_n 0, 1) := by decide +kernel
theorem dX7_text_1 : decode cX7_text 1 = .ok (.getfield 10, 3) := by decide +kernel
theorem dX7_text_4 : decode cX7_text 4 = .ok (.invokevirtual 111, 3) := by decide +kernel
theorem dX7_text_7 : decode cX7_text 7 = .ok (.ifCond .ne 7, 3) := by decide +kernel
theorem dX7_text_10 : decode cX7_text 10 = .ok (.sipush (-1003), 3) := by decide +kernel
theorem dX7_text_13 : decode cX7_text 13 = .ok (.ireturn, 1) := by decide +kernel
theorem dX7_text_14 : decode cX7_text 14 = .ok (.aload_n 0, 1) := by decide +kernel
theorem dX7_text_15 : decode cX7_text 15 = .ok (.getfield 26, 3) := by decide +kernel
theorem dX7_text_18 : decode cX7_text 18 = .ok (.invokevirtual 114, 3) := by decide +kernel
theorem dX7_text_21 : decode cX7_text 21 = .ok (.iconst 0, 1) := by decide +kernel
theorem dX7_text_22 : decode cX7_text 22 = .ok (.istore_n 1, 1) := by decide +kernel
theorem dX7_text_23 : decode cX7_text 23 = .ok (.iload_n 1, 1) := by decide +kernel
theorem dX7_text_24 : decode cX7_text 24 = .ok (.aload_n 0, 1) := by decide +kernel
theorem dX7_text_25 : decode cX7_text 25 = .ok (.getfield 10, 3) := by decide +kernel
theorem dX7_text_28 : decode cX7_text 28 = .ok (.invokevirtual 94, 3) := by decide +kernel
theorem dX7_text_31 : decode cX7_text 31 = .ok (.if_icmp .ge 27, 3) := by decide +kernel
theorem dX7_text_34 : decode cX7_text 34 = .ok (.aload_n 0, 1) := by decide +kernel
theorem dX7_text_35 : decode cX7_text 35 = .ok (.getfield 26, 3) := by decide +kernel
theorem dX7_text_38 : decode cX7_text 38 = .ok (.aload_n 0, 1) := by decide +kernel
theorem dX7_text_39 : decode cX7_text 39 = .ok (.getfield 10, 3) := by decide +kernel
theorem dX7_text_42 : decode cX7_text 42 = .ok (.iload_n 1, 1) := by decide +kernel
theorem dX7_text_43 : decode cX7_text 43 = .ok (.invokevirtual 115, 3) := by decide +kernel
theorem dX7_text_46 : decode cX7_text 46 = .ok (.bipush 97, 2) := by decide +kernel
theorem dX7_text_48 : decode cX7_text 48 = .ok (.isub, 1) := by decide +kernel
theorem dX7_text_49 : decode cX7_text 49 = .ok (.invokevirtual 119, 3) := by decide +kernel
theorem dX7_text_52 : decode cX7_text 52 = .ok (.iinc 1 1, 3) := by decide +kernel
theorem dX7_text_55 : decode cX7_text 55 = .ok (.goto (-32), 3) := by decide +kernel
theorem dX7_text_58 : decode cX7_text 58 = .ok (.aload_n 0, 1) := by decide +kernel
theorem dX7_text_59 : decode cX7_text 59 = .ok (.invokevirtual 120, 3) := by decide +kernel
theorem dX7_text_62 : decode cX7_text 62 = .ok (.aload_n 0, 1) := by decide +kernel
theorem dX7_text_63 : decode cX7_text 63 = .ok (.dup, 1) := by decide +kernel
theorem dX7_text_64 : decode cX7_text 64 = .ok (.getfield 80, 3) := by decide +kernel
theorem dX7_text_67 : decode cX7_text 67 = .ok (.iconst 1, 1) := by decide +kernel
theorem dX7_text_68 : decode cX7_text 68 = .ok (.iadd, 1) := by decide +kernel
theorem dX7_text_69 : decode cX7_text 69 = .ok (.putfield 80, 3) := by decide +kernel
theorem dX7_text_72 : decode cX7_text 72 = .ok (.aload_n 0, 1) := by decide +kernel
theorem dX7_text_73 : decode cX7_text 73 = .ok (.getfield 26, 3) := by decide +kernel
theorem dX7_text_76 : decode cX7_text 76 = .ok (.invokevirtual 123, 3) := by decide +kernel
theorem dX7_text_79 : decode cX7_text 79 = .ok (.ireturn, 1) := by decide +kernel
theorem dX7_decode_0 : decode cX7_decode 0 = .ok (.aload_n 0, 1) := by decide +kernel
theorem dX7_decode_1 : decode cX7_decode 1 = .ok (.getfield 19, 3) := by decide +kernel
theorem dX7_decode_4 : decode cX7_decode 4 = .ok (.aload_n 0, 1) := by decide +kernel
theorem dX7_decode_5 : decode cX7_decode 5 = .ok (.getfield 10, 3) := by decide +kernel
theorem dX7_decode_8 : decode cX7_decode 8 = .ok (.invokevirtual 104, 3) := by decide +kernel
theorem dX7_decode_11 : decode cX7_decode 11 = .ok (.aload_n 0, 1) := by decide +kernel
theorem dX7_decode_12 : decode cX7_decode 12 = .ok (.getfield 19, 3) := by decide +kernel
theorem dX7_decode_15 : decode cX7_decode 15 = .ok (.invokevirtual 124, 3) := by decide +kernel
theorem dX7_decode_18 : decode cX7_decode 18 = .ok (.ifCond .ne 7, 3) := by decide +kernel
theorem dX7_decode_21 : decode cX7_decode 21 = .ok (.sipush (-1003), 3) := by decide +kernel
theorem dX7_decode_24 : decode cX7_decode 24 = .ok (.ireturn, 1) := by decide +kernel
theorem dX7_decode_25 : decode cX7_decode 25 = .ok (.aload_n 0, 1) := by decide +kernel
theorem dX7_decode_26 : decode cX7_decode 26 = .ok (.getfield 26, 3) := by decide +kernel
theorem dX7_decode_29 : decode cX7_decode 29 = .ok (.invokevirtual 114, 3) := by decide +kernel
theorem dX7_decode_32 : decode cX7_decode 32 = .ok (.iconst 0, 1) := by decide +kernel
theorem dX7_decode_33 : decode cX7_decode 33 = .ok (.istore_n 1, 1) := by decide +kernel
theorem dX7_decode_34 : decode cX7_decode 34 = .ok (.iload_n 1, 1) := by decide +kernel
theorem dX7_decode_35 : decode cX7_decode 35 = .ok (.aload_n 0, 1) := by decide +kernel
theorem dX7_decode_36 : decode cX7_decode 36 = .ok (.getfield 19, 3) := by decide +kernel
theorem dX7_decode_39 : decode cX7_decode 39 = .ok (.invokevirtual 127, 3) := by decide +kernel
theorem dX7_decode_42 : decode cX7_decode 42 = .ok (.if_icmp .ge 24, 3) := by decide +kernel
theorem dX7_decode_45 : decode cX7_decode 45 = .ok (.aload_n 0, 1) := by decide +kernel
theorem dX7_decode_46 : decode cX7_decode 46 = .ok (.getfield 26, 3) := by decide +kernel
theorem dX7_decode_49 : decode cX7_decode 49 = .ok (.aload_n 0, 1) := by decide +kernel
theorem dX7_decode_50 : decode cX7_decode 50 = .ok (.getfield 19, 3) := by decide +kernel
theorem dX7_decode_53 : decode cX7_decode 53 = .ok (.iload_n 1, 1) := by decide +kernel
theorem dX7_decode_54 : decode cX7_decode 54 = .ok (.invokevirtual 130, 3) := by decide +kernel
theorem dX7_decode_57 : decode cX7_decode 57 = .ok (.invokevirtual 119, 3) := by decide +kernel
theorem dX7_decode_60 : decode cX7_decode 60 = .ok (.iinc 1 1, 3) := by decide +kernel
theorem dX7_decode_63 : decode cX7_decode 63 = .ok (.goto (-29), 3) := by decide +kernel
theorem dX7_decode_66 : decode cX7_decode 66 = .ok (.aload_n 0, 1) := by decide +kernel
theorem dX7_decode_67 : decode cX7_decode 67 = .ok (.invokevirtual 120, 3) := by decide +kernel
theorem dX7_decode_70 : decode cX7_decode 70 = .ok (.aload_n 0, 1) := by decide +kernel
theorem dX7_decode_71 : decode cX7_decode 71 = .ok (.dup, 1) := by decide +kernel
theorem dX7_decode_72 : decode cX7_decode 72 = .ok (.getfield 83, 3) := by decide +kernel
theorem dX7_decode_75 : decode cX7_decode 75 = .ok (.iconst 1, 1) := by decide +kernel
theorem dX7_decode_76 : decode cX7_decode 76 = .ok (.iadd, 1) := by decide +kernel
theorem dX7_decode_77 : decode cX7_decode 77 = .ok (.putfield 83, 3) := by decide +kernel
theorem dX7_decode_80 : decode cX7_decode 80 = .ok (.aload_n 0, 1) := by decide +kernel
theorem dX7_decode_81 : decode cX7_decode 81 = .ok (.getfield 26, 3) := by decide +kernel
theorem dX7_decode_84 : decode cX7_decode 84 = .ok (.invokevirtual 123, 3) := by decide +kernel
theorem dX7_decode_87 : decode cX7_decode 87 = .ok (.ireturn, 1) := by decide +kernel
theorem dX7_priced_0 : decode cX7_priced 0 = .ok (.aload_n 0, 1) := by decide +kernel
theorem dX7_priced_1 : decode cX7_priced 1 = .ok (.getfield 19, 3) := by decide +kernel
theorem dX7_priced_4 : decode cX7_priced 4 = .ok (.aload_n 0, 1) := by decide +kernel
theorem dX7_priced_5 : decode cX7_priced 5 = .ok (.getfield 10, 3) := by decide +kernel
theorem dX7_priced_8 : decode cX7_priced 8 = .ok (.invokevirtual 104, 3) := by decide +kernel
theorem dX7_priced_11 : decode cX7_priced 11 = .ok (.aload_n 0, 1) := by decide +kernel
theorem dX7_priced_12 : decode cX7_priced 12 = .ok (.getfield 19, 3) := by decide +kernel
theorem dX7_priced_15 : decode cX7_priced 15 = .ok (.invokevirtual 124, 3) := by decide +kernel
theorem dX7_priced_18 : decode cX7_priced 18 = .ok (.ifCond .ne 7, 3) := by decide +kernel
theorem dX7_priced_21 : decode cX7_priced 21 = .ok (.sipush (-1003), 3) := by decide +kernel
theorem dX7_priced_24 : decode cX7_priced 24 = .ok (.ireturn, 1) := by decide +kernel
theorem dX7_priced_25 : decode cX7_priced 25 = .ok (.aload_n 0, 1) := by decide +kernel
theorem dX7_priced_26 : decode cX7_priced 26 = .ok (.getfield 33, 3) := by decide +kernel
theorem dX7_priced_29 : decode cX7_priced 29 = .ok (.aload_n 0, 1) := by decide +kernel
theorem dX7_priced_30 : decode cX7_priced 30 = .ok (.getfield 19, 3) := by decide +kernel
theorem dX7_priced_33 : decode cX7_priced 33 = .ok (.invokevirtual 133, 3) := by decide +kernel
theorem dX7_priced_36 : decode cX7_priced 36 = .ok (.invokevirtual 137, 3) := by decide +kernel
theorem dX7_priced_39 : decode cX7_priced 39 = .ok (.ireturn, 1) := by decide +kernel
theorem dX7_price_0 : decode cX7_price 0 = .ok (.iload_n 1, 1) := by decide +kernel
theorem dX7_price_1 : decode cX7_price 1 = .ok (.invokestatic 141, 3) := by decide +kernel
theorem dX7_price_4 : decode cX7_price 4 = .ok (.ifCond .ne 7, 3) := by decide +kernel
theorem dX7_price_7 : decode cX7_price 7 = .ok (.sipush (-1001), 3) := by decide +kernel
theorem dX7_price_10 : decode cX7_price 10 = .ok (.ireturn, 1) := by decide +kernel
theorem dX7_price_11 : decode cX7_price 11 = .ok (.iload_n 2, 1) := by decide +kernel
theorem dX7_price_12 : decode cX7_price 12 = .ok (.iconst 1, 1) := by decide +kernel
theorem dX7_price_13 : decode cX7_price 13 = .ok (.if_icmp .lt 9, 3) := by decide +kernel
theorem dX7_price_16 : decode cX7_price 16 = .ok (.iload_n 2, 1) := by decide +kernel
theorem dX7_price_17 : decode cX7_price 17 = .ok (.bipush 30, 2) := by decide +kernel
theorem dX7_price_19 : decode cX7_price 19 = .ok (.if_icmp .le 7, 3) := by decide +kernel
theorem dX7_price_22 : decode cX7_price 22 = .ok (.sipush (-1002), 3) := by decide +kernel
theorem dX7_price_25 : decode cX7_price 25 = .ok (.ireturn, 1) := by decide +kernel
theorem dX7_price_26 : decode cX7_price 26 = .ok (.aload_n 0, 1) := by decide +kernel
theorem dX7_price_27 : decode cX7_price 27 = .ok (.getfield 33, 3) := by decide +kernel
theorem dX7_price_30 : decode cX7_price 30 = .ok (.iload_n 1, 1) := by decide +kernel
theorem dX7_price_31 : decode cX7_price 31 = .ok (.invokevirtual 145, 3) := by decide +kernel
theorem dX7_price_34 : decode cX7_price 34 = .ok (.istore_n 3, 1) := by decide +kernel
theorem dX7_price_35 : decode cX7_price 35 = .ok (.aload_n 0, 1) := by decide +kernel
theorem dX7_price_36 : decode cX7_price 36 = .ok (.getfield 33, 3) := by decide +kernel
theorem dX7_price_39 : decode cX7_price 39 = .ok (.iload_n 1, 1) := by decide +kernel
theorem dX7_price_40 : decode cX7_price 40 = .ok (.iload_n 2, 1) := by decide +kernel
theorem dX7_price_41 : decode cX7_price 41 = .ok (.invokevirtual 148, 3) := by decide +kernel
theorem dX7_price_44 : decode cX7_price 44 = .ok (.aload_n 0, 1) := by decide +kernel
theorem dX7_price_45 : decode cX7_price 45 = .ok (.invokevirtual 152, 3) := by decide +kernel
theorem dX7_price_48 : decode cX7_price 48 = .ok (.iload_n 3, 1) := by decide +kernel
theorem dX7_price_49 : decode cX7_price 49 = .ok (.ireturn, 1) := by decide +kernel
theorem dX7_priceOf_0 : decode cX7_priceOf 0 = .ok (.iload_n 1, 1) := by decide +kernel
theorem dX7_priceOf_1 : decode cX7_priceOf 1 = .ok (.invokestatic 141, 3) := by decide +kernel
theorem dX7_priceOf_4 : decode cX7_priceOf 4 = .ok (.ifCond .eq 14, 3) := by decide +kernel
theorem dX7_priceOf_7 : decode cX7_priceOf 7 = .ok (.aload_n 0, 1) := by decide +kernel
theorem dX7_priceOf_8 : decode cX7_priceOf 8 = .ok (.getfield 33, 3) := by decide +kernel
theorem dX7_priceOf_11 : decode cX7_priceOf 11 = .ok (.iload_n 1, 1) := by decide +kernel
theorem dX7_priceOf_12 : decode cX7_priceOf 12 = .ok (.invokevirtual 145, 3) := by decide +kernel
theorem dX7_priceOf_15 : decode cX7_priceOf 15 = .ok (.goto 6, 3) := by decide +kernel
theorem dX7_priceOf_18 : decode cX7_priceOf 18 = .ok (.sipush (-1001), 3) := by decide +kernel
theorem dX7_priceOf_21 : decode cX7_priceOf 21 = .ok (.ireturn, 1) := by decide +kernel
theorem dX7_round_0 : decode cX7_round 0 = .ok (.aload_n 0, 1) := by decide +kernel
theorem dX7_round_1 : decode cX7_round 1 = .ok (.invokevirtual 155, 3) := by decide +kernel
theorem dX7_round_4 : decode cX7_round 4 = .ok (.ifCond .ne 7, 3) := by decide +kernel
theorem dX7_round_7 : decode cX7_round 7 = .ok (.sipush (-1003), 3) := by decide +kernel
theorem dX7_round_10 : decode cX7_round 10 = .ok (.ireturn, 1) := by decide +kernel
theorem dX7_round_11 : decode cX7_round 11 = .ok (.aload_n 0, 1) := by decide +kernel
theorem dX7_round_12 : decode cX7_round 12 = .ok (.invokevirtual 158, 3) := by decide +kernel
